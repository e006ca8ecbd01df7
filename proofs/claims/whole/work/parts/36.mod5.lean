/-! THE REFERENCE: the other methods of its face -/
theorem lt_le {v a b : Int32} (h : a.toInt + 1 = b.toInt) : decide (a < v) = decide (b ≤ v) := by
  refine decide_eq_decide.mpr ?_
  rw [Int32.lt_iff_toInt_lt, Int32.le_iff_toInt_le]
  omega
theorem zn_eq (u : Int32) : inR u 0 3 = isZn u := by unfold inR isZn; rw [lt_le (a := 3) (b := 4) rfl]
theorem sl_eq (x y : Int32) : (inR x 0 19 && inR y 0 19) = isSl x y := by unfold inR isSl; rw [lt_le (v := x) (a := 19) (b := 20) rfl, lt_le (v := y) (a := 19) (b := 20) rfl, ← Bool.and_assoc]
theorem lk_eq (v : Int32) : inR v 0 6 = (!decide (v < 0) && !decide (7 ≤ v)) := by unfold inR; rw [lt_le (a := 6) (b := 7) rfl]
theorem pp_eq (v : Int32) : inR v 0 4 = (!decide (v < 0) && decide (v < 5)) := by
  unfold inR
  rw [lt_le (a := 4) (b := 5) rfl]
  congr 1
  rw [← decide_not]
  exact decide_eq_decide.mpr Int32.not_le
theorem ship_0 {k : Nat} (hk : k ≤ 4) (h : nI k = 0) : shipI (nI k).toNatClampNeg = 0 := by rw [h]; rfl
theorem ship_t {k : Nat} (hk : k ≤ 4) (h : 0 < k) : shipI (nI k).toNatClampNeg = (1 : Int32) <<< (nI (k - 1) &&& 31) := by
  rcases (show k = 1 ∨ k = 2 ∨ k = 3 ∨ k = 4 by omega) with rfl | rfl | rfl | rfl <;> rfl
theorem and1 (x : Int32) : x &&& 1 = if x.toBitVec.getLsbD 0 = true then 1 else 0 := by
  apply i32x
  intro i hi
  rw [Int32.toBitVec_and, BitVec.getLsbD_and]
  rcases Nat.eq_zero_or_pos i with rfl | h
  · cases x.toBitVec.getLsbD 0 <;> rfl
  · have h1 : (1 : Int32).toBitVec.getLsbD i = false := by
      show (1#32).getLsbD i = false
      rw [BitVec.getLsbD_one]
      simp
      omega
    rw [h1, Bool.and_false]
    cases x.toBitVec.getLsbD 0
    · exact (BitVec.getLsbD_zero (w := 32)).symm
    · exact h1.symm
theorem pap_r (t : Int32) : ∀ k : Nat, k < 5 → (t >>> (nI k &&& 31)).toBitVec.getLsbD 0 = t.toBitVec.getLsbD k := by
  intro k hk
  rw [Int32.toBitVec_shiftRight]
  rcases (show k = 0 ∨ k = 1 ∨ k = 2 ∨ k = 3 ∨ k = 4 by omega) with rfl | rfl | rfl | rfl | rfl <;>
    · show (t.toBitVec.sshiftRight _).getLsbD 0 = _
      rw [BitVec.getLsbD_sshiftRight]
      rfl
theorem pap_s : ∀ k : Nat, k < 5 → ∀ i : Nat, i < 32 → ((1 : Int32) <<< (nI k &&& 31)).toBitVec.getLsbD i = decide (i = k) := by decide
theorem pap (t : Int32) {k : Nat} (hk : k < 5) : ((t >>> (nI k &&& 31)) &&& 1 = 1) ↔ ¬ (t &&& ((1 : Int32) <<< (nI k &&& 31)) = 0) := by
  rw [and1, pap_r t k hk]
  cases hb : t.toBitVec.getLsbD k
  · have h0 : t &&& ((1 : Int32) <<< (nI k &&& 31)) = 0 := by
      apply i32x
      intro i hi
      rw [Int32.toBitVec_and, BitVec.getLsbD_and, pap_s k hk i hi]
      by_cases h : i = k
      · rw [h, hb]
        exact (BitVec.getLsbD_zero (w := 32)).symm
      · rw [decide_eq_false h, Bool.and_false]
        exact (BitVec.getLsbD_zero (w := 32)).symm
    rw [h0]
    simp
  · have h0 : ¬ t &&& ((1 : Int32) <<< (nI k &&& 31)) = 0 := by
      intro z
      have h1 : (t &&& ((1 : Int32) <<< (nI k &&& 31))).toBitVec.getLsbD k = true := by
        rw [Int32.toBitVec_and, BitVec.getLsbD_and, pap_s k hk k (by omega), hb, decide_eq_true rfl]
        rfl
      rw [z] at h1
      exact absurd (h1.symm.trans (BitVec.getLsbD_zero (w := 32))) (by decide)
    simp [h0]
theorem zn_neg {v : Int32} (h : v = -1 ∨ isZn v = true) : v < 0 ↔ v = -1 := by
  rcases h with rfl | h
  · exact ⟨fun _ => rfl, fun _ => by decide⟩
  · obtain ⟨k, hk, rfl⟩ := isZn_of h
    exact ⟨fun z => absurd z (nI_pos (by omega)), fun z => absurd z (nI_nm1 (by omega))⟩
set_option maxHeartbeats 4000000 in
set_option maxRecDepth 100000 in
theorem c_M_apart (l : Launch) (g : GT) (sz : Nat) (w : Nat → Option va_E) (mo : Nat) (ad : Nat → Nat) (t0 hd : Int32) (sn gn bn : Nat) (F : Nat → Nat → Int32) (gd : Nat → GD) (br : List BR) (rf : Nat → Int32) (u v : Int32) (hM : isM g w mo ad t0 sn hd gn bn F) (hRG : RG gd gn F) (hRB : RBs F gn bn br) (hRT : RT rf F) : Met l y_M_apart (.code y_M_apart b_M_apart 3 ((some .int)) :: GW) ({ frames := 4, cells := 0, slots := 0, locals := 96 }) (prW g sz [.ref mo, .int u, .int v] w) (qI g sz w (fun r w1 => ((inL u bn && inL v bn && !decide (u = v)) = true ∧ ∃ (i j : Nat) (bi bj : BR), u = nI i ∧ v = nI j ∧ br[i]? = some bi ∧ br[j]? = some bj ∧ r = ruB rf (bxOf gd bi).1 (bxOf gd bj).1 ∧ isM g w1 mo ad 0 sn hd gn bn F) ∨ ((inL u bn && inL v bn && !decide (u = v)) = false ∧ r = 0 ∧ isM g w1 mo ad 1 sn hd gn bn F))) 0 0 (gA w sz) := by
  refine Met.ofW (cc := b_M_apart) (maxL := 3) (ret := (some .int)) (by decide) rfl ?_
  intro p e s m args below meth c s₁ B hml hv
  obtain ⟨rfl, hsz, hG, hw0⟩ := hv
  have hx := B.exec
  have hb := B.bytes
  have hr := B.returns
  have hts : ∀ w ∈ GW, w.before _ s = true := fun w h => atoms_spec (ws := .code y_M_apart b_M_apart 3 ((some .int)) :: GW) B.pre w (List.mem_cons_of_mem _ h)
  have hown : s.vm.findClass "DangerTablesModel" = some m.cls := findClass_of_methodNamed B.named
  have hlocks := B.notSynchronized
  have hf := hG.here
  have hK := hf.1
  subst hsz
  have hw := hw0.self s.heap.size
  have hAB : ∀ q, gA w s.heap.size q → gB g q := fun q h => h.elim (fun z => z.elim (fun _ he => hw0.inA he)) (fun h => Nat.le_trans hG.1 h)
  have hA : ∀ q, s.heap.size ≤ q → gA w s.heap.size q := fun q h => Or.inr h
  have hS : va_S (gA w s.heap.size) s.heap s.heap [] := va_S.rf
  have hl := lv_entry ([.ref mo, .int u, .int v]) (n := 3) (Nat.le_of_ble_eq_true rfl)
  rw [lg_entry_eq]
  generalize (lg_sl ([.ref mo, .int u, .int v]) ++ List.replicate (3 - (lg_sl ([.ref mo, .int u, .int v])).length) Slot.unset).toArray = ls at hl ⊢
  have hl : lv_has ls 3 [(0, .ref mo), (1, .int u), (2, .int v)] := hl
  have hgn := hRG.1
  have hbn := hRB.1
  have hbl := hRB.2.1
  refine lv_aload_n hx hb d_M_apart_0 rfl (lv_at hl 0 rfl) ?_
  refine lv_aload_n hx hb d_M_apart_1 rfl (lv_at hl 0 rfl) ?_
  refine lv_iload_n hx hb d_M_apart_2 rfl (lv_at hl 1 rfl) ?_
  refine wr_i (cV (As := [.int u]) (rest := [.ref mo]) (C := "DangerTablesModel") 1 ⟨hx, hb, hml, hown, hts⟩ (c_M_isBox l g w mo ad t0 hd sn gn bn F u hM) k_783 k_780 k_7 k_782 kp_22 (by decide +kernel) ⟨Nat.le_of_ble_eq_true rfl, Nat.le_of_ble_eq_true rfl⟩ rfl rfl ⟨prR_blind _ _ _, hw.recv hK hM.1 rfl, prR_at hG hAB hS hw⟩ rfl hl.1 rfl (Nat.le_of_ble_eq_true rfl) d_M_apart_3 ⟨Nat.le_of_ble_eq_true rfl, Nat.le_of_ble_eq_true rfl⟩) (fun r_1 e_1 => ?_)
  refine lv_if_eq (tgt := 26) hx hb d_M_apart_6 (by decide) (fun c_2 => ?_) (fun c_2 => ?_)
  · have q_2 := b2_f e_1 c_2
    refine lv_iconst (v := 1) hx hb d_M_apart_26 (by decide) ?_
    refine ww_put (v := .int 1) (ty := .int) (C := R_M) (T := F_M) (N := 22) (ci := 5) (fs' := [.int 1, .ref (ad 0), .int (nI sn), .int hd, .ref (ad 1), .int (nI gn), .ref (ad 2), .ref (ad 3), .ref (ad 4), .ref (ad 5), .ref (ad 6), .ref (ad 7), .ref (ad 8), .int (nI bn), .ref (ad 9), .ref (ad 10), .ref (ad 11), .ref (ad 12), .ref (ad 13), .ref (ad 14), .ref (ad 15), .ref (ad 16)]) hx hb hts i_M ft_M ft_M_ok fn_M hown hK hw hS hM.1 rfl 0 (by decide) (hts _ k_655) (fun _ h9 => h9) rfl (by decide +kernel) rfl rfl (Nat.le_of_ble_eq_true rfl) rfl d_M_apart_27 (fun H locs hw hS => ?_)
    obtain ⟨w_3, ew_3⟩ : ∃ zz9 : Nat → Option va_E, zz9 = va_up w mo (some (.inr (5, [.int 1, .ref (ad 0), .int (nI sn), .int hd, .ref (ad 1), .int (nI gn), .ref (ad 2), .ref (ad 3), .ref (ad 4), .ref (ad 5), .ref (ad 6), .ref (ad 7), .ref (ad 8), .int (nI bn), .ref (ad 9), .ref (ad 10), .ref (ad 11), .ref (ad 12), .ref (ad 13), .ref (ad 14), .ref (ad 15), .ref (ad 16)]))) := ⟨_, rfl⟩
    rw [← ew_3] at hw
    have hM_3 : isM g w_3 mo ad 1 sn hd gn bn F := by rw [ew_3]; exact isM_put hM
    refine lv_aload_n hx hb d_M_apart_30 rfl (lv_at hl 0 rfl) ?_
    refine ww_get (v := .int 1) (C := R_M) (T := F_M) (N := 22) (ci := 5) hx hb hts i_M hown hK hw hM_3.1 rfl 0 (by decide) (hts _ k_655) (fun _ h9 => h9) rfl d_M_apart_31 ?_
    refine lv_if_le (tgt := 41) hx hb d_M_apart_34 (by decide) (fun z => absurd z (by decide)) (fun _ => ?_)
    refine lv_iconst (v := 0) hx hb d_M_apart_37 (by decide) ?_
    refine lv_goto (tgt := 47) hx hb d_M_apart_38 (by decide) ?_
    exact W.iret (v := 0) hx hb hr (fun t ht hW => ⟨⟨0, w_3, rfl, Or.inr ⟨by simp [q_2], rfl, hM_3⟩, ww_t ht hw⟩, hS.F ht⟩) hS.2.2 d_M_apart_47
  · have q_2 := b2_t e_1 c_2
    refine lv_aload_n hx hb d_M_apart_9 rfl (lv_at hl 0 rfl) ?_
    refine lv_iload_n hx hb d_M_apart_10 rfl (lv_at hl 2 rfl) ?_
    refine wr_i (cV (As := [.int v]) (rest := [.ref mo]) (C := "DangerTablesModel") 1 ⟨hx, hb, hml, hown, hts⟩ (c_M_isBox l g w mo ad t0 hd sn gn bn F v hM) k_783 k_780 k_7 k_782 kp_22 (by decide +kernel) ⟨Nat.le_of_ble_eq_true rfl, Nat.le_of_ble_eq_true rfl⟩ rfl rfl ⟨prR_blind _ _ _, hw.recv hK hM.1 rfl, prR_at hG hAB hS hw⟩ rfl hl.1 rfl (Nat.le_of_ble_eq_true rfl) d_M_apart_11 ⟨Nat.le_of_ble_eq_true rfl, Nat.le_of_ble_eq_true rfl⟩) (fun r_5 e_5 => ?_)
    refine lv_if_eq (tgt := 26) hx hb d_M_apart_14 (by decide) (fun c_6 => ?_) (fun c_6 => ?_)
    · have q_6 := b2_f e_5 c_6
      refine lv_iconst (v := 1) hx hb d_M_apart_26 (by decide) ?_
      refine ww_put (v := .int 1) (ty := .int) (C := R_M) (T := F_M) (N := 22) (ci := 5) (fs' := [.int 1, .ref (ad 0), .int (nI sn), .int hd, .ref (ad 1), .int (nI gn), .ref (ad 2), .ref (ad 3), .ref (ad 4), .ref (ad 5), .ref (ad 6), .ref (ad 7), .ref (ad 8), .int (nI bn), .ref (ad 9), .ref (ad 10), .ref (ad 11), .ref (ad 12), .ref (ad 13), .ref (ad 14), .ref (ad 15), .ref (ad 16)]) hx hb hts i_M ft_M ft_M_ok fn_M hown hK hw hS hM.1 rfl 0 (by decide) (hts _ k_655) (fun _ h9 => h9) rfl (by decide +kernel) rfl rfl (Nat.le_of_ble_eq_true rfl) rfl d_M_apart_27 (fun H locs hw hS => ?_)
      obtain ⟨w_7, ew_7⟩ : ∃ zz9 : Nat → Option va_E, zz9 = va_up w mo (some (.inr (5, [.int 1, .ref (ad 0), .int (nI sn), .int hd, .ref (ad 1), .int (nI gn), .ref (ad 2), .ref (ad 3), .ref (ad 4), .ref (ad 5), .ref (ad 6), .ref (ad 7), .ref (ad 8), .int (nI bn), .ref (ad 9), .ref (ad 10), .ref (ad 11), .ref (ad 12), .ref (ad 13), .ref (ad 14), .ref (ad 15), .ref (ad 16)]))) := ⟨_, rfl⟩
      rw [← ew_7] at hw
      have hM_7 : isM g w_7 mo ad 1 sn hd gn bn F := by rw [ew_7]; exact isM_put hM
      refine lv_aload_n hx hb d_M_apart_30 rfl (lv_at hl 0 rfl) ?_
      refine ww_get (v := .int 1) (C := R_M) (T := F_M) (N := 22) (ci := 5) hx hb hts i_M hown hK hw hM_7.1 rfl 0 (by decide) (hts _ k_655) (fun _ h9 => h9) rfl d_M_apart_31 ?_
      refine lv_if_le (tgt := 41) hx hb d_M_apart_34 (by decide) (fun z => absurd z (by decide)) (fun _ => ?_)
      refine lv_iconst (v := 0) hx hb d_M_apart_37 (by decide) ?_
      refine lv_goto (tgt := 47) hx hb d_M_apart_38 (by decide) ?_
      exact W.iret (v := 0) hx hb hr (fun t ht hW => ⟨⟨0, w_7, rfl, Or.inr ⟨by simp [q_2, q_6], rfl, hM_7⟩, ww_t ht hw⟩, hS.F ht⟩) hS.2.2 d_M_apart_47
    · have q_6 := b2_t e_5 c_6
      refine lv_iload_n hx hb d_M_apart_17 rfl (lv_at hl 1 rfl) ?_
      refine lv_iload_n hx hb d_M_apart_18 rfl (lv_at hl 2 rfl) ?_
      refine lv_icmp_eq (tgt := 26) hx hb d_M_apart_19 (by decide) (fun c_9 => ?_) (fun c_9 => ?_)
      · refine lv_iconst (v := 1) hx hb d_M_apart_26 (by decide) ?_
        refine ww_put (v := .int 1) (ty := .int) (C := R_M) (T := F_M) (N := 22) (ci := 5) (fs' := [.int 1, .ref (ad 0), .int (nI sn), .int hd, .ref (ad 1), .int (nI gn), .ref (ad 2), .ref (ad 3), .ref (ad 4), .ref (ad 5), .ref (ad 6), .ref (ad 7), .ref (ad 8), .int (nI bn), .ref (ad 9), .ref (ad 10), .ref (ad 11), .ref (ad 12), .ref (ad 13), .ref (ad 14), .ref (ad 15), .ref (ad 16)]) hx hb hts i_M ft_M ft_M_ok fn_M hown hK hw hS hM.1 rfl 0 (by decide) (hts _ k_655) (fun _ h9 => h9) rfl (by decide +kernel) rfl rfl (Nat.le_of_ble_eq_true rfl) rfl d_M_apart_27 (fun H locs hw hS => ?_)
        obtain ⟨w_10, ew_10⟩ : ∃ zz9 : Nat → Option va_E, zz9 = va_up w mo (some (.inr (5, [.int 1, .ref (ad 0), .int (nI sn), .int hd, .ref (ad 1), .int (nI gn), .ref (ad 2), .ref (ad 3), .ref (ad 4), .ref (ad 5), .ref (ad 6), .ref (ad 7), .ref (ad 8), .int (nI bn), .ref (ad 9), .ref (ad 10), .ref (ad 11), .ref (ad 12), .ref (ad 13), .ref (ad 14), .ref (ad 15), .ref (ad 16)]))) := ⟨_, rfl⟩
        rw [← ew_10] at hw
        have hM_10 : isM g w_10 mo ad 1 sn hd gn bn F := by rw [ew_10]; exact isM_put hM
        refine lv_aload_n hx hb d_M_apart_30 rfl (lv_at hl 0 rfl) ?_
        refine ww_get (v := .int 1) (C := R_M) (T := F_M) (N := 22) (ci := 5) hx hb hts i_M hown hK hw hM_10.1 rfl 0 (by decide) (hts _ k_655) (fun _ h9 => h9) rfl d_M_apart_31 ?_
        refine lv_if_le (tgt := 41) hx hb d_M_apart_34 (by decide) (fun z => absurd z (by decide)) (fun _ => ?_)
        refine lv_iconst (v := 0) hx hb d_M_apart_37 (by decide) ?_
        refine lv_goto (tgt := 47) hx hb d_M_apart_38 (by decide) ?_
        exact W.iret (v := 0) hx hb hr (fun t ht hW => ⟨⟨0, w_10, rfl, Or.inr ⟨by rw [decide_eq_true c_9]; simp, rfl, hM_10⟩, ww_t ht hw⟩, hS.F ht⟩) hS.2.2 d_M_apart_47
      · obtain ⟨i, hi, hui⟩ := inL_of q_2 (by omega)
        subst hui
        obtain ⟨b, hb0⟩ : ∃ b, br[i]? = some b := ⟨_, List.getElem?_eq_getElem (by omega)⟩
        have hB := hRB.2.2 i b hb0
        obtain ⟨hB1, hB9, hB10, hB13, hBz, hBp⟩ := id hB
        obtain ⟨j, hij, huij⟩ := inL_of q_6 (by omega)
        subst huij
        obtain ⟨bj, hb0j⟩ : ∃ b, br[j]? = some b := ⟨_, List.getElem?_eq_getElem (by omega)⟩
        have hBj := hRB.2.2 j bj hb0j
        obtain ⟨hB1j, hB9j, hB10j, hB13j, hBzj, hBpj⟩ := id hBj
        have htwo : (inL (nI i) bn && inL (nI j) bn && !decide (nI i = nI j)) = true := by rw [q_2, q_6, decide_eq_false c_9]; rfl
        refine lv_iconst (v := 0) hx hb d_M_apart_22 (by decide) ?_
        refine lv_goto (tgt := 27) hx hb d_M_apart_23 (by decide) ?_
        refine ww_put (v := .int 0) (ty := .int) (C := R_M) (T := F_M) (N := 22) (ci := 5) (fs' := [.int 0, .ref (ad 0), .int (nI sn), .int hd, .ref (ad 1), .int (nI gn), .ref (ad 2), .ref (ad 3), .ref (ad 4), .ref (ad 5), .ref (ad 6), .ref (ad 7), .ref (ad 8), .int (nI bn), .ref (ad 9), .ref (ad 10), .ref (ad 11), .ref (ad 12), .ref (ad 13), .ref (ad 14), .ref (ad 15), .ref (ad 16)]) hx hb hts i_M ft_M ft_M_ok fn_M hown hK hw hS hM.1 rfl 0 (by decide) (hts _ k_655) (fun _ h9 => h9) rfl (by decide +kernel) rfl rfl (Nat.le_of_ble_eq_true rfl) rfl d_M_apart_27 (fun H locs hw hS => ?_)
        obtain ⟨w_12, ew_12⟩ : ∃ zz9 : Nat → Option va_E, zz9 = va_up w mo (some (.inr (5, [.int 0, .ref (ad 0), .int (nI sn), .int hd, .ref (ad 1), .int (nI gn), .ref (ad 2), .ref (ad 3), .ref (ad 4), .ref (ad 5), .ref (ad 6), .ref (ad 7), .ref (ad 8), .int (nI bn), .ref (ad 9), .ref (ad 10), .ref (ad 11), .ref (ad 12), .ref (ad 13), .ref (ad 14), .ref (ad 15), .ref (ad 16)]))) := ⟨_, rfl⟩
        rw [← ew_12] at hw
        have hM_12 : isM g w_12 mo ad 0 sn hd gn bn F := by rw [ew_12]; exact isM_put hM
        refine lv_aload_n hx hb d_M_apart_30 rfl (lv_at hl 0 rfl) ?_
        refine ww_get (v := .int 0) (C := R_M) (T := F_M) (N := 22) (ci := 5) hx hb hts i_M hown hK hw hM_12.1 rfl 0 (by decide) (hts _ k_655) (fun _ h9 => h9) rfl d_M_apart_31 ?_
        refine lv_if_le (tgt := 41) hx hb d_M_apart_34 (by decide) (fun _ => ?_) (fun z => absurd z (by decide))
        refine lv_aload_n hx hb d_M_apart_41 rfl (lv_at hl 0 rfl) ?_
        refine lv_iload_n hx hb d_M_apart_42 rfl (lv_at hl 1 rfl) ?_
        refine lv_iload_n hx hb d_M_apart_43 rfl (lv_at hl 2 rfl) ?_
        refine wr_i (cV (As := [.int (nI i), .int (nI j)]) (rest := []) (C := "DangerTablesModel") 2 ⟨hx, hb, hml, hown, hts⟩ (c_M_strictest l g w_12 mo ad 0 hd sn gn bn F gd rf i j b bj hM_12 hRG hRT (by omega) (by omega) hB hBj) k_795 k_792 k_7 k_794 kp_24 (by decide +kernel) ⟨Nat.le_of_ble_eq_true rfl, Nat.le_of_ble_eq_true rfl⟩ rfl rfl ⟨prR_blind _ _ _, hw.recv hK hM_12.1 rfl, prR_at hG hAB hS hw⟩ rfl hl.1 rfl (Nat.le_of_ble_eq_true rfl) d_M_apart_44 ⟨Nat.le_of_ble_eq_true rfl, Nat.le_of_ble_eq_true rfl⟩) (fun r_14 e_14 => ?_)
        exact W.iret (v := r_14) hx hb hr (fun t ht hW => ⟨⟨r_14, w_12, rfl, Or.inl ⟨htwo, i, j, b, bj, rfl, rfl, hb0, hb0j, e_14, hM_12⟩, ww_t ht hw⟩, hS.F ht⟩) hS.2.2 d_M_apart_47

set_option maxHeartbeats 4000000 in
set_option maxRecDepth 100000 in
theorem c_M_ship (l : Launch) (g : GT) (sz : Nat) (w : Nat → Option va_E) (mo : Nat) (ad : Nat → Nat) (t0 hd : Int32) (sn gn bn : Nat) (F : Nat → Nat → Int32) (gd : Nat → GD) (br : List BR) (rf : Nat → Int32) (u v x : Int32) (hM : isM g w mo ad t0 sn hd gn bn F) (hRG : RG gd gn F) (hRB : RBs F gn bn br) (hRT : RT rf F) (hrf : okR rf) : Met l y_M_ship (.code y_M_ship b_M_ship 5 ((some .boolean)) :: GW) ({ frames := 4, cells := 0, slots := 0, locals := 96 }) (prW g sz [.ref mo, .int u, .int v, .int x] w) (qI g sz w (fun r w1 => (((inL u bn && inL v bn && !decide (u = v)) && inR x 0 100) = true ∧ ∃ (i j : Nat) (bi bj : BR), u = nI i ∧ v = nI j ∧ br[i]? = some bi ∧ br[j]? = some bj ∧ r = b2 (!decide (x < shipI (ruB rf (bxOf gd bi).1 (bxOf gd bj).1).toNatClampNeg)) ∧ isM g w1 mo ad 0 sn hd gn bn F) ∨ (((inL u bn && inL v bn && !decide (u = v)) && inR x 0 100) = false ∧ r = 0 ∧ isM g w1 mo ad 1 sn hd gn bn F))) 0 0 (gA w sz) := by
  refine Met.ofW (cc := b_M_ship) (maxL := 5) (ret := (some .boolean)) (by decide) rfl ?_
  intro p e s m args below meth c s₁ B hml hv
  obtain ⟨rfl, hsz, hG, hw0⟩ := hv
  have hx := B.exec
  have hb := B.bytes
  have hr := B.returns
  have hts : ∀ w ∈ GW, w.before _ s = true := fun w h => atoms_spec (ws := .code y_M_ship b_M_ship 5 ((some .boolean)) :: GW) B.pre w (List.mem_cons_of_mem _ h)
  have hown : s.vm.findClass "DangerTablesModel" = some m.cls := findClass_of_methodNamed B.named
  have hlocks := B.notSynchronized
  have hf := hG.here
  have hK := hf.1
  subst hsz
  have hw := hw0.self s.heap.size
  have hAB : ∀ q, gA w s.heap.size q → gB g q := fun q h => h.elim (fun z => z.elim (fun _ he => hw0.inA he)) (fun h => Nat.le_trans hG.1 h)
  have hA : ∀ q, s.heap.size ≤ q → gA w s.heap.size q := fun q h => Or.inr h
  have hS : va_S (gA w s.heap.size) s.heap s.heap [] := va_S.rf
  have hl := lv_entry ([.ref mo, .int u, .int v, .int x]) (n := 5) (Nat.le_of_ble_eq_true rfl)
  rw [lg_entry_eq]
  generalize (lg_sl ([.ref mo, .int u, .int v, .int x]) ++ List.replicate (5 - (lg_sl ([.ref mo, .int u, .int v, .int x])).length) Slot.unset).toArray = ls at hl ⊢
  have hl : lv_has ls 5 [(0, .ref mo), (1, .int u), (2, .int v), (3, .int x)] := hl
  have hgn := hRG.1
  have hbn := hRB.1
  have hbl := hRB.2.1
  refine lv_aload_n hx hb d_M_ship_0 rfl (lv_at hl 0 rfl) ?_
  refine lv_aload_n hx hb d_M_ship_1 rfl (lv_at hl 0 rfl) ?_
  refine lv_iload_n hx hb d_M_ship_2 rfl (lv_at hl 1 rfl) ?_
  refine wr_i (cV (As := [.int u]) (rest := [.ref mo]) (C := "DangerTablesModel") 1 ⟨hx, hb, hml, hown, hts⟩ (c_M_isBox l g w mo ad t0 hd sn gn bn F u hM) k_783 k_780 k_7 k_782 kp_22 (by decide +kernel) ⟨Nat.le_of_ble_eq_true rfl, Nat.le_of_ble_eq_true rfl⟩ rfl rfl ⟨prR_blind _ _ _, hw.recv hK hM.1 rfl, prR_at hG hAB hS hw⟩ rfl hl.1 rfl (Nat.le_of_ble_eq_true rfl) d_M_ship_3 ⟨Nat.le_of_ble_eq_true rfl, Nat.le_of_ble_eq_true rfl⟩) (fun r_1 e_1 => ?_)
  refine lv_if_eq (tgt := 36) hx hb d_M_ship_6 (by decide) (fun c_2 => ?_) (fun c_2 => ?_)
  · have q_2 := b2_f e_1 c_2
    refine lv_iconst (v := 1) hx hb d_M_ship_36 (by decide) ?_
    refine ww_put (v := .int 1) (ty := .int) (C := R_M) (T := F_M) (N := 22) (ci := 5) (fs' := [.int 1, .ref (ad 0), .int (nI sn), .int hd, .ref (ad 1), .int (nI gn), .ref (ad 2), .ref (ad 3), .ref (ad 4), .ref (ad 5), .ref (ad 6), .ref (ad 7), .ref (ad 8), .int (nI bn), .ref (ad 9), .ref (ad 10), .ref (ad 11), .ref (ad 12), .ref (ad 13), .ref (ad 14), .ref (ad 15), .ref (ad 16)]) hx hb hts i_M ft_M ft_M_ok fn_M hown hK hw hS hM.1 rfl 0 (by decide) (hts _ k_655) (fun _ h9 => h9) rfl (by decide +kernel) rfl rfl (Nat.le_of_ble_eq_true rfl) rfl d_M_ship_37 (fun H locs hw hS => ?_)
    obtain ⟨w_3, ew_3⟩ : ∃ zz9 : Nat → Option va_E, zz9 = va_up w mo (some (.inr (5, [.int 1, .ref (ad 0), .int (nI sn), .int hd, .ref (ad 1), .int (nI gn), .ref (ad 2), .ref (ad 3), .ref (ad 4), .ref (ad 5), .ref (ad 6), .ref (ad 7), .ref (ad 8), .int (nI bn), .ref (ad 9), .ref (ad 10), .ref (ad 11), .ref (ad 12), .ref (ad 13), .ref (ad 14), .ref (ad 15), .ref (ad 16)]))) := ⟨_, rfl⟩
    rw [← ew_3] at hw
    have hM_3 : isM g w_3 mo ad 1 sn hd gn bn F := by rw [ew_3]; exact isM_put hM
    refine lv_aload_n hx hb d_M_ship_40 rfl (lv_at hl 0 rfl) ?_
    refine ww_get (v := .int 1) (C := R_M) (T := F_M) (N := 22) (ci := 5) hx hb hts i_M hown hK hw hM_3.1 rfl 0 (by decide) (hts _ k_655) (fun _ h9 => h9) rfl d_M_ship_41 ?_
    refine lv_if_le (tgt := 49) hx hb d_M_ship_44 (by decide) (fun z => absurd z (by decide)) (fun _ => ?_)
    refine lv_iconst (v := 0) hx hb d_M_ship_47 (by decide) ?_
    exact W.zret (v := 0) (ty := .boolean) hx hb hr rfl (fun t ht hW => ⟨⟨0, w_3, rfl, Or.inr ⟨by simp [q_2], rfl, hM_3⟩, ww_t ht hw⟩, hS.F ht⟩) hS.2.2 d_M_ship_48
  · have q_2 := b2_t e_1 c_2
    refine lv_aload_n hx hb d_M_ship_9 rfl (lv_at hl 0 rfl) ?_
    refine lv_iload_n hx hb d_M_ship_10 rfl (lv_at hl 2 rfl) ?_
    refine wr_i (cV (As := [.int v]) (rest := [.ref mo]) (C := "DangerTablesModel") 1 ⟨hx, hb, hml, hown, hts⟩ (c_M_isBox l g w mo ad t0 hd sn gn bn F v hM) k_783 k_780 k_7 k_782 kp_22 (by decide +kernel) ⟨Nat.le_of_ble_eq_true rfl, Nat.le_of_ble_eq_true rfl⟩ rfl rfl ⟨prR_blind _ _ _, hw.recv hK hM.1 rfl, prR_at hG hAB hS hw⟩ rfl hl.1 rfl (Nat.le_of_ble_eq_true rfl) d_M_ship_11 ⟨Nat.le_of_ble_eq_true rfl, Nat.le_of_ble_eq_true rfl⟩) (fun r_5 e_5 => ?_)
    refine lv_if_eq (tgt := 36) hx hb d_M_ship_14 (by decide) (fun c_6 => ?_) (fun c_6 => ?_)
    · have q_6 := b2_f e_5 c_6
      refine lv_iconst (v := 1) hx hb d_M_ship_36 (by decide) ?_
      refine ww_put (v := .int 1) (ty := .int) (C := R_M) (T := F_M) (N := 22) (ci := 5) (fs' := [.int 1, .ref (ad 0), .int (nI sn), .int hd, .ref (ad 1), .int (nI gn), .ref (ad 2), .ref (ad 3), .ref (ad 4), .ref (ad 5), .ref (ad 6), .ref (ad 7), .ref (ad 8), .int (nI bn), .ref (ad 9), .ref (ad 10), .ref (ad 11), .ref (ad 12), .ref (ad 13), .ref (ad 14), .ref (ad 15), .ref (ad 16)]) hx hb hts i_M ft_M ft_M_ok fn_M hown hK hw hS hM.1 rfl 0 (by decide) (hts _ k_655) (fun _ h9 => h9) rfl (by decide +kernel) rfl rfl (Nat.le_of_ble_eq_true rfl) rfl d_M_ship_37 (fun H locs hw hS => ?_)
      obtain ⟨w_7, ew_7⟩ : ∃ zz9 : Nat → Option va_E, zz9 = va_up w mo (some (.inr (5, [.int 1, .ref (ad 0), .int (nI sn), .int hd, .ref (ad 1), .int (nI gn), .ref (ad 2), .ref (ad 3), .ref (ad 4), .ref (ad 5), .ref (ad 6), .ref (ad 7), .ref (ad 8), .int (nI bn), .ref (ad 9), .ref (ad 10), .ref (ad 11), .ref (ad 12), .ref (ad 13), .ref (ad 14), .ref (ad 15), .ref (ad 16)]))) := ⟨_, rfl⟩
      rw [← ew_7] at hw
      have hM_7 : isM g w_7 mo ad 1 sn hd gn bn F := by rw [ew_7]; exact isM_put hM
      refine lv_aload_n hx hb d_M_ship_40 rfl (lv_at hl 0 rfl) ?_
      refine ww_get (v := .int 1) (C := R_M) (T := F_M) (N := 22) (ci := 5) hx hb hts i_M hown hK hw hM_7.1 rfl 0 (by decide) (hts _ k_655) (fun _ h9 => h9) rfl d_M_ship_41 ?_
      refine lv_if_le (tgt := 49) hx hb d_M_ship_44 (by decide) (fun z => absurd z (by decide)) (fun _ => ?_)
      refine lv_iconst (v := 0) hx hb d_M_ship_47 (by decide) ?_
      exact W.zret (v := 0) (ty := .boolean) hx hb hr rfl (fun t ht hW => ⟨⟨0, w_7, rfl, Or.inr ⟨by simp [q_2, q_6], rfl, hM_7⟩, ww_t ht hw⟩, hS.F ht⟩) hS.2.2 d_M_ship_48
    · have q_6 := b2_t e_5 c_6
      refine lv_iload_n hx hb d_M_ship_17 rfl (lv_at hl 1 rfl) ?_
      refine lv_iload_n hx hb d_M_ship_18 rfl (lv_at hl 2 rfl) ?_
      refine lv_icmp_eq (tgt := 36) hx hb d_M_ship_19 (by decide) (fun c_9 => ?_) (fun c_9 => ?_)
      · refine lv_iconst (v := 1) hx hb d_M_ship_36 (by decide) ?_
        refine ww_put (v := .int 1) (ty := .int) (C := R_M) (T := F_M) (N := 22) (ci := 5) (fs' := [.int 1, .ref (ad 0), .int (nI sn), .int hd, .ref (ad 1), .int (nI gn), .ref (ad 2), .ref (ad 3), .ref (ad 4), .ref (ad 5), .ref (ad 6), .ref (ad 7), .ref (ad 8), .int (nI bn), .ref (ad 9), .ref (ad 10), .ref (ad 11), .ref (ad 12), .ref (ad 13), .ref (ad 14), .ref (ad 15), .ref (ad 16)]) hx hb hts i_M ft_M ft_M_ok fn_M hown hK hw hS hM.1 rfl 0 (by decide) (hts _ k_655) (fun _ h9 => h9) rfl (by decide +kernel) rfl rfl (Nat.le_of_ble_eq_true rfl) rfl d_M_ship_37 (fun H locs hw hS => ?_)
        obtain ⟨w_10, ew_10⟩ : ∃ zz9 : Nat → Option va_E, zz9 = va_up w mo (some (.inr (5, [.int 1, .ref (ad 0), .int (nI sn), .int hd, .ref (ad 1), .int (nI gn), .ref (ad 2), .ref (ad 3), .ref (ad 4), .ref (ad 5), .ref (ad 6), .ref (ad 7), .ref (ad 8), .int (nI bn), .ref (ad 9), .ref (ad 10), .ref (ad 11), .ref (ad 12), .ref (ad 13), .ref (ad 14), .ref (ad 15), .ref (ad 16)]))) := ⟨_, rfl⟩
        rw [← ew_10] at hw
        have hM_10 : isM g w_10 mo ad 1 sn hd gn bn F := by rw [ew_10]; exact isM_put hM
        refine lv_aload_n hx hb d_M_ship_40 rfl (lv_at hl 0 rfl) ?_
        refine ww_get (v := .int 1) (C := R_M) (T := F_M) (N := 22) (ci := 5) hx hb hts i_M hown hK hw hM_10.1 rfl 0 (by decide) (hts _ k_655) (fun _ h9 => h9) rfl d_M_ship_41 ?_
        refine lv_if_le (tgt := 49) hx hb d_M_ship_44 (by decide) (fun z => absurd z (by decide)) (fun _ => ?_)
        refine lv_iconst (v := 0) hx hb d_M_ship_47 (by decide) ?_
        exact W.zret (v := 0) (ty := .boolean) hx hb hr rfl (fun t ht hW => ⟨⟨0, w_10, rfl, Or.inr ⟨by rw [decide_eq_true c_9]; simp, rfl, hM_10⟩, ww_t ht hw⟩, hS.F ht⟩) hS.2.2 d_M_ship_48
      · obtain ⟨i, hi, hui⟩ := inL_of q_2 (by omega)
        subst hui
        obtain ⟨b, hb0⟩ : ∃ b, br[i]? = some b := ⟨_, List.getElem?_eq_getElem (by omega)⟩
        have hB := hRB.2.2 i b hb0
        obtain ⟨hB1, hB9, hB10, hB13, hBz, hBp⟩ := id hB
        obtain ⟨j, hij, huij⟩ := inL_of q_6 (by omega)
        subst huij
        obtain ⟨bj, hb0j⟩ : ∃ b, br[j]? = some b := ⟨_, List.getElem?_eq_getElem (by omega)⟩
        have hBj := hRB.2.2 j bj hb0j
        obtain ⟨hB1j, hB9j, hB10j, hB13j, hBzj, hBpj⟩ := id hBj
        have htwo : (inL (nI i) bn && inL (nI j) bn && !decide (nI i = nI j)) = true := by rw [q_2, q_6, decide_eq_false c_9]; rfl
        refine lv_iload_n hx hb d_M_ship_22 rfl (lv_at hl 3 rfl) ?_
        refine lv_iconst (v := 0) hx hb d_M_ship_23 (by decide) ?_
        refine lv_bipush (v := 100) hx hb d_M_ship_24 (by decide) ?_
        refine wr_i (cS (As := [.int x, .int 0, .int 100]) (rest := [.ref mo]) 3 ⟨hx, hb, hml, hown, hts⟩ (c_M_in l x 0 100) k_733 k_731 k_7 k_732 (by decide +kernel) ⟨Nat.le_of_ble_eq_true rfl, Nat.le_of_ble_eq_true rfl⟩ rfl rfl ⟨prN_blind _, fun _ _ _ => ⟨rfl, trivial⟩⟩ rfl hl.1 rfl (Nat.le_of_ble_eq_true rfl) d_M_ship_26 ⟨Nat.le_of_ble_eq_true rfl, Nat.le_of_ble_eq_true rfl⟩) (fun r_12 e_12 => ?_)
        refine lv_if_eq (tgt := 36) hx hb d_M_ship_29 (by decide) (fun c_13 => ?_) (fun c_13 => ?_)
        · have q_13 := b2_f e_12 c_13
          refine lv_iconst (v := 1) hx hb d_M_ship_36 (by decide) ?_
          refine ww_put (v := .int 1) (ty := .int) (C := R_M) (T := F_M) (N := 22) (ci := 5) (fs' := [.int 1, .ref (ad 0), .int (nI sn), .int hd, .ref (ad 1), .int (nI gn), .ref (ad 2), .ref (ad 3), .ref (ad 4), .ref (ad 5), .ref (ad 6), .ref (ad 7), .ref (ad 8), .int (nI bn), .ref (ad 9), .ref (ad 10), .ref (ad 11), .ref (ad 12), .ref (ad 13), .ref (ad 14), .ref (ad 15), .ref (ad 16)]) hx hb hts i_M ft_M ft_M_ok fn_M hown hK hw hS hM.1 rfl 0 (by decide) (hts _ k_655) (fun _ h9 => h9) rfl (by decide +kernel) rfl rfl (Nat.le_of_ble_eq_true rfl) rfl d_M_ship_37 (fun H locs hw hS => ?_)
          obtain ⟨w_14, ew_14⟩ : ∃ zz9 : Nat → Option va_E, zz9 = va_up w mo (some (.inr (5, [.int 1, .ref (ad 0), .int (nI sn), .int hd, .ref (ad 1), .int (nI gn), .ref (ad 2), .ref (ad 3), .ref (ad 4), .ref (ad 5), .ref (ad 6), .ref (ad 7), .ref (ad 8), .int (nI bn), .ref (ad 9), .ref (ad 10), .ref (ad 11), .ref (ad 12), .ref (ad 13), .ref (ad 14), .ref (ad 15), .ref (ad 16)]))) := ⟨_, rfl⟩
          rw [← ew_14] at hw
          have hM_14 : isM g w_14 mo ad 1 sn hd gn bn F := by rw [ew_14]; exact isM_put hM
          refine lv_aload_n hx hb d_M_ship_40 rfl (lv_at hl 0 rfl) ?_
          refine ww_get (v := .int 1) (C := R_M) (T := F_M) (N := 22) (ci := 5) hx hb hts i_M hown hK hw hM_14.1 rfl 0 (by decide) (hts _ k_655) (fun _ h9 => h9) rfl d_M_ship_41 ?_
          refine lv_if_le (tgt := 49) hx hb d_M_ship_44 (by decide) (fun z => absurd z (by decide)) (fun _ => ?_)
          refine lv_iconst (v := 0) hx hb d_M_ship_47 (by decide) ?_
          exact W.zret (v := 0) (ty := .boolean) hx hb hr rfl (fun t ht hW => ⟨⟨0, w_14, rfl, Or.inr ⟨by rw [q_13]; simp, rfl, hM_14⟩, ww_t ht hw⟩, hS.F ht⟩) hS.2.2 d_M_ship_48
        · have q_13 := b2_t e_12 c_13
          refine lv_iconst (v := 0) hx hb d_M_ship_32 (by decide) ?_
          refine lv_goto (tgt := 37) hx hb d_M_ship_33 (by decide) ?_
          refine ww_put (v := .int 0) (ty := .int) (C := R_M) (T := F_M) (N := 22) (ci := 5) (fs' := [.int 0, .ref (ad 0), .int (nI sn), .int hd, .ref (ad 1), .int (nI gn), .ref (ad 2), .ref (ad 3), .ref (ad 4), .ref (ad 5), .ref (ad 6), .ref (ad 7), .ref (ad 8), .int (nI bn), .ref (ad 9), .ref (ad 10), .ref (ad 11), .ref (ad 12), .ref (ad 13), .ref (ad 14), .ref (ad 15), .ref (ad 16)]) hx hb hts i_M ft_M ft_M_ok fn_M hown hK hw hS hM.1 rfl 0 (by decide) (hts _ k_655) (fun _ h9 => h9) rfl (by decide +kernel) rfl rfl (Nat.le_of_ble_eq_true rfl) rfl d_M_ship_37 (fun H locs hw hS => ?_)
          obtain ⟨w_16, ew_16⟩ : ∃ zz9 : Nat → Option va_E, zz9 = va_up w mo (some (.inr (5, [.int 0, .ref (ad 0), .int (nI sn), .int hd, .ref (ad 1), .int (nI gn), .ref (ad 2), .ref (ad 3), .ref (ad 4), .ref (ad 5), .ref (ad 6), .ref (ad 7), .ref (ad 8), .int (nI bn), .ref (ad 9), .ref (ad 10), .ref (ad 11), .ref (ad 12), .ref (ad 13), .ref (ad 14), .ref (ad 15), .ref (ad 16)]))) := ⟨_, rfl⟩
          rw [← ew_16] at hw
          have hM_16 : isM g w_16 mo ad 0 sn hd gn bn F := by rw [ew_16]; exact isM_put hM
          refine lv_aload_n hx hb d_M_ship_40 rfl (lv_at hl 0 rfl) ?_
          refine ww_get (v := .int 0) (C := R_M) (T := F_M) (N := 22) (ci := 5) hx hb hts i_M hown hK hw hM_16.1 rfl 0 (by decide) (hts _ k_655) (fun _ h9 => h9) rfl d_M_ship_41 ?_
          refine lv_if_le (tgt := 49) hx hb d_M_ship_44 (by decide) (fun _ => ?_) (fun z => absurd z (by decide))
          refine lv_aload_n hx hb d_M_ship_49 rfl (lv_at hl 0 rfl) ?_
          refine lv_iload_n hx hb d_M_ship_50 rfl (lv_at hl 1 rfl) ?_
          refine lv_iload_n hx hb d_M_ship_51 rfl (lv_at hl 2 rfl) ?_
          refine wr_i (cV (As := [.int (nI i), .int (nI j)]) (rest := []) (C := "DangerTablesModel") 2 ⟨hx, hb, hml, hown, hts⟩ (c_M_strictest l g w_16 mo ad 0 hd sn gn bn F gd rf i j b bj hM_16 hRG hRT (by omega) (by omega) hB hBj) k_795 k_792 k_7 k_794 kp_24 (by decide +kernel) ⟨Nat.le_of_ble_eq_true rfl, Nat.le_of_ble_eq_true rfl⟩ rfl rfl ⟨prR_blind _ _ _, hw.recv hK hM_16.1 rfl, prR_at hG hAB hS hw⟩ rfl hl.1 rfl (Nat.le_of_ble_eq_true rfl) d_M_ship_52 ⟨Nat.le_of_ble_eq_true rfl, Nat.le_of_ble_eq_true rfl⟩) (fun r_18 e_18 => ?_)
          obtain ⟨k0, hk0, ek0⟩ := in4_ruB hrf (okP_of hRG hB) (okP_of hRG hBj)
          obtain rfl : r_18 = nI k0 := e_18.trans ek0
          refine lv_istore (lv' := [(4, .int (nI k0)), (0, .ref mo), (1, .int (nI i)), (2, .int (nI j)), (3, .int x)]) hx hb d_M_ship_55 hl (by decide) rfl (fun ls hl => ?_)
          refine lv_iload_n hx hb d_M_ship_57 rfl (lv_at hl 4 rfl) ?_
          refine lv_iload hx hb d_M_ship_58 (lv_at hl 0 rfl) ?_
          refine lv_if_ne (tgt := 67) hx hb d_M_ship_60 (by decide) (fun c_19 => ?_) (fun c_19 => ?_)
          · have hkp : 0 < k0 := by rcases Nat.eq_zero_or_pos k0 with h | h; exact absurd (by rw [h]; rfl) c_19; exact h
            refine lv_iconst (v := 1) hx hb d_M_ship_67 (by decide) ?_
            refine lv_iload hx hb d_M_ship_68 (lv_at hl 0 rfl) ?_
            refine lv_iconst (v := 1) hx hb d_M_ship_70 (by decide) ?_
            refine lv_isub hx hb d_M_ship_71 ?_
            refine lv_topi (fun v_20 e_20 => ?_)
            obtain rfl : v_20 = nI (k0 - 1) := by rw [e_20]; exact pk_sub (a := k0) (b := 1) (by omega)
            refine lv_ishl hx hb d_M_ship_72 ?_
            refine lv_topi (fun v_21 e_21 => ?_)
            refine lv_icmp_lt (tgt := 80) hx hb d_M_ship_73 (by decide) (fun c_22 => ?_) (fun c_22 => ?_)
            · refine lv_iconst (v := 0) hx hb d_M_ship_80 (by decide) ?_
              exact W.zret (v := 0) (ty := .boolean) hx hb hr rfl (fun t ht hW => ⟨⟨0, w_16, rfl, Or.inl ⟨by rw [htwo, q_13]; rfl, i, j, b, bj, rfl, rfl, hb0, hb0j, by show _ = b2 (!decide (x < shipI (ruB rf (b.1.map (prOf gd)) (bj.1.map (prOf gd))).toNatClampNeg)); rw [ek0, ship_t hk0 hkp, ← e_21, decide_eq_true c_22]; rfl, hM_16⟩, ww_t ht hw⟩, hS.F ht⟩) hS.2.2 d_M_ship_81
            · refine lv_iconst (v := 1) hx hb d_M_ship_76 (by decide) ?_
              refine lv_goto (tgt := 81) hx hb d_M_ship_77 (by decide) ?_
              exact W.zret (v := 1) (ty := .boolean) hx hb hr rfl (fun t ht hW => ⟨⟨1, w_16, rfl, Or.inl ⟨by rw [htwo, q_13]; rfl, i, j, b, bj, rfl, rfl, hb0, hb0j, by show _ = b2 (!decide (x < shipI (ruB rf (b.1.map (prOf gd)) (bj.1.map (prOf gd))).toNatClampNeg)); rw [ek0, ship_t hk0 hkp, ← e_21, decide_eq_false c_22]; rfl, hM_16⟩, ww_t ht hw⟩, hS.F ht⟩) hS.2.2 d_M_ship_81
          · refine lv_iconst (v := 0) hx hb d_M_ship_63 (by decide) ?_
            refine lv_goto (tgt := 73) hx hb d_M_ship_64 (by decide) ?_
            refine lv_icmp_lt (tgt := 80) hx hb d_M_ship_73 (by decide) (fun c_23 => ?_) (fun c_23 => ?_)
            · refine lv_iconst (v := 0) hx hb d_M_ship_80 (by decide) ?_
              exact W.zret (v := 0) (ty := .boolean) hx hb hr rfl (fun t ht hW => ⟨⟨0, w_16, rfl, Or.inl ⟨by rw [htwo, q_13]; rfl, i, j, b, bj, rfl, rfl, hb0, hb0j, by show _ = b2 (!decide (x < shipI (ruB rf (b.1.map (prOf gd)) (bj.1.map (prOf gd))).toNatClampNeg)); rw [ek0, ship_0 hk0 c_19, decide_eq_true c_23]; rfl, hM_16⟩, ww_t ht hw⟩, hS.F ht⟩) hS.2.2 d_M_ship_81
            · refine lv_iconst (v := 1) hx hb d_M_ship_76 (by decide) ?_
              refine lv_goto (tgt := 81) hx hb d_M_ship_77 (by decide) ?_
              exact W.zret (v := 1) (ty := .boolean) hx hb hr rfl (fun t ht hW => ⟨⟨1, w_16, rfl, Or.inl ⟨by rw [htwo, q_13]; rfl, i, j, b, bj, rfl, rfl, hb0, hb0j, by show _ = b2 (!decide (x < shipI (ruB rf (b.1.map (prOf gd)) (bj.1.map (prOf gd))).toNatClampNeg)); rw [ek0, ship_0 hk0 c_19, decide_eq_false c_23]; rfl, hM_16⟩, ww_t ht hw⟩, hS.F ht⟩) hS.2.2 d_M_ship_81

set_option maxHeartbeats 4000000 in
set_option maxRecDepth 100000 in
theorem c_M_most (l : Launch) (g : GT) (sz : Nat) (w : Nat → Option va_E) (mo : Nat) (ad : Nat → Nat) (t0 hd : Int32) (sn gn bn : Nat) (F : Nat → Nat → Int32) (u v x : Int32) (hM : isM g w mo ad t0 sn hd gn bn F)  : Met l y_M_most (.code y_M_most b_M_most 4 ((some .boolean)) :: GW) ({ frames := 1, cells := 0, slots := 0, locals := 22 }) (prW g sz [.ref mo, .int u, .int v, .int x] w) (qI g sz w (fun r w1 => ((isZn u && isCls v && inR x 0 100000) = false ∧ r = 0 ∧ isM g w1 mo ad 0 sn hd gn bn F) ∨ ((isZn u && isCls v && inR x 0 100000) = true ∧ ∃ zi ci : Nat, u = nI zi ∧ zi < 4 ∧ v = nI (ci + 1) ∧ ci < 9 ∧ r = 1 ∧ isM g w1 mo ad 0 sn hd gn bn (upd2 F 16 (upd (F 16) (9 * zi + (ci + 1) - 1) x))))) 0 0 (gA w sz) := by
  refine Met.ofW (cc := b_M_most) (maxL := 4) (ret := (some .boolean)) (by decide) rfl ?_
  intro p e s m args below meth c s₁ B hml hv
  obtain ⟨rfl, hsz, hG, hw0⟩ := hv
  have hx := B.exec
  have hb := B.bytes
  have hr := B.returns
  have hts : ∀ w ∈ GW, w.before _ s = true := fun w h => atoms_spec (ws := .code y_M_most b_M_most 4 ((some .boolean)) :: GW) B.pre w (List.mem_cons_of_mem _ h)
  have hown : s.vm.findClass "DangerTablesModel" = some m.cls := findClass_of_methodNamed B.named
  have hlocks := B.notSynchronized
  have hf := hG.here
  have hK := hf.1
  subst hsz
  have hw := hw0.self s.heap.size
  have hAB : ∀ q, gA w s.heap.size q → gB g q := fun q h => h.elim (fun z => z.elim (fun _ he => hw0.inA he)) (fun h => Nat.le_trans hG.1 h)
  have hA : ∀ q, s.heap.size ≤ q → gA w s.heap.size q := fun q h => Or.inr h
  have hS : va_S (gA w s.heap.size) s.heap s.heap [] := va_S.rf
  have hl := lv_entry ([.ref mo, .int u, .int v, .int x]) (n := 4) (Nat.le_of_ble_eq_true rfl)
  rw [lg_entry_eq]
  generalize (lg_sl ([.ref mo, .int u, .int v, .int x]) ++ List.replicate (4 - (lg_sl ([.ref mo, .int u, .int v, .int x])).length) Slot.unset).toArray = ls at hl ⊢
  have hl : lv_has ls 4 [(0, .ref mo), (1, .int u), (2, .int v), (3, .int x)] := hl
  refine lv_aload_n hx hb d_M_most_0 rfl (lv_at hl 0 rfl) ?_
  refine lv_iconst (v := 0) hx hb d_M_most_1 (by decide) ?_
  refine ww_put (v := .int 0) (ty := .int) (C := R_M) (T := F_M) (N := 22) (ci := 5) (fs' := [.int 0, .ref (ad 0), .int (nI sn), .int hd, .ref (ad 1), .int (nI gn), .ref (ad 2), .ref (ad 3), .ref (ad 4), .ref (ad 5), .ref (ad 6), .ref (ad 7), .ref (ad 8), .int (nI bn), .ref (ad 9), .ref (ad 10), .ref (ad 11), .ref (ad 12), .ref (ad 13), .ref (ad 14), .ref (ad 15), .ref (ad 16)]) hx hb hts i_M ft_M ft_M_ok fn_M hown hK hw hS hM.1 rfl 0 (by decide) (hts _ k_655) (fun _ h9 => h9) rfl (by decide +kernel) rfl rfl (Nat.le_of_ble_eq_true rfl) rfl d_M_most_2 (fun H locs hw hS => ?_)
  obtain ⟨w_1, ew_1⟩ : ∃ zz9 : Nat → Option va_E, zz9 = va_up w mo (some (.inr (5, [.int 0, .ref (ad 0), .int (nI sn), .int hd, .ref (ad 1), .int (nI gn), .ref (ad 2), .ref (ad 3), .ref (ad 4), .ref (ad 5), .ref (ad 6), .ref (ad 7), .ref (ad 8), .int (nI bn), .ref (ad 9), .ref (ad 10), .ref (ad 11), .ref (ad 12), .ref (ad 13), .ref (ad 14), .ref (ad 15), .ref (ad 16)]))) := ⟨_, rfl⟩
  rw [← ew_1] at hw
  have hM_1 : isM g w_1 mo ad 0 sn hd gn bn F := by rw [ew_1]; exact isM_put hM
  refine lv_iload_n hx hb d_M_most_5 rfl (lv_at hl 1 rfl) ?_
  refine lv_iconst (v := 0) hx hb d_M_most_6 (by decide) ?_
  refine lv_iconst (v := 3) hx hb d_M_most_7 (by decide) ?_
  refine wr_i (cS (As := [.int u, .int 0, .int 3]) (rest := []) 3 ⟨hx, hb, hml, hown, hts⟩ (c_M_in l u 0 3) k_733 k_731 k_7 k_732 (by decide +kernel) ⟨Nat.le_of_ble_eq_true rfl, Nat.le_of_ble_eq_true rfl⟩ rfl rfl ⟨prN_blind _, fun _ _ _ => ⟨rfl, trivial⟩⟩ rfl hl.1 rfl (Nat.le_of_ble_eq_true rfl) d_M_most_8 ⟨Nat.le_of_ble_eq_true rfl, Nat.le_of_ble_eq_true rfl⟩) (fun r_2 e_2 => ?_)
  refine lv_if_eq (tgt := 31) hx hb d_M_most_11 (by decide) (fun c_3 => ?_) (fun c_3 => ?_)
  · have q_3 := b2_f e_2 c_3
    refine lv_iconst (v := 0) hx hb d_M_most_31 (by decide) ?_
    exact W.zret (v := 0) (ty := .boolean) hx hb hr rfl (fun t ht hW => ⟨⟨0, w_1, rfl, Or.inl ⟨by simp [← zn_eq, q_3], rfl, hM_1⟩, ww_t ht hw⟩, hS.F ht⟩) hS.2.2 d_M_most_32
  · have q_3 := b2_t e_2 c_3
    refine lv_iload_n hx hb d_M_most_14 rfl (lv_at hl 2 rfl) ?_
    refine wr_i (cS (As := [.int v]) (rest := []) 1 ⟨hx, hb, hml, hown, hts⟩ (c_M_isClass l v) k_744 k_742 k_7 k_743 (by decide +kernel) ⟨Nat.le_of_ble_eq_true rfl, Nat.le_of_ble_eq_true rfl⟩ rfl rfl ⟨prN_blind _, fun _ _ _ => ⟨rfl, trivial⟩⟩ rfl hl.1 rfl (Nat.le_of_ble_eq_true rfl) d_M_most_15 ⟨Nat.le_of_ble_eq_true rfl, Nat.le_of_ble_eq_true rfl⟩) (fun r_4 e_4 => ?_)
    refine lv_if_eq (tgt := 31) hx hb d_M_most_18 (by decide) (fun c_5 => ?_) (fun c_5 => ?_)
    · have q_5 := b2_f e_4 c_5
      refine lv_iconst (v := 0) hx hb d_M_most_31 (by decide) ?_
      exact W.zret (v := 0) (ty := .boolean) hx hb hr rfl (fun t ht hW => ⟨⟨0, w_1, rfl, Or.inl ⟨by simp [← zn_eq, q_3, q_5], rfl, hM_1⟩, ww_t ht hw⟩, hS.F ht⟩) hS.2.2 d_M_most_32
    · have q_5 := b2_t e_4 c_5
      refine lv_iload_n hx hb d_M_most_21 rfl (lv_at hl 3 rfl) ?_
      refine lv_iconst (v := 0) hx hb d_M_most_22 (by decide) ?_
      refine lv_ldc (v := 100000) hx hb hown (hts _ k_654) d_M_most_23 ?_
      refine wr_i (cS (As := [.int x, .int 0, .int 100000]) (rest := []) 3 ⟨hx, hb, hml, hown, hts⟩ (c_M_in l x 0 100000) k_733 k_731 k_7 k_732 (by decide +kernel) ⟨Nat.le_of_ble_eq_true rfl, Nat.le_of_ble_eq_true rfl⟩ rfl rfl ⟨prN_blind _, fun _ _ _ => ⟨rfl, trivial⟩⟩ rfl hl.1 rfl (Nat.le_of_ble_eq_true rfl) d_M_most_25 ⟨Nat.le_of_ble_eq_true rfl, Nat.le_of_ble_eq_true rfl⟩) (fun r_6 e_6 => ?_)
      refine lv_if_ne (tgt := 33) hx hb d_M_most_28 (by decide) (fun c_7 => ?_) (fun c_7 => ?_)
      · have q_7 := b2_t e_6 c_7
        obtain ⟨zi, hzi, hu9⟩ := isZn_of (by rw [← zn_eq]; exact q_3)
        obtain ⟨ci, hci, hv9⟩ := isCls_of q_5
        subst hu9
        subst hv9
        refine lv_aload_n hx hb d_M_most_33 rfl (lv_at hl 0 rfl) ?_
        refine ww_get (v := .ref (ad 16)) (C := R_M) (T := F_M) (N := 22) (ci := 5) hx hb hts i_M hown hK hw hM_1.1 rfl 21 (by decide) (hts _ k_676) (fun _ h9 => h9) rfl d_M_most_34 ?_
        refine lv_bipush (v := 9) hx hb d_M_most_37 (by decide) ?_
        refine lv_iload_n hx hb d_M_most_39 rfl (lv_at hl 1 rfl) ?_
        refine lv_imul hx hb d_M_most_40 ?_
        refine lv_topi (fun v_8 e_8 => ?_)
        obtain rfl : v_8 = nI (9 * zi) := by rw [e_8]; exact pk_mul 9 zi
        refine lv_iload_n hx hb d_M_most_41 rfl (lv_at hl 2 rfl) ?_
        refine lv_iadd hx hb d_M_most_42 ?_
        refine lv_topi (fun v_9 e_9 => ?_)
        obtain rfl : v_9 = nI ((9 * zi) + (ci + 1)) := by rw [e_9]; exact nI_add (9 * zi) (ci + 1)
        refine lv_iconst (v := 1) hx hb d_M_most_43 (by decide) ?_
        refine lv_isub hx hb d_M_most_44 ?_
        refine lv_topi (fun v_10 e_10 => ?_)
        obtain rfl : v_10 = nI (((9 * zi) + (ci + 1)) - 1) := by rw [e_10]; exact pk_sub (a := (9 * zi) + (ci + 1)) (b := 1) (by omega)
        refine lv_iload_n hx hb d_M_most_45 rfl (lv_at hl 3 rfl) ?_
        refine ww_iast hx hb hK hw hS 0 (show w_1 (ad 16) = some (cA g 36 (F 16)) from hM_1.2.1 16 (by decide)) rfl (vp_in_nI (by omega) (by decide)) d_M_most_46 (fun H locs hw hS => ?_)
        rw [nI_clamp (show ((9 * zi) + (ci + 1)) - 1 < 2 ^ 31 by omega)] at hw
        obtain ⟨w_11, ew_11⟩ : ∃ zz9 : Nat → Option va_E, zz9 = va_up w_1 (ad 16) (some (cA g 36 (upd (F 16) (((9 * zi) + (ci + 1)) - 1) x))) := ⟨_, rfl⟩
        rw [← ew_11] at hw
        have hM_11 : isM g w_11 mo ad 0 sn hd gn bn (upd2 F 16 (upd (F 16) (((9 * zi) + (ci + 1)) - 1) x)) := by rw [ew_11]; exact isM_arr 16 (by decide) hM_1
        refine lv_iconst (v := 1) hx hb d_M_most_47 (by decide) ?_
        exact W.zret (v := 1) (ty := .boolean) hx hb hr rfl (fun t ht hW => ⟨⟨1, w_11, rfl, Or.inr ⟨by rw [← zn_eq, q_3, q_5, q_7]; rfl, zi, ci, rfl, hzi, rfl, hci, rfl, hM_11⟩, ww_t ht hw⟩, hS.F ht⟩) hS.2.2 d_M_most_48
      · have q_7 := b2_f e_6 c_7
        refine lv_iconst (v := 0) hx hb d_M_most_31 (by decide) ?_
        exact W.zret (v := 0) (ty := .boolean) hx hb hr rfl (fun t ht hW => ⟨⟨0, w_1, rfl, Or.inl ⟨by simp [← zn_eq, q_3, q_5, q_7], rfl, hM_1⟩, ww_t ht hw⟩, hS.F ht⟩) hS.2.2 d_M_most_32

set_option maxHeartbeats 4000000 in
set_option maxRecDepth 100000 in
theorem c_M_zone (l : Launch) (g : GT) (sz : Nat) (w : Nat → Option va_E) (mo : Nat) (ad : Nat → Nat) (t0 hd : Int32) (sn gn bn : Nat) (F : Nat → Nat → Int32) (gd : Nat → GD) (br : List BR) (u v : Int32) (hM : isM g w mo ad t0 sn hd gn bn F) (hRG : RG gd gn F) (hRB : RBs F gn bn br) : Met l y_M_zone (.code y_M_zone b_M_zone 3 ((some .int)) :: GW) ({ frames := 2, cells := 0, slots := 0, locals := 48 }) (prW g sz [.ref mo, .int u, .int v] w) (qI g sz w (fun r w1 => ((isZn u && isCls v) = true ∧ r = kzB (br.map (bxOf gd)) u v ∧ isM g w1 mo ad 0 sn hd gn bn F) ∨ ((isZn u && isCls v) = false ∧ r = 0 ∧ isM g w1 mo ad 1 sn hd gn bn F))) 0 0 (gA w sz) := by
  refine Met.ofW (cc := b_M_zone) (maxL := 3) (ret := (some .int)) (by decide) rfl ?_
  intro p e s m args below meth c s₁ B hml hv
  obtain ⟨rfl, hsz, hG, hw0⟩ := hv
  have hx := B.exec
  have hb := B.bytes
  have hr := B.returns
  have hts : ∀ w ∈ GW, w.before _ s = true := fun w h => atoms_spec (ws := .code y_M_zone b_M_zone 3 ((some .int)) :: GW) B.pre w (List.mem_cons_of_mem _ h)
  have hown : s.vm.findClass "DangerTablesModel" = some m.cls := findClass_of_methodNamed B.named
  have hlocks := B.notSynchronized
  have hf := hG.here
  have hK := hf.1
  subst hsz
  have hw := hw0.self s.heap.size
  have hAB : ∀ q, gA w s.heap.size q → gB g q := fun q h => h.elim (fun z => z.elim (fun _ he => hw0.inA he)) (fun h => Nat.le_trans hG.1 h)
  have hA : ∀ q, s.heap.size ≤ q → gA w s.heap.size q := fun q h => Or.inr h
  have hS : va_S (gA w s.heap.size) s.heap s.heap [] := va_S.rf
  have hl := lv_entry ([.ref mo, .int u, .int v]) (n := 3) (Nat.le_of_ble_eq_true rfl)
  rw [lg_entry_eq]
  generalize (lg_sl ([.ref mo, .int u, .int v]) ++ List.replicate (3 - (lg_sl ([.ref mo, .int u, .int v])).length) Slot.unset).toArray = ls at hl ⊢
  have hl : lv_has ls 3 [(0, .ref mo), (1, .int u), (2, .int v)] := hl
  have hgn := hRG.1
  have hbn := hRB.1
  have hbl := hRB.2.1
  refine lv_aload_n hx hb d_M_zone_0 rfl (lv_at hl 0 rfl) ?_
  refine lv_iload_n hx hb d_M_zone_1 rfl (lv_at hl 1 rfl) ?_
  refine lv_iconst (v := 0) hx hb d_M_zone_2 (by decide) ?_
  refine lv_iconst (v := 3) hx hb d_M_zone_3 (by decide) ?_
  refine wr_i (cS (As := [.int u, .int 0, .int 3]) (rest := [.ref mo]) 3 ⟨hx, hb, hml, hown, hts⟩ (c_M_in l u 0 3) k_733 k_731 k_7 k_732 (by decide +kernel) ⟨Nat.le_of_ble_eq_true rfl, Nat.le_of_ble_eq_true rfl⟩ rfl rfl ⟨prN_blind _, fun _ _ _ => ⟨rfl, trivial⟩⟩ rfl hl.1 rfl (Nat.le_of_ble_eq_true rfl) d_M_zone_4 ⟨Nat.le_of_ble_eq_true rfl, Nat.le_of_ble_eq_true rfl⟩) (fun r_1 e_1 => ?_)
  refine lv_if_eq (tgt := 21) hx hb d_M_zone_7 (by decide) (fun c_2 => ?_) (fun c_2 => ?_)
  · have q_2 := b2_f e_1 c_2
    refine lv_iconst (v := 1) hx hb d_M_zone_21 (by decide) ?_
    refine ww_put (v := .int 1) (ty := .int) (C := R_M) (T := F_M) (N := 22) (ci := 5) (fs' := [.int 1, .ref (ad 0), .int (nI sn), .int hd, .ref (ad 1), .int (nI gn), .ref (ad 2), .ref (ad 3), .ref (ad 4), .ref (ad 5), .ref (ad 6), .ref (ad 7), .ref (ad 8), .int (nI bn), .ref (ad 9), .ref (ad 10), .ref (ad 11), .ref (ad 12), .ref (ad 13), .ref (ad 14), .ref (ad 15), .ref (ad 16)]) hx hb hts i_M ft_M ft_M_ok fn_M hown hK hw hS hM.1 rfl 0 (by decide) (hts _ k_655) (fun _ h9 => h9) rfl (by decide +kernel) rfl rfl (Nat.le_of_ble_eq_true rfl) rfl d_M_zone_22 (fun H locs hw hS => ?_)
    obtain ⟨w_3, ew_3⟩ : ∃ zz9 : Nat → Option va_E, zz9 = va_up w mo (some (.inr (5, [.int 1, .ref (ad 0), .int (nI sn), .int hd, .ref (ad 1), .int (nI gn), .ref (ad 2), .ref (ad 3), .ref (ad 4), .ref (ad 5), .ref (ad 6), .ref (ad 7), .ref (ad 8), .int (nI bn), .ref (ad 9), .ref (ad 10), .ref (ad 11), .ref (ad 12), .ref (ad 13), .ref (ad 14), .ref (ad 15), .ref (ad 16)]))) := ⟨_, rfl⟩
    rw [← ew_3] at hw
    have hM_3 : isM g w_3 mo ad 1 sn hd gn bn F := by rw [ew_3]; exact isM_put hM
    refine lv_aload_n hx hb d_M_zone_25 rfl (lv_at hl 0 rfl) ?_
    refine ww_get (v := .int 1) (C := R_M) (T := F_M) (N := 22) (ci := 5) hx hb hts i_M hown hK hw hM_3.1 rfl 0 (by decide) (hts _ k_655) (fun _ h9 => h9) rfl d_M_zone_26 ?_
    refine lv_if_le (tgt := 36) hx hb d_M_zone_29 (by decide) (fun z => absurd z (by decide)) (fun _ => ?_)
    refine lv_iconst (v := 0) hx hb d_M_zone_32 (by decide) ?_
    refine lv_goto (tgt := 42) hx hb d_M_zone_33 (by decide) ?_
    exact W.iret (v := 0) hx hb hr (fun t ht hW => ⟨⟨0, w_3, rfl, Or.inr ⟨by simp [← zn_eq, q_2], rfl, hM_3⟩, ww_t ht hw⟩, hS.F ht⟩) hS.2.2 d_M_zone_42
  · have q_2 := b2_t e_1 c_2
    refine lv_iload_n hx hb d_M_zone_10 rfl (lv_at hl 2 rfl) ?_
    refine wr_i (cS (As := [.int v]) (rest := [.ref mo]) 1 ⟨hx, hb, hml, hown, hts⟩ (c_M_isClass l v) k_744 k_742 k_7 k_743 (by decide +kernel) ⟨Nat.le_of_ble_eq_true rfl, Nat.le_of_ble_eq_true rfl⟩ rfl rfl ⟨prN_blind _, fun _ _ _ => ⟨rfl, trivial⟩⟩ rfl hl.1 rfl (Nat.le_of_ble_eq_true rfl) d_M_zone_11 ⟨Nat.le_of_ble_eq_true rfl, Nat.le_of_ble_eq_true rfl⟩) (fun r_5 e_5 => ?_)
    refine lv_if_eq (tgt := 21) hx hb d_M_zone_14 (by decide) (fun c_6 => ?_) (fun c_6 => ?_)
    · have q_6 := b2_f e_5 c_6
      refine lv_iconst (v := 1) hx hb d_M_zone_21 (by decide) ?_
      refine ww_put (v := .int 1) (ty := .int) (C := R_M) (T := F_M) (N := 22) (ci := 5) (fs' := [.int 1, .ref (ad 0), .int (nI sn), .int hd, .ref (ad 1), .int (nI gn), .ref (ad 2), .ref (ad 3), .ref (ad 4), .ref (ad 5), .ref (ad 6), .ref (ad 7), .ref (ad 8), .int (nI bn), .ref (ad 9), .ref (ad 10), .ref (ad 11), .ref (ad 12), .ref (ad 13), .ref (ad 14), .ref (ad 15), .ref (ad 16)]) hx hb hts i_M ft_M ft_M_ok fn_M hown hK hw hS hM.1 rfl 0 (by decide) (hts _ k_655) (fun _ h9 => h9) rfl (by decide +kernel) rfl rfl (Nat.le_of_ble_eq_true rfl) rfl d_M_zone_22 (fun H locs hw hS => ?_)
      obtain ⟨w_7, ew_7⟩ : ∃ zz9 : Nat → Option va_E, zz9 = va_up w mo (some (.inr (5, [.int 1, .ref (ad 0), .int (nI sn), .int hd, .ref (ad 1), .int (nI gn), .ref (ad 2), .ref (ad 3), .ref (ad 4), .ref (ad 5), .ref (ad 6), .ref (ad 7), .ref (ad 8), .int (nI bn), .ref (ad 9), .ref (ad 10), .ref (ad 11), .ref (ad 12), .ref (ad 13), .ref (ad 14), .ref (ad 15), .ref (ad 16)]))) := ⟨_, rfl⟩
      rw [← ew_7] at hw
      have hM_7 : isM g w_7 mo ad 1 sn hd gn bn F := by rw [ew_7]; exact isM_put hM
      refine lv_aload_n hx hb d_M_zone_25 rfl (lv_at hl 0 rfl) ?_
      refine ww_get (v := .int 1) (C := R_M) (T := F_M) (N := 22) (ci := 5) hx hb hts i_M hown hK hw hM_7.1 rfl 0 (by decide) (hts _ k_655) (fun _ h9 => h9) rfl d_M_zone_26 ?_
      refine lv_if_le (tgt := 36) hx hb d_M_zone_29 (by decide) (fun z => absurd z (by decide)) (fun _ => ?_)
      refine lv_iconst (v := 0) hx hb d_M_zone_32 (by decide) ?_
      refine lv_goto (tgt := 42) hx hb d_M_zone_33 (by decide) ?_
      exact W.iret (v := 0) hx hb hr (fun t ht hW => ⟨⟨0, w_7, rfl, Or.inr ⟨by simp [← zn_eq, q_2, q_6], rfl, hM_7⟩, ww_t ht hw⟩, hS.F ht⟩) hS.2.2 d_M_zone_42
    · have q_6 := b2_t e_5 c_6
      refine lv_iconst (v := 0) hx hb d_M_zone_17 (by decide) ?_
      refine lv_goto (tgt := 22) hx hb d_M_zone_18 (by decide) ?_
      refine ww_put (v := .int 0) (ty := .int) (C := R_M) (T := F_M) (N := 22) (ci := 5) (fs' := [.int 0, .ref (ad 0), .int (nI sn), .int hd, .ref (ad 1), .int (nI gn), .ref (ad 2), .ref (ad 3), .ref (ad 4), .ref (ad 5), .ref (ad 6), .ref (ad 7), .ref (ad 8), .int (nI bn), .ref (ad 9), .ref (ad 10), .ref (ad 11), .ref (ad 12), .ref (ad 13), .ref (ad 14), .ref (ad 15), .ref (ad 16)]) hx hb hts i_M ft_M ft_M_ok fn_M hown hK hw hS hM.1 rfl 0 (by decide) (hts _ k_655) (fun _ h9 => h9) rfl (by decide +kernel) rfl rfl (Nat.le_of_ble_eq_true rfl) rfl d_M_zone_22 (fun H locs hw hS => ?_)
      obtain ⟨w_9, ew_9⟩ : ∃ zz9 : Nat → Option va_E, zz9 = va_up w mo (some (.inr (5, [.int 0, .ref (ad 0), .int (nI sn), .int hd, .ref (ad 1), .int (nI gn), .ref (ad 2), .ref (ad 3), .ref (ad 4), .ref (ad 5), .ref (ad 6), .ref (ad 7), .ref (ad 8), .int (nI bn), .ref (ad 9), .ref (ad 10), .ref (ad 11), .ref (ad 12), .ref (ad 13), .ref (ad 14), .ref (ad 15), .ref (ad 16)]))) := ⟨_, rfl⟩
      rw [← ew_9] at hw
      have hM_9 : isM g w_9 mo ad 0 sn hd gn bn F := by rw [ew_9]; exact isM_put hM
      refine lv_aload_n hx hb d_M_zone_25 rfl (lv_at hl 0 rfl) ?_
      refine ww_get (v := .int 0) (C := R_M) (T := F_M) (N := 22) (ci := 5) hx hb hts i_M hown hK hw hM_9.1 rfl 0 (by decide) (hts _ k_655) (fun _ h9 => h9) rfl d_M_zone_26 ?_
      refine lv_if_le (tgt := 36) hx hb d_M_zone_29 (by decide) (fun _ => ?_) (fun z => absurd z (by decide))
      refine lv_aload_n hx hb d_M_zone_36 rfl (lv_at hl 0 rfl) ?_
      refine lv_iload_n hx hb d_M_zone_37 rfl (lv_at hl 1 rfl) ?_
      refine lv_iload_n hx hb d_M_zone_38 rfl (lv_at hl 2 rfl) ?_
      refine wr_i (cV (As := [.int u, .int v]) (rest := []) (C := "DangerTablesModel") 2 ⟨hx, hb, hml, hown, hts⟩ (c_M_inZone l g w_9 mo ad 0 hd sn gn bn F gd br u v hM_9 hRG hRB) k_826 k_823 k_7 k_825 kp_28 (by decide +kernel) ⟨Nat.le_of_ble_eq_true rfl, Nat.le_of_ble_eq_true rfl⟩ rfl rfl ⟨prR_blind _ _ _, hw.recv hK hM_9.1 rfl, prR_at hG hAB hS hw⟩ rfl hl.1 rfl (Nat.le_of_ble_eq_true rfl) d_M_zone_39 ⟨Nat.le_of_ble_eq_true rfl, Nat.le_of_ble_eq_true rfl⟩) (fun r_11 e_11 => ?_)
      exact W.iret (v := r_11) hx hb hr (fun t ht hW => ⟨⟨r_11, w_9, rfl, Or.inl ⟨by rw [← zn_eq, q_2, q_6]; rfl, e_11, hM_9⟩, ww_t ht hw⟩, hS.F ht⟩) hS.2.2 d_M_zone_42

set_option maxHeartbeats 4000000 in
set_option maxRecDepth 100000 in
theorem c_M_put (l : Launch) (g : GT) (sz : Nat) (w : Nat → Option va_E) (mo : Nat) (ad : Nat → Nat) (t0 hd : Int32) (sn gn bn : Nat) (F : Nat → Nat → Int32) (gd : Nat → GD) (br : List BR) (rf : Nat → Int32) (mz : Nat → Nat → Int32) (u v x y : Int32) (hM : isM g w mo ad t0 sn hd gn bn F) (hRG : RG gd gn F) (hRB : RBs F gn bn br) (hRT : RT rf F) (hRZ : RZ mz F) (hrf : okR rf) : Met l y_M_put (.code y_M_put b_M_put 6 ((some .int)) :: GW) ({ frames := 6, cells := 0, slots := 0, locals := 147 }) (prW g sz [.ref mo, .int u, .int v, .int x, .int y] w) (qI g sz w (fun r w1 => ((isZn u && inL v bn && isSl x y) = true ∧ ∃ (zi i : Nat) (b : BR), u = nI zi ∧ zi < 4 ∧ v = nI i ∧ i < bn ∧ br[i]? = some b ∧ b.2.1 = -1 ∧ r = fbB rf (mz zi) (br.map (bxOf gd)) (bxOf gd b) u x y ∧ ((r = 0 ∧ isM g w1 mo ad 0 sn hd gn bn (upd2 (upd2 (upd2 F 10 (upd (F 10) i u)) 11 (upd (F 11) i x)) 12 (upd (F 12) i y))) ∨ (¬ r = 0 ∧ isM g w1 mo ad 0 sn hd gn bn F))) ∨ ((isZn u && inL v bn && isSl x y) = false ∧ r = 0 ∧ isM g w1 mo ad 1 sn hd gn bn F) ∨ ((isZn u && inL v bn && isSl x y) = true ∧ ∃ (i : Nat) (b : BR), v = nI i ∧ i < bn ∧ br[i]? = some b ∧ ¬ b.2.1 = -1 ∧ r = 0 ∧ isM g w1 mo ad 2 sn hd gn bn F))) 0 0 (gA w sz) := by
  refine Met.ofW (cc := b_M_put) (maxL := 6) (ret := (some .int)) (by decide) rfl ?_
  intro p e s m args below meth c s₁ B hml hv
  obtain ⟨rfl, hsz, hG, hw0⟩ := hv
  have hx := B.exec
  have hb := B.bytes
  have hr := B.returns
  have hts : ∀ w ∈ GW, w.before _ s = true := fun w h => atoms_spec (ws := .code y_M_put b_M_put 6 ((some .int)) :: GW) B.pre w (List.mem_cons_of_mem _ h)
  have hown : s.vm.findClass "DangerTablesModel" = some m.cls := findClass_of_methodNamed B.named
  have hlocks := B.notSynchronized
  have hf := hG.here
  have hK := hf.1
  subst hsz
  have hw := hw0.self s.heap.size
  have hAB : ∀ q, gA w s.heap.size q → gB g q := fun q h => h.elim (fun z => z.elim (fun _ he => hw0.inA he)) (fun h => Nat.le_trans hG.1 h)
  have hA : ∀ q, s.heap.size ≤ q → gA w s.heap.size q := fun q h => Or.inr h
  have hS : va_S (gA w s.heap.size) s.heap s.heap [] := va_S.rf
  have hl := lv_entry ([.ref mo, .int u, .int v, .int x, .int y]) (n := 6) (Nat.le_of_ble_eq_true rfl)
  rw [lg_entry_eq]
  generalize (lg_sl ([.ref mo, .int u, .int v, .int x, .int y]) ++ List.replicate (6 - (lg_sl ([.ref mo, .int u, .int v, .int x, .int y])).length) Slot.unset).toArray = ls at hl ⊢
  have hl : lv_has ls 6 [(0, .ref mo), (1, .int u), (2, .int v), (3, .int x), (4, .int y)] := hl
  have hgn := hRG.1
  have hbn := hRB.1
  have hbl := hRB.2.1
  refine lv_iload_n hx hb d_M_put_0 rfl (lv_at hl 1 rfl) ?_
  refine lv_iconst (v := 0) hx hb d_M_put_1 (by decide) ?_
  refine lv_iconst (v := 3) hx hb d_M_put_2 (by decide) ?_
  refine wr_i (cS (As := [.int u, .int 0, .int 3]) (rest := []) 3 ⟨hx, hb, hml, hown, hts⟩ (c_M_in l u 0 3) k_733 k_731 k_7 k_732 (by decide +kernel) ⟨Nat.le_of_ble_eq_true rfl, Nat.le_of_ble_eq_true rfl⟩ rfl rfl ⟨prN_blind _, fun _ _ _ => ⟨rfl, trivial⟩⟩ rfl hl.1 rfl (Nat.le_of_ble_eq_true rfl) d_M_put_3 ⟨Nat.le_of_ble_eq_true rfl, Nat.le_of_ble_eq_true rfl⟩) (fun r_1 e_1 => ?_)
  refine lv_if_eq (tgt := 38) hx hb d_M_put_6 (by decide) (fun c_2 => ?_) (fun c_2 => ?_)
  · have q_2 := b2_f e_1 c_2
    refine lv_aload_n hx hb d_M_put_38 rfl (lv_at hl 0 rfl) ?_
    refine lv_iconst (v := 1) hx hb d_M_put_39 (by decide) ?_
    refine ww_i (cV (As := [.int 1]) (rest := []) (C := "DangerTablesModel") 1 ⟨hx, hb, hml, hown, hts⟩ (c_M_refuse l g s.heap.size w mo ad t0 hd sn gn bn F 1 hM) k_759 k_756 k_7 k_758 kp_19 (by decide +kernel) ⟨Nat.le_of_ble_eq_true rfl, Nat.le_of_ble_eq_true rfl⟩ rfl rfl ⟨prW_blind _ _ _ _, hw.recv hK hM.1 rfl, prW_at hG hAB hS hw⟩ rfl hl.1 rfl (Nat.le_of_ble_eq_true rfl) d_M_put_40 ⟨Nat.le_of_ble_eq_true rfl, Nat.le_of_ble_eq_true rfl⟩) hw hS hA (fun r_3 w_3 H locs e_3 hw hS hz_3 hk_3 hg_3 => ?_)
    exact W.iret (v := r_3) hx hb hr (fun t ht hW => ⟨⟨r_3, w_3, rfl, Or.inr (Or.inl ⟨by simp [← zn_eq, ← sl_eq, q_2], e_3.1, e_3.2⟩), ww_t ht hw⟩, hS.F ht⟩) hS.2.2 d_M_put_43
  · have q_2 := b2_t e_1 c_2
    refine lv_aload_n hx hb d_M_put_9 rfl (lv_at hl 0 rfl) ?_
    refine lv_iload_n hx hb d_M_put_10 rfl (lv_at hl 2 rfl) ?_
    refine wr_i (cV (As := [.int v]) (rest := []) (C := "DangerTablesModel") 1 ⟨hx, hb, hml, hown, hts⟩ (c_M_isBox l g w mo ad t0 hd sn gn bn F v hM) k_783 k_780 k_7 k_782 kp_22 (by decide +kernel) ⟨Nat.le_of_ble_eq_true rfl, Nat.le_of_ble_eq_true rfl⟩ rfl rfl ⟨prR_blind _ _ _, hw.recv hK hM.1 rfl, prR_at hG hAB hS hw⟩ rfl hl.1 rfl (Nat.le_of_ble_eq_true rfl) d_M_put_11 ⟨Nat.le_of_ble_eq_true rfl, Nat.le_of_ble_eq_true rfl⟩) (fun r_4 e_4 => ?_)
    refine lv_if_eq (tgt := 38) hx hb d_M_put_14 (by decide) (fun c_5 => ?_) (fun c_5 => ?_)
    · have q_5 := b2_f e_4 c_5
      refine lv_aload_n hx hb d_M_put_38 rfl (lv_at hl 0 rfl) ?_
      refine lv_iconst (v := 1) hx hb d_M_put_39 (by decide) ?_
      refine ww_i (cV (As := [.int 1]) (rest := []) (C := "DangerTablesModel") 1 ⟨hx, hb, hml, hown, hts⟩ (c_M_refuse l g s.heap.size w mo ad t0 hd sn gn bn F 1 hM) k_759 k_756 k_7 k_758 kp_19 (by decide +kernel) ⟨Nat.le_of_ble_eq_true rfl, Nat.le_of_ble_eq_true rfl⟩ rfl rfl ⟨prW_blind _ _ _ _, hw.recv hK hM.1 rfl, prW_at hG hAB hS hw⟩ rfl hl.1 rfl (Nat.le_of_ble_eq_true rfl) d_M_put_40 ⟨Nat.le_of_ble_eq_true rfl, Nat.le_of_ble_eq_true rfl⟩) hw hS hA (fun r_6 w_6 H locs e_6 hw hS hz_6 hk_6 hg_6 => ?_)
      exact W.iret (v := r_6) hx hb hr (fun t ht hW => ⟨⟨r_6, w_6, rfl, Or.inr (Or.inl ⟨by simp [← zn_eq, ← sl_eq, q_2, q_5], e_6.1, e_6.2⟩), ww_t ht hw⟩, hS.F ht⟩) hS.2.2 d_M_put_43
    · have q_5 := b2_t e_4 c_5
      refine lv_iload_n hx hb d_M_put_17 rfl (lv_at hl 3 rfl) ?_
      refine lv_iconst (v := 0) hx hb d_M_put_18 (by decide) ?_
      refine lv_bipush (v := 19) hx hb d_M_put_19 (by decide) ?_
      refine wr_i (cS (As := [.int x, .int 0, .int 19]) (rest := []) 3 ⟨hx, hb, hml, hown, hts⟩ (c_M_in l x 0 19) k_733 k_731 k_7 k_732 (by decide +kernel) ⟨Nat.le_of_ble_eq_true rfl, Nat.le_of_ble_eq_true rfl⟩ rfl rfl ⟨prN_blind _, fun _ _ _ => ⟨rfl, trivial⟩⟩ rfl hl.1 rfl (Nat.le_of_ble_eq_true rfl) d_M_put_21 ⟨Nat.le_of_ble_eq_true rfl, Nat.le_of_ble_eq_true rfl⟩) (fun r_7 e_7 => ?_)
      refine lv_if_eq (tgt := 38) hx hb d_M_put_24 (by decide) (fun c_8 => ?_) (fun c_8 => ?_)
      · have q_8 := b2_f e_7 c_8
        refine lv_aload_n hx hb d_M_put_38 rfl (lv_at hl 0 rfl) ?_
        refine lv_iconst (v := 1) hx hb d_M_put_39 (by decide) ?_
        refine ww_i (cV (As := [.int 1]) (rest := []) (C := "DangerTablesModel") 1 ⟨hx, hb, hml, hown, hts⟩ (c_M_refuse l g s.heap.size w mo ad t0 hd sn gn bn F 1 hM) k_759 k_756 k_7 k_758 kp_19 (by decide +kernel) ⟨Nat.le_of_ble_eq_true rfl, Nat.le_of_ble_eq_true rfl⟩ rfl rfl ⟨prW_blind _ _ _ _, hw.recv hK hM.1 rfl, prW_at hG hAB hS hw⟩ rfl hl.1 rfl (Nat.le_of_ble_eq_true rfl) d_M_put_40 ⟨Nat.le_of_ble_eq_true rfl, Nat.le_of_ble_eq_true rfl⟩) hw hS hA (fun r_9 w_9 H locs e_9 hw hS hz_9 hk_9 hg_9 => ?_)
        exact W.iret (v := r_9) hx hb hr (fun t ht hW => ⟨⟨r_9, w_9, rfl, Or.inr (Or.inl ⟨by simp [← zn_eq, ← sl_eq, q_2, q_5, q_8], e_9.1, e_9.2⟩), ww_t ht hw⟩, hS.F ht⟩) hS.2.2 d_M_put_43
      · have q_8 := b2_t e_7 c_8
        refine lv_iload hx hb d_M_put_27 (lv_at hl 4 rfl) ?_
        refine lv_iconst (v := 0) hx hb d_M_put_29 (by decide) ?_
        refine lv_bipush (v := 19) hx hb d_M_put_30 (by decide) ?_
        refine wr_i (cS (As := [.int y, .int 0, .int 19]) (rest := []) 3 ⟨hx, hb, hml, hown, hts⟩ (c_M_in l y 0 19) k_733 k_731 k_7 k_732 (by decide +kernel) ⟨Nat.le_of_ble_eq_true rfl, Nat.le_of_ble_eq_true rfl⟩ rfl rfl ⟨prN_blind _, fun _ _ _ => ⟨rfl, trivial⟩⟩ rfl hl.1 rfl (Nat.le_of_ble_eq_true rfl) d_M_put_32 ⟨Nat.le_of_ble_eq_true rfl, Nat.le_of_ble_eq_true rfl⟩) (fun r_10 e_10 => ?_)
        refine lv_if_ne (tgt := 44) hx hb d_M_put_35 (by decide) (fun c_11 => ?_) (fun c_11 => ?_)
        · have q_11 := b2_t e_10 c_11
          have hxy : isSl x y = true := by rw [← sl_eq, q_8, q_11]; rfl
          have hpc : (isZn u && inL v bn && isSl x y) = true := by rw [← zn_eq, q_2, q_5, hxy]; rfl
          obtain ⟨zi, hzi, hu9⟩ := isZn_of (by rw [← zn_eq]; exact q_2)
          subst hu9
          obtain ⟨i, hi, hui⟩ := inL_of q_5 (by omega)
          subst hui
          obtain ⟨b, hb0⟩ : ∃ b, br[i]? = some b := ⟨_, List.getElem?_eq_getElem (by omega)⟩
          have hB := hRB.2.2 i b hb0
          obtain ⟨hB1, hB9, hB10, hB13, hBz, hBp⟩ := id hB
          refine lv_aload_n hx hb d_M_put_44 rfl (lv_at hl 0 rfl) ?_
          refine ww_get (v := .ref (ad 10)) (C := R_M) (T := F_M) (N := 22) (ci := 5) hx hb hts i_M hown hK hw hM.1 rfl 15 (by decide) (hts _ k_670) (fun _ h9 => h9) rfl d_M_put_45 ?_
          refine lv_iload_n hx hb d_M_put_48 rfl (lv_at hl 2 rfl) ?_
          refine ww_iald (v := (F 10) i) hx hb hK hw 0 (show w (ad 10) = some (cA g 12 (F 10)) from hM.2.1 10 (by decide)) rfl (vp_in_nI (by omega) (by decide)) (by rw [nI_clamp (by omega)]) d_M_put_49 ?_
          refine lv_topi (fun v_12 e_12 => ?_)
          obtain rfl : b.2.1 = v_12 := (e_12.trans hB10).symm
          refine lv_iconst (v := -1) hx hb d_M_put_50 (by decide) ?_
          refine lv_icmp_eq (tgt := 60) hx hb d_M_put_51 (by decide) (fun c_13 => ?_) (fun c_13 => ?_)
          · refine lv_aload_n hx hb d_M_put_60 rfl (lv_at hl 0 rfl) ?_
            refine lv_iconst (v := 0) hx hb d_M_put_61 (by decide) ?_
            refine ww_put (v := .int 0) (ty := .int) (C := R_M) (T := F_M) (N := 22) (ci := 5) (fs' := [.int 0, .ref (ad 0), .int (nI sn), .int hd, .ref (ad 1), .int (nI gn), .ref (ad 2), .ref (ad 3), .ref (ad 4), .ref (ad 5), .ref (ad 6), .ref (ad 7), .ref (ad 8), .int (nI bn), .ref (ad 9), .ref (ad 10), .ref (ad 11), .ref (ad 12), .ref (ad 13), .ref (ad 14), .ref (ad 15), .ref (ad 16)]) hx hb hts i_M ft_M ft_M_ok fn_M hown hK hw hS hM.1 rfl 0 (by decide) (hts _ k_655) (fun _ h9 => h9) rfl (by decide +kernel) rfl rfl (Nat.le_of_ble_eq_true rfl) rfl d_M_put_62 (fun H locs hw hS => ?_)
            obtain ⟨w_14, ew_14⟩ : ∃ zz9 : Nat → Option va_E, zz9 = va_up w mo (some (.inr (5, [.int 0, .ref (ad 0), .int (nI sn), .int hd, .ref (ad 1), .int (nI gn), .ref (ad 2), .ref (ad 3), .ref (ad 4), .ref (ad 5), .ref (ad 6), .ref (ad 7), .ref (ad 8), .int (nI bn), .ref (ad 9), .ref (ad 10), .ref (ad 11), .ref (ad 12), .ref (ad 13), .ref (ad 14), .ref (ad 15), .ref (ad 16)]))) := ⟨_, rfl⟩
            rw [← ew_14] at hw
            have hM_14 : isM g w_14 mo ad 0 sn hd gn bn F := by rw [ew_14]; exact isM_put hM
            refine lv_aload_n hx hb d_M_put_65 rfl (lv_at hl 0 rfl) ?_
            refine lv_iload_n hx hb d_M_put_66 rfl (lv_at hl 1 rfl) ?_
            refine lv_iload_n hx hb d_M_put_67 rfl (lv_at hl 2 rfl) ?_
            refine lv_iload_n hx hb d_M_put_68 rfl (lv_at hl 3 rfl) ?_
            refine lv_iload hx hb d_M_put_69 (lv_at hl 4 rfl) ?_
            refine wr_i (cV (As := [.int (nI zi), .int (nI i), .int x, .int y]) (rest := []) (C := "DangerTablesModel") 4 ⟨hx, hb, hml, hown, hts⟩ (c_M_bars l g w_14 mo ad 0 hd sn gn bn F gd rf mz zi i b br x y hM_14 hRG hRT hRZ hrf hzi (by omega) hB hRB hxy) k_838 k_835 k_7 k_837 kp_30 (by decide +kernel) ⟨Nat.le_of_ble_eq_true rfl, Nat.le_of_ble_eq_true rfl⟩ rfl rfl ⟨prR_blind _ _ _, hw.recv hK hM_14.1 rfl, prR_at hG hAB hS hw⟩ rfl hl.1 rfl (Nat.le_of_ble_eq_true rfl) d_M_put_71 ⟨Nat.le_of_ble_eq_true rfl, Nat.le_of_ble_eq_true rfl⟩) (fun r_15 e_15 => ?_)
            refine lv_istore (lv' := [(5, .int r_15), (0, .ref mo), (1, .int (nI zi)), (2, .int (nI i)), (3, .int x), (4, .int y)]) hx hb d_M_put_74 hl (by decide) rfl (fun ls hl => ?_)
            refine lv_iload hx hb d_M_put_76 (lv_at hl 0 rfl) ?_
            refine lv_if_ne (tgt := 103) hx hb d_M_put_78 (by decide) (fun c_16 => ?_) (fun c_16 => ?_)
            · refine lv_iload hx hb d_M_put_103 (lv_at hl 0 rfl) ?_
              exact W.iret (v := r_15) hx hb hr (fun t ht hW => ⟨⟨r_15, w_14, rfl, Or.inl ⟨hpc, zi, i, b, rfl, hzi, rfl, hi, hb0, c_13, e_15, Or.inr ⟨c_16, hM_14⟩⟩, ww_t ht hw⟩, hS.F ht⟩) hS.2.2 d_M_put_105
            · refine lv_aload_n hx hb d_M_put_81 rfl (lv_at hl 1 rfl) ?_
              refine ww_get (v := .ref (ad 10)) (C := R_M) (T := F_M) (N := 22) (ci := 5) hx hb hts i_M hown hK hw hM_14.1 rfl 15 (by decide) (hts _ k_670) (fun _ h9 => h9) rfl d_M_put_82 ?_
              refine lv_iload_n hx hb d_M_put_85 rfl (lv_at hl 3 rfl) ?_
              refine lv_iload_n hx hb d_M_put_86 rfl (lv_at hl 2 rfl) ?_
              refine ww_iast hx hb hK hw hS 0 (show w_14 (ad 10) = some (cA g 12 (F 10)) from hM_14.2.1 10 (by decide)) rfl (vp_in_nI (by omega) (by decide)) d_M_put_87 (fun H locs hw hS => ?_)
              rw [nI_clamp (show i < 2 ^ 31 by omega)] at hw
              obtain ⟨w_17, ew_17⟩ : ∃ zz9 : Nat → Option va_E, zz9 = va_up w_14 (ad 10) (some (cA g 12 (upd (F 10) i (nI zi)))) := ⟨_, rfl⟩
              rw [← ew_17] at hw
              have hM_17 : isM g w_17 mo ad 0 sn hd gn bn (upd2 F 10 (upd (F 10) i (nI zi))) := by rw [ew_17]; exact isM_arr 10 (by decide) hM_14
              refine lv_aload_n hx hb d_M_put_88 rfl (lv_at hl 1 rfl) ?_
              refine ww_get (v := .ref (ad 11)) (C := R_M) (T := F_M) (N := 22) (ci := 5) hx hb hts i_M hown hK hw hM_17.1 rfl 16 (by decide) (hts _ k_671) (fun _ h9 => h9) rfl d_M_put_89 ?_
              refine lv_iload_n hx hb d_M_put_92 rfl (lv_at hl 3 rfl) ?_
              refine lv_iload_n hx hb d_M_put_93 rfl (lv_at hl 4 rfl) ?_
              refine ww_iast hx hb hK hw hS 0 (show w_17 (ad 11) = some (cA g 12 (F 11)) from hM_17.2.1 11 (by decide)) rfl (vp_in_nI (by omega) (by decide)) d_M_put_94 (fun H locs hw hS => ?_)
              rw [nI_clamp (show i < 2 ^ 31 by omega)] at hw
              obtain ⟨w_18, ew_18⟩ : ∃ zz9 : Nat → Option va_E, zz9 = va_up w_17 (ad 11) (some (cA g 12 (upd (F 11) i x))) := ⟨_, rfl⟩
              rw [← ew_18] at hw
              have hM_18 : isM g w_18 mo ad 0 sn hd gn bn (upd2 (upd2 F 10 (upd (F 10) i (nI zi))) 11 (upd (F 11) i x)) := by rw [ew_18]; exact isM_arr 11 (by decide) hM_17
              refine lv_aload_n hx hb d_M_put_95 rfl (lv_at hl 1 rfl) ?_
              refine ww_get (v := .ref (ad 12)) (C := R_M) (T := F_M) (N := 22) (ci := 5) hx hb hts i_M hown hK hw hM_18.1 rfl 17 (by decide) (hts _ k_672) (fun _ h9 => h9) rfl d_M_put_96 ?_
              refine lv_iload_n hx hb d_M_put_99 rfl (lv_at hl 3 rfl) ?_
              refine lv_iload hx hb d_M_put_100 (lv_at hl 5 rfl) ?_
              refine ww_iast hx hb hK hw hS 0 (show w_18 (ad 12) = some (cA g 12 (F 12)) from hM_18.2.1 12 (by decide)) rfl (vp_in_nI (by omega) (by decide)) d_M_put_102 (fun H locs hw hS => ?_)
              rw [nI_clamp (show i < 2 ^ 31 by omega)] at hw
              obtain ⟨w_19, ew_19⟩ : ∃ zz9 : Nat → Option va_E, zz9 = va_up w_18 (ad 12) (some (cA g 12 (upd (F 12) i y))) := ⟨_, rfl⟩
              rw [← ew_19] at hw
              have hM_19 : isM g w_19 mo ad 0 sn hd gn bn (upd2 (upd2 (upd2 F 10 (upd (F 10) i (nI zi))) 11 (upd (F 11) i x)) 12 (upd (F 12) i y)) := by rw [ew_19]; exact isM_arr 12 (by decide) hM_18
              refine lv_iload hx hb d_M_put_103 (lv_at hl 0 rfl) ?_
              exact W.iret (v := r_15) hx hb hr (fun t ht hW => ⟨⟨r_15, w_19, rfl, Or.inl ⟨hpc, zi, i, b, rfl, hzi, rfl, hi, hb0, c_13, e_15, Or.inl ⟨c_16, hM_19⟩⟩, ww_t ht hw⟩, hS.F ht⟩) hS.2.2 d_M_put_105
          · refine lv_aload_n hx hb d_M_put_54 rfl (lv_at hl 0 rfl) ?_
            refine lv_iconst (v := 2) hx hb d_M_put_55 (by decide) ?_
            refine ww_i (cV (As := [.int 2]) (rest := []) (C := "DangerTablesModel") 1 ⟨hx, hb, hml, hown, hts⟩ (c_M_refuse l g s.heap.size w mo ad t0 hd sn gn bn F 2 hM) k_759 k_756 k_7 k_758 kp_19 (by decide +kernel) ⟨Nat.le_of_ble_eq_true rfl, Nat.le_of_ble_eq_true rfl⟩ rfl rfl ⟨prW_blind _ _ _ _, hw.recv hK hM.1 rfl, prW_at hG hAB hS hw⟩ rfl hl.1 rfl (Nat.le_of_ble_eq_true rfl) d_M_put_56 ⟨Nat.le_of_ble_eq_true rfl, Nat.le_of_ble_eq_true rfl⟩) hw hS hA (fun r_20 w_20 H locs e_20 hw hS hz_20 hk_20 hg_20 => ?_)
            exact W.iret (v := r_20) hx hb hr (fun t ht hW => ⟨⟨r_20, w_20, rfl, Or.inr (Or.inr ⟨hpc, i, b, rfl, hi, hb0, c_13, e_20.1, e_20.2⟩), ww_t ht hw⟩, hS.F ht⟩) hS.2.2 d_M_put_59
        · have q_11 := b2_f e_10 c_11
          refine lv_aload_n hx hb d_M_put_38 rfl (lv_at hl 0 rfl) ?_
          refine lv_iconst (v := 1) hx hb d_M_put_39 (by decide) ?_
          refine ww_i (cV (As := [.int 1]) (rest := []) (C := "DangerTablesModel") 1 ⟨hx, hb, hml, hown, hts⟩ (c_M_refuse l g s.heap.size w mo ad t0 hd sn gn bn F 1 hM) k_759 k_756 k_7 k_758 kp_19 (by decide +kernel) ⟨Nat.le_of_ble_eq_true rfl, Nat.le_of_ble_eq_true rfl⟩ rfl rfl ⟨prW_blind _ _ _ _, hw.recv hK hM.1 rfl, prW_at hG hAB hS hw⟩ rfl hl.1 rfl (Nat.le_of_ble_eq_true rfl) d_M_put_40 ⟨Nat.le_of_ble_eq_true rfl, Nat.le_of_ble_eq_true rfl⟩) hw hS hA (fun r_21 w_21 H locs e_21 hw hS hz_21 hk_21 hg_21 => ?_)
          exact W.iret (v := r_21) hx hb hr (fun t ht hW => ⟨⟨r_21, w_21, rfl, Or.inr (Or.inl ⟨by simp [← zn_eq, ← sl_eq, q_2, q_5, q_8, q_11], e_21.1, e_21.2⟩), ww_t ht hw⟩, hS.F ht⟩) hS.2.2 d_M_put_43

set_option maxHeartbeats 4000000 in
set_option maxRecDepth 100000 in
theorem c_M_take (l : Launch) (g : GT) (sz : Nat) (w : Nat → Option va_E) (mo : Nat) (ad : Nat → Nat) (t0 hd : Int32) (sn gn bn : Nat) (F : Nat → Nat → Int32) (gd : Nat → GD) (br : List BR) (u : Int32) (hM : isM g w mo ad t0 sn hd gn bn F) (hRG : RG gd gn F) (hRB : RBs F gn bn br) : Met l y_M_take (.code y_M_take b_M_take 3 ((some .int)) :: GW) ({ frames := 1, cells := 0, slots := 0, locals := 21 }) (prW g sz [.ref mo, .int u] w) (qI g sz w (fun r w1 => (inL u bn = true ∧ ∃ (i : Nat) (b : BR), u = nI i ∧ i < bn ∧ br[i]? = some b ∧ r = b.2.1 ∧ isM g w1 mo ad 0 sn hd gn bn (upd2 F 10 (upd (F 10) i (-1)))) ∨ (inL u bn = false ∧ r = 0 ∧ isM g w1 mo ad 1 sn hd gn bn F))) 0 0 (gA w sz) := by
  refine Met.ofW (cc := b_M_take) (maxL := 3) (ret := (some .int)) (by decide) rfl ?_
  intro p e s m args below meth c s₁ B hml hv
  obtain ⟨rfl, hsz, hG, hw0⟩ := hv
  have hx := B.exec
  have hb := B.bytes
  have hr := B.returns
  have hts : ∀ w ∈ GW, w.before _ s = true := fun w h => atoms_spec (ws := .code y_M_take b_M_take 3 ((some .int)) :: GW) B.pre w (List.mem_cons_of_mem _ h)
  have hown : s.vm.findClass "DangerTablesModel" = some m.cls := findClass_of_methodNamed B.named
  have hlocks := B.notSynchronized
  have hf := hG.here
  have hK := hf.1
  subst hsz
  have hw := hw0.self s.heap.size
  have hAB : ∀ q, gA w s.heap.size q → gB g q := fun q h => h.elim (fun z => z.elim (fun _ he => hw0.inA he)) (fun h => Nat.le_trans hG.1 h)
  have hA : ∀ q, s.heap.size ≤ q → gA w s.heap.size q := fun q h => Or.inr h
  have hS : va_S (gA w s.heap.size) s.heap s.heap [] := va_S.rf
  have hl := lv_entry ([.ref mo, .int u]) (n := 3) (Nat.le_of_ble_eq_true rfl)
  rw [lg_entry_eq]
  generalize (lg_sl ([.ref mo, .int u]) ++ List.replicate (3 - (lg_sl ([.ref mo, .int u])).length) Slot.unset).toArray = ls at hl ⊢
  have hl : lv_has ls 3 [(0, .ref mo), (1, .int u)] := hl
  have hgn := hRG.1
  have hbn := hRB.1
  have hbl := hRB.2.1
  refine lv_aload_n hx hb d_M_take_0 rfl (lv_at hl 0 rfl) ?_
  refine lv_iload_n hx hb d_M_take_1 rfl (lv_at hl 1 rfl) ?_
  refine wr_i (cV (As := [.int u]) (rest := []) (C := "DangerTablesModel") 1 ⟨hx, hb, hml, hown, hts⟩ (c_M_isBox l g w mo ad t0 hd sn gn bn F u hM) k_783 k_780 k_7 k_782 kp_22 (by decide +kernel) ⟨Nat.le_of_ble_eq_true rfl, Nat.le_of_ble_eq_true rfl⟩ rfl rfl ⟨prR_blind _ _ _, hw.recv hK hM.1 rfl, prR_at hG hAB hS hw⟩ rfl hl.1 rfl (Nat.le_of_ble_eq_true rfl) d_M_take_2 ⟨Nat.le_of_ble_eq_true rfl, Nat.le_of_ble_eq_true rfl⟩) (fun r_1 e_1 => ?_)
  refine lv_if_ne (tgt := 14) hx hb d_M_take_5 (by decide) (fun c_2 => ?_) (fun c_2 => ?_)
  · have q_2 := b2_t e_1 c_2
    obtain ⟨i, hi, hui⟩ := inL_of q_2 (by omega)
    subst hui
    obtain ⟨b, hb0⟩ : ∃ b, br[i]? = some b := ⟨_, List.getElem?_eq_getElem (by omega)⟩
    have hB := hRB.2.2 i b hb0
    obtain ⟨hB1, hB9, hB10, hB13, hBz, hBp⟩ := id hB
    refine lv_aload_n hx hb d_M_take_14 rfl (lv_at hl 0 rfl) ?_
    refine lv_iconst (v := 0) hx hb d_M_take_15 (by decide) ?_
    refine ww_put (v := .int 0) (ty := .int) (C := R_M) (T := F_M) (N := 22) (ci := 5) (fs' := [.int 0, .ref (ad 0), .int (nI sn), .int hd, .ref (ad 1), .int (nI gn), .ref (ad 2), .ref (ad 3), .ref (ad 4), .ref (ad 5), .ref (ad 6), .ref (ad 7), .ref (ad 8), .int (nI bn), .ref (ad 9), .ref (ad 10), .ref (ad 11), .ref (ad 12), .ref (ad 13), .ref (ad 14), .ref (ad 15), .ref (ad 16)]) hx hb hts i_M ft_M ft_M_ok fn_M hown hK hw hS hM.1 rfl 0 (by decide) (hts _ k_655) (fun _ h9 => h9) rfl (by decide +kernel) rfl rfl (Nat.le_of_ble_eq_true rfl) rfl d_M_take_16 (fun H locs hw hS => ?_)
    obtain ⟨w_3, ew_3⟩ : ∃ zz9 : Nat → Option va_E, zz9 = va_up w mo (some (.inr (5, [.int 0, .ref (ad 0), .int (nI sn), .int hd, .ref (ad 1), .int (nI gn), .ref (ad 2), .ref (ad 3), .ref (ad 4), .ref (ad 5), .ref (ad 6), .ref (ad 7), .ref (ad 8), .int (nI bn), .ref (ad 9), .ref (ad 10), .ref (ad 11), .ref (ad 12), .ref (ad 13), .ref (ad 14), .ref (ad 15), .ref (ad 16)]))) := ⟨_, rfl⟩
    rw [← ew_3] at hw
    have hM_3 : isM g w_3 mo ad 0 sn hd gn bn F := by rw [ew_3]; exact isM_put hM
    refine lv_aload_n hx hb d_M_take_19 rfl (lv_at hl 0 rfl) ?_
    refine ww_get (v := .ref (ad 10)) (C := R_M) (T := F_M) (N := 22) (ci := 5) hx hb hts i_M hown hK hw hM_3.1 rfl 15 (by decide) (hts _ k_670) (fun _ h9 => h9) rfl d_M_take_20 ?_
    refine lv_iload_n hx hb d_M_take_23 rfl (lv_at hl 1 rfl) ?_
    refine ww_iald (v := (F 10) i) hx hb hK hw 0 (show w_3 (ad 10) = some (cA g 12 (F 10)) from hM_3.2.1 10 (by decide)) rfl (vp_in_nI (by omega) (by decide)) (by rw [nI_clamp (by omega)]) d_M_take_24 ?_
    refine lv_topi (fun v_4 e_4 => ?_)
    obtain rfl : b.2.1 = v_4 := (e_4.trans hB10).symm
    refine lv_istore_n (lv' := [(2, .int b.2.1), (0, .ref mo), (1, .int (nI i))]) hx hb d_M_take_25 rfl hl (by decide) rfl (fun ls hl => ?_)
    refine lv_aload_n hx hb d_M_take_26 rfl (lv_at hl 1 rfl) ?_
    refine ww_get (v := .ref (ad 10)) (C := R_M) (T := F_M) (N := 22) (ci := 5) hx hb hts i_M hown hK hw hM_3.1 rfl 15 (by decide) (hts _ k_670) (fun _ h9 => h9) rfl d_M_take_27 ?_
    refine lv_iload_n hx hb d_M_take_30 rfl (lv_at hl 2 rfl) ?_
    refine lv_iconst (v := -1) hx hb d_M_take_31 (by decide) ?_
    refine ww_iast hx hb hK hw hS 0 (show w_3 (ad 10) = some (cA g 12 (F 10)) from hM_3.2.1 10 (by decide)) rfl (vp_in_nI (by omega) (by decide)) d_M_take_32 (fun H locs hw hS => ?_)
    rw [nI_clamp (show i < 2 ^ 31 by omega)] at hw
    obtain ⟨w_5, ew_5⟩ : ∃ zz9 : Nat → Option va_E, zz9 = va_up w_3 (ad 10) (some (cA g 12 (upd (F 10) i (-1)))) := ⟨_, rfl⟩
    rw [← ew_5] at hw
    have hM_5 : isM g w_5 mo ad 0 sn hd gn bn (upd2 F 10 (upd (F 10) i (-1))) := by rw [ew_5]; exact isM_arr 10 (by decide) hM_3
    refine lv_iload_n hx hb d_M_take_33 rfl (lv_at hl 0 rfl) ?_
    exact W.iret (v := b.2.1) hx hb hr (fun t ht hW => ⟨⟨b.2.1, w_5, rfl, Or.inl ⟨q_2, i, b, rfl, hi, hb0, rfl, hM_5⟩, ww_t ht hw⟩, hS.F ht⟩) hS.2.2 d_M_take_34
  · have q_2 := b2_f e_1 c_2
    refine lv_aload_n hx hb d_M_take_8 rfl (lv_at hl 0 rfl) ?_
    refine lv_iconst (v := 1) hx hb d_M_take_9 (by decide) ?_
    refine ww_i (cV (As := [.int 1]) (rest := []) (C := "DangerTablesModel") 1 ⟨hx, hb, hml, hown, hts⟩ (c_M_refuse l g s.heap.size w mo ad t0 hd sn gn bn F 1 hM) k_759 k_756 k_7 k_758 kp_19 (by decide +kernel) ⟨Nat.le_of_ble_eq_true rfl, Nat.le_of_ble_eq_true rfl⟩ rfl rfl ⟨prW_blind _ _ _ _, hw.recv hK hM.1 rfl, prW_at hG hAB hS hw⟩ rfl hl.1 rfl (Nat.le_of_ble_eq_true rfl) d_M_take_10 ⟨Nat.le_of_ble_eq_true rfl, Nat.le_of_ble_eq_true rfl⟩) hw hS hA (fun r_6 w_6 H locs e_6 hw hS hz_6 hk_6 hg_6 => ?_)
    exact W.iret (v := r_6) hx hb hr (fun t ht hW => ⟨⟨r_6, w_6, rfl, Or.inr ⟨q_2, e_6.1, e_6.2⟩, ww_t ht hw⟩, hS.F ht⟩) hS.2.2 d_M_take_13

theorem lk5 {x : Int32} (h : inR x 0 4 = true) : ∃ k : Nat, k < 5 ∧ x = nI k := by
  rw [pp_eq, Bool.and_eq_true, Bool.not_eq_true', decide_eq_false_iff_not, decide_eq_true_iff] at h
  obtain ⟨j, hj, rfl⟩ := nI_of h.1
  exact ⟨j, (nI_ltI hj (b := 5) (by decide)).mp h.2, rfl⟩
set_option maxHeartbeats 4000000 in
set_option maxRecDepth 100000 in
theorem c_M_paper (l : Launch) (g : GT) (sz : Nat) (w : Nat → Option va_E) (mo : Nat) (ad : Nat → Nat) (t0 hd : Int32) (sn gn bn : Nat) (F : Nat → Nat → Int32) (gd : Nat → GD) (br : List BR) (u v : Int32) (hM : isM g w mo ad t0 sn hd gn bn F) (hRG : RG gd gn F) (hRB : RBs F gn bn br) : Met l y_M_paper (.code y_M_paper b_M_paper 3 ((some .boolean)) :: GW) ({ frames := 1, cells := 0, slots := 0, locals := 22 }) (prW g sz [.ref mo, .int u, .int v] w) (qI g sz w (fun r w1 => ((inL u bn && inR v 0 4) = false ∧ r = 0 ∧ isM g w1 mo ad 0 sn hd gn bn F) ∨ ((inL u bn && inR v 0 4) = true ∧ ∃ (i : Nat) (b : BR), u = nI i ∧ i < bn ∧ br[i]? = some b ∧ (((b.2.2.2.2 &&& ((1 : Int32) <<< (v &&& 31)) = 0) ∧ r = 1 ∧ isM g w1 mo ad 0 sn hd gn bn (upd2 F 13 (upd (F 13) i (b.2.2.2.2 ||| ((1 : Int32) <<< (v &&& 31)))))) ∨ (¬ (b.2.2.2.2 &&& ((1 : Int32) <<< (v &&& 31)) = 0) ∧ r = 0 ∧ isM g w1 mo ad 0 sn hd gn bn F))))) 0 0 (gA w sz) := by
  refine Met.ofW (cc := b_M_paper) (maxL := 3) (ret := (some .boolean)) (by decide) rfl ?_
  intro p e s m args below meth c s₁ B hml hv
  obtain ⟨rfl, hsz, hG, hw0⟩ := hv
  have hx := B.exec
  have hb := B.bytes
  have hr := B.returns
  have hts : ∀ w ∈ GW, w.before _ s = true := fun w h => atoms_spec (ws := .code y_M_paper b_M_paper 3 ((some .boolean)) :: GW) B.pre w (List.mem_cons_of_mem _ h)
  have hown : s.vm.findClass "DangerTablesModel" = some m.cls := findClass_of_methodNamed B.named
  have hlocks := B.notSynchronized
  have hf := hG.here
  have hK := hf.1
  subst hsz
  have hw := hw0.self s.heap.size
  have hAB : ∀ q, gA w s.heap.size q → gB g q := fun q h => h.elim (fun z => z.elim (fun _ he => hw0.inA he)) (fun h => Nat.le_trans hG.1 h)
  have hA : ∀ q, s.heap.size ≤ q → gA w s.heap.size q := fun q h => Or.inr h
  have hS : va_S (gA w s.heap.size) s.heap s.heap [] := va_S.rf
  have hl := lv_entry ([.ref mo, .int u, .int v]) (n := 3) (Nat.le_of_ble_eq_true rfl)
  rw [lg_entry_eq]
  generalize (lg_sl ([.ref mo, .int u, .int v]) ++ List.replicate (3 - (lg_sl ([.ref mo, .int u, .int v])).length) Slot.unset).toArray = ls at hl ⊢
  have hl : lv_has ls 3 [(0, .ref mo), (1, .int u), (2, .int v)] := hl
  have hgn := hRG.1
  have hbn := hRB.1
  have hbl := hRB.2.1
  refine lv_aload_n hx hb d_M_paper_0 rfl (lv_at hl 0 rfl) ?_
  refine lv_iconst (v := 0) hx hb d_M_paper_1 (by decide) ?_
  refine ww_put (v := .int 0) (ty := .int) (C := R_M) (T := F_M) (N := 22) (ci := 5) (fs' := [.int 0, .ref (ad 0), .int (nI sn), .int hd, .ref (ad 1), .int (nI gn), .ref (ad 2), .ref (ad 3), .ref (ad 4), .ref (ad 5), .ref (ad 6), .ref (ad 7), .ref (ad 8), .int (nI bn), .ref (ad 9), .ref (ad 10), .ref (ad 11), .ref (ad 12), .ref (ad 13), .ref (ad 14), .ref (ad 15), .ref (ad 16)]) hx hb hts i_M ft_M ft_M_ok fn_M hown hK hw hS hM.1 rfl 0 (by decide) (hts _ k_655) (fun _ h9 => h9) rfl (by decide +kernel) rfl rfl (Nat.le_of_ble_eq_true rfl) rfl d_M_paper_2 (fun H locs hw hS => ?_)
  obtain ⟨w_1, ew_1⟩ : ∃ zz9 : Nat → Option va_E, zz9 = va_up w mo (some (.inr (5, [.int 0, .ref (ad 0), .int (nI sn), .int hd, .ref (ad 1), .int (nI gn), .ref (ad 2), .ref (ad 3), .ref (ad 4), .ref (ad 5), .ref (ad 6), .ref (ad 7), .ref (ad 8), .int (nI bn), .ref (ad 9), .ref (ad 10), .ref (ad 11), .ref (ad 12), .ref (ad 13), .ref (ad 14), .ref (ad 15), .ref (ad 16)]))) := ⟨_, rfl⟩
  rw [← ew_1] at hw
  have hM_1 : isM g w_1 mo ad 0 sn hd gn bn F := by rw [ew_1]; exact isM_put hM
  refine lv_aload_n hx hb d_M_paper_5 rfl (lv_at hl 0 rfl) ?_
  refine lv_iload_n hx hb d_M_paper_6 rfl (lv_at hl 1 rfl) ?_
  refine wr_i (cV (As := [.int u]) (rest := []) (C := "DangerTablesModel") 1 ⟨hx, hb, hml, hown, hts⟩ (c_M_isBox l g w_1 mo ad 0 hd sn gn bn F u hM_1) k_783 k_780 k_7 k_782 kp_22 (by decide +kernel) ⟨Nat.le_of_ble_eq_true rfl, Nat.le_of_ble_eq_true rfl⟩ rfl rfl ⟨prR_blind _ _ _, hw.recv hK hM_1.1 rfl, prR_at hG hAB hS hw⟩ rfl hl.1 rfl (Nat.le_of_ble_eq_true rfl) d_M_paper_7 ⟨Nat.le_of_ble_eq_true rfl, Nat.le_of_ble_eq_true rfl⟩) (fun r_2 e_2 => ?_)
  refine lv_if_eq (tgt := 36) hx hb d_M_paper_10 (by decide) (fun c_3 => ?_) (fun c_3 => ?_)
  · have q_3 := b2_f e_2 c_3
    refine lv_iconst (v := 0) hx hb d_M_paper_36 (by decide) ?_
    exact W.zret (v := 0) (ty := .boolean) hx hb hr rfl (fun t ht hW => ⟨⟨0, w_1, rfl, Or.inl ⟨by simp [q_3], rfl, hM_1⟩, ww_t ht hw⟩, hS.F ht⟩) hS.2.2 d_M_paper_37
  · have q_3 := b2_t e_2 c_3
    refine lv_iload_n hx hb d_M_paper_13 rfl (lv_at hl 2 rfl) ?_
    refine lv_iconst (v := 0) hx hb d_M_paper_14 (by decide) ?_
    refine lv_iconst (v := 4) hx hb d_M_paper_15 (by decide) ?_
    refine wr_i (cS (As := [.int v, .int 0, .int 4]) (rest := []) 3 ⟨hx, hb, hml, hown, hts⟩ (c_M_in l v 0 4) k_733 k_731 k_7 k_732 (by decide +kernel) ⟨Nat.le_of_ble_eq_true rfl, Nat.le_of_ble_eq_true rfl⟩ rfl rfl ⟨prN_blind _, fun _ _ _ => ⟨rfl, trivial⟩⟩ rfl hl.1 rfl (Nat.le_of_ble_eq_true rfl) d_M_paper_16 ⟨Nat.le_of_ble_eq_true rfl, Nat.le_of_ble_eq_true rfl⟩) (fun r_4 e_4 => ?_)
    refine lv_if_eq (tgt := 36) hx hb d_M_paper_19 (by decide) (fun c_5 => ?_) (fun c_5 => ?_)
    · have q_5 := b2_f e_4 c_5
      refine lv_iconst (v := 0) hx hb d_M_paper_36 (by decide) ?_
      exact W.zret (v := 0) (ty := .boolean) hx hb hr rfl (fun t ht hW => ⟨⟨0, w_1, rfl, Or.inl ⟨by simp [q_3, q_5], rfl, hM_1⟩, ww_t ht hw⟩, hS.F ht⟩) hS.2.2 d_M_paper_37
    · have q_5 := b2_t e_4 c_5
      obtain ⟨i, hi, hui⟩ := inL_of q_3 (by omega)
      subst hui
      obtain ⟨b, hb0⟩ : ∃ b, br[i]? = some b := ⟨_, List.getElem?_eq_getElem (by omega)⟩
      have hB := hRB.2.2 i b hb0
      obtain ⟨hB1, hB9, hB10, hB13, hBz, hBp⟩ := id hB
      obtain ⟨kf, hkf, hvk⟩ := lk5 q_5
      subst hvk
      refine lv_aload_n hx hb d_M_paper_22 rfl (lv_at hl 0 rfl) ?_
      refine ww_get (v := .ref (ad 13)) (C := R_M) (T := F_M) (N := 22) (ci := 5) hx hb hts i_M hown hK hw hM_1.1 rfl 18 (by decide) (hts _ k_673) (fun _ h9 => h9) rfl d_M_paper_23 ?_
      refine lv_iload_n hx hb d_M_paper_26 rfl (lv_at hl 1 rfl) ?_
      refine ww_iald (v := (F 13) i) hx hb hK hw 0 (show w_1 (ad 13) = some (cA g 12 (F 13)) from hM_1.2.1 13 (by decide)) rfl (vp_in_nI (by omega) (by decide)) (by rw [nI_clamp (by omega)]) d_M_paper_27 ?_
      refine lv_topi (fun v_6 e_6 => ?_)
      obtain rfl : b.2.2.2.2 = v_6 := (e_6.trans hB13).symm
      refine lv_iload_n hx hb d_M_paper_28 rfl (lv_at hl 2 rfl) ?_
      refine lv_ishr hx hb d_M_paper_29 ?_
      refine lv_topi (fun v_7 e_7 => ?_)
      refine lv_iconst (v := 1) hx hb d_M_paper_30 (by decide) ?_
      refine lv_iand hx hb d_M_paper_31 ?_
      refine lv_topi (fun v_8 e_8 => ?_)
      refine lv_iconst (v := 1) hx hb d_M_paper_32 (by decide) ?_
      refine lv_icmp_ne (tgt := 38) hx hb d_M_paper_33 (by decide) (fun c_9 => ?_) (fun c_9 => ?_)
      · have hbit : b.2.2.2.2 &&& ((1 : Int32) <<< (nI kf &&& 31)) = 0 := Decidable.not_not.mp (fun z => c_9 (by rw [e_8, e_7]; exact (pap _ hkf).mpr z))
        refine lv_aload_n hx hb d_M_paper_38 rfl (lv_at hl 0 rfl) ?_
        refine ww_get (v := .ref (ad 13)) (C := R_M) (T := F_M) (N := 22) (ci := 5) hx hb hts i_M hown hK hw hM_1.1 rfl 18 (by decide) (hts _ k_673) (fun _ h9 => h9) rfl d_M_paper_39 ?_
        refine lv_iload_n hx hb d_M_paper_42 rfl (lv_at hl 1 rfl) ?_
        refine lv_dup2_11 hx hb d_M_paper_43 rfl rfl ?_
        refine ww_iald (v := (F 13) i) hx hb hK hw 0 (show w_1 (ad 13) = some (cA g 12 (F 13)) from hM_1.2.1 13 (by decide)) rfl (vp_in_nI (by omega) (by decide)) (by rw [nI_clamp (by omega)]) d_M_paper_44 ?_
        refine lv_topi (fun v_10 e_10 => ?_)
        obtain rfl : b.2.2.2.2 = v_10 := (e_10.trans hB13).symm
        refine lv_iconst (v := 1) hx hb d_M_paper_45 (by decide) ?_
        refine lv_iload_n hx hb d_M_paper_46 rfl (lv_at hl 2 rfl) ?_
        refine lv_ishl hx hb d_M_paper_47 ?_
        refine lv_topi (fun v_11 e_11 => ?_)
        refine lv_ior hx hb d_M_paper_48 ?_
        refine lv_topi (fun v_12 e_12 => ?_)
        obtain rfl : v_12 = b.2.2.2.2 ||| ((1 : Int32) <<< (nI kf &&& 31)) := by rw [e_12, e_11]
        refine ww_iast hx hb hK hw hS 0 (show w_1 (ad 13) = some (cA g 12 (F 13)) from hM_1.2.1 13 (by decide)) rfl (vp_in_nI (by omega) (by decide)) d_M_paper_49 (fun H locs hw hS => ?_)
        rw [nI_clamp (show i < 2 ^ 31 by omega)] at hw
        obtain ⟨w_13, ew_13⟩ : ∃ zz9 : Nat → Option va_E, zz9 = va_up w_1 (ad 13) (some (cA g 12 (upd (F 13) i (b.2.2.2.2 ||| ((1 : Int32) <<< (nI kf &&& 31)))))) := ⟨_, rfl⟩
        rw [← ew_13] at hw
        have hM_13 : isM g w_13 mo ad 0 sn hd gn bn (upd2 F 13 (upd (F 13) i (b.2.2.2.2 ||| ((1 : Int32) <<< (nI kf &&& 31))))) := by rw [ew_13]; exact isM_arr 13 (by decide) hM_1
        refine lv_iconst (v := 1) hx hb d_M_paper_50 (by decide) ?_
        exact W.zret (v := 1) (ty := .boolean) hx hb hr rfl (fun t ht hW => ⟨⟨1, w_13, rfl, Or.inr ⟨by rw [q_3, q_5]; rfl, i, b, rfl, hi, hb0, Or.inl ⟨hbit, rfl, hM_13⟩⟩, ww_t ht hw⟩, hS.F ht⟩) hS.2.2 d_M_paper_51
      · have hbit : ¬ b.2.2.2.2 &&& ((1 : Int32) <<< (nI kf &&& 31)) = 0 := (pap _ hkf).mp (by rw [← e_7, ← e_8]; exact c_9)
        refine lv_iconst (v := 0) hx hb d_M_paper_36 (by decide) ?_
        exact W.zret (v := 0) (ty := .boolean) hx hb hr rfl (fun t ht hW => ⟨⟨0, w_1, rfl, Or.inr ⟨by rw [q_3, q_5]; rfl, i, b, rfl, hi, hb0, Or.inr ⟨hbit, rfl, hM_1⟩⟩, ww_t ht hw⟩, hS.F ht⟩) hS.2.2 d_M_paper_37

set_option maxHeartbeats 4000000 in
set_option maxRecDepth 100000 in
theorem c_M_missing (l : Launch) (g : GT) (sz : Nat) (w : Nat → Option va_E) (mo : Nat) (ad : Nat → Nat) (t0 hd : Int32) (sn gn bn : Nat) (F : Nat → Nat → Int32) (gd : Nat → GD) (br : List BR) (u : Int32) (hM : isM g w mo ad t0 sn hd gn bn F) (hRG : RG gd gn F) (hRB : RBs F gn bn br) : Met l y_M_missing (.code y_M_missing b_M_missing 2 ((some .int)) :: GW) ({ frames := 2, cells := 0, slots := 0, locals := 45 }) (prW g sz [.ref mo, .int u] w) (qI g sz w (fun r w1 => (inL u bn = true ∧ ∃ (i : Nat) (b : BR), u = nI i ∧ i < bn ∧ br[i]? = some b ∧ r = wtB (bxOf gd b).1 &&& (b.2.2.2.2 ^^^ -1) ∧ isM g w1 mo ad 0 sn hd gn bn F) ∨ (inL u bn = false ∧ r = 0 ∧ isM g w1 mo ad 1 sn hd gn bn F))) 0 0 (gA w sz) := by
  refine Met.ofW (cc := b_M_missing) (maxL := 2) (ret := (some .int)) (by decide) rfl ?_
  intro p e s m args below meth c s₁ B hml hv
  obtain ⟨rfl, hsz, hG, hw0⟩ := hv
  have hx := B.exec
  have hb := B.bytes
  have hr := B.returns
  have hts : ∀ w ∈ GW, w.before _ s = true := fun w h => atoms_spec (ws := .code y_M_missing b_M_missing 2 ((some .int)) :: GW) B.pre w (List.mem_cons_of_mem _ h)
  have hown : s.vm.findClass "DangerTablesModel" = some m.cls := findClass_of_methodNamed B.named
  have hlocks := B.notSynchronized
  have hf := hG.here
  have hK := hf.1
  subst hsz
  have hw := hw0.self s.heap.size
  have hAB : ∀ q, gA w s.heap.size q → gB g q := fun q h => h.elim (fun z => z.elim (fun _ he => hw0.inA he)) (fun h => Nat.le_trans hG.1 h)
  have hA : ∀ q, s.heap.size ≤ q → gA w s.heap.size q := fun q h => Or.inr h
  have hS : va_S (gA w s.heap.size) s.heap s.heap [] := va_S.rf
  have hl := lv_entry ([.ref mo, .int u]) (n := 2) (Nat.le_of_ble_eq_true rfl)
  rw [lg_entry_eq]
  generalize (lg_sl ([.ref mo, .int u]) ++ List.replicate (2 - (lg_sl ([.ref mo, .int u])).length) Slot.unset).toArray = ls at hl ⊢
  have hl : lv_has ls 2 [(0, .ref mo), (1, .int u)] := hl
  have hgn := hRG.1
  have hbn := hRB.1
  have hbl := hRB.2.1
  refine lv_aload_n hx hb d_M_missing_0 rfl (lv_at hl 0 rfl) ?_
  refine lv_aload_n hx hb d_M_missing_1 rfl (lv_at hl 0 rfl) ?_
  refine lv_iload_n hx hb d_M_missing_2 rfl (lv_at hl 1 rfl) ?_
  refine wr_i (cV (As := [.int u]) (rest := [.ref mo]) (C := "DangerTablesModel") 1 ⟨hx, hb, hml, hown, hts⟩ (c_M_isBox l g w mo ad t0 hd sn gn bn F u hM) k_783 k_780 k_7 k_782 kp_22 (by decide +kernel) ⟨Nat.le_of_ble_eq_true rfl, Nat.le_of_ble_eq_true rfl⟩ rfl rfl ⟨prR_blind _ _ _, hw.recv hK hM.1 rfl, prR_at hG hAB hS hw⟩ rfl hl.1 rfl (Nat.le_of_ble_eq_true rfl) d_M_missing_3 ⟨Nat.le_of_ble_eq_true rfl, Nat.le_of_ble_eq_true rfl⟩) (fun r_1 e_1 => ?_)
  refine lv_if_eq (tgt := 13) hx hb d_M_missing_6 (by decide) (fun c_2 => ?_) (fun c_2 => ?_)
  · have q_2 := b2_f e_1 c_2
    refine lv_iconst (v := 1) hx hb d_M_missing_13 (by decide) ?_
    refine ww_put (v := .int 1) (ty := .int) (C := R_M) (T := F_M) (N := 22) (ci := 5) (fs' := [.int 1, .ref (ad 0), .int (nI sn), .int hd, .ref (ad 1), .int (nI gn), .ref (ad 2), .ref (ad 3), .ref (ad 4), .ref (ad 5), .ref (ad 6), .ref (ad 7), .ref (ad 8), .int (nI bn), .ref (ad 9), .ref (ad 10), .ref (ad 11), .ref (ad 12), .ref (ad 13), .ref (ad 14), .ref (ad 15), .ref (ad 16)]) hx hb hts i_M ft_M ft_M_ok fn_M hown hK hw hS hM.1 rfl 0 (by decide) (hts _ k_655) (fun _ h9 => h9) rfl (by decide +kernel) rfl rfl (Nat.le_of_ble_eq_true rfl) rfl d_M_missing_14 (fun H locs hw hS => ?_)
    obtain ⟨w_3, ew_3⟩ : ∃ zz9 : Nat → Option va_E, zz9 = va_up w mo (some (.inr (5, [.int 1, .ref (ad 0), .int (nI sn), .int hd, .ref (ad 1), .int (nI gn), .ref (ad 2), .ref (ad 3), .ref (ad 4), .ref (ad 5), .ref (ad 6), .ref (ad 7), .ref (ad 8), .int (nI bn), .ref (ad 9), .ref (ad 10), .ref (ad 11), .ref (ad 12), .ref (ad 13), .ref (ad 14), .ref (ad 15), .ref (ad 16)]))) := ⟨_, rfl⟩
    rw [← ew_3] at hw
    have hM_3 : isM g w_3 mo ad 1 sn hd gn bn F := by rw [ew_3]; exact isM_put hM
    refine lv_aload_n hx hb d_M_missing_17 rfl (lv_at hl 0 rfl) ?_
    refine ww_get (v := .int 1) (C := R_M) (T := F_M) (N := 22) (ci := 5) hx hb hts i_M hown hK hw hM_3.1 rfl 0 (by decide) (hts _ k_655) (fun _ h9 => h9) rfl d_M_missing_18 ?_
    refine lv_if_le (tgt := 28) hx hb d_M_missing_21 (by decide) (fun z => absurd z (by decide)) (fun _ => ?_)
    refine lv_iconst (v := 0) hx hb d_M_missing_24 (by decide) ?_
    refine lv_goto (tgt := 42) hx hb d_M_missing_25 (by decide) ?_
    exact W.iret (v := 0) hx hb hr (fun t ht hW => ⟨⟨0, w_3, rfl, Or.inr ⟨q_2, rfl, hM_3⟩, ww_t ht hw⟩, hS.F ht⟩) hS.2.2 d_M_missing_42
  · have q_2 := b2_t e_1 c_2
    obtain ⟨i, hi, hui⟩ := inL_of q_2 (by omega)
    subst hui
    obtain ⟨b, hb0⟩ : ∃ b, br[i]? = some b := ⟨_, List.getElem?_eq_getElem (by omega)⟩
    have hB := hRB.2.2 i b hb0
    obtain ⟨hB1, hB9, hB10, hB13, hBz, hBp⟩ := id hB
    refine lv_iconst (v := 0) hx hb d_M_missing_9 (by decide) ?_
    refine lv_goto (tgt := 14) hx hb d_M_missing_10 (by decide) ?_
    refine ww_put (v := .int 0) (ty := .int) (C := R_M) (T := F_M) (N := 22) (ci := 5) (fs' := [.int 0, .ref (ad 0), .int (nI sn), .int hd, .ref (ad 1), .int (nI gn), .ref (ad 2), .ref (ad 3), .ref (ad 4), .ref (ad 5), .ref (ad 6), .ref (ad 7), .ref (ad 8), .int (nI bn), .ref (ad 9), .ref (ad 10), .ref (ad 11), .ref (ad 12), .ref (ad 13), .ref (ad 14), .ref (ad 15), .ref (ad 16)]) hx hb hts i_M ft_M ft_M_ok fn_M hown hK hw hS hM.1 rfl 0 (by decide) (hts _ k_655) (fun _ h9 => h9) rfl (by decide +kernel) rfl rfl (Nat.le_of_ble_eq_true rfl) rfl d_M_missing_14 (fun H locs hw hS => ?_)
    obtain ⟨w_5, ew_5⟩ : ∃ zz9 : Nat → Option va_E, zz9 = va_up w mo (some (.inr (5, [.int 0, .ref (ad 0), .int (nI sn), .int hd, .ref (ad 1), .int (nI gn), .ref (ad 2), .ref (ad 3), .ref (ad 4), .ref (ad 5), .ref (ad 6), .ref (ad 7), .ref (ad 8), .int (nI bn), .ref (ad 9), .ref (ad 10), .ref (ad 11), .ref (ad 12), .ref (ad 13), .ref (ad 14), .ref (ad 15), .ref (ad 16)]))) := ⟨_, rfl⟩
    rw [← ew_5] at hw
    have hM_5 : isM g w_5 mo ad 0 sn hd gn bn F := by rw [ew_5]; exact isM_put hM
    refine lv_aload_n hx hb d_M_missing_17 rfl (lv_at hl 0 rfl) ?_
    refine ww_get (v := .int 0) (C := R_M) (T := F_M) (N := 22) (ci := 5) hx hb hts i_M hown hK hw hM_5.1 rfl 0 (by decide) (hts _ k_655) (fun _ h9 => h9) rfl d_M_missing_18 ?_
    refine lv_if_le (tgt := 28) hx hb d_M_missing_21 (by decide) (fun _ => ?_) (fun z => absurd z (by decide))
    refine lv_aload_n hx hb d_M_missing_28 rfl (lv_at hl 0 rfl) ?_
    refine lv_iload_n hx hb d_M_missing_29 rfl (lv_at hl 1 rfl) ?_
    refine wr_i (cV (As := [.int (nI i)]) (rest := []) (C := "DangerTablesModel") 1 ⟨hx, hb, hml, hown, hts⟩ (c_M_wanted l g w_5 mo ad 0 hd sn gn bn F gd i b hM_5 hRG (by omega) hB) k_842 k_839 k_7 k_841 kp_31 (by decide +kernel) ⟨Nat.le_of_ble_eq_true rfl, Nat.le_of_ble_eq_true rfl⟩ rfl rfl ⟨prR_blind _ _ _, hw.recv hK hM_5.1 rfl, prR_at hG hAB hS hw⟩ rfl hl.1 rfl (Nat.le_of_ble_eq_true rfl) d_M_missing_30 ⟨Nat.le_of_ble_eq_true rfl, Nat.le_of_ble_eq_true rfl⟩) (fun r_7 e_7 => ?_)
    refine lv_aload_n hx hb d_M_missing_33 rfl (lv_at hl 0 rfl) ?_
    refine ww_get (v := .ref (ad 13)) (C := R_M) (T := F_M) (N := 22) (ci := 5) hx hb hts i_M hown hK hw hM_5.1 rfl 18 (by decide) (hts _ k_673) (fun _ h9 => h9) rfl d_M_missing_34 ?_
    refine lv_iload_n hx hb d_M_missing_37 rfl (lv_at hl 1 rfl) ?_
    refine ww_iald (v := (F 13) i) hx hb hK hw 0 (show w_5 (ad 13) = some (cA g 12 (F 13)) from hM_5.2.1 13 (by decide)) rfl (vp_in_nI (by omega) (by decide)) (by rw [nI_clamp (by omega)]) d_M_missing_38 ?_
    refine lv_topi (fun v_8 e_8 => ?_)
    obtain rfl : b.2.2.2.2 = v_8 := (e_8.trans hB13).symm
    refine lv_iconst (v := -1) hx hb d_M_missing_39 (by decide) ?_
    refine lv_ixor hx hb d_M_missing_40 ?_
    refine lv_topi (fun v_9 e_9 => ?_)
    refine lv_iand hx hb d_M_missing_41 ?_
    refine lv_topi (fun v_10 e_10 => ?_)
    exact W.iret (v := v_10) hx hb hr (fun t ht hW => ⟨⟨v_10, w_5, rfl, Or.inl ⟨q_2, i, b, rfl, hi, hb0, by rw [e_10, e_7, e_9, wt_1 hRG hB1.1 (fun j p h => (hBp j p h).1)]; rfl, hM_5⟩, ww_t ht hw⟩, hS.F ht⟩) hS.2.2 d_M_missing_42

set_option maxHeartbeats 4000000 in
set_option maxRecDepth 100000 in
theorem c_M_count (l : Launch) (g : GT) (sz : Nat) (w : Nat → Option va_E) (mo : Nat) (ad : Nat → Nat) (t0 hd : Int32) (sn gn bn : Nat) (F : Nat → Nat → Int32) (gd : Nat → GD) (br : List BR) (hb : Bool) (v : Int32) (hM : isM g w mo ad t0 sn hd gn bn F) (hRG : RG gd gn F) (hRB : RBs F gn bn br) (ehd : hd = b2 hb) : Met l y_M_count (.code y_M_count b_M_count 4 ((some .int)) :: GW) ({ frames := 0, cells := 0, slots := 0, locals := 0 }) (prW g sz [.ref mo, .int v] w) (qI g sz w (fun r w1 => r = ctI sn gn bn (lyB (br.map (bxOf gd))) hd v ∧ isM g w1 mo ad 0 sn hd gn bn F)) 0 0 (gA w sz) := by
  refine Met.ofW (cc := b_M_count) (maxL := 4) (ret := (some .int)) (by decide) rfl ?_
  intro p e s m args below meth c s₁ B hml hv
  obtain ⟨rfl, hsz, hG, hw0⟩ := hv
  have hx := B.exec
  have hb := B.bytes
  have hr := B.returns
  have hts : ∀ w ∈ GW, w.before _ s = true := fun w h => atoms_spec (ws := .code y_M_count b_M_count 4 ((some .int)) :: GW) B.pre w (List.mem_cons_of_mem _ h)
  have hown : s.vm.findClass "DangerTablesModel" = some m.cls := findClass_of_methodNamed B.named
  have hlocks := B.notSynchronized
  have hf := hG.here
  have hK := hf.1
  subst hsz
  have hw := hw0.self s.heap.size
  have hAB : ∀ q, gA w s.heap.size q → gB g q := fun q h => h.elim (fun z => z.elim (fun _ he => hw0.inA he)) (fun h => Nat.le_trans hG.1 h)
  have hA : ∀ q, s.heap.size ≤ q → gA w s.heap.size q := fun q h => Or.inr h
  have hS : va_S (gA w s.heap.size) s.heap s.heap [] := va_S.rf
  have hl := lv_entry ([.ref mo, .int v]) (n := 4) (Nat.le_of_ble_eq_true rfl)
  rw [lg_entry_eq]
  generalize (lg_sl ([.ref mo, .int v]) ++ List.replicate (4 - (lg_sl ([.ref mo, .int v])).length) Slot.unset).toArray = ls at hl ⊢
  have hl : lv_has ls 4 [(0, .ref mo), (1, .int v)] := hl
  have hgn := hRG.1
  have hbn := hRB.1
  have hbl := hRB.2.1
  refine lv_aload_n hx hb d_M_count_0 rfl (lv_at hl 0 rfl) ?_
  refine lv_iconst (v := 0) hx hb d_M_count_1 (by decide) ?_
  refine ww_put (v := .int 0) (ty := .int) (C := R_M) (T := F_M) (N := 22) (ci := 5) (fs' := [.int 0, .ref (ad 0), .int (nI sn), .int hd, .ref (ad 1), .int (nI gn), .ref (ad 2), .ref (ad 3), .ref (ad 4), .ref (ad 5), .ref (ad 6), .ref (ad 7), .ref (ad 8), .int (nI bn), .ref (ad 9), .ref (ad 10), .ref (ad 11), .ref (ad 12), .ref (ad 13), .ref (ad 14), .ref (ad 15), .ref (ad 16)]) hx hb hts i_M ft_M ft_M_ok fn_M hown hK hw hS hM.1 rfl 0 (by decide) (hts _ k_655) (fun _ h9 => h9) rfl (by decide +kernel) rfl rfl (Nat.le_of_ble_eq_true rfl) rfl d_M_count_2 (fun H locs hw hS => ?_)
  obtain ⟨w_1, ew_1⟩ : ∃ zz9 : Nat → Option va_E, zz9 = va_up w mo (some (.inr (5, [.int 0, .ref (ad 0), .int (nI sn), .int hd, .ref (ad 1), .int (nI gn), .ref (ad 2), .ref (ad 3), .ref (ad 4), .ref (ad 5), .ref (ad 6), .ref (ad 7), .ref (ad 8), .int (nI bn), .ref (ad 9), .ref (ad 10), .ref (ad 11), .ref (ad 12), .ref (ad 13), .ref (ad 14), .ref (ad 15), .ref (ad 16)]))) := ⟨_, rfl⟩
  rw [← ew_1] at hw
  have hM_1 : isM g w_1 mo ad 0 sn hd gn bn F := by rw [ew_1]; exact isM_put hM
  refine lv_iconst (v := 0) hx hb d_M_count_5 (by decide) ?_
  refine lv_istore_n (lv' := [(2, .int 0), (0, .ref mo), (1, .int v)]) hx hb d_M_count_6 rfl hl (by decide) rfl (fun ls hl => ?_)
  refine lv_iconst (v := 0) hx hb d_M_count_7 (by decide) ?_
  refine lv_istore_n (lv' := [(3, .int 0), (2, .int 0), (0, .ref mo), (1, .int v)]) hx hb d_M_count_8 rfl hl (by decide) rfl (fun ls hl => ?_)
  have loop_9 : ∀ (k j : Nat) (acc : Int32) (ls : Array Slot), j ≤ bn → bn < j + k → lyB (br.map (bxOf gd)) = ((br.map (bxOf gd)).drop j).foldl lyF acc → lv_has ls 4 [(0, .ref mo), (1, .int v), (2, .int acc), (3, .int (nI j))] → W p l e (headSpec (.code y_M_count b_M_count 4 ((some .int)) :: GW) ({ frames := 0, cells := 0, slots := 0, locals := 0 })).room s m (#[.ref mo, .int v] : Array Value) below meth c H locs 0 0 (MQ below (qI g s.heap.size w (fun r w1 => r = ctI sn gn bn (lyB (br.map (bxOf gd))) hd v ∧ isM g w1 mo ad 0 sn hd gn bn F)) (#[.ref mo, .int v] : Array Value) s 0 0 (gA w s.heap.size)) (F0 m 9 ls []) := by
    intro k
    induction k with
    | zero =>
      intro j acc ls h1_9 h2_9
      exact absurd h2_9 (by omega)
    | succ k ih_9 =>
      intro j acc ls h1_9 h2_9 hI_9 hl
      refine lv_iload_n hx hb d_M_count_9 rfl (lv_at hl 3 rfl) ?_
      refine lv_aload_n hx hb d_M_count_10 rfl (lv_at hl 0 rfl) ?_
      refine ww_get (v := .int (nI bn)) (C := R_M) (T := F_M) (N := 22) (ci := 5) hx hb hts i_M hown hK hw hM_1.1 rfl 13 (by decide) (hts _ k_668) (fun _ h9 => h9) rfl d_M_count_11 ?_
      refine lv_icmp_ge (tgt := 40) hx hb d_M_count_14 (by decide) (fun c_2 => ?_) (fun c_2 => ?_)
      · have hgeb : bn ≤ j := lp_ge rfl c_2 (by omega) (by omega)
        have hdrb : (br.map (bxOf gd)).drop j = [] := dr_n (by rw [List.length_map]; omega)
        refine lv_iload_n hx hb d_M_count_40 rfl (lv_at hl 1 rfl) ?_
        refine lv_sw (N := 4) (tg := fun j => match j with | 0 => 76 | 1 => 81 | 2 => 86 | 3 => 91 | _ => 93) (td := 106) hx hb d_M_count_41 rfl (by decide) (by decide) (fun j hj => by rcases (show j = 0 ∨ j = 1 ∨ j = 2 ∨ j = 3 ∨ j = 4 by omega) with rfl | rfl | rfl | rfl | rfl <;> exact ⟨_, rfl, by decide⟩) (fun j_3 hj_3 ej_3 => ?_) (fun hd_3 => ?_)
        · rcases (show j_3 = 0 ∨ j_3 = 1 ∨ j_3 = 2 ∨ j_3 = 3 ∨ j_3 = 4 by omega) with rfl | rfl | rfl | rfl | rfl
          · refine lv_aload_n hx hb d_M_count_76 rfl (lv_at hl 0 rfl) ?_
            refine ww_get (v := .int (nI sn)) (C := R_M) (T := F_M) (N := 22) (ci := 5) hx hb hts i_M hown hK hw hM_1.1 rfl 2 (by decide) (hts _ k_657) (fun _ h9 => h9) rfl d_M_count_77 ?_
            exact W.iret (v := (nI sn)) hx hb hr (fun t ht hW => ⟨⟨(nI sn), w_1, rfl, ⟨by rw [ctI, ej_3, if_pos (by rfl)], hM_1⟩, ww_t ht hw⟩, hS.F ht⟩) hS.2.2 d_M_count_80
          · refine lv_aload_n hx hb d_M_count_81 rfl (lv_at hl 0 rfl) ?_
            refine ww_get (v := .int (nI gn)) (C := R_M) (T := F_M) (N := 22) (ci := 5) hx hb hts i_M hown hK hw hM_1.1 rfl 5 (by decide) (hts _ k_660) (fun _ h9 => h9) rfl d_M_count_82 ?_
            exact W.iret (v := (nI gn)) hx hb hr (fun t ht hW => ⟨⟨(nI gn), w_1, rfl, ⟨by rw [ctI, ej_3, if_neg (by decide), if_pos (by rfl)], hM_1⟩, ww_t ht hw⟩, hS.F ht⟩) hS.2.2 d_M_count_85
          · refine lv_aload_n hx hb d_M_count_86 rfl (lv_at hl 0 rfl) ?_
            refine ww_get (v := .int (nI bn)) (C := R_M) (T := F_M) (N := 22) (ci := 5) hx hb hts i_M hown hK hw hM_1.1 rfl 13 (by decide) (hts _ k_668) (fun _ h9 => h9) rfl d_M_count_87 ?_
            exact W.iret (v := (nI bn)) hx hb hr (fun t ht hW => ⟨⟨(nI bn), w_1, rfl, ⟨by rw [ctI, ej_3, if_neg (by decide), if_neg (by decide), if_pos (by rfl)], hM_1⟩, ww_t ht hw⟩, hS.F ht⟩) hS.2.2 d_M_count_90
          · refine lv_iload_n hx hb d_M_count_91 rfl (lv_at hl 2 rfl) ?_
            exact W.iret (v := acc) hx hb hr (fun t ht hW => ⟨⟨acc, w_1, rfl, ⟨by rw [ctI, ej_3, if_neg (by decide), if_neg (by decide), if_neg (by decide), if_pos (by rfl)]; rw [hI_9, hdrb]; rfl, hM_1⟩, ww_t ht hw⟩, hS.F ht⟩) hS.2.2 d_M_count_92
          · refine lv_aload_n hx hb d_M_count_93 rfl (lv_at hl 0 rfl) ?_
            refine ww_get (v := .int hd) (C := R_M) (T := F_M) (N := 22) (ci := 5) hx hb hts i_M hown hK hw hM_1.1 rfl 3 (by decide) (hts _ k_658) (fun _ h9 => h9) rfl d_M_count_94 ?_
            refine lv_if_eq (tgt := 104) hx hb d_M_count_97 (by decide) (fun c_4 => ?_) (fun c_4 => ?_)
            · have q_4 := b2_f ehd c_4
              refine lv_iconst (v := 0) hx hb d_M_count_104 (by decide) ?_
              exact W.iret (v := 0) hx hb hr (fun t ht hW => ⟨⟨0, w_1, rfl, ⟨by rw [ctI, ej_3, if_neg (by decide), if_neg (by decide), if_neg (by decide), if_neg (by decide), if_pos (by rfl)]; rw [ehd, q_4]; rfl, hM_1⟩, ww_t ht hw⟩, hS.F ht⟩) hS.2.2 d_M_count_105
            · have q_4 := b2_t ehd c_4
              refine lv_iconst (v := 1) hx hb d_M_count_100 (by decide) ?_
              refine lv_goto (tgt := 105) hx hb d_M_count_101 (by decide) ?_
              exact W.iret (v := 1) hx hb hr (fun t ht hW => ⟨⟨1, w_1, rfl, ⟨by rw [ctI, ej_3, if_neg (by decide), if_neg (by decide), if_neg (by decide), if_neg (by decide), if_pos (by rfl)]; rw [ehd, q_4]; rfl, hM_1⟩, ww_t ht hw⟩, hS.F ht⟩) hS.2.2 d_M_count_105
        · refine lv_iconst (v := -1) hx hb d_M_count_106 (by decide) ?_
          exact W.iret (v := (-1)) hx hb hr (fun t ht hW => ⟨⟨(-1), w_1, rfl, ⟨by rw [ctI, if_neg (show ¬ v = 0 from hd_3 0 (by omega)), if_neg (show ¬ v = 1 from hd_3 1 (by omega)), if_neg (show ¬ v = 2 from hd_3 2 (by omega)), if_neg (show ¬ v = 3 from hd_3 3 (by omega)), if_neg (show ¬ v = 4 from hd_3 4 (by omega))], hM_1⟩, ww_t ht hw⟩, hS.F ht⟩) hS.2.2 d_M_count_107
      · have hltb : j < bn := lp_lt rfl c_2 (by omega) (by omega)
        obtain ⟨bj, hb0⟩ : ∃ b, br[j]? = some b := ⟨_, List.getElem?_eq_getElem (by omega)⟩
        have hBj := hRB.2.2 j bj hb0
        obtain ⟨hB1j, hB9j, hB10j, hB13j, hBzj, hBpj⟩ := id hBj
        have hdrb := dr_c (bx_at (gd := gd) hb0)
        refine lv_iload_n hx hb d_M_count_17 rfl (lv_at hl 2 rfl) ?_
        refine lv_aload_n hx hb d_M_count_18 rfl (lv_at hl 0 rfl) ?_
        refine ww_get (v := .ref (ad 10)) (C := R_M) (T := F_M) (N := 22) (ci := 5) hx hb hts i_M hown hK hw hM_1.1 rfl 15 (by decide) (hts _ k_670) (fun _ h9 => h9) rfl d_M_count_19 ?_
        refine lv_iload_n hx hb d_M_count_22 rfl (lv_at hl 3 rfl) ?_
        refine ww_iald (v := (F 10) j) hx hb hK hw 0 (show w_1 (ad 10) = some (cA g 12 (F 10)) from hM_1.2.1 10 (by decide)) rfl (vp_in_nI (by omega) (by decide)) (by rw [nI_clamp (by omega)]) d_M_count_23 ?_
        refine lv_topi (fun v_5 e_5 => ?_)
        obtain rfl : bj.2.1 = v_5 := (e_5.trans hB10j).symm
        refine lv_if_lt (tgt := 31) hx hb d_M_count_24 (by decide) (fun c_6 => ?_) (fun c_6 => ?_)
        · have hly : bj.2.1 = -1 := (zn_neg (hBzj.imp And.left And.left)).mp c_6
          refine lv_iconst (v := 0) hx hb d_M_count_31 (by decide) ?_
          refine lv_iadd hx hb d_M_count_32 ?_
          refine lv_topi (fun v_7 e_7 => ?_)
          refine lv_istore_n (lv' := [(2, .int v_7), (0, .ref mo), (1, .int v), (3, .int (nI j))]) hx hb d_M_count_33 rfl hl (by decide) rfl (fun ls hl => ?_)
          refine lv_iinc (v := (nI (j + 1))) (lv' := [(3, .int (nI (j + 1))), (2, .int v_7), (0, .ref mo), (1, .int v)]) hx hb d_M_count_34 hl (k := 3) rfl (nI_1 _) (by decide) rfl (fun ls hl => ?_)
          refine lv_goto (tgt := 9) hx hb d_M_count_37 (by decide) ?_
          exact ih_9 (j + 1) v_7 ls (by omega) (by omega) (by rw [hI_9, hdrb, List.foldl_cons]; congr 1; simp [lyF, bxOf, hly, e_7]) (lv_sub hl [2, 3, 1, 0] rfl)
        · have hly : ¬ bj.2.1 = -1 := fun z => c_6 ((zn_neg (hBzj.imp And.left And.left)).mpr z)
          refine lv_iconst (v := 1) hx hb d_M_count_27 (by decide) ?_
          refine lv_goto (tgt := 32) hx hb d_M_count_28 (by decide) ?_
          refine lv_iadd hx hb d_M_count_32 ?_
          refine lv_topi (fun v_8 e_8 => ?_)
          refine lv_istore_n (lv' := [(2, .int v_8), (0, .ref mo), (1, .int v), (3, .int (nI j))]) hx hb d_M_count_33 rfl hl (by decide) rfl (fun ls hl => ?_)
          refine lv_iinc (v := (nI (j + 1))) (lv' := [(3, .int (nI (j + 1))), (2, .int v_8), (0, .ref mo), (1, .int v)]) hx hb d_M_count_34 hl (k := 3) rfl (nI_1 _) (by decide) rfl (fun ls hl => ?_)
          refine lv_goto (tgt := 9) hx hb d_M_count_37 (by decide) ?_
          exact ih_9 (j + 1) v_8 ls (by omega) (by omega) (by rw [hI_9, hdrb, List.foldl_cons]; congr 1; simp [lyF, bxOf, hly, e_8]) (lv_sub hl [2, 3, 1, 0] rfl)
  exact loop_9 (bn + 1) 0 0 ls (by omega) (by omega) rfl (lv_sub hl [2, 3, 1, 0] rfl)

theorem lk7b {x : Int32} (h : inR x 0 6 = true) : ∃ k : Nat, k < 7 ∧ x = nI k := by
  rw [lk_eq, Bool.and_eq_true, Bool.not_eq_true', Bool.not_eq_true', decide_eq_false_iff_not, decide_eq_false_iff_not] at h
  exact lk7 h.1 (Int32.not_le.mp h.2)
set_option maxHeartbeats 4000000 in
set_option maxRecDepth 100000 in
theorem c_M_look (l : Launch) (g : GT) (sz : Nat) (w : Nat → Option va_E) (mo : Nat) (ad : Nat → Nat) (t0 hd : Int32) (sn gn bn : Nat) (F : Nat → Nat → Int32) (gd : Nat → GD) (br : List BR) (u v : Int32) (hM : isM g w mo ad t0 sn hd gn bn F) (hRG : RG gd gn F) (hRB : RBs F gn bn br) : Met l y_M_look (.code y_M_look b_M_look 6 ((some .int)) :: GW) ({ frames := 1, cells := 0, slots := 0, locals := 22 }) (prW g sz [.ref mo, .int u, .int v] w) (qI g sz w (fun r w1 => ((inL u bn && inR v 0 6) = true ∧ ∃ (i9 : Nat) (b9 : BR) (k9 : Nat), u = nI i9 ∧ i9 < bn ∧ br[i9]? = some b9 ∧ v = nI k9 ∧ k9 < 7 ∧ r = lkI (bxOf gd b9) k9 ∧ isM g w1 mo ad 0 sn hd gn bn F) ∨ ((inL u bn && inR v 0 6) = false ∧ r = 0 ∧ isM g w1 mo ad 1 sn hd gn bn F))) 0 0 (gA w sz) := by
  refine Met.ofW (cc := b_M_look) (maxL := 6) (ret := (some .int)) (by decide) rfl ?_
  intro p e s m args below meth c s₁ B hml hv
  obtain ⟨rfl, hsz, hG, hw0⟩ := hv
  have hx := B.exec
  have hb := B.bytes
  have hr := B.returns
  have hts : ∀ w ∈ GW, w.before _ s = true := fun w h => atoms_spec (ws := .code y_M_look b_M_look 6 ((some .int)) :: GW) B.pre w (List.mem_cons_of_mem _ h)
  have hown : s.vm.findClass "DangerTablesModel" = some m.cls := findClass_of_methodNamed B.named
  have hlocks := B.notSynchronized
  have hf := hG.here
  have hK := hf.1
  subst hsz
  have hw := hw0.self s.heap.size
  have hAB : ∀ q, gA w s.heap.size q → gB g q := fun q h => h.elim (fun z => z.elim (fun _ he => hw0.inA he)) (fun h => Nat.le_trans hG.1 h)
  have hA : ∀ q, s.heap.size ≤ q → gA w s.heap.size q := fun q h => Or.inr h
  have hS : va_S (gA w s.heap.size) s.heap s.heap [] := va_S.rf
  have hl := lv_entry ([.ref mo, .int u, .int v]) (n := 6) (Nat.le_of_ble_eq_true rfl)
  rw [lg_entry_eq]
  generalize (lg_sl ([.ref mo, .int u, .int v]) ++ List.replicate (6 - (lg_sl ([.ref mo, .int u, .int v])).length) Slot.unset).toArray = ls at hl ⊢
  have hl : lv_has ls 6 [(0, .ref mo), (1, .int u), (2, .int v)] := hl
  have hgn := hRG.1
  have hbn := hRB.1
  have hbl := hRB.2.1
  refine lv_aload_n hx hb d_M_look_0 rfl (lv_at hl 0 rfl) ?_
  refine lv_iload_n hx hb d_M_look_1 rfl (lv_at hl 1 rfl) ?_
  refine wr_i (cV (As := [.int u]) (rest := []) (C := "DangerTablesModel") 1 ⟨hx, hb, hml, hown, hts⟩ (c_M_isBox l g w mo ad t0 hd sn gn bn F u hM) k_783 k_780 k_7 k_782 kp_22 (by decide +kernel) ⟨Nat.le_of_ble_eq_true rfl, Nat.le_of_ble_eq_true rfl⟩ rfl rfl ⟨prR_blind _ _ _, hw.recv hK hM.1 rfl, prR_at hG hAB hS hw⟩ rfl hl.1 rfl (Nat.le_of_ble_eq_true rfl) d_M_look_2 ⟨Nat.le_of_ble_eq_true rfl, Nat.le_of_ble_eq_true rfl⟩) (fun r_1 e_1 => ?_)
  refine lv_if_eq (tgt := 18) hx hb d_M_look_5 (by decide) (fun c_2 => ?_) (fun c_2 => ?_)
  · have q_2 := b2_f e_1 c_2
    refine lv_aload_n hx hb d_M_look_18 rfl (lv_at hl 0 rfl) ?_
    refine lv_iconst (v := 1) hx hb d_M_look_19 (by decide) ?_
    refine ww_i (cV (As := [.int 1]) (rest := []) (C := "DangerTablesModel") 1 ⟨hx, hb, hml, hown, hts⟩ (c_M_refuse l g s.heap.size w mo ad t0 hd sn gn bn F 1 hM) k_759 k_756 k_7 k_758 kp_19 (by decide +kernel) ⟨Nat.le_of_ble_eq_true rfl, Nat.le_of_ble_eq_true rfl⟩ rfl rfl ⟨prW_blind _ _ _ _, hw.recv hK hM.1 rfl, prW_at hG hAB hS hw⟩ rfl hl.1 rfl (Nat.le_of_ble_eq_true rfl) d_M_look_20 ⟨Nat.le_of_ble_eq_true rfl, Nat.le_of_ble_eq_true rfl⟩) hw hS hA (fun r_3 w_3 H locs e_3 hw hS hz_3 hk_3 hg_3 => ?_)
    exact W.iret (v := r_3) hx hb hr (fun t ht hW => ⟨⟨r_3, w_3, rfl, Or.inr ⟨by simp [q_2], e_3.1, e_3.2⟩, ww_t ht hw⟩, hS.F ht⟩) hS.2.2 d_M_look_23
  · have q_2 := b2_t e_1 c_2
    refine lv_iload_n hx hb d_M_look_8 rfl (lv_at hl 2 rfl) ?_
    refine lv_iconst (v := 0) hx hb d_M_look_9 (by decide) ?_
    refine lv_bipush (v := 6) hx hb d_M_look_10 (by decide) ?_
    refine wr_i (cS (As := [.int v, .int 0, .int 6]) (rest := []) 3 ⟨hx, hb, hml, hown, hts⟩ (c_M_in l v 0 6) k_733 k_731 k_7 k_732 (by decide +kernel) ⟨Nat.le_of_ble_eq_true rfl, Nat.le_of_ble_eq_true rfl⟩ rfl rfl ⟨prN_blind _, fun _ _ _ => ⟨rfl, trivial⟩⟩ rfl hl.1 rfl (Nat.le_of_ble_eq_true rfl) d_M_look_12 ⟨Nat.le_of_ble_eq_true rfl, Nat.le_of_ble_eq_true rfl⟩) (fun r_4 e_4 => ?_)
    refine lv_if_ne (tgt := 24) hx hb d_M_look_15 (by decide) (fun c_5 => ?_) (fun c_5 => ?_)
    · have q_5 := b2_t e_4 c_5
      obtain ⟨i, hi, hui⟩ := inL_of q_2 (by omega)
      subst hui
      obtain ⟨b, hb0⟩ : ∃ b, br[i]? = some b := ⟨_, List.getElem?_eq_getElem (by omega)⟩
      have hB := hRB.2.2 i b hb0
      obtain ⟨hB1, hB9, hB10, hB13, hBz, hBp⟩ := id hB
      refine lv_aload_n hx hb d_M_look_24 rfl (lv_at hl 0 rfl) ?_
      refine lv_iconst (v := 0) hx hb d_M_look_25 (by decide) ?_
      refine ww_put (v := .int 0) (ty := .int) (C := R_M) (T := F_M) (N := 22) (ci := 5) (fs' := [.int 0, .ref (ad 0), .int (nI sn), .int hd, .ref (ad 1), .int (nI gn), .ref (ad 2), .ref (ad 3), .ref (ad 4), .ref (ad 5), .ref (ad 6), .ref (ad 7), .ref (ad 8), .int (nI bn), .ref (ad 9), .ref (ad 10), .ref (ad 11), .ref (ad 12), .ref (ad 13), .ref (ad 14), .ref (ad 15), .ref (ad 16)]) hx hb hts i_M ft_M ft_M_ok fn_M hown hK hw hS hM.1 rfl 0 (by decide) (hts _ k_655) (fun _ h9 => h9) rfl (by decide +kernel) rfl rfl (Nat.le_of_ble_eq_true rfl) rfl d_M_look_26 (fun H locs hw hS => ?_)
      obtain ⟨w_6, ew_6⟩ : ∃ zz9 : Nat → Option va_E, zz9 = va_up w mo (some (.inr (5, [.int 0, .ref (ad 0), .int (nI sn), .int hd, .ref (ad 1), .int (nI gn), .ref (ad 2), .ref (ad 3), .ref (ad 4), .ref (ad 5), .ref (ad 6), .ref (ad 7), .ref (ad 8), .int (nI bn), .ref (ad 9), .ref (ad 10), .ref (ad 11), .ref (ad 12), .ref (ad 13), .ref (ad 14), .ref (ad 15), .ref (ad 16)]))) := ⟨_, rfl⟩
      rw [← ew_6] at hw
      have hM_6 : isM g w_6 mo ad 0 sn hd gn bn F := by rw [ew_6]; exact isM_put hM
      refine lv_iconst (v := 0) hx hb d_M_look_29 (by decide) ?_
      refine lv_istore_n (lv' := [(3, .int 0), (0, .ref mo), (1, .int (nI i)), (2, .int v)]) hx hb d_M_look_30 rfl hl (by decide) rfl (fun ls hl => ?_)
      refine lv_iconst (v := 0) hx hb d_M_look_31 (by decide) ?_
      refine lv_istore (lv' := [(4, .int 0), (3, .int 0), (0, .ref mo), (1, .int (nI i)), (2, .int v)]) hx hb d_M_look_32 hl (by decide) rfl (fun ls hl => ?_)
      refine lv_iconst (v := 4) hx hb d_M_look_34 (by decide) ?_
      refine lv_iload_n hx hb d_M_look_35 rfl (lv_at hl 3 rfl) ?_
      refine lv_imul hx hb d_M_look_36 ?_
      refine lv_topi (fun v_7 e_7 => ?_)
      obtain rfl : v_7 = nI (4 * i) := by rw [e_7]; exact pk_mul 4 i
      refine lv_istore (lv' := [(5, .int (nI (4 * i))), (4, .int 0), (3, .int 0), (0, .ref mo), (1, .int (nI i)), (2, .int v)]) hx hb d_M_look_37 hl (by decide) rfl (fun ls hl => ?_)
      have loop_39 : ∀ (k j : Nat) (acc lmc : Int32) (ls : Array Slot), j ≤ b.1.length → b.1.length < j + k → kgB (b.1.map (prOf gd)) = ((b.1.map (prOf gd)).drop j).foldl kgF acc ∧ lmB (b.1.map (prOf gd)) = ((b.1.map (prOf gd)).drop j).foldl lmF lmc → lv_has ls 6 [(0, .ref mo), (1, .int (nI i)), (2, .int v), (3, .int acc), (4, .int lmc), (5, .int (nI (4 * i + j)))] → W p l e (headSpec (.code y_M_look b_M_look 6 ((some .int)) :: GW) ({ frames := 1, cells := 0, slots := 0, locals := 22 })).room s m (#[.ref mo, .int (nI i), .int v] : Array Value) below meth c H locs 0 0 (MQ below (qI g s.heap.size w (fun r w1 => ((inL (nI i) bn && inR v 0 6) = true ∧ ∃ (i9 : Nat) (b9 : BR) (k9 : Nat), (nI i) = nI i9 ∧ i9 < bn ∧ br[i9]? = some b9 ∧ v = nI k9 ∧ k9 < 7 ∧ r = lkI (bxOf gd b9) k9 ∧ isM g w1 mo ad 0 sn hd gn bn F) ∨ ((inL (nI i) bn && inR v 0 6) = false ∧ r = 0 ∧ isM g w1 mo ad 1 sn hd gn bn F))) (#[.ref mo, .int (nI i), .int v] : Array Value) s 0 0 (gA w s.heap.size)) (F0 m 39 ls []) := by
        intro k
        induction k with
        | zero =>
          intro j acc lmc ls h1_39 h2_39
          exact absurd h2_39 (by omega)
        | succ k ih_39 =>
          intro j acc lmc ls h1_39 h2_39 hI_39 hl
          refine lv_iload hx hb d_M_look_39 (lv_at hl 5 rfl) ?_
          refine lv_iconst (v := 4) hx hb d_M_look_41 (by decide) ?_
          refine lv_iload_n hx hb d_M_look_42 rfl (lv_at hl 1 rfl) ?_
          refine lv_imul hx hb d_M_look_43 ?_
          refine lv_topi (fun v_8 e_8 => ?_)
          obtain rfl : v_8 = nI (4 * i) := by rw [e_8]; exact pk_mul 4 i
          refine lv_aload_n hx hb d_M_look_44 rfl (lv_at hl 0 rfl) ?_
          refine ww_get (v := .ref (ad 9)) (C := R_M) (T := F_M) (N := 22) (ci := 5) hx hb hts i_M hown hK hw hM_6.1 rfl 14 (by decide) (hts _ k_669) (fun _ h9 => h9) rfl d_M_look_45 ?_
          refine lv_iload_n hx hb d_M_look_48 rfl (lv_at hl 1 rfl) ?_
          refine ww_iald (v := (F 9) i) hx hb hK hw 0 (show w_6 (ad 9) = some (cA g 12 (F 9)) from hM_6.2.1 9 (by decide)) rfl (vp_in_nI (by omega) (by decide)) (by rw [nI_clamp (by omega)]) d_M_look_49 ?_
          refine lv_topi (fun v_9 e_9 => ?_)
          obtain rfl : nI b.1.length = v_9 := (e_9.trans hB9).symm
          refine lv_iadd hx hb d_M_look_50 ?_
          refine lv_topi (fun v_10 e_10 => ?_)
          obtain rfl : v_10 = nI ((4 * i) + b.1.length) := by rw [e_10]; exact nI_add (4 * i) b.1.length
          refine lv_icmp_ge (tgt := 89) hx hb d_M_look_51 (by decide) (fun c_11 => ?_) (fun c_11 => ?_)
          · have hge : b.1.length ≤ j := lp_ge2 c_11 (by omega) (by omega)
            have hdr : (b.1.map (prOf gd)).drop j = [] := dr_n (by rw [List.length_map]; exact hge)
            refine lv_iload_n hx hb d_M_look_89 rfl (lv_at hl 2 rfl) ?_
            refine lv_sw (N := 5) (tg := fun j => match j with | 0 => 128 | 1 => 135 | 2 => 142 | 3 => 162 | 4 => 182 | _ => 184) (td := 187) hx hb d_M_look_90 rfl (by decide) (by decide) (fun j hj => by rcases (show j = 0 ∨ j = 1 ∨ j = 2 ∨ j = 3 ∨ j = 4 ∨ j = 5 by omega) with rfl | rfl | rfl | rfl | rfl | rfl <;> exact ⟨_, rfl, by decide⟩) (fun j_12 hj_12 ej_12 => ?_) (fun hd_12 => ?_)
            · rcases (show j_12 = 0 ∨ j_12 = 1 ∨ j_12 = 2 ∨ j_12 = 3 ∨ j_12 = 4 ∨ j_12 = 5 by omega) with rfl | rfl | rfl | rfl | rfl | rfl
              · refine lv_aload_n hx hb d_M_look_128 rfl (lv_at hl 0 rfl) ?_
                refine ww_get (v := .ref (ad 9)) (C := R_M) (T := F_M) (N := 22) (ci := 5) hx hb hts i_M hown hK hw hM_6.1 rfl 14 (by decide) (hts _ k_669) (fun _ h9 => h9) rfl d_M_look_129 ?_
                refine lv_iload_n hx hb d_M_look_132 rfl (lv_at hl 1 rfl) ?_
                refine ww_iald (v := (F 9) i) hx hb hK hw 0 (show w_6 (ad 9) = some (cA g 12 (F 9)) from hM_6.2.1 9 (by decide)) rfl (vp_in_nI (by omega) (by decide)) (by rw [nI_clamp (by omega)]) d_M_look_133 ?_
                refine lv_topi (fun v_13 e_13 => ?_)
                obtain rfl : nI b.1.length = v_13 := (e_13.trans hB9).symm
                exact W.iret (v := (nI b.1.length)) hx hb hr (fun t ht hW => ⟨⟨(nI b.1.length), w_6, rfl, Or.inl ⟨by rw [q_2, q_5]; rfl, i, b, 0, rfl, hi, hb0, ej_12, by omega, by show nI b.1.length = nI (b.1.map (prOf gd)).length; rw [List.length_map], hM_6⟩, ww_t ht hw⟩, hS.F ht⟩) hS.2.2 d_M_look_134
              · refine lv_aload_n hx hb d_M_look_135 rfl (lv_at hl 0 rfl) ?_
                refine ww_get (v := .ref (ad 10)) (C := R_M) (T := F_M) (N := 22) (ci := 5) hx hb hts i_M hown hK hw hM_6.1 rfl 15 (by decide) (hts _ k_670) (fun _ h9 => h9) rfl d_M_look_136 ?_
                refine lv_iload_n hx hb d_M_look_139 rfl (lv_at hl 1 rfl) ?_
                refine ww_iald (v := (F 10) i) hx hb hK hw 0 (show w_6 (ad 10) = some (cA g 12 (F 10)) from hM_6.2.1 10 (by decide)) rfl (vp_in_nI (by omega) (by decide)) (by rw [nI_clamp (by omega)]) d_M_look_140 ?_
                refine lv_topi (fun v_14 e_14 => ?_)
                obtain rfl : b.2.1 = v_14 := (e_14.trans hB10).symm
                exact W.iret (v := b.2.1) hx hb hr (fun t ht hW => ⟨⟨b.2.1, w_6, rfl, Or.inl ⟨by rw [q_2, q_5]; rfl, i, b, 1, rfl, hi, hb0, ej_12, by omega, rfl, hM_6⟩, ww_t ht hw⟩, hS.F ht⟩) hS.2.2 d_M_look_141
              · refine lv_aload_n hx hb d_M_look_142 rfl (lv_at hl 0 rfl) ?_
                refine ww_get (v := .ref (ad 10)) (C := R_M) (T := F_M) (N := 22) (ci := 5) hx hb hts i_M hown hK hw hM_6.1 rfl 15 (by decide) (hts _ k_670) (fun _ h9 => h9) rfl d_M_look_143 ?_
                refine lv_iload_n hx hb d_M_look_146 rfl (lv_at hl 1 rfl) ?_
                refine ww_iald (v := (F 10) i) hx hb hK hw 0 (show w_6 (ad 10) = some (cA g 12 (F 10)) from hM_6.2.1 10 (by decide)) rfl (vp_in_nI (by omega) (by decide)) (by rw [nI_clamp (by omega)]) d_M_look_147 ?_
                refine lv_topi (fun v_15 e_15 => ?_)
                obtain rfl : b.2.1 = v_15 := (e_15.trans hB10).symm
                refine lv_if_ge (tgt := 155) hx hb d_M_look_148 (by decide) (fun c_16 => ?_) (fun c_16 => ?_)
                · obtain ⟨hzz, h11, h12, hsl⟩ := hBz.resolve_left (fun z => absurd (z.1 ▸ c_16) (by decide))
                  refine lv_aload_n hx hb d_M_look_155 rfl (lv_at hl 0 rfl) ?_
                  refine ww_get (v := .ref (ad 11)) (C := R_M) (T := F_M) (N := 22) (ci := 5) hx hb hts i_M hown hK hw hM_6.1 rfl 16 (by decide) (hts _ k_671) (fun _ h9 => h9) rfl d_M_look_156 ?_
                  refine lv_iload_n hx hb d_M_look_159 rfl (lv_at hl 1 rfl) ?_
                  refine ww_iald (v := (F 11) i) hx hb hK hw 0 (show w_6 (ad 11) = some (cA g 12 (F 11)) from hM_6.2.1 11 (by decide)) rfl (vp_in_nI (by omega) (by decide)) (by rw [nI_clamp (by omega)]) d_M_look_160 ?_
                  refine lv_topi (fun v_17 e_17 => ?_)
                  obtain rfl : b.2.2.1 = v_17 := (e_17.trans h11).symm
                  exact W.iret (v := b.2.2.1) hx hb hr (fun t ht hW => ⟨⟨b.2.2.1, w_6, rfl, Or.inl ⟨by rw [q_2, q_5]; rfl, i, b, 2, rfl, hi, hb0, ej_12, by omega, rfl, hM_6⟩, ww_t ht hw⟩, hS.F ht⟩) hS.2.2 d_M_look_161
                · have hng := hBz.resolve_right (fun z => by obtain ⟨k9, h9, e9⟩ := isZn_of z.1; exact c_16 (by rw [e9]; exact nI_pos' (by omega)))
                  refine lv_iconst (v := -1) hx hb d_M_look_151 (by decide) ?_
                  refine lv_goto (tgt := 161) hx hb d_M_look_152 (by decide) ?_
                  exact W.iret (v := (-1)) hx hb hr (fun t ht hW => ⟨⟨(-1), w_6, rfl, Or.inl ⟨by rw [q_2, q_5]; rfl, i, b, 2, rfl, hi, hb0, ej_12, by omega, by show -1 = b.2.2.1; first | exact hng.2.1.symm | exact hng.2.2.symm, hM_6⟩, ww_t ht hw⟩, hS.F ht⟩) hS.2.2 d_M_look_161
              · refine lv_aload_n hx hb d_M_look_162 rfl (lv_at hl 0 rfl) ?_
                refine ww_get (v := .ref (ad 10)) (C := R_M) (T := F_M) (N := 22) (ci := 5) hx hb hts i_M hown hK hw hM_6.1 rfl 15 (by decide) (hts _ k_670) (fun _ h9 => h9) rfl d_M_look_163 ?_
                refine lv_iload_n hx hb d_M_look_166 rfl (lv_at hl 1 rfl) ?_
                refine ww_iald (v := (F 10) i) hx hb hK hw 0 (show w_6 (ad 10) = some (cA g 12 (F 10)) from hM_6.2.1 10 (by decide)) rfl (vp_in_nI (by omega) (by decide)) (by rw [nI_clamp (by omega)]) d_M_look_167 ?_
                refine lv_topi (fun v_18 e_18 => ?_)
                obtain rfl : b.2.1 = v_18 := (e_18.trans hB10).symm
                refine lv_if_ge (tgt := 175) hx hb d_M_look_168 (by decide) (fun c_19 => ?_) (fun c_19 => ?_)
                · obtain ⟨hzz, h11, h12, hsl⟩ := hBz.resolve_left (fun z => absurd (z.1 ▸ c_19) (by decide))
                  refine lv_aload_n hx hb d_M_look_175 rfl (lv_at hl 0 rfl) ?_
                  refine ww_get (v := .ref (ad 12)) (C := R_M) (T := F_M) (N := 22) (ci := 5) hx hb hts i_M hown hK hw hM_6.1 rfl 17 (by decide) (hts _ k_672) (fun _ h9 => h9) rfl d_M_look_176 ?_
                  refine lv_iload_n hx hb d_M_look_179 rfl (lv_at hl 1 rfl) ?_
                  refine ww_iald (v := (F 12) i) hx hb hK hw 0 (show w_6 (ad 12) = some (cA g 12 (F 12)) from hM_6.2.1 12 (by decide)) rfl (vp_in_nI (by omega) (by decide)) (by rw [nI_clamp (by omega)]) d_M_look_180 ?_
                  refine lv_topi (fun v_20 e_20 => ?_)
                  obtain rfl : b.2.2.2.1 = v_20 := (e_20.trans h12).symm
                  exact W.iret (v := b.2.2.2.1) hx hb hr (fun t ht hW => ⟨⟨b.2.2.2.1, w_6, rfl, Or.inl ⟨by rw [q_2, q_5]; rfl, i, b, 3, rfl, hi, hb0, ej_12, by omega, rfl, hM_6⟩, ww_t ht hw⟩, hS.F ht⟩) hS.2.2 d_M_look_181
                · have hng := hBz.resolve_right (fun z => by obtain ⟨k9, h9, e9⟩ := isZn_of z.1; exact c_19 (by rw [e9]; exact nI_pos' (by omega)))
                  refine lv_iconst (v := -1) hx hb d_M_look_171 (by decide) ?_
                  refine lv_goto (tgt := 181) hx hb d_M_look_172 (by decide) ?_
                  exact W.iret (v := (-1)) hx hb hr (fun t ht hW => ⟨⟨(-1), w_6, rfl, Or.inl ⟨by rw [q_2, q_5]; rfl, i, b, 3, rfl, hi, hb0, ej_12, by omega, by show -1 = b.2.2.2.1; first | exact hng.2.1.symm | exact hng.2.2.symm, hM_6⟩, ww_t ht hw⟩, hS.F ht⟩) hS.2.2 d_M_look_181
              · refine lv_iload_n hx hb d_M_look_182 rfl (lv_at hl 3 rfl) ?_
                exact W.iret (v := acc) hx hb hr (fun t ht hW => ⟨⟨acc, w_6, rfl, Or.inl ⟨by rw [q_2, q_5]; rfl, i, b, 4, rfl, hi, hb0, ej_12, by omega, by show _ = kgB (bxOf gd b).1; rw [show kgB (bxOf gd b).1 = _ from hI_39.1, hdr]; rfl, hM_6⟩, ww_t ht hw⟩, hS.F ht⟩) hS.2.2 d_M_look_183
              · refine lv_iload hx hb d_M_look_184 (lv_at hl 4 rfl) ?_
                exact W.iret (v := lmc) hx hb hr (fun t ht hW => ⟨⟨lmc, w_6, rfl, Or.inl ⟨by rw [q_2, q_5]; rfl, i, b, 5, rfl, hi, hb0, ej_12, by omega, by show _ = lmB (bxOf gd b).1; rw [show lmB (bxOf gd b).1 = _ from hI_39.2, hdr]; rfl, hM_6⟩, ww_t ht hw⟩, hS.F ht⟩) hS.2.2 d_M_look_186
            · refine lv_aload_n hx hb d_M_look_187 rfl (lv_at hl 0 rfl) ?_
              refine ww_get (v := .ref (ad 13)) (C := R_M) (T := F_M) (N := 22) (ci := 5) hx hb hts i_M hown hK hw hM_6.1 rfl 18 (by decide) (hts _ k_673) (fun _ h9 => h9) rfl d_M_look_188 ?_
              refine lv_iload_n hx hb d_M_look_191 rfl (lv_at hl 1 rfl) ?_
              refine ww_iald (v := (F 13) i) hx hb hK hw 0 (show w_6 (ad 13) = some (cA g 12 (F 13)) from hM_6.2.1 13 (by decide)) rfl (vp_in_nI (by omega) (by decide)) (by rw [nI_clamp (by omega)]) d_M_look_192 ?_
              refine lv_topi (fun v_21 e_21 => ?_)
              obtain rfl : b.2.2.2.2 = v_21 := (e_21.trans hB13).symm
              exact W.iret (v := b.2.2.2.2) hx hb hr (fun t ht hW => ⟨⟨b.2.2.2.2, w_6, rfl, Or.inl ⟨by rw [q_2, q_5]; rfl, i, b, 6, rfl, hi, hb0, (by obtain ⟨k, hk, ek⟩ := lk7b q_5; rcases (show k = 0 ∨ k = 1 ∨ k = 2 ∨ k = 3 ∨ k = 4 ∨ k = 5 ∨ k = 6 by omega) with rfl | rfl | rfl | rfl | rfl | rfl | rfl <;> first | exact ek | exact absurd ek (hd_12 _ (by omega))), by omega, rfl, hM_6⟩, ww_t ht hw⟩, hS.F ht⟩) hS.2.2 d_M_look_193
          · have hlt : j < b.1.length := lp_lt2 c_11 (by omega) (by omega)
            obtain ⟨⟨pn, pm⟩, hp0⟩ : ∃ p, b.1[j]? = some p := ⟨_, List.getElem?_eq_getElem hlt⟩
            have hpn : pn < gn := (hBp j _ hp0).1
            have hp14 : F 14 (4 * i + j) = nI pn := (hBp j _ hp0).2.1
            have hp15 : F 15 (4 * i + j) = pm := (hBp j _ hp0).2.2
            have hGn := hRG.2 pn hpn
            have hdr := dr_c (pt_at (gd := gd) hp0)
            refine lv_iload_n hx hb d_M_look_54 rfl (lv_at hl 3 rfl) ?_
            refine lv_aload_n hx hb d_M_look_55 rfl (lv_at hl 0 rfl) ?_
            refine ww_get (v := .ref (ad 15)) (C := R_M) (T := F_M) (N := 22) (ci := 5) hx hb hts i_M hown hK hw hM_6.1 rfl 20 (by decide) (hts _ k_675) (fun _ h9 => h9) rfl d_M_look_56 ?_
            refine lv_iload hx hb d_M_look_59 (lv_at hl 5 rfl) ?_
            refine ww_iald (v := (F 15) (4 * i + j)) hx hb hK hw 0 (show w_6 (ad 15) = some (cA g 48 (F 15)) from hM_6.2.1 15 (by decide)) rfl (vp_in_nI (by omega) (by decide)) (by rw [nI_clamp (by omega)]) d_M_look_61 ?_
            refine lv_topi (fun v_22 e_22 => ?_)
            obtain rfl : pm = v_22 := (e_22.trans hp15).symm
            refine lv_iadd hx hb d_M_look_62 ?_
            refine lv_topi (fun v_23 e_23 => ?_)
            refine lv_istore_n (lv' := [(3, .int v_23), (0, .ref mo), (1, .int (nI i)), (2, .int v), (4, .int lmc), (5, .int (nI (4 * i + j)))]) hx hb d_M_look_63 rfl hl (by decide) rfl (fun ls hl => ?_)
            refine lv_iload hx hb d_M_look_64 (lv_at hl 4 rfl) ?_
            refine lv_aload_n hx hb d_M_look_66 rfl (lv_at hl 1 rfl) ?_
            refine lv_iload hx hb d_M_look_67 (lv_at hl 5 rfl) ?_
            refine wr_i (cV (As := [.int (nI (4 * i + j))]) (rest := [.int lmc]) (C := "DangerTablesModel") 1 ⟨hx, hb, hml, hown, hts⟩ (c_M_isLimited l g w_6 mo ad 0 hd sn gn bn F (4 * i + j) pn hM_6 (by omega) (by omega) hp14) k_810 k_807 k_7 k_809 kp_27 (by decide +kernel) ⟨Nat.le_of_ble_eq_true rfl, Nat.le_of_ble_eq_true rfl⟩ rfl rfl ⟨prR_blind _ _ _, hw.recv hK hM_6.1 rfl, prR_at hG hAB hS hw⟩ rfl hl.1 rfl (Nat.le_of_ble_eq_true rfl) d_M_look_69 ⟨Nat.le_of_ble_eq_true rfl, Nat.le_of_ble_eq_true rfl⟩) (fun r_24 e_24 => ?_)
            refine lv_if_eq (tgt := 79) hx hb d_M_look_72 (by decide) (fun c_25 => ?_) (fun c_25 => ?_)
            · have q_25 := b2_f e_24 c_25
              refine lv_iconst (v := 0) hx hb d_M_look_79 (by decide) ?_
              refine lv_iadd hx hb d_M_look_80 ?_
              refine lv_topi (fun v_26 e_26 => ?_)
              refine lv_istore (lv' := [(4, .int v_26), (3, .int v_23), (0, .ref mo), (1, .int (nI i)), (2, .int v), (5, .int (nI (4 * i + j)))]) hx hb d_M_look_81 hl (by decide) rfl (fun ls hl => ?_)
              refine lv_iinc (v := (nI ((4 * i + j) + 1))) (lv' := [(5, .int (nI ((4 * i + j) + 1))), (4, .int v_26), (3, .int v_23), (0, .ref mo), (1, .int (nI i)), (2, .int v)]) hx hb d_M_look_83 hl (k := 5) rfl (nI_1 _) (by decide) rfl (fun ls hl => ?_)
              refine lv_goto (tgt := 39) hx hb d_M_look_86 (by decide) ?_
              exact ih_39 (j + 1) v_23 v_26 ls (by omega) (by omega) ⟨by rw [hI_39.1, hdr, List.foldl_cons]; congr 1; rw [kgF, e_23]; rfl, by rw [hI_39.2, hdr, List.foldl_cons]; congr 1; rw [lmF, show isLim (prOf gd (pn, pm)).2.2.2.2.2.2 (prOf gd (pn, pm)).2.2.1 = false from by rw [← q_25, hp15, hGn.2.2.1]; rfl, e_26]; simp⟩ (lv_sub hl [3, 4, 5, 2, 1, 0] rfl)
            · have q_25 := b2_t e_24 c_25
              refine lv_iconst (v := 1) hx hb d_M_look_75 (by decide) ?_
              refine lv_goto (tgt := 80) hx hb d_M_look_76 (by decide) ?_
              refine lv_iadd hx hb d_M_look_80 ?_
              refine lv_topi (fun v_27 e_27 => ?_)
              refine lv_istore (lv' := [(4, .int v_27), (3, .int v_23), (0, .ref mo), (1, .int (nI i)), (2, .int v), (5, .int (nI (4 * i + j)))]) hx hb d_M_look_81 hl (by decide) rfl (fun ls hl => ?_)
              refine lv_iinc (v := (nI ((4 * i + j) + 1))) (lv' := [(5, .int (nI ((4 * i + j) + 1))), (4, .int v_27), (3, .int v_23), (0, .ref mo), (1, .int (nI i)), (2, .int v)]) hx hb d_M_look_83 hl (k := 5) rfl (nI_1 _) (by decide) rfl (fun ls hl => ?_)
              refine lv_goto (tgt := 39) hx hb d_M_look_86 (by decide) ?_
              exact ih_39 (j + 1) v_23 v_27 ls (by omega) (by omega) ⟨by rw [hI_39.1, hdr, List.foldl_cons]; congr 1; rw [kgF, e_23]; rfl, by rw [hI_39.2, hdr, List.foldl_cons]; congr 1; rw [lmF, show isLim (prOf gd (pn, pm)).2.2.2.2.2.2 (prOf gd (pn, pm)).2.2.1 = true from by rw [← q_25, hp15, hGn.2.2.1]; rfl, e_27]; rfl⟩ (lv_sub hl [3, 4, 5, 2, 1, 0] rfl)
      exact loop_39 (b.1.length + 1) 0 0 0 ls (by omega) (by omega) ⟨rfl, rfl⟩ (lv_sub hl [3, 4, 5, 2, 1, 0] rfl)
    · have q_5 := b2_f e_4 c_5
      refine lv_aload_n hx hb d_M_look_18 rfl (lv_at hl 0 rfl) ?_
      refine lv_iconst (v := 1) hx hb d_M_look_19 (by decide) ?_
      refine ww_i (cV (As := [.int 1]) (rest := []) (C := "DangerTablesModel") 1 ⟨hx, hb, hml, hown, hts⟩ (c_M_refuse l g s.heap.size w mo ad t0 hd sn gn bn F 1 hM) k_759 k_756 k_7 k_758 kp_19 (by decide +kernel) ⟨Nat.le_of_ble_eq_true rfl, Nat.le_of_ble_eq_true rfl⟩ rfl rfl ⟨prW_blind _ _ _ _, hw.recv hK hM.1 rfl, prW_at hG hAB hS hw⟩ rfl hl.1 rfl (Nat.le_of_ble_eq_true rfl) d_M_look_20 ⟨Nat.le_of_ble_eq_true rfl, Nat.le_of_ble_eq_true rfl⟩) hw hS hA (fun r_28 w_28 H locs e_28 hw hS hz_28 hk_28 hg_28 => ?_)
      exact W.iret (v := r_28) hx hb hr (fun t ht hW => ⟨⟨r_28, w_28, rfl, Or.inr ⟨by simp [q_2, q_5], e_28.1, e_28.2⟩, ww_t ht hw⟩, hS.F ht⟩) hS.2.2 d_M_look_23

