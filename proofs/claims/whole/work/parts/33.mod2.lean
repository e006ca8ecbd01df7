/-! THE REFERENCE: loops over boxes and goods -/
theorem i32x {x y : Int32} (h : ∀ i : Nat, i < 32 → x.toBitVec.getLsbD i = y.toBitVec.getLsbD i) : x = y := Int32.toBitVec_inj.mp (BitVec.eq_of_getLsbD_eq h)
theorem or_help (a A B C E : Int32) : (1 ||| a) ||| (((A ||| B) ||| C) ||| E) = 1 ||| (a ||| ((((1 ||| A) ||| B) ||| C) ||| E)) := by
  apply i32x
  intro i _
  simp only [Int32.toBitVec_or, BitVec.getLsbD_or]
  generalize (1 : Int32).toBitVec.getLsbD i = x1
  generalize a.toBitVec.getLsbD i = x2
  generalize A.toBitVec.getLsbD i = x3
  generalize B.toBitVec.getLsbD i = x4
  generalize C.toBitVec.getLsbD i = x5
  generalize E.toBitVec.getLsbD i = x6
  cases x1 <;> cases x2 <;> cases x3 <;> cases x4 <;> cases x5 <;> cases x6 <;> rfl
theorem or_1 (a A B C : Int32) : 1 ||| (a ||| (((1 ||| A) ||| B) ||| C)) = a ||| (((1 ||| A) ||| B) ||| C) := by
  apply i32x
  intro i _
  simp only [Int32.toBitVec_or, BitVec.getLsbD_or]
  generalize (1 : Int32).toBitVec.getLsbD i = x1
  generalize a.toBitVec.getLsbD i = x2
  generalize A.toBitVec.getLsbD i = x3
  generalize B.toBitVec.getLsbD i = x4
  generalize C.toBitVec.getLsbD i = x5
  cases x1 <;> cases x2 <;> cases x3 <;> cases x4 <;> cases x5 <;> rfl
theorem or_1c (a A B C E : Int32) : 1 ||| (a ||| ((((1 ||| A) ||| B) ||| C) ||| E)) = a ||| ((((1 ||| A) ||| B) ||| C) ||| E) := by
  apply i32x
  intro i _
  simp only [Int32.toBitVec_or, BitVec.getLsbD_or]
  generalize (1 : Int32).toBitVec.getLsbD i = x1
  generalize a.toBitVec.getLsbD i = x2
  generalize A.toBitVec.getLsbD i = x3
  generalize B.toBitVec.getLsbD i = x4
  generalize C.toBitVec.getLsbD i = x5
  generalize E.toBitVec.getLsbD i = x6
  cases x1 <;> cases x2 <;> cases x3 <;> cases x4 <;> cases x5 <;> cases x6 <;> rfl
theorem or_1b (a b : Int32) (h : 1 ||| a = a) : 1 ||| (a ||| b) = a ||| b := by rw [← Int32.or_assoc, h]
theorem wt_f (gd : Nat → GD) (rs : List PR) : ∀ a : Int32, 1 ||| a = a → 1 ||| rs.foldl wtF a = rs.foldl wtF a := by
  induction rs with
  | nil => exact fun a h => h
  | cons r t ih => exact fun a h => ih _ (or_1b a _ h)
theorem wt_1 {gd : Nat → GD} {gn : Nat} {F : Nat → Nat → Int32} (hG : RG gd gn F) {ps : List (Nat × Int32)} (h0 : 0 < ps.length) (hp : ∀ (j : Nat) (p : Nat × Int32), ps[j]? = some p → p.1 < gn) : 1 ||| wtB (ps.map (prOf gd)) = wtB (ps.map (prOf gd)) := by
  cases ps with
  | nil => exact absurd h0 (by decide)
  | cons p t =>
    show 1 ||| (t.map (prOf gd)).foldl wtF (0 ||| wantP p.2 (gd p.1).2.2.1 (gd p.1).2.2.2.1) = _
    refine wt_f gd _ _ ?_
    rw [(hG.2 p.1 (hp 0 p rfl)).2.2.2.1]
    unfold wantP fieI
    split
    · exact or_1 0 _ _ _
    · exact or_1c 0 _ _ _ 16
theorem pt_at {gd : Nat → GD} {ps : List (Nat × Int32)} {j n : Nat} {a : Int32} (h : ps[j]? = some (n, a)) : (ps.map (prOf gd))[j]? = some (prOf gd (n, a)) := by rw [List.getElem?_map, h]; rfl
theorem bx_at {gd : Nat → GD} {br : List BR} {j : Nat} {b : BR} (h : br[j]? = some b) : (br.map (bxOf gd))[j]? = some (bxOf gd b) := by rw [List.getElem?_map, h]; rfl
theorem lp_lt2 {a n j : Nat} (c : ¬ nI (a + n) ≤ nI (a + j)) (hn : a + n < 2 ^ 31) (hj : a + j < 2 ^ 31) : j < n := by
  have := lp_lt rfl c hn hj
  omega
theorem lp_ge2 {a n j : Nat} (c : nI (a + n) ≤ nI (a + j)) (hn : a + n < 2 ^ 31) (hj : a + j < 2 ^ 31) : n ≤ j := by
  have := lp_ge rfl c hn hj
  omega
theorem far_tab : ∀ a : Nat, a < 20 → ∀ b : Nat, b < 20 → farI (nI a - nI b) = absI (nI b - nI a) := by decide
theorem abs_tab : ∀ a : Nat, a < 20 → ∀ b : Nat, b < 20 → ∃ d : Nat, d < 20 ∧ absI (nI b - nI a) = nI d := by decide
theorem sl_of {x y : Int32} (h : isSl x y = true) : (∃ a : Nat, a < 20 ∧ x = nI a) ∧ ∃ b : Nat, b < 20 ∧ y = nI b := by
  simp only [isSl, Bool.and_eq_true, Bool.not_eq_true', decide_eq_false_iff_not] at h
  obtain ⟨⟨⟨h1, h2⟩, h3⟩, h4⟩ := h
  obtain ⟨a, ha, rfl⟩ := nI_of h1
  obtain ⟨b, hb, rfl⟩ := nI_of h3
  refine ⟨⟨a, ?_, rfl⟩, b, ?_, rfl⟩
  · rcases Nat.lt_or_ge a 20 with h5 | h5
    · exact h5
    · exact absurd (nI_le (a := 20) h5 ha) h2
  · rcases Nat.lt_or_ge b 20 with h5 | h5
    · exact h5
    · exact absurd (nI_le (a := 20) h5 hb) h4
set_option maxHeartbeats 4000000 in
set_option maxRecDepth 100000 in
theorem c_M_inBox (l : Launch) (g : GT) (w : Nat → Option va_E) (mo : Nat) (ad : Nat → Nat) (t0 hd : Int32) (sn gn bn : Nat) (F : Nat → Nat → Int32) (gd : Nat → GD) (i : Nat) (b : BR) (v : Int32) (hM : isM g w mo ad t0 sn hd gn bn F) (hRG : RG gd gn F) (hi : i < 12) (hB : RBx F gn i b) : Met l y_M_inBox (.code y_M_inBox b_M_inBox 5 ((some .int)) :: GW) ({ frames := 0, cells := 0, slots := 0, locals := 0 }) (prR g [.ref mo, .int (nI i), .int v] w) (vp_Si (fun r => r = kcB (b.1.map (prOf gd)) v)) 0 0 (fun _ => False) := by
  refine Met.ofW (cc := b_M_inBox) (maxL := 5) (ret := (some .int)) (by decide) rfl ?_
  intro p e s m args below meth c s₁ B hml hv
  obtain ⟨rfl, hG, hw⟩ := hv
  have hx := B.exec
  have hb := B.bytes
  have hr := B.returns
  have hts : ∀ w ∈ GW, w.before _ s = true := fun w h => atoms_spec (ws := .code y_M_inBox b_M_inBox 5 ((some .int)) :: GW) B.pre w (List.mem_cons_of_mem _ h)
  have hown : s.vm.findClass "DangerTablesModel" = some m.cls := findClass_of_methodNamed B.named
  have hlocks := B.notSynchronized
  have hf := hG.here
  have hK := hf.1
  have hAB : ∀ q, gB g q → gB g q := fun _ h => h
  have hS : va_S (gB g) s.heap s.heap [] := va_S.rf
  have hl := lv_entry ([.ref mo, .int (nI i), .int v]) (n := 5) (Nat.le_of_ble_eq_true rfl)
  rw [lg_entry_eq]
  generalize (lg_sl ([.ref mo, .int (nI i), .int v]) ++ List.replicate (5 - (lg_sl ([.ref mo, .int (nI i), .int v])).length) Slot.unset).toArray = ls at hl ⊢
  have hl : lv_has ls 5 [(0, .ref mo), (1, .int (nI i)), (2, .int v)] := hl
  have hgn := hRG.1
  obtain ⟨hB1, hB9, hB10, hB13, hBz, hBp⟩ := id hB
  refine lv_iconst (v := 0) hx hb d_M_inBox_0 (by decide) ?_
  refine lv_istore_n (lv' := [(3, .int 0), (0, .ref mo), (1, .int (nI i)), (2, .int v)]) hx hb d_M_inBox_1 rfl hl (by decide) rfl (fun ls hl => ?_)
  refine lv_iconst (v := 4) hx hb d_M_inBox_2 (by decide) ?_
  refine lv_iload_n hx hb d_M_inBox_3 rfl (lv_at hl 2 rfl) ?_
  refine lv_imul hx hb d_M_inBox_4 ?_
  refine lv_topi (fun v_1 e_1 => ?_)
  obtain rfl : v_1 = nI (4 * i) := by rw [e_1]; exact pk_mul 4 i
  refine lv_istore (lv' := [(4, .int (nI (4 * i))), (3, .int 0), (0, .ref mo), (1, .int (nI i)), (2, .int v)]) hx hb d_M_inBox_5 hl (by decide) rfl (fun ls hl => ?_)
  have loop_7 : ∀ (k j : Nat) (acc : Int32) (ls : Array Slot), j ≤ b.1.length → b.1.length < j + k → kcB (b.1.map (prOf gd)) v = ((b.1.map (prOf gd)).drop j).foldl (kcF v) acc → lv_has ls 5 [(0, .ref mo), (1, .int (nI i)), (2, .int v), (3, .int acc), (4, .int (nI (4 * i + j)))] → W p l e (headSpec (.code y_M_inBox b_M_inBox 5 ((some .int)) :: GW) ({ frames := 0, cells := 0, slots := 0, locals := 0 })).room s m (#[.ref mo, .int (nI i), .int v] : Array Value) below meth c s.heap [] 0 0 (MQ below (vp_Si (fun r => r = kcB (b.1.map (prOf gd)) v)) (#[.ref mo, .int (nI i), .int v] : Array Value) s 0 0 (fun _ => False)) (F0 m 7 ls []) := by
    intro k
    induction k with
    | zero =>
      intro j acc ls h1_7 h2_7
      exact absurd h2_7 (by omega)
    | succ k ih_7 =>
      intro j acc ls h1_7 h2_7 hI_7 hl
      refine lv_iload hx hb d_M_inBox_7 (lv_at hl 4 rfl) ?_
      refine lv_iconst (v := 4) hx hb d_M_inBox_9 (by decide) ?_
      refine lv_iload_n hx hb d_M_inBox_10 rfl (lv_at hl 1 rfl) ?_
      refine lv_imul hx hb d_M_inBox_11 ?_
      refine lv_topi (fun v_2 e_2 => ?_)
      obtain rfl : v_2 = nI (4 * i) := by rw [e_2]; exact pk_mul 4 i
      refine lv_aload_n hx hb d_M_inBox_12 rfl (lv_at hl 0 rfl) ?_
      refine ww_get (v := .ref (ad 9)) (C := R_M) (T := F_M) (N := 22) (ci := 5) hx hb hts i_M hown hK hw hM.1 rfl 14 (by decide) (hts _ k_669) (fun _ h9 => h9) rfl d_M_inBox_13 ?_
      refine lv_iload_n hx hb d_M_inBox_16 rfl (lv_at hl 1 rfl) ?_
      refine ww_iald (v := (F 9) i) hx hb hK hw 0 (show w (ad 9) = some (cA g 12 (F 9)) from hM.2.1 9 (by decide)) rfl (vp_in_nI (by omega) (by decide)) (by rw [nI_clamp (by omega)]) d_M_inBox_17 ?_
      refine lv_topi (fun v_3 e_3 => ?_)
      obtain rfl : nI b.1.length = v_3 := (e_3.trans hB9).symm
      refine lv_iadd hx hb d_M_inBox_18 ?_
      refine lv_topi (fun v_4 e_4 => ?_)
      obtain rfl : v_4 = nI ((4 * i) + b.1.length) := by rw [e_4]; exact nI_add (4 * i) b.1.length
      refine lv_icmp_ge (tgt := 74) hx hb d_M_inBox_19 (by decide) (fun c_5 => ?_) (fun c_5 => ?_)
      · have hge : b.1.length ≤ j := lp_ge2 c_5 (by omega) (by omega)
        have hdr : (b.1.map (prOf gd)).drop j = [] := dr_n (by rw [List.length_map]; exact hge)
        refine lv_iload_n hx hb d_M_inBox_74 rfl (lv_at hl 3 rfl) ?_
        exact W.iret (v := acc) hx hb hr (fun t ht hW => ⟨acc, rfl, (by rw [hI_7, hdr]; rfl), ht⟩) t_nil d_M_inBox_75
      · have hlt : j < b.1.length := lp_lt2 c_5 (by omega) (by omega)
        obtain ⟨⟨pn, pm⟩, hp0⟩ : ∃ p, b.1[j]? = some p := ⟨_, List.getElem?_eq_getElem hlt⟩
        have hpn : pn < gn := (hBp j _ hp0).1
        have hp14 : F 14 (4 * i + j) = nI pn := (hBp j _ hp0).2.1
        have hp15 : F 15 (4 * i + j) = pm := (hBp j _ hp0).2.2
        have hGn := hRG.2 pn hpn
        have hdr := dr_c (pt_at (gd := gd) hp0)
        refine lv_iload_n hx hb d_M_inBox_22 rfl (lv_at hl 3 rfl) ?_
        refine lv_aload_n hx hb d_M_inBox_23 rfl (lv_at hl 0 rfl) ?_
        refine ww_get (v := .ref (ad 2)) (C := R_M) (T := F_M) (N := 22) (ci := 5) hx hb hts i_M hown hK hw hM.1 rfl 6 (by decide) (hts _ k_661) (fun _ h9 => h9) rfl d_M_inBox_24 ?_
        refine lv_aload_n hx hb d_M_inBox_27 rfl (lv_at hl 0 rfl) ?_
        refine ww_get (v := .ref (ad 14)) (C := R_M) (T := F_M) (N := 22) (ci := 5) hx hb hts i_M hown hK hw hM.1 rfl 19 (by decide) (hts _ k_674) (fun _ h9 => h9) rfl d_M_inBox_28 ?_
        refine lv_iload hx hb d_M_inBox_31 (lv_at hl 4 rfl) ?_
        refine ww_iald (v := (F 14) (4 * i + j)) hx hb hK hw 0 (show w (ad 14) = some (cA g 48 (F 14)) from hM.2.1 14 (by decide)) rfl (vp_in_nI (by omega) (by decide)) (by rw [nI_clamp (by omega)]) d_M_inBox_33 ?_
        refine lv_topi (fun v_6 e_6 => ?_)
        obtain rfl : nI pn = v_6 := (e_6.trans hp14).symm
        refine ww_iald (v := (F 2) pn) hx hb hK hw 0 (show w (ad 2) = some (cA g 16 (F 2)) from hM.2.1 2 (by decide)) rfl (vp_in_nI (by omega) (by decide)) (by rw [nI_clamp (by omega)]) d_M_inBox_34 ?_
        refine lv_topi (fun v_7 e_7 => ?_)
        obtain rfl : (gd pn).1 = v_7 := (e_7.trans hGn.1).symm
        refine lv_iload_n hx hb d_M_inBox_35 rfl (lv_at hl 2 rfl) ?_
        refine lv_icmp_eq (tgt := 55) hx hb d_M_inBox_36 (by decide) (fun c_8 => ?_) (fun c_8 => ?_)
        · refine lv_aload_n hx hb d_M_inBox_55 rfl (lv_at hl 0 rfl) ?_
          refine ww_get (v := .ref (ad 15)) (C := R_M) (T := F_M) (N := 22) (ci := 5) hx hb hts i_M hown hK hw hM.1 rfl 20 (by decide) (hts _ k_675) (fun _ h9 => h9) rfl d_M_inBox_56 ?_
          refine lv_iload hx hb d_M_inBox_59 (lv_at hl 4 rfl) ?_
          refine ww_iald (v := (F 15) (4 * i + j)) hx hb hK hw 0 (show w (ad 15) = some (cA g 48 (F 15)) from hM.2.1 15 (by decide)) rfl (vp_in_nI (by omega) (by decide)) (by rw [nI_clamp (by omega)]) d_M_inBox_61 ?_
          refine lv_topi (fun v_9 e_9 => ?_)
          obtain rfl : pm = v_9 := (e_9.trans hp15).symm
          refine lv_goto (tgt := 66) hx hb d_M_inBox_62 (by decide) ?_
          refine lv_iadd hx hb d_M_inBox_66 ?_
          refine lv_topi (fun v_10 e_10 => ?_)
          refine lv_istore_n (lv' := [(3, .int v_10), (0, .ref mo), (1, .int (nI i)), (2, .int v), (4, .int (nI (4 * i + j)))]) hx hb d_M_inBox_67 rfl hl (by decide) rfl (fun ls hl => ?_)
          refine lv_iinc (v := (nI ((4 * i + j) + 1))) (lv' := [(4, .int (nI ((4 * i + j) + 1))), (3, .int v_10), (0, .ref mo), (1, .int (nI i)), (2, .int v)]) hx hb d_M_inBox_68 hl (k := 4) rfl (nI_1 _) (by decide) rfl (fun ls hl => ?_)
          refine lv_goto (tgt := 7) hx hb d_M_inBox_71 (by decide) ?_
          exact ih_7 (j + 1) v_10 ls (by omega) (by omega) (by rw [hI_7, hdr, List.foldl_cons]; congr 1; simp [kcF, prOf, hasC, c_5, c_8, e_10]) (lv_sub hl [2, 3, 4, 1, 0] rfl)
        · refine lv_aload_n hx hb d_M_inBox_39 rfl (lv_at hl 0 rfl) ?_
          refine ww_get (v := .ref (ad 3)) (C := R_M) (T := F_M) (N := 22) (ci := 5) hx hb hts i_M hown hK hw hM.1 rfl 7 (by decide) (hts _ k_662) (fun _ h9 => h9) rfl d_M_inBox_40 ?_
          refine lv_aload_n hx hb d_M_inBox_43 rfl (lv_at hl 0 rfl) ?_
          refine ww_get (v := .ref (ad 14)) (C := R_M) (T := F_M) (N := 22) (ci := 5) hx hb hts i_M hown hK hw hM.1 rfl 19 (by decide) (hts _ k_674) (fun _ h9 => h9) rfl d_M_inBox_44 ?_
          refine lv_iload hx hb d_M_inBox_47 (lv_at hl 4 rfl) ?_
          refine ww_iald (v := (F 14) (4 * i + j)) hx hb hK hw 0 (show w (ad 14) = some (cA g 48 (F 14)) from hM.2.1 14 (by decide)) rfl (vp_in_nI (by omega) (by decide)) (by rw [nI_clamp (by omega)]) d_M_inBox_49 ?_
          refine lv_topi (fun v_11 e_11 => ?_)
          obtain rfl : nI pn = v_11 := (e_11.trans hp14).symm
          refine ww_iald (v := (F 3) pn) hx hb hK hw 0 (show w (ad 3) = some (cA g 16 (F 3)) from hM.2.1 3 (by decide)) rfl (vp_in_nI (by omega) (by decide)) (by rw [nI_clamp (by omega)]) d_M_inBox_50 ?_
          refine lv_topi (fun v_12 e_12 => ?_)
          obtain rfl : (gd pn).2.1 = v_12 := (e_12.trans hGn.2.1).symm
          refine lv_iload_n hx hb d_M_inBox_51 rfl (lv_at hl 2 rfl) ?_
          refine lv_icmp_ne (tgt := 65) hx hb d_M_inBox_52 (by decide) (fun c_13 => ?_) (fun c_13 => ?_)
          · refine lv_iconst (v := 0) hx hb d_M_inBox_65 (by decide) ?_
            refine lv_iadd hx hb d_M_inBox_66 ?_
            refine lv_topi (fun v_14 e_14 => ?_)
            refine lv_istore_n (lv' := [(3, .int v_14), (0, .ref mo), (1, .int (nI i)), (2, .int v), (4, .int (nI (4 * i + j)))]) hx hb d_M_inBox_67 rfl hl (by decide) rfl (fun ls hl => ?_)
            refine lv_iinc (v := (nI ((4 * i + j) + 1))) (lv' := [(4, .int (nI ((4 * i + j) + 1))), (3, .int v_14), (0, .ref mo), (1, .int (nI i)), (2, .int v)]) hx hb d_M_inBox_68 hl (k := 4) rfl (nI_1 _) (by decide) rfl (fun ls hl => ?_)
            refine lv_goto (tgt := 7) hx hb d_M_inBox_71 (by decide) ?_
            exact ih_7 (j + 1) v_14 ls (by omega) (by omega) (by rw [hI_7, hdr, List.foldl_cons]; congr 1; simp [kcF, prOf, hasC, c_5, c_8, c_13, e_14]) (lv_sub hl [2, 3, 4, 1, 0] rfl)
          · refine lv_aload_n hx hb d_M_inBox_55 rfl (lv_at hl 0 rfl) ?_
            refine ww_get (v := .ref (ad 15)) (C := R_M) (T := F_M) (N := 22) (ci := 5) hx hb hts i_M hown hK hw hM.1 rfl 20 (by decide) (hts _ k_675) (fun _ h9 => h9) rfl d_M_inBox_56 ?_
            refine lv_iload hx hb d_M_inBox_59 (lv_at hl 4 rfl) ?_
            refine ww_iald (v := (F 15) (4 * i + j)) hx hb hK hw 0 (show w (ad 15) = some (cA g 48 (F 15)) from hM.2.1 15 (by decide)) rfl (vp_in_nI (by omega) (by decide)) (by rw [nI_clamp (by omega)]) d_M_inBox_61 ?_
            refine lv_topi (fun v_15 e_15 => ?_)
            obtain rfl : pm = v_15 := (e_15.trans hp15).symm
            refine lv_goto (tgt := 66) hx hb d_M_inBox_62 (by decide) ?_
            refine lv_iadd hx hb d_M_inBox_66 ?_
            refine lv_topi (fun v_16 e_16 => ?_)
            refine lv_istore_n (lv' := [(3, .int v_16), (0, .ref mo), (1, .int (nI i)), (2, .int v), (4, .int (nI (4 * i + j)))]) hx hb d_M_inBox_67 rfl hl (by decide) rfl (fun ls hl => ?_)
            refine lv_iinc (v := (nI ((4 * i + j) + 1))) (lv' := [(4, .int (nI ((4 * i + j) + 1))), (3, .int v_16), (0, .ref mo), (1, .int (nI i)), (2, .int v)]) hx hb d_M_inBox_68 hl (k := 4) rfl (nI_1 _) (by decide) rfl (fun ls hl => ?_)
            refine lv_goto (tgt := 7) hx hb d_M_inBox_71 (by decide) ?_
            exact ih_7 (j + 1) v_16 ls (by omega) (by omega) (by rw [hI_7, hdr, List.foldl_cons]; congr 1; simp [kcF, prOf, hasC, c_5, c_8, c_13, e_16]) (lv_sub hl [2, 3, 4, 1, 0] rfl)
  exact loop_7 (b.1.length + 1) 0 0 ls (by omega) (by omega) rfl (lv_sub hl [2, 3, 4, 1, 0] rfl)

set_option maxHeartbeats 4000000 in
set_option maxRecDepth 100000 in
theorem c_M_has (l : Launch) (g : GT) (w : Nat → Option va_E) (mo : Nat) (ad : Nat → Nat) (t0 hd : Int32) (sn gn bn : Nat) (F : Nat → Nat → Int32) (gd : Nat → GD) (i : Nat) (b : BR) (v : Int32) (hM : isM g w mo ad t0 sn hd gn bn F) (hRG : RG gd gn F) (hi : i < 12) (hB : RBx F gn i b) : Met l y_M_has (.code y_M_has b_M_has 5 ((some .boolean)) :: GW) ({ frames := 0, cells := 0, slots := 0, locals := 0 }) (prR g [.ref mo, .int (nI i), .int v] w) (vp_Si (fun r => r = b2 (hsB (b.1.map (prOf gd)) v))) 0 0 (fun _ => False) := by
  refine Met.ofW (cc := b_M_has) (maxL := 5) (ret := (some .boolean)) (by decide) rfl ?_
  intro p e s m args below meth c s₁ B hml hv
  obtain ⟨rfl, hG, hw⟩ := hv
  have hx := B.exec
  have hb := B.bytes
  have hr := B.returns
  have hts : ∀ w ∈ GW, w.before _ s = true := fun w h => atoms_spec (ws := .code y_M_has b_M_has 5 ((some .boolean)) :: GW) B.pre w (List.mem_cons_of_mem _ h)
  have hown : s.vm.findClass "DangerTablesModel" = some m.cls := findClass_of_methodNamed B.named
  have hlocks := B.notSynchronized
  have hf := hG.here
  have hK := hf.1
  have hAB : ∀ q, gB g q → gB g q := fun _ h => h
  have hS : va_S (gB g) s.heap s.heap [] := va_S.rf
  have hl := lv_entry ([.ref mo, .int (nI i), .int v]) (n := 5) (Nat.le_of_ble_eq_true rfl)
  rw [lg_entry_eq]
  generalize (lg_sl ([.ref mo, .int (nI i), .int v]) ++ List.replicate (5 - (lg_sl ([.ref mo, .int (nI i), .int v])).length) Slot.unset).toArray = ls at hl ⊢
  have hl : lv_has ls 5 [(0, .ref mo), (1, .int (nI i)), (2, .int v)] := hl
  have hgn := hRG.1
  obtain ⟨hB1, hB9, hB10, hB13, hBz, hBp⟩ := id hB
  refine lv_iconst (v := 0) hx hb d_M_has_0 (by decide) ?_
  refine lv_istore_n (lv' := [(3, .int 0), (0, .ref mo), (1, .int (nI i)), (2, .int v)]) hx hb d_M_has_1 rfl hl (by decide) rfl (fun ls hl => ?_)
  refine lv_iconst (v := 4) hx hb d_M_has_2 (by decide) ?_
  refine lv_iload_n hx hb d_M_has_3 rfl (lv_at hl 2 rfl) ?_
  refine lv_imul hx hb d_M_has_4 ?_
  refine lv_topi (fun v_1 e_1 => ?_)
  obtain rfl : v_1 = nI (4 * i) := by rw [e_1]; exact pk_mul 4 i
  refine lv_istore (lv' := [(4, .int (nI (4 * i))), (3, .int 0), (0, .ref mo), (1, .int (nI i)), (2, .int v)]) hx hb d_M_has_5 hl (by decide) rfl (fun ls hl => ?_)
  have loop_7 : ∀ (k j : Nat) (acc : Int32) (ab : Bool) (ls : Array Slot), j ≤ b.1.length → b.1.length < j + k → acc = b2 ab ∧ hsB (b.1.map (prOf gd)) v = (ab || ((b.1.map (prOf gd)).drop j).any (fun r => decide (r.2.2.2.2.2.1 = v))) → lv_has ls 5 [(0, .ref mo), (1, .int (nI i)), (2, .int v), (3, .int acc), (4, .int (nI (4 * i + j)))] → W p l e (headSpec (.code y_M_has b_M_has 5 ((some .boolean)) :: GW) ({ frames := 0, cells := 0, slots := 0, locals := 0 })).room s m (#[.ref mo, .int (nI i), .int v] : Array Value) below meth c s.heap [] 0 0 (MQ below (vp_Si (fun r => r = b2 (hsB (b.1.map (prOf gd)) v))) (#[.ref mo, .int (nI i), .int v] : Array Value) s 0 0 (fun _ => False)) (F0 m 7 ls []) := by
    intro k
    induction k with
    | zero =>
      intro j acc ab ls h1_7 h2_7
      exact absurd h2_7 (by omega)
    | succ k ih_7 =>
      intro j acc ab ls h1_7 h2_7 hI_7 hl
      have hacc := hI_7.1
      refine lv_iload hx hb d_M_has_7 (lv_at hl 4 rfl) ?_
      refine lv_iconst (v := 4) hx hb d_M_has_9 (by decide) ?_
      refine lv_iload_n hx hb d_M_has_10 rfl (lv_at hl 1 rfl) ?_
      refine lv_imul hx hb d_M_has_11 ?_
      refine lv_topi (fun v_2 e_2 => ?_)
      obtain rfl : v_2 = nI (4 * i) := by rw [e_2]; exact pk_mul 4 i
      refine lv_aload_n hx hb d_M_has_12 rfl (lv_at hl 0 rfl) ?_
      refine ww_get (v := .ref (ad 9)) (C := R_M) (T := F_M) (N := 22) (ci := 5) hx hb hts i_M hown hK hw hM.1 rfl 14 (by decide) (hts _ k_669) (fun _ h9 => h9) rfl d_M_has_13 ?_
      refine lv_iload_n hx hb d_M_has_16 rfl (lv_at hl 1 rfl) ?_
      refine ww_iald (v := (F 9) i) hx hb hK hw 0 (show w (ad 9) = some (cA g 12 (F 9)) from hM.2.1 9 (by decide)) rfl (vp_in_nI (by omega) (by decide)) (by rw [nI_clamp (by omega)]) d_M_has_17 ?_
      refine lv_topi (fun v_3 e_3 => ?_)
      obtain rfl : nI b.1.length = v_3 := (e_3.trans hB9).symm
      refine lv_iadd hx hb d_M_has_18 ?_
      refine lv_topi (fun v_4 e_4 => ?_)
      obtain rfl : v_4 = nI ((4 * i) + b.1.length) := by rw [e_4]; exact nI_add (4 * i) b.1.length
      refine lv_icmp_ge (tgt := 49) hx hb d_M_has_19 (by decide) (fun c_5 => ?_) (fun c_5 => ?_)
      · have hge : b.1.length ≤ j := lp_ge2 c_5 (by omega) (by omega)
        have hdr : (b.1.map (prOf gd)).drop j = [] := dr_n (by rw [List.length_map]; exact hge)
        refine lv_iload_n hx hb d_M_has_49 rfl (lv_at hl 3 rfl) ?_
        exact W.zret (v := acc) (ty := .boolean) hx hb hr (b2_n hacc) (fun t ht hW => ⟨acc, rfl, (by rw [hI_7.2, hdr, List.any_nil, Bool.or_false]; exact hacc), ht⟩) t_nil d_M_has_50
      · have hlt : j < b.1.length := lp_lt2 c_5 (by omega) (by omega)
        obtain ⟨⟨pn, pm⟩, hp0⟩ : ∃ p, b.1[j]? = some p := ⟨_, List.getElem?_eq_getElem hlt⟩
        have hpn : pn < gn := (hBp j _ hp0).1
        have hp14 : F 14 (4 * i + j) = nI pn := (hBp j _ hp0).2.1
        have hp15 : F 15 (4 * i + j) = pm := (hBp j _ hp0).2.2
        have hGn := hRG.2 pn hpn
        have hdr := dr_c (pt_at (gd := gd) hp0)
        refine lv_iload_n hx hb d_M_has_22 rfl (lv_at hl 3 rfl) ?_
        refine lv_if_ne (tgt := 37) hx hb d_M_has_23 (by decide) (fun c_6 => ?_) (fun c_6 => ?_)
        · have q_6 := b2_t hacc c_6
          refine lv_iconst (v := 1) hx hb d_M_has_37 (by decide) ?_
          refine lv_goto (tgt := 42) hx hb d_M_has_38 (by decide) ?_
          refine lv_istore_n (lv' := [(3, .int 1), (0, .ref mo), (1, .int (nI i)), (2, .int v), (4, .int (nI (4 * i + j)))]) hx hb d_M_has_42 rfl hl (by decide) rfl (fun ls hl => ?_)
          refine lv_iinc (v := (nI ((4 * i + j) + 1))) (lv' := [(4, .int (nI ((4 * i + j) + 1))), (3, .int 1), (0, .ref mo), (1, .int (nI i)), (2, .int v)]) hx hb d_M_has_43 hl (k := 4) rfl (nI_1 _) (by decide) rfl (fun ls hl => ?_)
          refine lv_goto (tgt := 7) hx hb d_M_has_46 (by decide) ?_
          exact ih_7 (j + 1) 1 true ls (by omega) (by omega) ⟨rfl, by rw [hI_7.2, hdr, List.any_cons]; simp [prOf, c_5, c_6, q_6]⟩ (lv_sub hl [2, 3, 4, 1, 0] rfl)
        · have q_6 := b2_f hacc c_6
          refine lv_aload_n hx hb d_M_has_26 rfl (lv_at hl 0 rfl) ?_
          refine ww_get (v := .ref (ad 14)) (C := R_M) (T := F_M) (N := 22) (ci := 5) hx hb hts i_M hown hK hw hM.1 rfl 19 (by decide) (hts _ k_674) (fun _ h9 => h9) rfl d_M_has_27 ?_
          refine lv_iload hx hb d_M_has_30 (lv_at hl 4 rfl) ?_
          refine ww_iald (v := (F 14) (4 * i + j)) hx hb hK hw 0 (show w (ad 14) = some (cA g 48 (F 14)) from hM.2.1 14 (by decide)) rfl (vp_in_nI (by omega) (by decide)) (by rw [nI_clamp (by omega)]) d_M_has_32 ?_
          refine lv_topi (fun v_7 e_7 => ?_)
          obtain rfl : nI pn = v_7 := (e_7.trans hp14).symm
          refine lv_iload_n hx hb d_M_has_33 rfl (lv_at hl 2 rfl) ?_
          refine lv_icmp_ne (tgt := 41) hx hb d_M_has_34 (by decide) (fun c_8 => ?_) (fun c_8 => ?_)
          · refine lv_iconst (v := 0) hx hb d_M_has_41 (by decide) ?_
            refine lv_istore_n (lv' := [(3, .int 0), (0, .ref mo), (1, .int (nI i)), (2, .int v), (4, .int (nI (4 * i + j)))]) hx hb d_M_has_42 rfl hl (by decide) rfl (fun ls hl => ?_)
            refine lv_iinc (v := (nI ((4 * i + j) + 1))) (lv' := [(4, .int (nI ((4 * i + j) + 1))), (3, .int 0), (0, .ref mo), (1, .int (nI i)), (2, .int v)]) hx hb d_M_has_43 hl (k := 4) rfl (nI_1 _) (by decide) rfl (fun ls hl => ?_)
            refine lv_goto (tgt := 7) hx hb d_M_has_46 (by decide) ?_
            exact ih_7 (j + 1) 0 false ls (by omega) (by omega) ⟨rfl, by rw [hI_7.2, hdr, List.any_cons]; simp [prOf, c_5, c_6, q_6, c_8]⟩ (lv_sub hl [2, 3, 4, 1, 0] rfl)
          · refine lv_iconst (v := 1) hx hb d_M_has_37 (by decide) ?_
            refine lv_goto (tgt := 42) hx hb d_M_has_38 (by decide) ?_
            refine lv_istore_n (lv' := [(3, .int 1), (0, .ref mo), (1, .int (nI i)), (2, .int v), (4, .int (nI (4 * i + j)))]) hx hb d_M_has_42 rfl hl (by decide) rfl (fun ls hl => ?_)
            refine lv_iinc (v := (nI ((4 * i + j) + 1))) (lv' := [(4, .int (nI ((4 * i + j) + 1))), (3, .int 1), (0, .ref mo), (1, .int (nI i)), (2, .int v)]) hx hb d_M_has_43 hl (k := 4) rfl (nI_1 _) (by decide) rfl (fun ls hl => ?_)
            refine lv_goto (tgt := 7) hx hb d_M_has_46 (by decide) ?_
            exact ih_7 (j + 1) 1 true ls (by omega) (by omega) ⟨rfl, by rw [hI_7.2, hdr, List.any_cons]; simp [prOf, c_5, c_6, q_6, c_8]⟩ (lv_sub hl [2, 3, 4, 1, 0] rfl)
  exact loop_7 (b.1.length + 1) 0 0 false ls (by omega) (by omega) ⟨rfl, rfl⟩ (lv_sub hl [2, 3, 4, 1, 0] rfl)

set_option maxHeartbeats 4000000 in
set_option maxRecDepth 100000 in
theorem c_M_wanted (l : Launch) (g : GT) (w : Nat → Option va_E) (mo : Nat) (ad : Nat → Nat) (t0 hd : Int32) (sn gn bn : Nat) (F : Nat → Nat → Int32) (gd : Nat → GD) (i : Nat) (b : BR) (hM : isM g w mo ad t0 sn hd gn bn F) (hRG : RG gd gn F) (hi : i < 12) (hB : RBx F gn i b) : Met l y_M_wanted (.code y_M_wanted b_M_wanted 5 ((some .int)) :: GW) ({ frames := 1, cells := 0, slots := 0, locals := 21 }) (prR g [.ref mo, .int (nI i)] w) (vp_Si (fun r => r = 1 ||| wtB (b.1.map (prOf gd)))) 0 0 (fun _ => False) := by
  refine Met.ofW (cc := b_M_wanted) (maxL := 5) (ret := (some .int)) (by decide) rfl ?_
  intro p e s m args below meth c s₁ B hml hv
  obtain ⟨rfl, hG, hw⟩ := hv
  have hx := B.exec
  have hb := B.bytes
  have hr := B.returns
  have hts : ∀ w ∈ GW, w.before _ s = true := fun w h => atoms_spec (ws := .code y_M_wanted b_M_wanted 5 ((some .int)) :: GW) B.pre w (List.mem_cons_of_mem _ h)
  have hown : s.vm.findClass "DangerTablesModel" = some m.cls := findClass_of_methodNamed B.named
  have hlocks := B.notSynchronized
  have hf := hG.here
  have hK := hf.1
  have hAB : ∀ q, gB g q → gB g q := fun _ h => h
  have hS : va_S (gB g) s.heap s.heap [] := va_S.rf
  have hl := lv_entry ([.ref mo, .int (nI i)]) (n := 5) (Nat.le_of_ble_eq_true rfl)
  rw [lg_entry_eq]
  generalize (lg_sl ([.ref mo, .int (nI i)]) ++ List.replicate (5 - (lg_sl ([.ref mo, .int (nI i)])).length) Slot.unset).toArray = ls at hl ⊢
  have hl : lv_has ls 5 [(0, .ref mo), (1, .int (nI i))] := hl
  have hgn := hRG.1
  obtain ⟨hB1, hB9, hB10, hB13, hBz, hBp⟩ := id hB
  refine lv_iconst (v := 1) hx hb d_M_wanted_0 (by decide) ?_
  refine lv_istore_n (lv' := [(2, .int 1), (0, .ref mo), (1, .int (nI i))]) hx hb d_M_wanted_1 rfl hl (by decide) rfl (fun ls hl => ?_)
  refine lv_iconst (v := 4) hx hb d_M_wanted_2 (by decide) ?_
  refine lv_iload_n hx hb d_M_wanted_3 rfl (lv_at hl 2 rfl) ?_
  refine lv_imul hx hb d_M_wanted_4 ?_
  refine lv_topi (fun v_1 e_1 => ?_)
  obtain rfl : v_1 = nI (4 * i) := by rw [e_1]; exact pk_mul 4 i
  refine lv_istore_n (lv' := [(3, .int (nI (4 * i))), (2, .int 1), (0, .ref mo), (1, .int (nI i))]) hx hb d_M_wanted_5 rfl hl (by decide) rfl (fun ls hl => ?_)
  have loop_6 : ∀ (k j : Nat) (acc ac : Int32) (ls : Array Slot), j ≤ b.1.length → b.1.length < j + k → acc = 1 ||| ac ∧ wtB (b.1.map (prOf gd)) = ((b.1.map (prOf gd)).drop j).foldl wtF ac → lv_has ls 5 [(0, .ref mo), (1, .int (nI i)), (2, .int acc), (3, .int (nI (4 * i + j)))] → W p l e (headSpec (.code y_M_wanted b_M_wanted 5 ((some .int)) :: GW) ({ frames := 1, cells := 0, slots := 0, locals := 21 })).room s m (#[.ref mo, .int (nI i)] : Array Value) below meth c s.heap [] 0 0 (MQ below (vp_Si (fun r => r = 1 ||| wtB (b.1.map (prOf gd)))) (#[.ref mo, .int (nI i)] : Array Value) s 0 0 (fun _ => False)) (F0 m 6 ls []) := by
    intro k
    induction k with
    | zero =>
      intro j acc ac ls h1_6 h2_6
      exact absurd h2_6 (by omega)
    | succ k ih_6 =>
      intro j acc ac ls h1_6 h2_6 hI_6 hl
      refine lv_iload_n hx hb d_M_wanted_6 rfl (lv_at hl 3 rfl) ?_
      refine lv_iconst (v := 4) hx hb d_M_wanted_7 (by decide) ?_
      refine lv_iload_n hx hb d_M_wanted_8 rfl (lv_at hl 1 rfl) ?_
      refine lv_imul hx hb d_M_wanted_9 ?_
      refine lv_topi (fun v_2 e_2 => ?_)
      obtain rfl : v_2 = nI (4 * i) := by rw [e_2]; exact pk_mul 4 i
      refine lv_aload_n hx hb d_M_wanted_10 rfl (lv_at hl 0 rfl) ?_
      refine ww_get (v := .ref (ad 9)) (C := R_M) (T := F_M) (N := 22) (ci := 5) hx hb hts i_M hown hK hw hM.1 rfl 14 (by decide) (hts _ k_669) (fun _ h9 => h9) rfl d_M_wanted_11 ?_
      refine lv_iload_n hx hb d_M_wanted_14 rfl (lv_at hl 1 rfl) ?_
      refine ww_iald (v := (F 9) i) hx hb hK hw 0 (show w (ad 9) = some (cA g 12 (F 9)) from hM.2.1 9 (by decide)) rfl (vp_in_nI (by omega) (by decide)) (by rw [nI_clamp (by omega)]) d_M_wanted_15 ?_
      refine lv_topi (fun v_3 e_3 => ?_)
      obtain rfl : nI b.1.length = v_3 := (e_3.trans hB9).symm
      refine lv_iadd hx hb d_M_wanted_16 ?_
      refine lv_topi (fun v_4 e_4 => ?_)
      obtain rfl : v_4 = nI ((4 * i) + b.1.length) := by rw [e_4]; exact nI_add (4 * i) b.1.length
      refine lv_icmp_ge (tgt := 101) hx hb d_M_wanted_17 (by decide) (fun c_5 => ?_) (fun c_5 => ?_)
      · have hge : b.1.length ≤ j := lp_ge2 c_5 (by omega) (by omega)
        have hdr : (b.1.map (prOf gd)).drop j = [] := dr_n (by rw [List.length_map]; exact hge)
        refine lv_iload_n hx hb d_M_wanted_101 rfl (lv_at hl 2 rfl) ?_
        exact W.iret (v := acc) hx hb hr (fun t ht hW => ⟨acc, rfl, (by rw [hI_6.1, hI_6.2, hdr]; rfl), ht⟩) t_nil d_M_wanted_102
      · have hlt : j < b.1.length := lp_lt2 c_5 (by omega) (by omega)
        obtain ⟨⟨pn, pm⟩, hp0⟩ : ∃ p, b.1[j]? = some p := ⟨_, List.getElem?_eq_getElem hlt⟩
        have hpn : pn < gn := (hBp j _ hp0).1
        have hp14 : F 14 (4 * i + j) = nI pn := (hBp j _ hp0).2.1
        have hp15 : F 15 (4 * i + j) = pm := (hBp j _ hp0).2.2
        have hGn := hRG.2 pn hpn
        have hdr := dr_c (pt_at (gd := gd) hp0)
        refine lv_aload_n hx hb d_M_wanted_20 rfl (lv_at hl 0 rfl) ?_
        refine ww_get (v := .ref (ad 14)) (C := R_M) (T := F_M) (N := 22) (ci := 5) hx hb hts i_M hown hK hw hM.1 rfl 19 (by decide) (hts _ k_674) (fun _ h9 => h9) rfl d_M_wanted_21 ?_
        refine lv_iload_n hx hb d_M_wanted_24 rfl (lv_at hl 3 rfl) ?_
        refine ww_iald (v := (F 14) (4 * i + j)) hx hb hK hw 0 (show w (ad 14) = some (cA g 48 (F 14)) from hM.2.1 14 (by decide)) rfl (vp_in_nI (by omega) (by decide)) (by rw [nI_clamp (by omega)]) d_M_wanted_25 ?_
        refine lv_topi (fun v_6 e_6 => ?_)
        obtain rfl : nI pn = v_6 := (e_6.trans hp14).symm
        refine lv_istore (lv' := [(4, .int (nI pn)), (0, .ref mo), (1, .int (nI i)), (2, .int acc), (3, .int (nI (4 * i + j)))]) hx hb d_M_wanted_26 hl (by decide) rfl (fun ls hl => ?_)
        refine lv_iload_n hx hb d_M_wanted_28 rfl (lv_at hl 3 rfl) ?_
        refine lv_aload_n hx hb d_M_wanted_29 rfl (lv_at hl 1 rfl) ?_
        refine ww_get (v := .ref (ad 4)) (C := R_M) (T := F_M) (N := 22) (ci := 5) hx hb hts i_M hown hK hw hM.1 rfl 8 (by decide) (hts _ k_663) (fun _ h9 => h9) rfl d_M_wanted_30 ?_
        refine lv_iload hx hb d_M_wanted_33 (lv_at hl 0 rfl) ?_
        refine ww_iald (v := (F 4) pn) hx hb hK hw 0 (show w (ad 4) = some (cA g 16 (F 4)) from hM.2.1 4 (by decide)) rfl (vp_in_nI (by omega) (by decide)) (by rw [nI_clamp (by omega)]) d_M_wanted_35 ?_
        refine lv_topi (fun v_7 e_7 => ?_)
        refine lv_iconst (v := 1) hx hb d_M_wanted_36 (by decide) ?_
        refine lv_icmp_ne (tgt := 44) hx hb d_M_wanted_37 (by decide) (fun c_8 => ?_) (fun c_8 => ?_)
        · refine lv_iconst (v := 0) hx hb d_M_wanted_44 (by decide) ?_
          refine lv_aload_n hx hb d_M_wanted_45 rfl (lv_at hl 1 rfl) ?_
          refine ww_get (v := .ref (ad 6)) (C := R_M) (T := F_M) (N := 22) (ci := 5) hx hb hts i_M hown hK hw hM.1 rfl 10 (by decide) (hts _ k_665) (fun _ h9 => h9) rfl d_M_wanted_46 ?_
          refine lv_iload hx hb d_M_wanted_49 (lv_at hl 0 rfl) ?_
          refine ww_zald (v := (F 6) pn) hx hb hK hw 1 (show w (ad 6) = some (cB g 16 (F 6)) from hM.2.1 6 (by decide)) rfl (vp_in_nI (by omega) (by decide)) (by rw [nI_clamp (by omega)]) d_M_wanted_51 ?_
          refine lv_topi (fun v_9 e_9 => ?_)
          refine lv_if_eq (tgt := 59) hx hb d_M_wanted_52 (by decide) (fun c_10 => ?_) (fun c_10 => ?_)
          · refine lv_iconst (v := 0) hx hb d_M_wanted_59 (by decide) ?_
            refine lv_ior hx hb d_M_wanted_60 ?_
            refine lv_topi (fun v_11 e_11 => ?_)
            refine lv_aload_n hx hb d_M_wanted_61 rfl (lv_at hl 1 rfl) ?_
            refine ww_get (v := .ref (ad 7)) (C := R_M) (T := F_M) (N := 22) (ci := 5) hx hb hts i_M hown hK hw hM.1 rfl 11 (by decide) (hts _ k_666) (fun _ h9 => h9) rfl d_M_wanted_62 ?_
            refine lv_iload hx hb d_M_wanted_65 (lv_at hl 0 rfl) ?_
            refine ww_zald (v := (F 7) pn) hx hb hK hw 1 (show w (ad 7) = some (cB g 16 (F 7)) from hM.2.1 7 (by decide)) rfl (vp_in_nI (by omega) (by decide)) (by rw [nI_clamp (by omega)]) d_M_wanted_67 ?_
            refine lv_topi (fun v_12 e_12 => ?_)
            refine lv_if_eq (tgt := 76) hx hb d_M_wanted_68 (by decide) (fun c_13 => ?_) (fun c_13 => ?_)
            · refine lv_iconst (v := 0) hx hb d_M_wanted_76 (by decide) ?_
              refine lv_ior hx hb d_M_wanted_77 ?_
              refine lv_topi (fun v_14 e_14 => ?_)
              refine lv_aload_n hx hb d_M_wanted_78 rfl (lv_at hl 1 rfl) ?_
              refine lv_iload_n hx hb d_M_wanted_79 rfl (lv_at hl 4 rfl) ?_
              refine wr_i (cV (As := [.int (nI (4 * i + j))]) (rest := [.int v_14, .int acc]) (C := "DangerTablesModel") 1 ⟨hx, hb, hml, hown, hts⟩ (c_M_isLimited l g w mo ad t0 hd sn gn bn F (4 * i + j) pn hM (by omega) (by omega) hp14) k_810 k_807 k_7 k_809 kp_27 (by decide +kernel) ⟨Nat.le_of_ble_eq_true rfl, Nat.le_of_ble_eq_true rfl⟩ rfl rfl ⟨prR_blind _ _ _, hw.recv hK hM.1 rfl, prR_at hG hAB hS hw⟩ rfl hl.1 rfl (Nat.le_of_ble_eq_true rfl) d_M_wanted_80 ⟨Nat.zero_le _, Nat.zero_le _⟩) (fun r_15 e_15 => ?_)
              refine lv_if_eq (tgt := 90) hx hb d_M_wanted_83 (by decide) (fun c_16 => ?_) (fun c_16 => ?_)
              · have q_16 := b2_f e_15 c_16
                have hlm : isLim (F 15 (4 * i + j)) (F 5 pn) = isLim pm (gd pn).2.2.1 := by rw [hp15, hGn.2.2.1]
                refine lv_bipush (v := 16) hx hb d_M_wanted_90 (by decide) ?_
                refine lv_ior hx hb d_M_wanted_92 ?_
                refine lv_topi (fun v_17 e_17 => ?_)
                refine lv_ior hx hb d_M_wanted_93 ?_
                refine lv_topi (fun v_18 e_18 => ?_)
                refine lv_istore_n (lv' := [(2, .int v_18), (4, .int (nI pn)), (0, .ref mo), (1, .int (nI i)), (3, .int (nI (4 * i + j)))]) hx hb d_M_wanted_94 rfl hl (by decide) rfl (fun ls hl => ?_)
                refine lv_iinc (v := (nI ((4 * i + j) + 1))) (lv' := [(3, .int (nI ((4 * i + j) + 1))), (2, .int v_18), (4, .int (nI pn)), (0, .ref mo), (1, .int (nI i))]) hx hb d_M_wanted_95 hl (k := 4) rfl (nI_1 _) (by decide) rfl (fun ls hl => ?_)
                refine lv_goto (tgt := 6) hx hb d_M_wanted_98 (by decide) ?_
                exact ih_6 (j + 1) v_18 (ac ||| wantP pm (gd pn).2.2.1 (gd pn).2.2.2.1) ls (by omega) (by omega) (by
          have hx9 : wantP pm (gd pn).2.2.1 (gd pn).2.2.2.1 = (((1 ||| 0) ||| 0) ||| 0) ||| 16 := by
            rw [wantP, if_neg (by rw [← hlm, q_16]; decide), hGn.2.2.2.1, fieI, if_neg (by rw [← e_7]; exact c_8), if_pos (by rw [← e_9]; exact c_10), if_pos (by rw [← e_12]; exact c_13)] <;> rfl
          exact ⟨by rw [e_18, e_17, e_14, e_11, hI_6.1, hx9, or_help], by rw [hI_6.2, hdr]; rfl⟩) (lv_sub hl [3, 4, 1, 0] rfl)
              · have q_16 := b2_t e_15 c_16
                have hlm : isLim (F 15 (4 * i + j)) (F 5 pn) = isLim pm (gd pn).2.2.1 := by rw [hp15, hGn.2.2.1]
                refine lv_iconst (v := 0) hx hb d_M_wanted_86 (by decide) ?_
                refine lv_goto (tgt := 92) hx hb d_M_wanted_87 (by decide) ?_
                refine lv_ior hx hb d_M_wanted_92 ?_
                refine lv_topi (fun v_19 e_19 => ?_)
                refine lv_ior hx hb d_M_wanted_93 ?_
                refine lv_topi (fun v_20 e_20 => ?_)
                refine lv_istore_n (lv' := [(2, .int v_20), (4, .int (nI pn)), (0, .ref mo), (1, .int (nI i)), (3, .int (nI (4 * i + j)))]) hx hb d_M_wanted_94 rfl hl (by decide) rfl (fun ls hl => ?_)
                refine lv_iinc (v := (nI ((4 * i + j) + 1))) (lv' := [(3, .int (nI ((4 * i + j) + 1))), (2, .int v_20), (4, .int (nI pn)), (0, .ref mo), (1, .int (nI i))]) hx hb d_M_wanted_95 hl (k := 4) rfl (nI_1 _) (by decide) rfl (fun ls hl => ?_)
                refine lv_goto (tgt := 6) hx hb d_M_wanted_98 (by decide) ?_
                exact ih_6 (j + 1) v_20 (ac ||| wantP pm (gd pn).2.2.1 (gd pn).2.2.2.1) ls (by omega) (by omega) (by
          have hx9 : wantP pm (gd pn).2.2.1 (gd pn).2.2.2.1 = (((1 ||| 0) ||| 0) ||| 0) ||| 0 := by
            rw [wantP, if_pos (by rw [← hlm]; exact q_16), hGn.2.2.2.1, fieI, if_neg (by rw [← e_7]; exact c_8), if_pos (by rw [← e_9]; exact c_10), if_pos (by rw [← e_12]; exact c_13)] <;> rfl
          exact ⟨by rw [e_20, e_19, e_14, e_11, hI_6.1, hx9, or_help], by rw [hI_6.2, hdr]; rfl⟩) (lv_sub hl [3, 4, 1, 0] rfl)
            · refine lv_bipush (v := 8) hx hb d_M_wanted_71 (by decide) ?_
              refine lv_goto (tgt := 77) hx hb d_M_wanted_73 (by decide) ?_
              refine lv_ior hx hb d_M_wanted_77 ?_
              refine lv_topi (fun v_21 e_21 => ?_)
              refine lv_aload_n hx hb d_M_wanted_78 rfl (lv_at hl 1 rfl) ?_
              refine lv_iload_n hx hb d_M_wanted_79 rfl (lv_at hl 4 rfl) ?_
              refine wr_i (cV (As := [.int (nI (4 * i + j))]) (rest := [.int v_21, .int acc]) (C := "DangerTablesModel") 1 ⟨hx, hb, hml, hown, hts⟩ (c_M_isLimited l g w mo ad t0 hd sn gn bn F (4 * i + j) pn hM (by omega) (by omega) hp14) k_810 k_807 k_7 k_809 kp_27 (by decide +kernel) ⟨Nat.le_of_ble_eq_true rfl, Nat.le_of_ble_eq_true rfl⟩ rfl rfl ⟨prR_blind _ _ _, hw.recv hK hM.1 rfl, prR_at hG hAB hS hw⟩ rfl hl.1 rfl (Nat.le_of_ble_eq_true rfl) d_M_wanted_80 ⟨Nat.zero_le _, Nat.zero_le _⟩) (fun r_22 e_22 => ?_)
              refine lv_if_eq (tgt := 90) hx hb d_M_wanted_83 (by decide) (fun c_23 => ?_) (fun c_23 => ?_)
              · have q_23 := b2_f e_22 c_23
                have hlm : isLim (F 15 (4 * i + j)) (F 5 pn) = isLim pm (gd pn).2.2.1 := by rw [hp15, hGn.2.2.1]
                refine lv_bipush (v := 16) hx hb d_M_wanted_90 (by decide) ?_
                refine lv_ior hx hb d_M_wanted_92 ?_
                refine lv_topi (fun v_24 e_24 => ?_)
                refine lv_ior hx hb d_M_wanted_93 ?_
                refine lv_topi (fun v_25 e_25 => ?_)
                refine lv_istore_n (lv' := [(2, .int v_25), (4, .int (nI pn)), (0, .ref mo), (1, .int (nI i)), (3, .int (nI (4 * i + j)))]) hx hb d_M_wanted_94 rfl hl (by decide) rfl (fun ls hl => ?_)
                refine lv_iinc (v := (nI ((4 * i + j) + 1))) (lv' := [(3, .int (nI ((4 * i + j) + 1))), (2, .int v_25), (4, .int (nI pn)), (0, .ref mo), (1, .int (nI i))]) hx hb d_M_wanted_95 hl (k := 4) rfl (nI_1 _) (by decide) rfl (fun ls hl => ?_)
                refine lv_goto (tgt := 6) hx hb d_M_wanted_98 (by decide) ?_
                exact ih_6 (j + 1) v_25 (ac ||| wantP pm (gd pn).2.2.1 (gd pn).2.2.2.1) ls (by omega) (by omega) (by
          have hx9 : wantP pm (gd pn).2.2.1 (gd pn).2.2.2.1 = (((1 ||| 0) ||| 0) ||| 8) ||| 16 := by
            rw [wantP, if_neg (by rw [← hlm, q_23]; decide), hGn.2.2.2.1, fieI, if_neg (by rw [← e_7]; exact c_8), if_pos (by rw [← e_9]; exact c_10), if_neg (by rw [← e_12]; exact c_13)] <;> rfl
          exact ⟨by rw [e_25, e_24, e_21, e_11, hI_6.1, hx9, or_help], by rw [hI_6.2, hdr]; rfl⟩) (lv_sub hl [3, 4, 1, 0] rfl)
              · have q_23 := b2_t e_22 c_23
                have hlm : isLim (F 15 (4 * i + j)) (F 5 pn) = isLim pm (gd pn).2.2.1 := by rw [hp15, hGn.2.2.1]
                refine lv_iconst (v := 0) hx hb d_M_wanted_86 (by decide) ?_
                refine lv_goto (tgt := 92) hx hb d_M_wanted_87 (by decide) ?_
                refine lv_ior hx hb d_M_wanted_92 ?_
                refine lv_topi (fun v_26 e_26 => ?_)
                refine lv_ior hx hb d_M_wanted_93 ?_
                refine lv_topi (fun v_27 e_27 => ?_)
                refine lv_istore_n (lv' := [(2, .int v_27), (4, .int (nI pn)), (0, .ref mo), (1, .int (nI i)), (3, .int (nI (4 * i + j)))]) hx hb d_M_wanted_94 rfl hl (by decide) rfl (fun ls hl => ?_)
                refine lv_iinc (v := (nI ((4 * i + j) + 1))) (lv' := [(3, .int (nI ((4 * i + j) + 1))), (2, .int v_27), (4, .int (nI pn)), (0, .ref mo), (1, .int (nI i))]) hx hb d_M_wanted_95 hl (k := 4) rfl (nI_1 _) (by decide) rfl (fun ls hl => ?_)
                refine lv_goto (tgt := 6) hx hb d_M_wanted_98 (by decide) ?_
                exact ih_6 (j + 1) v_27 (ac ||| wantP pm (gd pn).2.2.1 (gd pn).2.2.2.1) ls (by omega) (by omega) (by
          have hx9 : wantP pm (gd pn).2.2.1 (gd pn).2.2.2.1 = (((1 ||| 0) ||| 0) ||| 8) ||| 0 := by
            rw [wantP, if_pos (by rw [← hlm]; exact q_23), hGn.2.2.2.1, fieI, if_neg (by rw [← e_7]; exact c_8), if_pos (by rw [← e_9]; exact c_10), if_neg (by rw [← e_12]; exact c_13)] <;> rfl
          exact ⟨by rw [e_27, e_26, e_21, e_11, hI_6.1, hx9, or_help], by rw [hI_6.2, hdr]; rfl⟩) (lv_sub hl [3, 4, 1, 0] rfl)
          · refine lv_iconst (v := 4) hx hb d_M_wanted_55 (by decide) ?_
            refine lv_goto (tgt := 60) hx hb d_M_wanted_56 (by decide) ?_
            refine lv_ior hx hb d_M_wanted_60 ?_
            refine lv_topi (fun v_28 e_28 => ?_)
            refine lv_aload_n hx hb d_M_wanted_61 rfl (lv_at hl 1 rfl) ?_
            refine ww_get (v := .ref (ad 7)) (C := R_M) (T := F_M) (N := 22) (ci := 5) hx hb hts i_M hown hK hw hM.1 rfl 11 (by decide) (hts _ k_666) (fun _ h9 => h9) rfl d_M_wanted_62 ?_
            refine lv_iload hx hb d_M_wanted_65 (lv_at hl 0 rfl) ?_
            refine ww_zald (v := (F 7) pn) hx hb hK hw 1 (show w (ad 7) = some (cB g 16 (F 7)) from hM.2.1 7 (by decide)) rfl (vp_in_nI (by omega) (by decide)) (by rw [nI_clamp (by omega)]) d_M_wanted_67 ?_
            refine lv_topi (fun v_29 e_29 => ?_)
            refine lv_if_eq (tgt := 76) hx hb d_M_wanted_68 (by decide) (fun c_30 => ?_) (fun c_30 => ?_)
            · refine lv_iconst (v := 0) hx hb d_M_wanted_76 (by decide) ?_
              refine lv_ior hx hb d_M_wanted_77 ?_
              refine lv_topi (fun v_31 e_31 => ?_)
              refine lv_aload_n hx hb d_M_wanted_78 rfl (lv_at hl 1 rfl) ?_
              refine lv_iload_n hx hb d_M_wanted_79 rfl (lv_at hl 4 rfl) ?_
              refine wr_i (cV (As := [.int (nI (4 * i + j))]) (rest := [.int v_31, .int acc]) (C := "DangerTablesModel") 1 ⟨hx, hb, hml, hown, hts⟩ (c_M_isLimited l g w mo ad t0 hd sn gn bn F (4 * i + j) pn hM (by omega) (by omega) hp14) k_810 k_807 k_7 k_809 kp_27 (by decide +kernel) ⟨Nat.le_of_ble_eq_true rfl, Nat.le_of_ble_eq_true rfl⟩ rfl rfl ⟨prR_blind _ _ _, hw.recv hK hM.1 rfl, prR_at hG hAB hS hw⟩ rfl hl.1 rfl (Nat.le_of_ble_eq_true rfl) d_M_wanted_80 ⟨Nat.zero_le _, Nat.zero_le _⟩) (fun r_32 e_32 => ?_)
              refine lv_if_eq (tgt := 90) hx hb d_M_wanted_83 (by decide) (fun c_33 => ?_) (fun c_33 => ?_)
              · have q_33 := b2_f e_32 c_33
                have hlm : isLim (F 15 (4 * i + j)) (F 5 pn) = isLim pm (gd pn).2.2.1 := by rw [hp15, hGn.2.2.1]
                refine lv_bipush (v := 16) hx hb d_M_wanted_90 (by decide) ?_
                refine lv_ior hx hb d_M_wanted_92 ?_
                refine lv_topi (fun v_34 e_34 => ?_)
                refine lv_ior hx hb d_M_wanted_93 ?_
                refine lv_topi (fun v_35 e_35 => ?_)
                refine lv_istore_n (lv' := [(2, .int v_35), (4, .int (nI pn)), (0, .ref mo), (1, .int (nI i)), (3, .int (nI (4 * i + j)))]) hx hb d_M_wanted_94 rfl hl (by decide) rfl (fun ls hl => ?_)
                refine lv_iinc (v := (nI ((4 * i + j) + 1))) (lv' := [(3, .int (nI ((4 * i + j) + 1))), (2, .int v_35), (4, .int (nI pn)), (0, .ref mo), (1, .int (nI i))]) hx hb d_M_wanted_95 hl (k := 4) rfl (nI_1 _) (by decide) rfl (fun ls hl => ?_)
                refine lv_goto (tgt := 6) hx hb d_M_wanted_98 (by decide) ?_
                exact ih_6 (j + 1) v_35 (ac ||| wantP pm (gd pn).2.2.1 (gd pn).2.2.2.1) ls (by omega) (by omega) (by
          have hx9 : wantP pm (gd pn).2.2.1 (gd pn).2.2.2.1 = (((1 ||| 0) ||| 4) ||| 0) ||| 16 := by
            rw [wantP, if_neg (by rw [← hlm, q_33]; decide), hGn.2.2.2.1, fieI, if_neg (by rw [← e_7]; exact c_8), if_neg (by rw [← e_9]; exact c_10), if_pos (by rw [← e_29]; exact c_30)] <;> rfl
          exact ⟨by rw [e_35, e_34, e_31, e_28, hI_6.1, hx9, or_help], by rw [hI_6.2, hdr]; rfl⟩) (lv_sub hl [3, 4, 1, 0] rfl)
              · have q_33 := b2_t e_32 c_33
                have hlm : isLim (F 15 (4 * i + j)) (F 5 pn) = isLim pm (gd pn).2.2.1 := by rw [hp15, hGn.2.2.1]
                refine lv_iconst (v := 0) hx hb d_M_wanted_86 (by decide) ?_
                refine lv_goto (tgt := 92) hx hb d_M_wanted_87 (by decide) ?_
                refine lv_ior hx hb d_M_wanted_92 ?_
                refine lv_topi (fun v_36 e_36 => ?_)
                refine lv_ior hx hb d_M_wanted_93 ?_
                refine lv_topi (fun v_37 e_37 => ?_)
                refine lv_istore_n (lv' := [(2, .int v_37), (4, .int (nI pn)), (0, .ref mo), (1, .int (nI i)), (3, .int (nI (4 * i + j)))]) hx hb d_M_wanted_94 rfl hl (by decide) rfl (fun ls hl => ?_)
                refine lv_iinc (v := (nI ((4 * i + j) + 1))) (lv' := [(3, .int (nI ((4 * i + j) + 1))), (2, .int v_37), (4, .int (nI pn)), (0, .ref mo), (1, .int (nI i))]) hx hb d_M_wanted_95 hl (k := 4) rfl (nI_1 _) (by decide) rfl (fun ls hl => ?_)
                refine lv_goto (tgt := 6) hx hb d_M_wanted_98 (by decide) ?_
                exact ih_6 (j + 1) v_37 (ac ||| wantP pm (gd pn).2.2.1 (gd pn).2.2.2.1) ls (by omega) (by omega) (by
          have hx9 : wantP pm (gd pn).2.2.1 (gd pn).2.2.2.1 = (((1 ||| 0) ||| 4) ||| 0) ||| 0 := by
            rw [wantP, if_pos (by rw [← hlm]; exact q_33), hGn.2.2.2.1, fieI, if_neg (by rw [← e_7]; exact c_8), if_neg (by rw [← e_9]; exact c_10), if_pos (by rw [← e_29]; exact c_30)] <;> rfl
          exact ⟨by rw [e_37, e_36, e_31, e_28, hI_6.1, hx9, or_help], by rw [hI_6.2, hdr]; rfl⟩) (lv_sub hl [3, 4, 1, 0] rfl)
            · refine lv_bipush (v := 8) hx hb d_M_wanted_71 (by decide) ?_
              refine lv_goto (tgt := 77) hx hb d_M_wanted_73 (by decide) ?_
              refine lv_ior hx hb d_M_wanted_77 ?_
              refine lv_topi (fun v_38 e_38 => ?_)
              refine lv_aload_n hx hb d_M_wanted_78 rfl (lv_at hl 1 rfl) ?_
              refine lv_iload_n hx hb d_M_wanted_79 rfl (lv_at hl 4 rfl) ?_
              refine wr_i (cV (As := [.int (nI (4 * i + j))]) (rest := [.int v_38, .int acc]) (C := "DangerTablesModel") 1 ⟨hx, hb, hml, hown, hts⟩ (c_M_isLimited l g w mo ad t0 hd sn gn bn F (4 * i + j) pn hM (by omega) (by omega) hp14) k_810 k_807 k_7 k_809 kp_27 (by decide +kernel) ⟨Nat.le_of_ble_eq_true rfl, Nat.le_of_ble_eq_true rfl⟩ rfl rfl ⟨prR_blind _ _ _, hw.recv hK hM.1 rfl, prR_at hG hAB hS hw⟩ rfl hl.1 rfl (Nat.le_of_ble_eq_true rfl) d_M_wanted_80 ⟨Nat.zero_le _, Nat.zero_le _⟩) (fun r_39 e_39 => ?_)
              refine lv_if_eq (tgt := 90) hx hb d_M_wanted_83 (by decide) (fun c_40 => ?_) (fun c_40 => ?_)
              · have q_40 := b2_f e_39 c_40
                have hlm : isLim (F 15 (4 * i + j)) (F 5 pn) = isLim pm (gd pn).2.2.1 := by rw [hp15, hGn.2.2.1]
                refine lv_bipush (v := 16) hx hb d_M_wanted_90 (by decide) ?_
                refine lv_ior hx hb d_M_wanted_92 ?_
                refine lv_topi (fun v_41 e_41 => ?_)
                refine lv_ior hx hb d_M_wanted_93 ?_
                refine lv_topi (fun v_42 e_42 => ?_)
                refine lv_istore_n (lv' := [(2, .int v_42), (4, .int (nI pn)), (0, .ref mo), (1, .int (nI i)), (3, .int (nI (4 * i + j)))]) hx hb d_M_wanted_94 rfl hl (by decide) rfl (fun ls hl => ?_)
                refine lv_iinc (v := (nI ((4 * i + j) + 1))) (lv' := [(3, .int (nI ((4 * i + j) + 1))), (2, .int v_42), (4, .int (nI pn)), (0, .ref mo), (1, .int (nI i))]) hx hb d_M_wanted_95 hl (k := 4) rfl (nI_1 _) (by decide) rfl (fun ls hl => ?_)
                refine lv_goto (tgt := 6) hx hb d_M_wanted_98 (by decide) ?_
                exact ih_6 (j + 1) v_42 (ac ||| wantP pm (gd pn).2.2.1 (gd pn).2.2.2.1) ls (by omega) (by omega) (by
          have hx9 : wantP pm (gd pn).2.2.1 (gd pn).2.2.2.1 = (((1 ||| 0) ||| 4) ||| 8) ||| 16 := by
            rw [wantP, if_neg (by rw [← hlm, q_40]; decide), hGn.2.2.2.1, fieI, if_neg (by rw [← e_7]; exact c_8), if_neg (by rw [← e_9]; exact c_10), if_neg (by rw [← e_29]; exact c_30)] <;> rfl
          exact ⟨by rw [e_42, e_41, e_38, e_28, hI_6.1, hx9, or_help], by rw [hI_6.2, hdr]; rfl⟩) (lv_sub hl [3, 4, 1, 0] rfl)
              · have q_40 := b2_t e_39 c_40
                have hlm : isLim (F 15 (4 * i + j)) (F 5 pn) = isLim pm (gd pn).2.2.1 := by rw [hp15, hGn.2.2.1]
                refine lv_iconst (v := 0) hx hb d_M_wanted_86 (by decide) ?_
                refine lv_goto (tgt := 92) hx hb d_M_wanted_87 (by decide) ?_
                refine lv_ior hx hb d_M_wanted_92 ?_
                refine lv_topi (fun v_43 e_43 => ?_)
                refine lv_ior hx hb d_M_wanted_93 ?_
                refine lv_topi (fun v_44 e_44 => ?_)
                refine lv_istore_n (lv' := [(2, .int v_44), (4, .int (nI pn)), (0, .ref mo), (1, .int (nI i)), (3, .int (nI (4 * i + j)))]) hx hb d_M_wanted_94 rfl hl (by decide) rfl (fun ls hl => ?_)
                refine lv_iinc (v := (nI ((4 * i + j) + 1))) (lv' := [(3, .int (nI ((4 * i + j) + 1))), (2, .int v_44), (4, .int (nI pn)), (0, .ref mo), (1, .int (nI i))]) hx hb d_M_wanted_95 hl (k := 4) rfl (nI_1 _) (by decide) rfl (fun ls hl => ?_)
                refine lv_goto (tgt := 6) hx hb d_M_wanted_98 (by decide) ?_
                exact ih_6 (j + 1) v_44 (ac ||| wantP pm (gd pn).2.2.1 (gd pn).2.2.2.1) ls (by omega) (by omega) (by
          have hx9 : wantP pm (gd pn).2.2.1 (gd pn).2.2.2.1 = (((1 ||| 0) ||| 4) ||| 8) ||| 0 := by
            rw [wantP, if_pos (by rw [← hlm]; exact q_40), hGn.2.2.2.1, fieI, if_neg (by rw [← e_7]; exact c_8), if_neg (by rw [← e_9]; exact c_10), if_neg (by rw [← e_29]; exact c_30)] <;> rfl
          exact ⟨by rw [e_44, e_43, e_38, e_28, hI_6.1, hx9, or_help], by rw [hI_6.2, hdr]; rfl⟩) (lv_sub hl [3, 4, 1, 0] rfl)
        · refine lv_iconst (v := 2) hx hb d_M_wanted_40 (by decide) ?_
          refine lv_goto (tgt := 45) hx hb d_M_wanted_41 (by decide) ?_
          refine lv_aload_n hx hb d_M_wanted_45 rfl (lv_at hl 1 rfl) ?_
          refine ww_get (v := .ref (ad 6)) (C := R_M) (T := F_M) (N := 22) (ci := 5) hx hb hts i_M hown hK hw hM.1 rfl 10 (by decide) (hts _ k_665) (fun _ h9 => h9) rfl d_M_wanted_46 ?_
          refine lv_iload hx hb d_M_wanted_49 (lv_at hl 0 rfl) ?_
          refine ww_zald (v := (F 6) pn) hx hb hK hw 1 (show w (ad 6) = some (cB g 16 (F 6)) from hM.2.1 6 (by decide)) rfl (vp_in_nI (by omega) (by decide)) (by rw [nI_clamp (by omega)]) d_M_wanted_51 ?_
          refine lv_topi (fun v_45 e_45 => ?_)
          refine lv_if_eq (tgt := 59) hx hb d_M_wanted_52 (by decide) (fun c_46 => ?_) (fun c_46 => ?_)
          · refine lv_iconst (v := 0) hx hb d_M_wanted_59 (by decide) ?_
            refine lv_ior hx hb d_M_wanted_60 ?_
            refine lv_topi (fun v_47 e_47 => ?_)
            refine lv_aload_n hx hb d_M_wanted_61 rfl (lv_at hl 1 rfl) ?_
            refine ww_get (v := .ref (ad 7)) (C := R_M) (T := F_M) (N := 22) (ci := 5) hx hb hts i_M hown hK hw hM.1 rfl 11 (by decide) (hts _ k_666) (fun _ h9 => h9) rfl d_M_wanted_62 ?_
            refine lv_iload hx hb d_M_wanted_65 (lv_at hl 0 rfl) ?_
            refine ww_zald (v := (F 7) pn) hx hb hK hw 1 (show w (ad 7) = some (cB g 16 (F 7)) from hM.2.1 7 (by decide)) rfl (vp_in_nI (by omega) (by decide)) (by rw [nI_clamp (by omega)]) d_M_wanted_67 ?_
            refine lv_topi (fun v_48 e_48 => ?_)
            refine lv_if_eq (tgt := 76) hx hb d_M_wanted_68 (by decide) (fun c_49 => ?_) (fun c_49 => ?_)
            · refine lv_iconst (v := 0) hx hb d_M_wanted_76 (by decide) ?_
              refine lv_ior hx hb d_M_wanted_77 ?_
              refine lv_topi (fun v_50 e_50 => ?_)
              refine lv_aload_n hx hb d_M_wanted_78 rfl (lv_at hl 1 rfl) ?_
              refine lv_iload_n hx hb d_M_wanted_79 rfl (lv_at hl 4 rfl) ?_
              refine wr_i (cV (As := [.int (nI (4 * i + j))]) (rest := [.int v_50, .int acc]) (C := "DangerTablesModel") 1 ⟨hx, hb, hml, hown, hts⟩ (c_M_isLimited l g w mo ad t0 hd sn gn bn F (4 * i + j) pn hM (by omega) (by omega) hp14) k_810 k_807 k_7 k_809 kp_27 (by decide +kernel) ⟨Nat.le_of_ble_eq_true rfl, Nat.le_of_ble_eq_true rfl⟩ rfl rfl ⟨prR_blind _ _ _, hw.recv hK hM.1 rfl, prR_at hG hAB hS hw⟩ rfl hl.1 rfl (Nat.le_of_ble_eq_true rfl) d_M_wanted_80 ⟨Nat.zero_le _, Nat.zero_le _⟩) (fun r_51 e_51 => ?_)
              refine lv_if_eq (tgt := 90) hx hb d_M_wanted_83 (by decide) (fun c_52 => ?_) (fun c_52 => ?_)
              · have q_52 := b2_f e_51 c_52
                have hlm : isLim (F 15 (4 * i + j)) (F 5 pn) = isLim pm (gd pn).2.2.1 := by rw [hp15, hGn.2.2.1]
                refine lv_bipush (v := 16) hx hb d_M_wanted_90 (by decide) ?_
                refine lv_ior hx hb d_M_wanted_92 ?_
                refine lv_topi (fun v_53 e_53 => ?_)
                refine lv_ior hx hb d_M_wanted_93 ?_
                refine lv_topi (fun v_54 e_54 => ?_)
                refine lv_istore_n (lv' := [(2, .int v_54), (4, .int (nI pn)), (0, .ref mo), (1, .int (nI i)), (3, .int (nI (4 * i + j)))]) hx hb d_M_wanted_94 rfl hl (by decide) rfl (fun ls hl => ?_)
                refine lv_iinc (v := (nI ((4 * i + j) + 1))) (lv' := [(3, .int (nI ((4 * i + j) + 1))), (2, .int v_54), (4, .int (nI pn)), (0, .ref mo), (1, .int (nI i))]) hx hb d_M_wanted_95 hl (k := 4) rfl (nI_1 _) (by decide) rfl (fun ls hl => ?_)
                refine lv_goto (tgt := 6) hx hb d_M_wanted_98 (by decide) ?_
                exact ih_6 (j + 1) v_54 (ac ||| wantP pm (gd pn).2.2.1 (gd pn).2.2.2.1) ls (by omega) (by omega) (by
          have hx9 : wantP pm (gd pn).2.2.1 (gd pn).2.2.2.1 = (((1 ||| 2) ||| 0) ||| 0) ||| 16 := by
            rw [wantP, if_neg (by rw [← hlm, q_52]; decide), hGn.2.2.2.1, fieI, if_pos (by rw [← e_7]; exact c_8), if_pos (by rw [← e_45]; exact c_46), if_pos (by rw [← e_48]; exact c_49)] <;> rfl
          exact ⟨by rw [e_54, e_53, e_50, e_47, hI_6.1, hx9, or_help], by rw [hI_6.2, hdr]; rfl⟩) (lv_sub hl [3, 4, 1, 0] rfl)
              · have q_52 := b2_t e_51 c_52
                have hlm : isLim (F 15 (4 * i + j)) (F 5 pn) = isLim pm (gd pn).2.2.1 := by rw [hp15, hGn.2.2.1]
                refine lv_iconst (v := 0) hx hb d_M_wanted_86 (by decide) ?_
                refine lv_goto (tgt := 92) hx hb d_M_wanted_87 (by decide) ?_
                refine lv_ior hx hb d_M_wanted_92 ?_
                refine lv_topi (fun v_55 e_55 => ?_)
                refine lv_ior hx hb d_M_wanted_93 ?_
                refine lv_topi (fun v_56 e_56 => ?_)
                refine lv_istore_n (lv' := [(2, .int v_56), (4, .int (nI pn)), (0, .ref mo), (1, .int (nI i)), (3, .int (nI (4 * i + j)))]) hx hb d_M_wanted_94 rfl hl (by decide) rfl (fun ls hl => ?_)
                refine lv_iinc (v := (nI ((4 * i + j) + 1))) (lv' := [(3, .int (nI ((4 * i + j) + 1))), (2, .int v_56), (4, .int (nI pn)), (0, .ref mo), (1, .int (nI i))]) hx hb d_M_wanted_95 hl (k := 4) rfl (nI_1 _) (by decide) rfl (fun ls hl => ?_)
                refine lv_goto (tgt := 6) hx hb d_M_wanted_98 (by decide) ?_
                exact ih_6 (j + 1) v_56 (ac ||| wantP pm (gd pn).2.2.1 (gd pn).2.2.2.1) ls (by omega) (by omega) (by
          have hx9 : wantP pm (gd pn).2.2.1 (gd pn).2.2.2.1 = (((1 ||| 2) ||| 0) ||| 0) ||| 0 := by
            rw [wantP, if_pos (by rw [← hlm]; exact q_52), hGn.2.2.2.1, fieI, if_pos (by rw [← e_7]; exact c_8), if_pos (by rw [← e_45]; exact c_46), if_pos (by rw [← e_48]; exact c_49)] <;> rfl
          exact ⟨by rw [e_56, e_55, e_50, e_47, hI_6.1, hx9, or_help], by rw [hI_6.2, hdr]; rfl⟩) (lv_sub hl [3, 4, 1, 0] rfl)
            · refine lv_bipush (v := 8) hx hb d_M_wanted_71 (by decide) ?_
              refine lv_goto (tgt := 77) hx hb d_M_wanted_73 (by decide) ?_
              refine lv_ior hx hb d_M_wanted_77 ?_
              refine lv_topi (fun v_57 e_57 => ?_)
              refine lv_aload_n hx hb d_M_wanted_78 rfl (lv_at hl 1 rfl) ?_
              refine lv_iload_n hx hb d_M_wanted_79 rfl (lv_at hl 4 rfl) ?_
              refine wr_i (cV (As := [.int (nI (4 * i + j))]) (rest := [.int v_57, .int acc]) (C := "DangerTablesModel") 1 ⟨hx, hb, hml, hown, hts⟩ (c_M_isLimited l g w mo ad t0 hd sn gn bn F (4 * i + j) pn hM (by omega) (by omega) hp14) k_810 k_807 k_7 k_809 kp_27 (by decide +kernel) ⟨Nat.le_of_ble_eq_true rfl, Nat.le_of_ble_eq_true rfl⟩ rfl rfl ⟨prR_blind _ _ _, hw.recv hK hM.1 rfl, prR_at hG hAB hS hw⟩ rfl hl.1 rfl (Nat.le_of_ble_eq_true rfl) d_M_wanted_80 ⟨Nat.zero_le _, Nat.zero_le _⟩) (fun r_58 e_58 => ?_)
              refine lv_if_eq (tgt := 90) hx hb d_M_wanted_83 (by decide) (fun c_59 => ?_) (fun c_59 => ?_)
              · have q_59 := b2_f e_58 c_59
                have hlm : isLim (F 15 (4 * i + j)) (F 5 pn) = isLim pm (gd pn).2.2.1 := by rw [hp15, hGn.2.2.1]
                refine lv_bipush (v := 16) hx hb d_M_wanted_90 (by decide) ?_
                refine lv_ior hx hb d_M_wanted_92 ?_
                refine lv_topi (fun v_60 e_60 => ?_)
                refine lv_ior hx hb d_M_wanted_93 ?_
                refine lv_topi (fun v_61 e_61 => ?_)
                refine lv_istore_n (lv' := [(2, .int v_61), (4, .int (nI pn)), (0, .ref mo), (1, .int (nI i)), (3, .int (nI (4 * i + j)))]) hx hb d_M_wanted_94 rfl hl (by decide) rfl (fun ls hl => ?_)
                refine lv_iinc (v := (nI ((4 * i + j) + 1))) (lv' := [(3, .int (nI ((4 * i + j) + 1))), (2, .int v_61), (4, .int (nI pn)), (0, .ref mo), (1, .int (nI i))]) hx hb d_M_wanted_95 hl (k := 4) rfl (nI_1 _) (by decide) rfl (fun ls hl => ?_)
                refine lv_goto (tgt := 6) hx hb d_M_wanted_98 (by decide) ?_
                exact ih_6 (j + 1) v_61 (ac ||| wantP pm (gd pn).2.2.1 (gd pn).2.2.2.1) ls (by omega) (by omega) (by
          have hx9 : wantP pm (gd pn).2.2.1 (gd pn).2.2.2.1 = (((1 ||| 2) ||| 0) ||| 8) ||| 16 := by
            rw [wantP, if_neg (by rw [← hlm, q_59]; decide), hGn.2.2.2.1, fieI, if_pos (by rw [← e_7]; exact c_8), if_pos (by rw [← e_45]; exact c_46), if_neg (by rw [← e_48]; exact c_49)] <;> rfl
          exact ⟨by rw [e_61, e_60, e_57, e_47, hI_6.1, hx9, or_help], by rw [hI_6.2, hdr]; rfl⟩) (lv_sub hl [3, 4, 1, 0] rfl)
              · have q_59 := b2_t e_58 c_59
                have hlm : isLim (F 15 (4 * i + j)) (F 5 pn) = isLim pm (gd pn).2.2.1 := by rw [hp15, hGn.2.2.1]
                refine lv_iconst (v := 0) hx hb d_M_wanted_86 (by decide) ?_
                refine lv_goto (tgt := 92) hx hb d_M_wanted_87 (by decide) ?_
                refine lv_ior hx hb d_M_wanted_92 ?_
                refine lv_topi (fun v_62 e_62 => ?_)
                refine lv_ior hx hb d_M_wanted_93 ?_
                refine lv_topi (fun v_63 e_63 => ?_)
                refine lv_istore_n (lv' := [(2, .int v_63), (4, .int (nI pn)), (0, .ref mo), (1, .int (nI i)), (3, .int (nI (4 * i + j)))]) hx hb d_M_wanted_94 rfl hl (by decide) rfl (fun ls hl => ?_)
                refine lv_iinc (v := (nI ((4 * i + j) + 1))) (lv' := [(3, .int (nI ((4 * i + j) + 1))), (2, .int v_63), (4, .int (nI pn)), (0, .ref mo), (1, .int (nI i))]) hx hb d_M_wanted_95 hl (k := 4) rfl (nI_1 _) (by decide) rfl (fun ls hl => ?_)
                refine lv_goto (tgt := 6) hx hb d_M_wanted_98 (by decide) ?_
                exact ih_6 (j + 1) v_63 (ac ||| wantP pm (gd pn).2.2.1 (gd pn).2.2.2.1) ls (by omega) (by omega) (by
          have hx9 : wantP pm (gd pn).2.2.1 (gd pn).2.2.2.1 = (((1 ||| 2) ||| 0) ||| 8) ||| 0 := by
            rw [wantP, if_pos (by rw [← hlm]; exact q_59), hGn.2.2.2.1, fieI, if_pos (by rw [← e_7]; exact c_8), if_pos (by rw [← e_45]; exact c_46), if_neg (by rw [← e_48]; exact c_49)] <;> rfl
          exact ⟨by rw [e_63, e_62, e_57, e_47, hI_6.1, hx9, or_help], by rw [hI_6.2, hdr]; rfl⟩) (lv_sub hl [3, 4, 1, 0] rfl)
          · refine lv_iconst (v := 4) hx hb d_M_wanted_55 (by decide) ?_
            refine lv_goto (tgt := 60) hx hb d_M_wanted_56 (by decide) ?_
            refine lv_ior hx hb d_M_wanted_60 ?_
            refine lv_topi (fun v_64 e_64 => ?_)
            refine lv_aload_n hx hb d_M_wanted_61 rfl (lv_at hl 1 rfl) ?_
            refine ww_get (v := .ref (ad 7)) (C := R_M) (T := F_M) (N := 22) (ci := 5) hx hb hts i_M hown hK hw hM.1 rfl 11 (by decide) (hts _ k_666) (fun _ h9 => h9) rfl d_M_wanted_62 ?_
            refine lv_iload hx hb d_M_wanted_65 (lv_at hl 0 rfl) ?_
            refine ww_zald (v := (F 7) pn) hx hb hK hw 1 (show w (ad 7) = some (cB g 16 (F 7)) from hM.2.1 7 (by decide)) rfl (vp_in_nI (by omega) (by decide)) (by rw [nI_clamp (by omega)]) d_M_wanted_67 ?_
            refine lv_topi (fun v_65 e_65 => ?_)
            refine lv_if_eq (tgt := 76) hx hb d_M_wanted_68 (by decide) (fun c_66 => ?_) (fun c_66 => ?_)
            · refine lv_iconst (v := 0) hx hb d_M_wanted_76 (by decide) ?_
              refine lv_ior hx hb d_M_wanted_77 ?_
              refine lv_topi (fun v_67 e_67 => ?_)
              refine lv_aload_n hx hb d_M_wanted_78 rfl (lv_at hl 1 rfl) ?_
              refine lv_iload_n hx hb d_M_wanted_79 rfl (lv_at hl 4 rfl) ?_
              refine wr_i (cV (As := [.int (nI (4 * i + j))]) (rest := [.int v_67, .int acc]) (C := "DangerTablesModel") 1 ⟨hx, hb, hml, hown, hts⟩ (c_M_isLimited l g w mo ad t0 hd sn gn bn F (4 * i + j) pn hM (by omega) (by omega) hp14) k_810 k_807 k_7 k_809 kp_27 (by decide +kernel) ⟨Nat.le_of_ble_eq_true rfl, Nat.le_of_ble_eq_true rfl⟩ rfl rfl ⟨prR_blind _ _ _, hw.recv hK hM.1 rfl, prR_at hG hAB hS hw⟩ rfl hl.1 rfl (Nat.le_of_ble_eq_true rfl) d_M_wanted_80 ⟨Nat.zero_le _, Nat.zero_le _⟩) (fun r_68 e_68 => ?_)
              refine lv_if_eq (tgt := 90) hx hb d_M_wanted_83 (by decide) (fun c_69 => ?_) (fun c_69 => ?_)
              · have q_69 := b2_f e_68 c_69
                have hlm : isLim (F 15 (4 * i + j)) (F 5 pn) = isLim pm (gd pn).2.2.1 := by rw [hp15, hGn.2.2.1]
                refine lv_bipush (v := 16) hx hb d_M_wanted_90 (by decide) ?_
                refine lv_ior hx hb d_M_wanted_92 ?_
                refine lv_topi (fun v_70 e_70 => ?_)
                refine lv_ior hx hb d_M_wanted_93 ?_
                refine lv_topi (fun v_71 e_71 => ?_)
                refine lv_istore_n (lv' := [(2, .int v_71), (4, .int (nI pn)), (0, .ref mo), (1, .int (nI i)), (3, .int (nI (4 * i + j)))]) hx hb d_M_wanted_94 rfl hl (by decide) rfl (fun ls hl => ?_)
                refine lv_iinc (v := (nI ((4 * i + j) + 1))) (lv' := [(3, .int (nI ((4 * i + j) + 1))), (2, .int v_71), (4, .int (nI pn)), (0, .ref mo), (1, .int (nI i))]) hx hb d_M_wanted_95 hl (k := 4) rfl (nI_1 _) (by decide) rfl (fun ls hl => ?_)
                refine lv_goto (tgt := 6) hx hb d_M_wanted_98 (by decide) ?_
                exact ih_6 (j + 1) v_71 (ac ||| wantP pm (gd pn).2.2.1 (gd pn).2.2.2.1) ls (by omega) (by omega) (by
          have hx9 : wantP pm (gd pn).2.2.1 (gd pn).2.2.2.1 = (((1 ||| 2) ||| 4) ||| 0) ||| 16 := by
            rw [wantP, if_neg (by rw [← hlm, q_69]; decide), hGn.2.2.2.1, fieI, if_pos (by rw [← e_7]; exact c_8), if_neg (by rw [← e_45]; exact c_46), if_pos (by rw [← e_65]; exact c_66)] <;> rfl
          exact ⟨by rw [e_71, e_70, e_67, e_64, hI_6.1, hx9, or_help], by rw [hI_6.2, hdr]; rfl⟩) (lv_sub hl [3, 4, 1, 0] rfl)
              · have q_69 := b2_t e_68 c_69
                have hlm : isLim (F 15 (4 * i + j)) (F 5 pn) = isLim pm (gd pn).2.2.1 := by rw [hp15, hGn.2.2.1]
                refine lv_iconst (v := 0) hx hb d_M_wanted_86 (by decide) ?_
                refine lv_goto (tgt := 92) hx hb d_M_wanted_87 (by decide) ?_
                refine lv_ior hx hb d_M_wanted_92 ?_
                refine lv_topi (fun v_72 e_72 => ?_)
                refine lv_ior hx hb d_M_wanted_93 ?_
                refine lv_topi (fun v_73 e_73 => ?_)
                refine lv_istore_n (lv' := [(2, .int v_73), (4, .int (nI pn)), (0, .ref mo), (1, .int (nI i)), (3, .int (nI (4 * i + j)))]) hx hb d_M_wanted_94 rfl hl (by decide) rfl (fun ls hl => ?_)
                refine lv_iinc (v := (nI ((4 * i + j) + 1))) (lv' := [(3, .int (nI ((4 * i + j) + 1))), (2, .int v_73), (4, .int (nI pn)), (0, .ref mo), (1, .int (nI i))]) hx hb d_M_wanted_95 hl (k := 4) rfl (nI_1 _) (by decide) rfl (fun ls hl => ?_)
                refine lv_goto (tgt := 6) hx hb d_M_wanted_98 (by decide) ?_
                exact ih_6 (j + 1) v_73 (ac ||| wantP pm (gd pn).2.2.1 (gd pn).2.2.2.1) ls (by omega) (by omega) (by
          have hx9 : wantP pm (gd pn).2.2.1 (gd pn).2.2.2.1 = (((1 ||| 2) ||| 4) ||| 0) ||| 0 := by
            rw [wantP, if_pos (by rw [← hlm]; exact q_69), hGn.2.2.2.1, fieI, if_pos (by rw [← e_7]; exact c_8), if_neg (by rw [← e_45]; exact c_46), if_pos (by rw [← e_65]; exact c_66)] <;> rfl
          exact ⟨by rw [e_73, e_72, e_67, e_64, hI_6.1, hx9, or_help], by rw [hI_6.2, hdr]; rfl⟩) (lv_sub hl [3, 4, 1, 0] rfl)
            · refine lv_bipush (v := 8) hx hb d_M_wanted_71 (by decide) ?_
              refine lv_goto (tgt := 77) hx hb d_M_wanted_73 (by decide) ?_
              refine lv_ior hx hb d_M_wanted_77 ?_
              refine lv_topi (fun v_74 e_74 => ?_)
              refine lv_aload_n hx hb d_M_wanted_78 rfl (lv_at hl 1 rfl) ?_
              refine lv_iload_n hx hb d_M_wanted_79 rfl (lv_at hl 4 rfl) ?_
              refine wr_i (cV (As := [.int (nI (4 * i + j))]) (rest := [.int v_74, .int acc]) (C := "DangerTablesModel") 1 ⟨hx, hb, hml, hown, hts⟩ (c_M_isLimited l g w mo ad t0 hd sn gn bn F (4 * i + j) pn hM (by omega) (by omega) hp14) k_810 k_807 k_7 k_809 kp_27 (by decide +kernel) ⟨Nat.le_of_ble_eq_true rfl, Nat.le_of_ble_eq_true rfl⟩ rfl rfl ⟨prR_blind _ _ _, hw.recv hK hM.1 rfl, prR_at hG hAB hS hw⟩ rfl hl.1 rfl (Nat.le_of_ble_eq_true rfl) d_M_wanted_80 ⟨Nat.zero_le _, Nat.zero_le _⟩) (fun r_75 e_75 => ?_)
              refine lv_if_eq (tgt := 90) hx hb d_M_wanted_83 (by decide) (fun c_76 => ?_) (fun c_76 => ?_)
              · have q_76 := b2_f e_75 c_76
                have hlm : isLim (F 15 (4 * i + j)) (F 5 pn) = isLim pm (gd pn).2.2.1 := by rw [hp15, hGn.2.2.1]
                refine lv_bipush (v := 16) hx hb d_M_wanted_90 (by decide) ?_
                refine lv_ior hx hb d_M_wanted_92 ?_
                refine lv_topi (fun v_77 e_77 => ?_)
                refine lv_ior hx hb d_M_wanted_93 ?_
                refine lv_topi (fun v_78 e_78 => ?_)
                refine lv_istore_n (lv' := [(2, .int v_78), (4, .int (nI pn)), (0, .ref mo), (1, .int (nI i)), (3, .int (nI (4 * i + j)))]) hx hb d_M_wanted_94 rfl hl (by decide) rfl (fun ls hl => ?_)
                refine lv_iinc (v := (nI ((4 * i + j) + 1))) (lv' := [(3, .int (nI ((4 * i + j) + 1))), (2, .int v_78), (4, .int (nI pn)), (0, .ref mo), (1, .int (nI i))]) hx hb d_M_wanted_95 hl (k := 4) rfl (nI_1 _) (by decide) rfl (fun ls hl => ?_)
                refine lv_goto (tgt := 6) hx hb d_M_wanted_98 (by decide) ?_
                exact ih_6 (j + 1) v_78 (ac ||| wantP pm (gd pn).2.2.1 (gd pn).2.2.2.1) ls (by omega) (by omega) (by
          have hx9 : wantP pm (gd pn).2.2.1 (gd pn).2.2.2.1 = (((1 ||| 2) ||| 4) ||| 8) ||| 16 := by
            rw [wantP, if_neg (by rw [← hlm, q_76]; decide), hGn.2.2.2.1, fieI, if_pos (by rw [← e_7]; exact c_8), if_neg (by rw [← e_45]; exact c_46), if_neg (by rw [← e_65]; exact c_66)] <;> rfl
          exact ⟨by rw [e_78, e_77, e_74, e_64, hI_6.1, hx9, or_help], by rw [hI_6.2, hdr]; rfl⟩) (lv_sub hl [3, 4, 1, 0] rfl)
              · have q_76 := b2_t e_75 c_76
                have hlm : isLim (F 15 (4 * i + j)) (F 5 pn) = isLim pm (gd pn).2.2.1 := by rw [hp15, hGn.2.2.1]
                refine lv_iconst (v := 0) hx hb d_M_wanted_86 (by decide) ?_
                refine lv_goto (tgt := 92) hx hb d_M_wanted_87 (by decide) ?_
                refine lv_ior hx hb d_M_wanted_92 ?_
                refine lv_topi (fun v_79 e_79 => ?_)
                refine lv_ior hx hb d_M_wanted_93 ?_
                refine lv_topi (fun v_80 e_80 => ?_)
                refine lv_istore_n (lv' := [(2, .int v_80), (4, .int (nI pn)), (0, .ref mo), (1, .int (nI i)), (3, .int (nI (4 * i + j)))]) hx hb d_M_wanted_94 rfl hl (by decide) rfl (fun ls hl => ?_)
                refine lv_iinc (v := (nI ((4 * i + j) + 1))) (lv' := [(3, .int (nI ((4 * i + j) + 1))), (2, .int v_80), (4, .int (nI pn)), (0, .ref mo), (1, .int (nI i))]) hx hb d_M_wanted_95 hl (k := 4) rfl (nI_1 _) (by decide) rfl (fun ls hl => ?_)
                refine lv_goto (tgt := 6) hx hb d_M_wanted_98 (by decide) ?_
                exact ih_6 (j + 1) v_80 (ac ||| wantP pm (gd pn).2.2.1 (gd pn).2.2.2.1) ls (by omega) (by omega) (by
          have hx9 : wantP pm (gd pn).2.2.1 (gd pn).2.2.2.1 = (((1 ||| 2) ||| 4) ||| 8) ||| 0 := by
            rw [wantP, if_pos (by rw [← hlm]; exact q_76), hGn.2.2.2.1, fieI, if_pos (by rw [← e_7]; exact c_8), if_neg (by rw [← e_45]; exact c_46), if_neg (by rw [← e_65]; exact c_66)] <;> rfl
          exact ⟨by rw [e_80, e_79, e_74, e_64, hI_6.1, hx9, or_help], by rw [hI_6.2, hdr]; rfl⟩) (lv_sub hl [3, 4, 1, 0] rfl)
  exact loop_6 (b.1.length + 1) 0 1 0 ls (by omega) (by omega) ⟨by decide, rfl⟩ (lv_sub hl [2, 3, 1, 0] rfl)

set_option maxHeartbeats 4000000 in
set_option maxRecDepth 100000 in
theorem c_M_strictest (l : Launch) (g : GT) (w : Nat → Option va_E) (mo : Nat) (ad : Nat → Nat) (t0 hd : Int32) (sn gn bn : Nat) (F : Nat → Nat → Int32) (gd : Nat → GD) (rf : Nat → Int32) (i1 i2 : Nat) (b1 b2_ : BR) (hM : isM g w mo ad t0 sn hd gn bn F) (hRG : RG gd gn F) (hRT : RT rf F) (hi1 : i1 < 12) (hi2 : i2 < 12) (hBA : RBx F gn i1 b1) (hBB : RBx F gn i2 b2_) : Met l y_M_strictest (.code y_M_strictest b_M_strictest 6 ((some .int)) :: GW) ({ frames := 3, cells := 0, slots := 0, locals := 71 }) (prR g [.ref mo, .int (nI i1), .int (nI i2)] w) (vp_Si (fun r => r = ruB rf (b1.1.map (prOf gd)) (b2_.1.map (prOf gd)))) 0 0 (fun _ => False) := by
  refine Met.ofW (cc := b_M_strictest) (maxL := 6) (ret := (some .int)) (by decide) rfl ?_
  intro p e s m args below meth c s₁ B hml hv
  obtain ⟨rfl, hG, hw⟩ := hv
  have hx := B.exec
  have hb := B.bytes
  have hr := B.returns
  have hts : ∀ w ∈ GW, w.before _ s = true := fun w h => atoms_spec (ws := .code y_M_strictest b_M_strictest 6 ((some .int)) :: GW) B.pre w (List.mem_cons_of_mem _ h)
  have hown : s.vm.findClass "DangerTablesModel" = some m.cls := findClass_of_methodNamed B.named
  have hlocks := B.notSynchronized
  have hf := hG.here
  have hK := hf.1
  have hAB : ∀ q, gB g q → gB g q := fun _ h => h
  have hS : va_S (gB g) s.heap s.heap [] := va_S.rf
  have hl := lv_entry ([.ref mo, .int (nI i1), .int (nI i2)]) (n := 6) (Nat.le_of_ble_eq_true rfl)
  rw [lg_entry_eq]
  generalize (lg_sl ([.ref mo, .int (nI i1), .int (nI i2)]) ++ List.replicate (6 - (lg_sl ([.ref mo, .int (nI i1), .int (nI i2)])).length) Slot.unset).toArray = ls at hl ⊢
  have hl : lv_has ls 6 [(0, .ref mo), (1, .int (nI i1)), (2, .int (nI i2))] := hl
  have hgn := hRG.1
  obtain ⟨hB11, hB91, hB101, hB131, hBz1, hBp1⟩ := id hBA
  obtain ⟨hB12, hB92, hB102, hB132, hBz2, hBp2⟩ := id hBB
  refine lv_iconst (v := 0) hx hb d_M_strictest_0 (by decide) ?_
  refine lv_istore_n (lv' := [(3, .int 0), (0, .ref mo), (1, .int (nI i1)), (2, .int (nI i2))]) hx hb d_M_strictest_1 rfl hl (by decide) rfl (fun ls hl => ?_)
  refine lv_iconst (v := 4) hx hb d_M_strictest_2 (by decide) ?_
  refine lv_iload_n hx hb d_M_strictest_3 rfl (lv_at hl 2 rfl) ?_
  refine lv_imul hx hb d_M_strictest_4 ?_
  refine lv_topi (fun v_1 e_1 => ?_)
  obtain rfl : v_1 = nI (4 * i1) := by rw [e_1]; exact pk_mul 4 i1
  refine lv_istore (lv' := [(4, .int (nI (4 * i1))), (3, .int 0), (0, .ref mo), (1, .int (nI i1)), (2, .int (nI i2))]) hx hb d_M_strictest_5 hl (by decide) rfl (fun ls hl => ?_)
  have loop_7 : ∀ (k j1 : Nat) (acc : Int32) (ls : Array Slot), j1 ≤ b1.1.length → b1.1.length < j1 + k → ruB rf (b1.1.map (prOf gd)) (b2_.1.map (prOf gd)) = ((b1.1.map (prOf gd)).drop j1).foldl (ruG rf (b2_.1.map (prOf gd))) acc → lv_has ls 6 [(0, .ref mo), (1, .int (nI i1)), (2, .int (nI i2)), (3, .int acc), (4, .int (nI (4 * i1 + j1)))] → W p l e (headSpec (.code y_M_strictest b_M_strictest 6 ((some .int)) :: GW) ({ frames := 3, cells := 0, slots := 0, locals := 71 })).room s m (#[.ref mo, .int (nI i1), .int (nI i2)] : Array Value) below meth c s.heap [] 0 0 (MQ below (vp_Si (fun r => r = ruB rf (b1.1.map (prOf gd)) (b2_.1.map (prOf gd)))) (#[.ref mo, .int (nI i1), .int (nI i2)] : Array Value) s 0 0 (fun _ => False)) (F0 m 7 ls []) := by
    intro k
    induction k with
    | zero =>
      intro j1 acc ls h1_7 h2_7
      exact absurd h2_7 (by omega)
    | succ k ih_7 =>
      intro j1 acc ls h1_7 h2_7 hI_7 hl
      refine lv_iload hx hb d_M_strictest_7 (lv_at hl 4 rfl) ?_
      refine lv_iconst (v := 4) hx hb d_M_strictest_9 (by decide) ?_
      refine lv_iload_n hx hb d_M_strictest_10 rfl (lv_at hl 1 rfl) ?_
      refine lv_imul hx hb d_M_strictest_11 ?_
      refine lv_topi (fun v_2 e_2 => ?_)
      obtain rfl : v_2 = nI (4 * i1) := by rw [e_2]; exact pk_mul 4 i1
      refine lv_aload_n hx hb d_M_strictest_12 rfl (lv_at hl 0 rfl) ?_
      refine ww_get (v := .ref (ad 9)) (C := R_M) (T := F_M) (N := 22) (ci := 5) hx hb hts i_M hown hK hw hM.1 rfl 14 (by decide) (hts _ k_669) (fun _ h9 => h9) rfl d_M_strictest_13 ?_
      refine lv_iload_n hx hb d_M_strictest_16 rfl (lv_at hl 1 rfl) ?_
      refine ww_iald (v := (F 9) i1) hx hb hK hw 0 (show w (ad 9) = some (cA g 12 (F 9)) from hM.2.1 9 (by decide)) rfl (vp_in_nI (by omega) (by decide)) (by rw [nI_clamp (by omega)]) d_M_strictest_17 ?_
      refine lv_topi (fun v_3 e_3 => ?_)
      obtain rfl : nI b1.1.length = v_3 := (e_3.trans hB91).symm
      refine lv_iadd hx hb d_M_strictest_18 ?_
      refine lv_topi (fun v_4 e_4 => ?_)
      obtain rfl : v_4 = nI ((4 * i1) + b1.1.length) := by rw [e_4]; exact nI_add (4 * i1) b1.1.length
      refine lv_icmp_ge (tgt := 67) hx hb d_M_strictest_19 (by decide) (fun c_5 => ?_) (fun c_5 => ?_)
      · have hge1 : b1.1.length ≤ j1 := lp_ge2 c_5 (by omega) (by omega)
        have hdr1 : (b1.1.map (prOf gd)).drop j1 = [] := dr_n (by rw [List.length_map]; exact hge1)
        refine lv_iload_n hx hb d_M_strictest_67 rfl (lv_at hl 3 rfl) ?_
        exact W.iret (v := acc) hx hb hr (fun t ht hW => ⟨acc, rfl, (by rw [hI_7, hdr1]; rfl), ht⟩) t_nil d_M_strictest_68
      · have hlt1 : j1 < b1.1.length := lp_lt2 c_5 (by omega) (by omega)
        obtain ⟨⟨pn1, pm1⟩, hp01⟩ : ∃ p, b1.1[j1]? = some p := ⟨_, List.getElem?_eq_getElem hlt1⟩
        have hpn1 : pn1 < gn := (hBp1 j1 _ hp01).1
        have hp141 : F 14 (4 * i1 + j1) = nI pn1 := (hBp1 j1 _ hp01).2.1
        have hp151 : F 15 (4 * i1 + j1) = pm1 := (hBp1 j1 _ hp01).2.2
        have hGn1 := hRG.2 pn1 hpn1
        have hdr1 := dr_c (pt_at (gd := gd) hp01)
        refine lv_iconst (v := 4) hx hb d_M_strictest_22 (by decide) ?_
        refine lv_iload_n hx hb d_M_strictest_23 rfl (lv_at hl 2 rfl) ?_
        refine lv_imul hx hb d_M_strictest_24 ?_
        refine lv_topi (fun v_6 e_6 => ?_)
        obtain rfl : v_6 = nI (4 * i2) := by rw [e_6]; exact pk_mul 4 i2
        refine lv_istore (lv' := [(5, .int (nI (4 * i2))), (0, .ref mo), (1, .int (nI i1)), (2, .int (nI i2)), (3, .int acc), (4, .int (nI (4 * i1 + j1)))]) hx hb d_M_strictest_25 hl (by decide) rfl (fun ls hl => ?_)
        have loop_27 : ∀ (k j2 : Nat) (acc2 : Int32) (ls : Array Slot), j2 ≤ b2_.1.length → b2_.1.length < j2 + k → ruB rf (b1.1.map (prOf gd)) (b2_.1.map (prOf gd)) = ((b1.1.map (prOf gd)).drop (j1 + 1)).foldl (ruG rf (b2_.1.map (prOf gd))) (((b2_.1.map (prOf gd)).drop j2).foldl (ruF rf (prOf gd (pn1, pm1))) acc2) → lv_has ls 6 [(0, .ref mo), (1, .int (nI i1)), (2, .int (nI i2)), (3, .int acc2), (4, .int (nI (4 * i1 + j1))), (5, .int (nI (4 * i2 + j2)))] → W p l e (headSpec (.code y_M_strictest b_M_strictest 6 ((some .int)) :: GW) ({ frames := 3, cells := 0, slots := 0, locals := 71 })).room s m (#[.ref mo, .int (nI i1), .int (nI i2)] : Array Value) below meth c s.heap [] 0 0 (MQ below (vp_Si (fun r => r = ruB rf (b1.1.map (prOf gd)) (b2_.1.map (prOf gd)))) (#[.ref mo, .int (nI i1), .int (nI i2)] : Array Value) s 0 0 (fun _ => False)) (F0 m 27 ls []) := by
          intro k
          induction k with
          | zero =>
            intro j2 acc2 ls h1_27 h2_27
            exact absurd h2_27 (by omega)
          | succ k ih_27 =>
            intro j2 acc2 ls h1_27 h2_27 hI_27 hl
            refine lv_iload hx hb d_M_strictest_27 (lv_at hl 5 rfl) ?_
            refine lv_iconst (v := 4) hx hb d_M_strictest_29 (by decide) ?_
            refine lv_iload_n hx hb d_M_strictest_30 rfl (lv_at hl 2 rfl) ?_
            refine lv_imul hx hb d_M_strictest_31 ?_
            refine lv_topi (fun v_7 e_7 => ?_)
            obtain rfl : v_7 = nI (4 * i2) := by rw [e_7]; exact pk_mul 4 i2
            refine lv_aload_n hx hb d_M_strictest_32 rfl (lv_at hl 0 rfl) ?_
            refine ww_get (v := .ref (ad 9)) (C := R_M) (T := F_M) (N := 22) (ci := 5) hx hb hts i_M hown hK hw hM.1 rfl 14 (by decide) (hts _ k_669) (fun _ h9 => h9) rfl d_M_strictest_33 ?_
            refine lv_iload_n hx hb d_M_strictest_36 rfl (lv_at hl 2 rfl) ?_
            refine ww_iald (v := (F 9) i2) hx hb hK hw 0 (show w (ad 9) = some (cA g 12 (F 9)) from hM.2.1 9 (by decide)) rfl (vp_in_nI (by omega) (by decide)) (by rw [nI_clamp (by omega)]) d_M_strictest_37 ?_
            refine lv_topi (fun v_8 e_8 => ?_)
            obtain rfl : nI b2_.1.length = v_8 := (e_8.trans hB92).symm
            refine lv_iadd hx hb d_M_strictest_38 ?_
            refine lv_topi (fun v_9 e_9 => ?_)
            obtain rfl : v_9 = nI ((4 * i2) + b2_.1.length) := by rw [e_9]; exact nI_add (4 * i2) b2_.1.length
            refine lv_icmp_ge (tgt := 61) hx hb d_M_strictest_39 (by decide) (fun c_10 => ?_) (fun c_10 => ?_)
            · have hge2 : b2_.1.length ≤ j2 := lp_ge2 c_10 (by omega) (by omega)
              have hdr2 : (b2_.1.map (prOf gd)).drop j2 = [] := dr_n (by rw [List.length_map]; exact hge2)
              refine lv_iinc (v := (nI ((4 * i1 + j1) + 1))) (lv' := [(4, .int (nI ((4 * i1 + j1) + 1))), (0, .ref mo), (1, .int (nI i1)), (2, .int (nI i2)), (3, .int acc2), (5, .int (nI (4 * i2 + j2)))]) hx hb d_M_strictest_61 hl (k := 4) rfl (nI_1 _) (by decide) rfl (fun ls hl => ?_)
              refine lv_goto (tgt := 7) hx hb d_M_strictest_64 (by decide) ?_
              exact ih_7 (j1 + 1) acc2 ls (by omega) (by omega) (by rw [hI_27, hdr2]; rfl) (lv_sub hl [1, 2, 3, 4, 0] rfl)
            · have hlt2 : j2 < b2_.1.length := lp_lt2 c_10 (by omega) (by omega)
              obtain ⟨⟨pn2, pm2⟩, hp02⟩ : ∃ p, b2_.1[j2]? = some p := ⟨_, List.getElem?_eq_getElem hlt2⟩
              have hpn2 : pn2 < gn := (hBp2 j2 _ hp02).1
              have hp142 : F 14 (4 * i2 + j2) = nI pn2 := (hBp2 j2 _ hp02).2.1
              have hp152 : F 15 (4 * i2 + j2) = pm2 := (hBp2 j2 _ hp02).2.2
              have hGn2 := hRG.2 pn2 hpn2
              have hdr2 := dr_c (pt_at (gd := gd) hp02)
              refine lv_iload_n hx hb d_M_strictest_42 rfl (lv_at hl 3 rfl) ?_
              refine lv_aload_n hx hb d_M_strictest_43 rfl (lv_at hl 0 rfl) ?_
              refine lv_iload hx hb d_M_strictest_44 (lv_at hl 4 rfl) ?_
              refine lv_iload hx hb d_M_strictest_46 (lv_at hl 5 rfl) ?_
              refine wr_i (cV (As := [.int (nI (4 * i1 + j1)), .int (nI (4 * i2 + j2))]) (rest := [.int acc2]) (C := "DangerTablesModel") 2 ⟨hx, hb, hml, hown, hts⟩ (c_M_between l g w mo ad t0 hd sn gn bn F gd rf (4 * i1 + j1) (4 * i2 + j2) pn1 pn2 hM hRG hRT (by omega) (by omega) hpn1 hpn2 hp141 hp142) k_799 k_796 k_7 k_798 kp_25 (by decide +kernel) ⟨Nat.le_of_ble_eq_true rfl, Nat.le_of_ble_eq_true rfl⟩ rfl rfl ⟨prR_blind _ _ _, hw.recv hK hM.1 rfl, prR_at hG hAB hS hw⟩ rfl hl.1 rfl (Nat.le_of_ble_eq_true rfl) d_M_strictest_48 ⟨Nat.zero_le _, Nat.zero_le _⟩) (fun r_11 e_11 => ?_)
              refine wr_i (cS (As := [.int acc2, .int r_11]) (rest := []) 2 ⟨hx, hb, hml, hown, hts⟩ (c_M_greater l acc2 r_11) k_806 k_804 k_7 k_805 (by decide +kernel) ⟨Nat.le_of_ble_eq_true rfl, Nat.le_of_ble_eq_true rfl⟩ rfl rfl ⟨prN_blind _, fun _ _ _ => ⟨rfl, trivial⟩⟩ rfl hl.1 rfl (Nat.le_of_ble_eq_true rfl) d_M_strictest_51 ⟨Nat.zero_le _, Nat.zero_le _⟩) (fun r_12 e_12 => ?_)
              refine lv_istore_n (lv' := [(3, .int r_12), (0, .ref mo), (1, .int (nI i1)), (2, .int (nI i2)), (4, .int (nI (4 * i1 + j1))), (5, .int (nI (4 * i2 + j2)))]) hx hb d_M_strictest_54 rfl hl (by decide) rfl (fun ls hl => ?_)
              refine lv_iinc (v := (nI ((4 * i2 + j2) + 1))) (lv' := [(5, .int (nI ((4 * i2 + j2) + 1))), (3, .int r_12), (0, .ref mo), (1, .int (nI i1)), (2, .int (nI i2)), (4, .int (nI (4 * i1 + j1)))]) hx hb d_M_strictest_55 hl (k := 5) rfl (nI_1 _) (by decide) rfl (fun ls hl => ?_)
              refine lv_goto (tgt := 27) hx hb d_M_strictest_58 (by decide) ?_
              exact ih_27 (j2 + 1) r_12 ls (by omega) (by omega) (by rw [hI_27, hdr2, List.foldl_cons, show ruF rf (prOf gd (pn1, pm1)) acc2 (prOf gd (pn2, pm2)) = r_12 from by rw [e_12, gt_mx, e_11, hp151, hp152]; rfl]) (lv_sub hl [2, 3, 4, 1, 5, 0] rfl)
        exact loop_27 (b2_.1.length + 1) 0 acc ls (by omega) (by omega) (by rw [hI_7, hdr1]; rfl) (lv_sub hl [1, 2, 3, 4, 5, 0] rfl)
  exact loop_7 (b1.1.length + 1) 0 0 ls (by omega) (by omega) rfl (lv_sub hl [2, 3, 4, 1, 0] rfl)

set_option maxHeartbeats 4000000 in
set_option maxRecDepth 100000 in
theorem c_M_inZone (l : Launch) (g : GT) (w : Nat → Option va_E) (mo : Nat) (ad : Nat → Nat) (t0 hd : Int32) (sn gn bn : Nat) (F : Nat → Nat → Int32) (gd : Nat → GD) (br : List BR) (u v : Int32) (hM : isM g w mo ad t0 sn hd gn bn F) (hRG : RG gd gn F) (hRB : RBs F gn bn br) : Met l y_M_inZone (.code y_M_inZone b_M_inZone 5 ((some .int)) :: GW) ({ frames := 1, cells := 0, slots := 0, locals := 24 }) (prR g [.ref mo, .int u, .int v] w) (vp_Si (fun r => r = kzB (br.map (bxOf gd)) u v)) 0 0 (fun _ => False) := by
  refine Met.ofW (cc := b_M_inZone) (maxL := 5) (ret := (some .int)) (by decide) rfl ?_
  intro p e s m args below meth c s₁ B hml hv
  obtain ⟨rfl, hG, hw⟩ := hv
  have hx := B.exec
  have hb := B.bytes
  have hr := B.returns
  have hts : ∀ w ∈ GW, w.before _ s = true := fun w h => atoms_spec (ws := .code y_M_inZone b_M_inZone 5 ((some .int)) :: GW) B.pre w (List.mem_cons_of_mem _ h)
  have hown : s.vm.findClass "DangerTablesModel" = some m.cls := findClass_of_methodNamed B.named
  have hlocks := B.notSynchronized
  have hf := hG.here
  have hK := hf.1
  have hAB : ∀ q, gB g q → gB g q := fun _ h => h
  have hS : va_S (gB g) s.heap s.heap [] := va_S.rf
  have hl := lv_entry ([.ref mo, .int u, .int v]) (n := 5) (Nat.le_of_ble_eq_true rfl)
  rw [lg_entry_eq]
  generalize (lg_sl ([.ref mo, .int u, .int v]) ++ List.replicate (5 - (lg_sl ([.ref mo, .int u, .int v])).length) Slot.unset).toArray = ls at hl ⊢
  have hl : lv_has ls 5 [(0, .ref mo), (1, .int u), (2, .int v)] := hl
  have hgn := hRG.1
  have hbn := hRB.1
  have hbl := hRB.2.1
  refine lv_iconst (v := 0) hx hb d_M_inZone_0 (by decide) ?_
  refine lv_istore_n (lv' := [(3, .int 0), (0, .ref mo), (1, .int u), (2, .int v)]) hx hb d_M_inZone_1 rfl hl (by decide) rfl (fun ls hl => ?_)
  refine lv_iconst (v := 0) hx hb d_M_inZone_2 (by decide) ?_
  refine lv_istore (lv' := [(4, .int 0), (3, .int 0), (0, .ref mo), (1, .int u), (2, .int v)]) hx hb d_M_inZone_3 hl (by decide) rfl (fun ls hl => ?_)
  have loop_5 : ∀ (k j : Nat) (acc : Int32) (ls : Array Slot), j ≤ bn → bn < j + k → kzB (br.map (bxOf gd)) u v = ((br.map (bxOf gd)).drop j).foldl (kzF u v) acc → lv_has ls 5 [(0, .ref mo), (1, .int u), (2, .int v), (3, .int acc), (4, .int (nI j))] → W p l e (headSpec (.code y_M_inZone b_M_inZone 5 ((some .int)) :: GW) ({ frames := 1, cells := 0, slots := 0, locals := 24 })).room s m (#[.ref mo, .int u, .int v] : Array Value) below meth c s.heap [] 0 0 (MQ below (vp_Si (fun r => r = kzB (br.map (bxOf gd)) u v)) (#[.ref mo, .int u, .int v] : Array Value) s 0 0 (fun _ => False)) (F0 m 5 ls []) := by
    intro k
    induction k with
    | zero =>
      intro j acc ls h1_5 h2_5
      exact absurd h2_5 (by omega)
    | succ k ih_5 =>
      intro j acc ls h1_5 h2_5 hI_5 hl
      refine lv_iload hx hb d_M_inZone_5 (lv_at hl 4 rfl) ?_
      refine lv_aload_n hx hb d_M_inZone_7 rfl (lv_at hl 0 rfl) ?_
      refine ww_get (v := .int (nI bn)) (C := R_M) (T := F_M) (N := 22) (ci := 5) hx hb hts i_M hown hK hw hM.1 rfl 13 (by decide) (hts _ k_668) (fun _ h9 => h9) rfl d_M_inZone_8 ?_
      refine lv_icmp_ge (tgt := 45) hx hb d_M_inZone_11 (by decide) (fun c_1 => ?_) (fun c_1 => ?_)
      · have hgeb : bn ≤ j := lp_ge rfl c_1 (by omega) (by omega)
        have hdrb : (br.map (bxOf gd)).drop j = [] := dr_n (by rw [List.length_map]; omega)
        refine lv_iload_n hx hb d_M_inZone_45 rfl (lv_at hl 3 rfl) ?_
        exact W.iret (v := acc) hx hb hr (fun t ht hW => ⟨acc, rfl, (by rw [hI_5, hdrb]; rfl), ht⟩) t_nil d_M_inZone_46
      · have hltb : j < bn := lp_lt rfl c_1 (by omega) (by omega)
        obtain ⟨bj, hb0⟩ : ∃ b, br[j]? = some b := ⟨_, List.getElem?_eq_getElem (by omega)⟩
        have hBj := hRB.2.2 j bj hb0
        obtain ⟨hB1j, hB9j, hB10j, hB13j, hBzj, hBpj⟩ := id hBj
        have hdrb := dr_c (bx_at (gd := gd) hb0)
        refine lv_iload_n hx hb d_M_inZone_14 rfl (lv_at hl 3 rfl) ?_
        refine lv_aload_n hx hb d_M_inZone_15 rfl (lv_at hl 0 rfl) ?_
        refine ww_get (v := .ref (ad 10)) (C := R_M) (T := F_M) (N := 22) (ci := 5) hx hb hts i_M hown hK hw hM.1 rfl 15 (by decide) (hts _ k_670) (fun _ h9 => h9) rfl d_M_inZone_16 ?_
        refine lv_iload hx hb d_M_inZone_19 (lv_at hl 4 rfl) ?_
        refine ww_iald (v := (F 10) j) hx hb hK hw 0 (show w (ad 10) = some (cA g 12 (F 10)) from hM.2.1 10 (by decide)) rfl (vp_in_nI (by omega) (by decide)) (by rw [nI_clamp (by omega)]) d_M_inZone_21 ?_
        refine lv_topi (fun v_2 e_2 => ?_)
        obtain rfl : bj.2.1 = v_2 := (e_2.trans hB10j).symm
        refine lv_iload_n hx hb d_M_inZone_22 rfl (lv_at hl 1 rfl) ?_
        refine lv_icmp_ne (tgt := 36) hx hb d_M_inZone_23 (by decide) (fun c_3 => ?_) (fun c_3 => ?_)
        · refine lv_iconst (v := 0) hx hb d_M_inZone_36 (by decide) ?_
          refine lv_iadd hx hb d_M_inZone_37 ?_
          refine lv_topi (fun v_4 e_4 => ?_)
          refine lv_istore_n (lv' := [(3, .int v_4), (0, .ref mo), (1, .int u), (2, .int v), (4, .int (nI j))]) hx hb d_M_inZone_38 rfl hl (by decide) rfl (fun ls hl => ?_)
          refine lv_iinc (v := (nI (j + 1))) (lv' := [(4, .int (nI (j + 1))), (3, .int v_4), (0, .ref mo), (1, .int u), (2, .int v)]) hx hb d_M_inZone_39 hl (k := 4) rfl (nI_1 _) (by decide) rfl (fun ls hl => ?_)
          refine lv_goto (tgt := 5) hx hb d_M_inZone_42 (by decide) ?_
          exact ih_5 (j + 1) v_4 ls (by omega) (by omega) (by rw [hI_5, hdrb, List.foldl_cons]; congr 1; simp [kzF, bxOf, c_1, c_3, e_4]) (lv_sub hl [2, 3, 4, 1, 0] rfl)
        · refine lv_aload_n hx hb d_M_inZone_26 rfl (lv_at hl 0 rfl) ?_
          refine lv_iload hx hb d_M_inZone_27 (lv_at hl 4 rfl) ?_
          refine lv_iload_n hx hb d_M_inZone_29 rfl (lv_at hl 2 rfl) ?_
          refine wr_i (cV (As := [.int (nI j), .int v]) (rest := [.int acc]) (C := "DangerTablesModel") 2 ⟨hx, hb, hml, hown, hts⟩ (c_M_inBox l g w mo ad t0 hd sn gn bn F gd j bj v hM hRG (by omega) hBj) k_830 k_827 k_7 k_829 kp_29 (by decide +kernel) ⟨Nat.le_of_ble_eq_true rfl, Nat.le_of_ble_eq_true rfl⟩ rfl rfl ⟨prR_blind _ _ _, hw.recv hK hM.1 rfl, prR_at hG hAB hS hw⟩ rfl hl.1 rfl (Nat.le_of_ble_eq_true rfl) d_M_inZone_30 ⟨Nat.zero_le _, Nat.zero_le _⟩) (fun r_5 e_5 => ?_)
          refine lv_goto (tgt := 37) hx hb d_M_inZone_33 (by decide) ?_
          refine lv_iadd hx hb d_M_inZone_37 ?_
          refine lv_topi (fun v_6 e_6 => ?_)
          refine lv_istore_n (lv' := [(3, .int v_6), (0, .ref mo), (1, .int u), (2, .int v), (4, .int (nI j))]) hx hb d_M_inZone_38 rfl hl (by decide) rfl (fun ls hl => ?_)
          refine lv_iinc (v := (nI (j + 1))) (lv' := [(4, .int (nI (j + 1))), (3, .int v_6), (0, .ref mo), (1, .int u), (2, .int v)]) hx hb d_M_inZone_39 hl (k := 4) rfl (nI_1 _) (by decide) rfl (fun ls hl => ?_)
          refine lv_goto (tgt := 5) hx hb d_M_inZone_42 (by decide) ?_
          exact ih_5 (j + 1) v_6 ls (by omega) (by omega) (by rw [hI_5, hdrb, List.foldl_cons]; congr 1; simp [kzF, bxOf, c_1, c_3, e_5, e_6]) (lv_sub hl [2, 3, 4, 1, 0] rfl)
  exact loop_5 (bn + 1) 0 0 ls (by omega) (by omega) rfl (lv_sub hl [2, 3, 4, 1, 0] rfl)

