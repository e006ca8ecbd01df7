/-! BOXES: a new one, one more good in one -/
theorem emp_none {g : GT} {w : Nat → Option va_E} {A : Nat → Prop} {s : State} {H : Heap} (hf : gf g s) (hA : ∀ q, A q → gB g q) (hw : ww g.1 vwCl A w H) : w (g.2.2 1) = none := by
  obtain ⟨cell, -, -, -, -, -, -, hn⟩ := hf.2.2.2.2.2.2.2.1.2
  cases h : w (g.2.2 1) with
  | none => rfl
  | some e => exact absurd (hA _ (hw.inA h)) hn
theorem box_A {g : GT} {w w2 w3 : Nat → Option va_E} {qb pl qp parr qg : Nat} {e0 : va_E} {nu am : Int32} (hqb : w qb = none) (hpl : va_up w qb (some e0) pl = none) (e2 : w2 = va_up (va_up (va_up w qb (some e0)) pl (some (cL 0 (g.2.2 1) 0))) qb (some (cX pl (-1) (-1) (-1) 0))) (hqp : w2 qp = none) (hcp : w3 qp = some (cP qg nu am)) (hor3 : (parr = g.2.2 1 ∧ ∃ z, w2 (g.2.2 1) = some (.inl z)) ∨ w2 parr = none) (hz2 : w2 (g.2.2 1) = none) (hfr3 : ∀ b : Nat, b ≠ pl → b ≠ parr → b ≠ qp → w3 b = w2 b) :
    (∀ (b : Nat) (e : va_E), w b = some e → w3 b = w b) ∧ w3 qb = some (cX pl (-1) (-1) (-1) 0) ∧ w pl = none ∧ w parr = none ∧ w qp = none ∧ w2 pl = some (cL 0 (g.2.2 1) 0) := by
  have hplqb : pl ≠ qb := fun e => by rw [e, va_up_self] at hpl; cases hpl
  have hwpl : w pl = none := by rw [va_up_ne _ _ hplqb] at hpl; exact hpl
  have h2pl : w2 pl = some (cL 0 (g.2.2 1) 0) := by rw [e2, va_up_ne _ _ hplqb]; exact va_up_self _ _ _
  have h2qb : w2 qb = some (cX pl (-1) (-1) (-1) 0) := by rw [e2]; exact va_up_self _ _ _
  have h2 : ∀ (b : Nat) (e : va_E), w b = some e → w2 b = w b := by
    intro b e hb
    rw [e2, va_up_ne _ _ (ne_n hqb hb), va_up_ne _ _ (ne_n hwpl hb), va_up_ne _ _ (ne_n hqb hb)]
  have hpa2 : w2 parr = none := hor3.resolve_left (fun z => by obtain ⟨-, z1, z2⟩ := z; rw [hz2] at z2; cases z2)
  have hne : ∀ (b : Nat) (e : va_E), w b = some e → w3 b = w b := by
    intro b e hb
    have hb2 := (h2 b e hb).trans hb
    rw [hfr3 b (ne_n hwpl hb) (ne_n hpa2 hb2) (ne_n hqp hb2), h2 b e hb]
  have hn : ∀ b : Nat, w2 b = none → w b = none := by
    intro b hb
    cases h : w b with
    | none => rfl
    | some e => rw [h2 b e h, h] at hb; cases hb
  exact ⟨hne, by rw [hfr3 qb hplqb.symm (ne_n hpa2 h2qb) (ne_n hqp h2qb)]; exact h2qb, hwpl, hn _ hpa2, hn _ hqp, h2pl⟩
theorem box_B {g : GT} {w w3 w4 : Nat → Option va_E} {qb pl qp parr qg bo arr arr1 : Nat} {xs : List Nat} {nu am : Int32} {cb : va_E} (hfx : ∀ (b : Nat) (e : va_E), w b = some e → w3 b = w b) (h3qb : w3 qb = some (cX pl (-1) (-1) (-1) 0)) (hqb : w qb = none) (hwpl : w pl = none) (hwpa : w parr = none) (hwqp : w qp = none) (hcp : w3 qp = some (cP qg nu am)) (hLp : isL g w3 pl parr [qp]) (hbo : w bo = some cb) (hL : isL g w bo arr xs) (hz3 : w3 (g.2.2 1) = none)
    (hL4 : isL g w4 bo arr1 (xs ++ [qb])) (hor4 : (arr1 = arr ∧ ∃ z, w3 arr = some (.inl z)) ∨ w3 arr1 = none) (hfr4 : ∀ b : Nat, b ≠ bo → b ≠ arr1 → w4 b = w3 b) :
    w4 qb = some (cX pl (-1) (-1) (-1) 0) ∧ isL g w4 pl parr [qp] ∧ w4 qp = some (cP qg nu am) ∧ ((arr1 = arr ∧ ∃ z, w arr = some (.inl z)) ∨ w arr1 = none) ∧ parr ≠ arr1 ∧ ∀ (b : Nat) (e : va_E), w b = some e → b ≠ bo → b ≠ arr1 → w4 b = w b := by
  have harr : ∀ z, w3 arr = some (.inl z) → ∃ z, w arr = some (.inl z) := by
    intro z hz
    obtain ⟨mc, cap, f, -, -, -, -, hor⟩ := hL
    rcases hor with h | ⟨-, h⟩
    · exact ⟨_, h⟩
    · rw [h, hz3] at hz; cases hz
  have hpa : parr ≠ arr1 := by
    intro e
    rcases hor4 with ⟨h1, z, h2⟩ | h2
    · obtain ⟨z2, h3⟩ := harr z h2
      rw [← h1, ← e, hwpa] at h3
      cases h3
    · obtain ⟨mc, cap, f, -, -, -, -, hor⟩ := hLp
      rcases hor with h | ⟨h, -⟩
      · rw [e, h2] at h; cases h
      · cases h
  obtain ⟨mcp, capp, fp, hplc, -⟩ := id hLp
  refine ⟨?_, ?_, ?_, ?_, hpa, ?_⟩
  · rw [hfr4 qb (ne_n hqb hbo).symm (ne_ar hor4 h3qb)]; exact h3qb
  · exact isL_keep hLp (hfr4 pl (ne_n hwpl hbo).symm (ne_ar hor4 hplc)) (fun z hz => hfr4 parr (ne_n hwpa hbo).symm hpa)
  · rw [hfr4 qp (ne_n hwqp hbo).symm (ne_ar hor4 hcp)]; exact hcp
  · rcases hor4 with ⟨h1, z, h2⟩ | h2
    · exact Or.inl ⟨h1, harr z h2⟩
    · refine Or.inr ?_
      cases h : w arr1 with
      | none => rfl
      | some e => rw [hfx _ e h, h] at h2; cases h2
  · intro b e hb h1 h2
    rw [hfr4 b h1 h2, hfx b e hb]
set_option maxHeartbeats 4000000 in
set_option maxRecDepth 100000 in
theorem c_T_also (l : Launch) (hl0 : l.stackTraces = false) (g : GT) (sz : Nat) (w : Nat → Option va_E) (th tx ru : Nat) (rd : Int32) (go bo zo : Nat) (arr : Nat) (xs : List Nat) (bs : List BX) (pl pa : Nat → Nat) (pss : Nat → List Nat) (garr : Nat) (gxs : List Nat) (gd : Nat → GD) (u v x : Int32) (ht : w th = some (cT tx ru rd go bo zo)) (hL : isL g w bo arr xs) (hlen : xs.length = bs.length) (hbp : ∀ i a : Nat, xs[i]? = some a → ∃ b, bs[i]? = some b ∧ w a = some (cX (pl i) b.2.1 b.2.2.1 b.2.2.2.1 b.2.2.2.2) ∧ isL g w (pl i) (pa i) (pss i) ∧ isPs w (pss i) b.1) (hGL : isL g w go garr gxs) (hgs : ∀ i a : Nat, gxs[i]? = some a → w a = some (cGd (gd i))) : vx_Met l y_T_also (.code y_T_also b_T_also 5 ((some .int)) :: GW) ({ frames := 8, cells := 2, slots := 33, locals := 177 }) (prW g sz [.ref th, .int u, .int v, .int x] w) (qI g sz w (fun r w1 => (inL u xs.length && inL v gxs.length && isAmt x) = true ∧ ∃ (i j qb qg : Nat) (bi : BX) (q arr1 : Nat), u = nI i ∧ v = nI j ∧ xs[i]? = some qb ∧ bs[i]? = some bi ∧ gxs[j]? = some qg ∧ w qb = some (cX (pl i) bi.2.1 bi.2.2.1 bi.2.2.2.1 bi.2.2.2.2) ∧ isL g w (pl i) (pa i) (pss i) ∧ isPs w (pss i) bi.1 ∧ hsB bi.1 v = false ∧ bi.2.1 = -1 ∧ bi.1.length < 4 ∧ r = nI (bi.1.length + 1) ∧ w q = none ∧ isL g w1 (pl i) arr1 (pss i ++ [q]) ∧ w1 q = some (cP qg v x) ∧ ((arr1 = pa i ∧ ∃ z, w (pa i) = some (.inl z)) ∨ w arr1 = none) ∧ ∀ (b : Nat) (e : va_E), w b = some e → b ≠ pl i → b ≠ arr1 → w1 b = w b)) (xQ (fun E => (E = "java/lang/IllegalArgumentException" ∧ ((inL u xs.length && inL v gxs.length && isAmt x) = false ∨ ((inL u xs.length && inL v gxs.length && isAmt x) = true ∧ ∃ (i : Nat) (bi : BX), u = nI i ∧ bs[i]? = some bi ∧ hsB bi.1 v = true))) ∨ (E = "java/lang/IllegalStateException" ∧ (inL u xs.length && inL v gxs.length && isAmt x) = true ∧ ∃ (i : Nat) (bi : BX), u = nI i ∧ bs[i]? = some bi ∧ hsB bi.1 v = false ∧ (¬ bi.2.1 = -1 ∨ ¬ bi.1.length < 4)))) 2 33 (gA w sz) := by
  refine vx_ofW (cc := b_T_also) (maxL := 5) (ret := (some .int)) (by decide) rfl ?_
  intro p e s m args below meth c s₁ B hml hno hv
  obtain ⟨rfl, hsz, hG, hw0⟩ := hv
  have hx := B.exec
  have hb := B.bytes
  have hr := B.returns
  have hts : ∀ w ∈ GW, w.before _ s = true := fun w h => atoms_spec (ws := .code y_T_also b_T_also 5 ((some .int)) :: GW) B.pre w (List.mem_cons_of_mem _ h)
  have hown : s.vm.findClass "DangerTables" = some m.cls := findClass_of_methodNamed B.named
  have hlocks := B.notSynchronized
  have hf := hG.here
  have hK := hf.1
  subst hsz
  have hw := hw0.self s.heap.size
  have hAB : ∀ q, gA w s.heap.size q → gB g q := fun q h => h.elim (fun z => z.elim (fun _ he => hw0.inA he)) (fun h => Nat.le_trans hG.1 h)
  have hA : ∀ q, s.heap.size ≤ q → gA w s.heap.size q := fun q h => Or.inr h
  have hS : va_S (gA w s.heap.size) s.heap s.heap [] := va_S.rf
  have hUU := (hf.2.2.2.2.2.2.2.2.1).narrow hAB
  have hNN := (hf.2.2.2.2.2.2.2.2.2).narrow hAB
  have hl := lv_entry ([.ref th, .int u, .int v, .int x]) (n := 5) (Nat.le_of_ble_eq_true rfl)
  rw [lg_entry_eq]
  generalize (lg_sl ([.ref th, .int u, .int v, .int x]) ++ List.replicate (5 - (lg_sl ([.ref th, .int u, .int v, .int x])).length) Slot.unset).toArray = ls at hl ⊢
  have hl : lv_has ls 5 [(0, .ref th), (1, .int u), (2, .int v), (3, .int x)] := hl
  obtain ⟨mc, cap, f, he, hcap, hc, hfi, hor⟩ := id hL
  obtain ⟨mcg, capg, fg, heg, hcapg, hcg, hfig, horg⟩ := id hGL
  have hbs : ∀ i a : Nat, xs[i]? = some a → ∃ b, bs[i]? = some b ∧ isBx g w a b := fun i a h => by obtain ⟨b, h1, h2, h3, h4⟩ := hbp i a h; exact ⟨b, h1, pl i, pa i, pss i, h2, h3, h4⟩
  refine lv_aload_n hx hb d_T_also_0 rfl (lv_at hl 0 rfl) ?_
  refine lv_iload_n hx hb d_T_also_1 rfl (lv_at hl 1 rfl) ?_
  refine wr_i (cV (As := [.int u]) (rest := []) (C := "DangerTables") 1 ⟨hx, hb, hml, hown, hts⟩ (c_T_isBox l g w th tx ru rd go bo zo arr xs u ht hL) k_192 k_189 k_1 k_191 kp_3 (by decide +kernel) ⟨Nat.le_of_ble_eq_true rfl, Nat.le_of_ble_eq_true rfl⟩ rfl rfl ⟨prR_blind _ _ _, hw.recv hK ht rfl, prR_at hG hAB hS hw⟩ rfl hl.1 rfl (Nat.le_of_ble_eq_true rfl) d_T_also_2 ⟨Nat.le_of_ble_eq_true rfl, Nat.le_of_ble_eq_true rfl⟩) (fun r_1 e_1 => ?_)
  refine lv_if_eq (tgt := 23) hx hb d_T_also_5 (by decide) (fun c_2 => ?_) (fun c_2 => ?_)
  · have q_2 := b2_f e_1 c_2
    obtain ⟨sa_3, hs_3⟩ := hf.2.2.2.2.1 (130, "no such box, good or amount") (List.mem_of_getElem? (i := 6) rfl)
    exact vx_throwS (own := "DangerTables") (names := ["java/lang/RuntimeException", "java/lang/Exception"]) (ic := 68) (cls := "java/lang/IllegalArgumentException") hx hb hl0 hown (by decide) (by decide) (hts _ k_218) (hts _ k_12) hs_3 (atS_hat at_IAE hts hf.2.1) gd_IAE hUU hNN hS (hl.1.trans hml.symm) d_T_also_23 d_T_also_26 d_T_also_27 d_T_also_29 d_T_also_32 (fun x h => (hno x h).elim) (Nat.le_of_ble_eq_true rfl) (Nat.le_of_ble_eq_true rfl) (Nat.le_of_ble_eq_true rfl) (Nat.le_of_ble_eq_true rfl) hlocks (fun t ha h1 h2 => ⟨(), trivial, Or.inl ⟨rfl, Or.inl (by simp [q_2])⟩, h1, fun q hq _ => h2 q hq⟩) (fun z h => nomatch h) (Nat.le_of_ble_eq_true rfl) (Nat.le_of_ble_eq_true rfl)
  · have q_2 := b2_t e_1 c_2
    refine lv_aload_n hx hb d_T_also_8 rfl (lv_at hl 0 rfl) ?_
    refine lv_iload_n hx hb d_T_also_9 rfl (lv_at hl 2 rfl) ?_
    refine wr_i (cV (As := [.int v]) (rest := []) (C := "DangerTables") 1 ⟨hx, hb, hml, hown, hts⟩ (c_T_isGood l g w th tx ru rd go bo zo garr gxs v ht hGL) k_148 k_145 k_1 k_147 kp_2 (by decide +kernel) ⟨Nat.le_of_ble_eq_true rfl, Nat.le_of_ble_eq_true rfl⟩ rfl rfl ⟨prR_blind _ _ _, hw.recv hK ht rfl, prR_at hG hAB hS hw⟩ rfl hl.1 rfl (Nat.le_of_ble_eq_true rfl) d_T_also_10 ⟨Nat.le_of_ble_eq_true rfl, Nat.le_of_ble_eq_true rfl⟩) (fun r_4 e_4 => ?_)
    refine lv_if_eq (tgt := 23) hx hb d_T_also_13 (by decide) (fun c_5 => ?_) (fun c_5 => ?_)
    · have q_5 := b2_f e_4 c_5
      obtain ⟨sa_6, hs_6⟩ := hf.2.2.2.2.1 (130, "no such box, good or amount") (List.mem_of_getElem? (i := 6) rfl)
      exact vx_throwS (own := "DangerTables") (names := ["java/lang/RuntimeException", "java/lang/Exception"]) (ic := 68) (cls := "java/lang/IllegalArgumentException") hx hb hl0 hown (by decide) (by decide) (hts _ k_218) (hts _ k_12) hs_6 (atS_hat at_IAE hts hf.2.1) gd_IAE hUU hNN hS (hl.1.trans hml.symm) d_T_also_23 d_T_also_26 d_T_also_27 d_T_also_29 d_T_also_32 (fun x h => (hno x h).elim) (Nat.le_of_ble_eq_true rfl) (Nat.le_of_ble_eq_true rfl) (Nat.le_of_ble_eq_true rfl) (Nat.le_of_ble_eq_true rfl) hlocks (fun t ha h1 h2 => ⟨(), trivial, Or.inl ⟨rfl, Or.inl (by simp [q_2, q_5])⟩, h1, fun q hq _ => h2 q hq⟩) (fun z h => nomatch h) (Nat.le_of_ble_eq_true rfl) (Nat.le_of_ble_eq_true rfl)
    · have q_5 := b2_t e_4 c_5
      refine lv_iload_n hx hb d_T_also_16 rfl (lv_at hl 3 rfl) ?_
      refine wr_i (cS (As := [.int x]) (rest := []) 1 ⟨hx, hb, hml, hown, hts⟩ (c_T_isAmount l x) k_407 k_405 k_1 k_406 (by decide +kernel) ⟨Nat.le_of_ble_eq_true rfl, Nat.le_of_ble_eq_true rfl⟩ rfl rfl ⟨prN_blind _, fun _ _ _ => ⟨rfl, trivial⟩⟩ rfl hl.1 rfl (Nat.le_of_ble_eq_true rfl) d_T_also_17 ⟨Nat.le_of_ble_eq_true rfl, Nat.le_of_ble_eq_true rfl⟩) (fun r_7 e_7 => ?_)
      refine lv_if_ne (tgt := 33) hx hb d_T_also_20 (by decide) (fun c_8 => ?_) (fun c_8 => ?_)
      · have q_8 := b2_t e_7 c_8
        obtain ⟨i, hi, rfl⟩ := inL_of q_2 (by omega)
        obtain ⟨qb, hq0⟩ : ∃ q, xs[i]? = some q := ⟨_, List.getElem?_eq_getElem hi⟩
        have hq := hfi i qb hq0
        obtain ⟨bb, hr0, hxb, hLb, hPb⟩ := hbp i qb hq0
        have hBb : isBx g w qb bb := ⟨pl i, pa i, pss i, hxb, hLb, hPb⟩
        have ha := hor.resolve_right (fun z => by rw [z.1] at hi; exact absurd hi (Nat.not_lt_zero _))
        obtain ⟨mcl, capl, fl, hplc, hcapl, hcl, -⟩ := id hLb
        have hOs : ∀ z9 ∈ pss i, isO w z9 := fun z9 h9 => by obtain ⟨i9, hi9⟩ := List.mem_iff_getElem?.mp h9; obtain ⟨r9, -, ga9, hp9, -⟩ := hPb.2 i9 z9 hi9; exact ⟨3, _, hp9, Or.inr (Or.inr rfl)⟩
        obtain ⟨j, hgi, rfl⟩ := inL_of q_5 (by omega)
        obtain ⟨qg, hgq0⟩ : ∃ q, gxs[j]? = some q := ⟨_, List.getElem?_eq_getElem hgi⟩
        have hgq := hfig j qg hgq0
        have hgc := hgs j qg hgq0
        have hga := horg.resolve_right (fun z => by rw [z.1] at hgi; exact absurd hgi (Nat.not_lt_zero _))
        refine lv_aload_n hx hb d_T_also_33 rfl (lv_at hl 0 rfl) ?_
        refine ww_get (v := .ref bo) (C := R_T) (T := F_T) (N := 6) (ci := 0) hx hb hts i_T hown hK hw ht rfl 4 (by decide) (hts _ k_84) (fun _ h9 => h9) rfl d_T_also_34 ?_
        refine lv_iload_n hx hb d_T_also_37 rfl (lv_at hl 1 rfl) ?_
        refine wr_q (cV (As := [.int (nI i)]) (rest := []) (C := "java/util/ArrayList") 1 ⟨hx, hb, hml, hown, hts⟩ (c_AL_get l g w bo arr xs.length cap i qb mc f he ha hcap (by omega) hi hq) k_157 k_154 k_6 k_155 k_156 (by decide +kernel) ⟨Nat.le_of_ble_eq_true rfl, Nat.le_of_ble_eq_true rfl⟩ rfl rfl ⟨prR_blind _ _ _, hw.recv hK he rfl, prR_at hG hAB hS hw⟩ rfl hl.1 rfl (Nat.le_of_ble_eq_true rfl) d_T_also_38 ⟨Nat.le_of_ble_eq_true rfl, Nat.le_of_ble_eq_true rfl⟩) (fun r_9 e_9 => ?_)
        subst e_9
        refine va_castY (C := "DangerTables$Box") hx hb hown (hts _ k_193) (hf.2.1 _ x_873) (hw.recv hK hxb rfl) d_T_also_41 ?_
        refine lv_astore (lv' := [(4, .ref qb), (0, .ref th), (1, .int (nI i)), (2, .int (nI j)), (3, .int x)]) hx hb d_T_also_44 hl (by decide) rfl (fun ls hl => ?_)
        refine lv_aload hx hb d_T_also_46 (lv_at hl 0 rfl) ?_
        refine lv_iload_n hx hb d_T_also_48 rfl (lv_at hl 3 rfl) ?_
        refine wr_i (cV (As := [.int (nI j)]) (rest := []) (C := "DangerTables$Box") 1 ⟨hx, hb, hml, hown, hts⟩ (c_X_holds l g w qb bb (nI j) hBb) k_474 k_471 k_19 k_472 k_473 (by decide +kernel) ⟨Nat.le_of_ble_eq_true rfl, Nat.le_of_ble_eq_true rfl⟩ rfl rfl ⟨prR_blind _ _ _, hw.recv hK hxb rfl, prR_at hG hAB hS hw⟩ rfl hl.1 rfl (Nat.le_of_ble_eq_true rfl) d_T_also_49 ⟨Nat.le_of_ble_eq_true rfl, Nat.le_of_ble_eq_true rfl⟩) (fun r_10 e_10 => ?_)
        refine lv_if_eq (tgt := 65) hx hb d_T_also_52 (by decide) (fun c_11 => ?_) (fun c_11 => ?_)
        · have q_11 := b2_f e_10 c_11
          refine lv_aload hx hb d_T_also_65 (lv_at hl 0 rfl) ?_
          refine wr_i (cV (As := []) (rest := []) (C := "DangerTables$Box") 0 ⟨hx, hb, hml, hown, hts⟩ (c_X_lies l g w qb (pl i) bb.2.1 bb.2.2.1 bb.2.2.2.1 bb.2.2.2.2 hxb) k_209 k_206 k_19 k_207 k_208 (by decide +kernel) ⟨Nat.le_of_ble_eq_true rfl, Nat.le_of_ble_eq_true rfl⟩ rfl rfl ⟨prR_blind _ _ _, hw.recv hK hxb rfl, prR_at hG hAB hS hw⟩ rfl hl.1 rfl (Nat.le_of_ble_eq_true rfl) d_T_also_67 ⟨Nat.le_of_ble_eq_true rfl, Nat.le_of_ble_eq_true rfl⟩) (fun r_12 e_12 => ?_)
          refine lv_if_ne (tgt := 82) hx hb d_T_also_70 (by decide) (fun c_13 => ?_) (fun c_13 => ?_)
          · have q_13 := b2_t e_12 c_13
            obtain ⟨sa_14, hs_14⟩ := hf.2.2.2.2.1 (144, "the box lies somewhere or is full") (List.mem_of_getElem? (i := 8) rfl)
            exact vx_throwS (own := "DangerTables") (names := ["java/lang/RuntimeException", "java/lang/Exception"]) (ic := 90) (cls := "java/lang/IllegalStateException") hx hb hl0 hown (by decide) (by decide) (hts _ k_299) (hts _ k_13) hs_14 (atS_hat at_ISE hts hf.2.1) gd_ISE hUU hNN hS (hl.1.trans hml.symm) d_T_also_82 d_T_also_85 d_T_also_86 d_T_also_88 d_T_also_91 (fun x h => (hno x h).elim) (Nat.le_of_ble_eq_true rfl) (Nat.le_of_ble_eq_true rfl) (Nat.le_of_ble_eq_true rfl) (Nat.le_of_ble_eq_true rfl) hlocks (fun t ha h1 h2 => ⟨(), trivial, Or.inr ⟨rfl, by rw [q_2, q_5, q_8]; rfl, i, bb, rfl, hr0, q_11, Or.inl (by simpa using q_13)⟩, h1, fun q hq _ => h2 q hq⟩) (fun z h => nomatch h) (Nat.le_of_ble_eq_true rfl) (Nat.le_of_ble_eq_true rfl)
          · have q_13 := b2_f e_12 c_13
            have hlie : bb.2.1 = -1 := by simpa using q_13
            refine lv_aload hx hb d_T_also_73 (lv_at hl 0 rfl) ?_
            refine wr_i (cV (As := []) (rest := []) (C := "DangerTables$Box") 0 ⟨hx, hb, hml, hown, hts⟩ (c_X_partCount l g w qb (pl i) bb.2.1 bb.2.2.1 bb.2.2.2.1 bb.2.2.2.2 mcl (nI (pss i).length) (pa i) hxb hplc) k_481 k_478 k_19 k_479 k_480 (by decide +kernel) ⟨Nat.le_of_ble_eq_true rfl, Nat.le_of_ble_eq_true rfl⟩ rfl rfl ⟨prR_blind _ _ _, hw.recv hK hxb rfl, prR_at hG hAB hS hw⟩ rfl hl.1 rfl (Nat.le_of_ble_eq_true rfl) d_T_also_75 ⟨Nat.le_of_ble_eq_true rfl, Nat.le_of_ble_eq_true rfl⟩) (fun r_15 e_15 => ?_)
            refine lv_iconst (v := 4) hx hb d_T_also_78 (by decide) ?_
            refine lv_icmp_lt (tgt := 92) hx hb d_T_also_79 (by decide) (fun c_16 => ?_) (fun c_16 => ?_)
            · have hl4 : (pss i).length < 4 := (nI_ltI (by omega) (b := 4) (by decide)).mp (e_15 ▸ c_16)
              refine lv_aload hx hb d_T_also_92 (lv_at hl 0 rfl) ?_
              refine lv_aload_n hx hb d_T_also_94 rfl (lv_at hl 1 rfl) ?_
              refine ww_get (v := .ref go) (C := R_T) (T := F_T) (N := 6) (ci := 0) hx hb hts i_T hown hK hw ht rfl 3 (by decide) (hts _ k_83) (fun _ h9 => h9) rfl d_T_also_95 ?_
              refine lv_iload_n hx hb d_T_also_98 rfl (lv_at hl 3 rfl) ?_
              refine wr_q (cV (As := [.int (nI j)]) (rest := [.ref qb]) (C := "java/util/ArrayList") 1 ⟨hx, hb, hml, hown, hts⟩ (c_AL_get l g w go garr gxs.length capg j qg mcg fg heg hga hcapg (by omega) hgi hgq) k_157 k_154 k_6 k_155 k_156 (by decide +kernel) ⟨Nat.le_of_ble_eq_true rfl, Nat.le_of_ble_eq_true rfl⟩ rfl rfl ⟨prR_blind _ _ _, hw.recv hK heg rfl, prR_at hG hAB hS hw⟩ rfl hl.1 rfl (Nat.le_of_ble_eq_true rfl) d_T_also_99 ⟨Nat.le_of_ble_eq_true rfl, Nat.le_of_ble_eq_true rfl⟩) (fun r_17 e_17 => ?_)
              subst e_17
              refine va_castY (C := "DangerTables$Good") hx hb hown (hts _ k_168) (hf.2.1 _ x_872) (hw.recv hK hgc rfl) d_T_also_102 ?_
              refine lv_iload_n hx hb d_T_also_105 rfl (lv_at hl 3 rfl) ?_
              refine lv_iload_n hx hb d_T_also_106 rfl (lv_at hl 4 rfl) ?_
              refine ww_v (cV (As := [.ref qg, .int (nI j), .int x]) (rest := []) (C := "DangerTables$Box") 3 ⟨hx, hb, hml, hown, hts⟩ (c_X_fill l g s.heap.size w qb qg (pl i) (pa i) bb.2.1 bb.2.2.1 bb.2.2.2.1 bb.2.2.2.2 (nI j) x (pss i) hxb hLb (by omega) hOs) k_441 k_438 k_19 k_439 k_440 (by decide +kernel) ⟨Nat.le_of_ble_eq_true rfl, Nat.le_of_ble_eq_true rfl⟩ rfl rfl ⟨prW_blind _ _ _ _, hw.recv hK hxb rfl, prW_at hG hAB hS hw⟩ rfl hl.1 rfl (Nat.le_of_ble_eq_true rfl) d_T_also_107 ⟨Nat.le_of_ble_eq_true rfl, Nat.le_of_ble_eq_true rfl⟩) hw hS hA (fun w_18 H locs e_18 hw hS hz_18 hk_18 hg_18 => ?_)
              refine W.widen (k := 2) (n := 33) (Nat.le_of_ble_eq_true rfl) (Nat.le_of_ble_eq_true rfl) ?_
              obtain ⟨qp, arr1, hnq, hL1, hcq, hor1, hfr1⟩ := e_18
              have h18_th : w_18 th = some (.inr (0, [.ref tx, .ref ru, .int rd, .ref go, .ref bo, .ref zo])) := by rw [hfr1 _ (ne_c hplc ht (fun z => by cases z)) (ne_ar hor1 ht) (ne_n hnq ht)]; exact ht
              have h18_qg : w_18 qg = some (.inr (2, [.int (gd j).1, .int (gd j).2.1, .int (gd j).2.2.1, .int (gd j).2.2.2.1, .long (gd j).2.2.2.2])) := by rw [hfr1 _ (ne_c hplc hgc (fun z => by cases z)) (ne_ar hor1 hgc) (ne_n hnq hgc)]; exact hgc
              have h18_qb : w_18 qb = some (.inr (1, [.ref (pl i), .int bb.2.1, .int bb.2.2.1, .int bb.2.2.2.1, .int bb.2.2.2.2])) := by rw [hfr1 _ (ne_c hplc hxb (fun z => by cases z)) (ne_ar hor1 hxb) (ne_n hnq hxb)]; exact hxb
              refine lv_aload hx hb d_T_also_110 (lv_at hl 0 rfl) ?_
              obtain ⟨mcn, capn, fnn, hen, -⟩ := id hL1
              refine wr_i (cV (As := []) (rest := []) (C := "DangerTables$Box") 0 ⟨hx, hb, hml, hown, hts⟩ (c_X_partCount l g w_18 qb (pl i) bb.2.1 bb.2.2.1 bb.2.2.2.1 bb.2.2.2.2 mcn (nI (pss i ++ [qp]).length) arr1 h18_qb hen) k_481 k_478 k_19 k_479 k_480 (by decide +kernel) ⟨Nat.le_of_ble_eq_true rfl, Nat.le_of_ble_eq_true rfl⟩ rfl rfl ⟨prR_blind _ _ _, hw.recv hK h18_qb rfl, prR_at hG hAB hS hw⟩ rfl hl.1 rfl (Nat.le_of_ble_eq_true rfl) d_T_also_112 ⟨Nat.le_of_ble_eq_true rfl, Nat.le_of_ble_eq_true rfl⟩) (fun r_19 e_19 => ?_)
              exact vx_ret (W.iret (v := r_19) hx hb hr (fun t ht hW => ⟨⟨r_19, w_18, rfl, ⟨by rw [q_2, q_5, q_8]; rfl, i, j, qb, qg, bb, qp, arr1, rfl, rfl, hq0, hr0, hgq0, hxb, hLb, hPb, q_11, hlie, by rw [← hPb.1]; exact hl4, by rw [e_19, List.length_append, ← hPb.1]; rfl, hnq, hL1, hcq, hor1, fun b9 e9 h9 h1 h2 => hfr1 b9 h1 h2 (ne_n hnq h9)⟩, ww_t ht hw⟩, hS.F ht⟩) hS.2.2 d_T_also_115)
            · obtain ⟨sa_20, hs_20⟩ := hf.2.2.2.2.1 (144, "the box lies somewhere or is full") (List.mem_of_getElem? (i := 8) rfl)
              exact vx_throwS (own := "DangerTables") (names := ["java/lang/RuntimeException", "java/lang/Exception"]) (ic := 90) (cls := "java/lang/IllegalStateException") hx hb hl0 hown (by decide) (by decide) (hts _ k_299) (hts _ k_13) hs_20 (atS_hat at_ISE hts hf.2.1) gd_ISE hUU hNN hS (hl.1.trans hml.symm) d_T_also_82 d_T_also_85 d_T_also_86 d_T_also_88 d_T_also_91 (fun x h => (hno x h).elim) (Nat.le_of_ble_eq_true rfl) (Nat.le_of_ble_eq_true rfl) (Nat.le_of_ble_eq_true rfl) (Nat.le_of_ble_eq_true rfl) hlocks (fun t ha h1 h2 => ⟨(), trivial, Or.inr ⟨rfl, by rw [q_2, q_5, q_8]; rfl, i, bb, rfl, hr0, q_11, Or.inr (fun z => c_16 (e_15 ▸ nI_lt (by rw [hPb.1]; exact z) (by decide)))⟩, h1, fun q hq _ => h2 q hq⟩) (fun z h => nomatch h) (Nat.le_of_ble_eq_true rfl) (Nat.le_of_ble_eq_true rfl)
        · have q_11 := b2_t e_10 c_11
          obtain ⟨sa_21, hs_21⟩ := hf.2.2.2.2.1 (135, "the box has that good") (List.mem_of_getElem? (i := 7) rfl)
          exact vx_throwS (own := "DangerTables") (names := ["java/lang/RuntimeException", "java/lang/Exception"]) (ic := 68) (cls := "java/lang/IllegalArgumentException") hx hb hl0 hown (by decide) (by decide) (hts _ k_218) (hts _ k_12) hs_21 (atS_hat at_IAE hts hf.2.1) gd_IAE hUU hNN hS (hl.1.trans hml.symm) d_T_also_55 d_T_also_58 d_T_also_59 d_T_also_61 d_T_also_64 (fun x h => (hno x h).elim) (Nat.le_of_ble_eq_true rfl) (Nat.le_of_ble_eq_true rfl) (Nat.le_of_ble_eq_true rfl) (Nat.le_of_ble_eq_true rfl) hlocks (fun t ha h1 h2 => ⟨(), trivial, Or.inl ⟨rfl, Or.inr ⟨by rw [q_2, q_5, q_8]; rfl, i, bb, rfl, hr0, q_11⟩⟩, h1, fun q hq _ => h2 q hq⟩) (fun z h => nomatch h) (Nat.le_of_ble_eq_true rfl) (Nat.le_of_ble_eq_true rfl)
      · have q_8 := b2_f e_7 c_8
        obtain ⟨sa_22, hs_22⟩ := hf.2.2.2.2.1 (130, "no such box, good or amount") (List.mem_of_getElem? (i := 6) rfl)
        exact vx_throwS (own := "DangerTables") (names := ["java/lang/RuntimeException", "java/lang/Exception"]) (ic := 68) (cls := "java/lang/IllegalArgumentException") hx hb hl0 hown (by decide) (by decide) (hts _ k_218) (hts _ k_12) hs_22 (atS_hat at_IAE hts hf.2.1) gd_IAE hUU hNN hS (hl.1.trans hml.symm) d_T_also_23 d_T_also_26 d_T_also_27 d_T_also_29 d_T_also_32 (fun x h => (hno x h).elim) (Nat.le_of_ble_eq_true rfl) (Nat.le_of_ble_eq_true rfl) (Nat.le_of_ble_eq_true rfl) (Nat.le_of_ble_eq_true rfl) hlocks (fun t ha h1 h2 => ⟨(), trivial, Or.inl ⟨rfl, Or.inl (by simp [q_2, q_5, q_8])⟩, h1, fun q hq _ => h2 q hq⟩) (fun z h => nomatch h) (Nat.le_of_ble_eq_true rfl) (Nat.le_of_ble_eq_true rfl)

set_option maxHeartbeats 4000000 in
set_option maxRecDepth 100000 in
theorem c_T_box (l : Launch) (hl0 : l.stackTraces = false) (g : GT) (sz : Nat) (w : Nat → Option va_E) (th tx ru : Nat) (rd : Int32) (go bo zo : Nat) (arr : Nat) (xs : List Nat) (bs : List BX) (garr : Nat) (gxs : List Nat) (gd : Nat → GD) (u v : Int32) (ht : w th = some (cT tx ru rd go bo zo)) (hL : isL g w bo arr xs) (hlen : xs.length = bs.length) (hbs : ∀ i a : Nat, xs[i]? = some a → ∃ b, bs[i]? = some b ∧ isBx g w a b) (hGL : isL g w go garr gxs) (hgs : ∀ i a : Nat, gxs[i]? = some a → w a = some (cGd (gd i))) : vx_Met l y_T_box (.code y_T_box b_T_box 4 ((some .int)) :: GW) ({ frames := 8, cells := 5, slots := 71, locals := 177 }) (prW g sz [.ref th, .int u, .int v] w) (qI g sz w (fun r w1 => (inL u gxs.length && isAmt v) = true ∧ xs.length < 12 ∧ r = nI xs.length ∧ ∃ j qg qb pl parr qp arr1 : Nat, u = nI j ∧ gxs[j]? = some qg ∧ w qb = none ∧ w pl = none ∧ w parr = none ∧ w qp = none ∧ w1 qb = some (cX pl (-1) (-1) (-1) 0) ∧ isL g w1 pl parr [qp] ∧ w1 qp = some (cP qg u v) ∧ isL g w1 bo arr1 (xs ++ [qb]) ∧ ((arr1 = arr ∧ ∃ z, w arr = some (.inl z)) ∨ w arr1 = none) ∧ parr ≠ arr1 ∧ ∀ (b : Nat) (e : va_E), w b = some e → b ≠ bo → b ≠ arr1 → w1 b = w b)) (xQ (fun E => (E = "java/lang/IllegalArgumentException" ∧ (inL u gxs.length && isAmt v) = false) ∨ (E = "java/lang/IllegalStateException" ∧ (inL u gxs.length && isAmt v) = true ∧ ¬ xs.length < 12))) 5 71 (gA w sz) := by
  refine vx_ofW (cc := b_T_box) (maxL := 4) (ret := (some .int)) (by decide) rfl ?_
  intro p e s m args below meth c s₁ B hml hno hv
  obtain ⟨rfl, hsz, hG, hw0⟩ := hv
  have hx := B.exec
  have hb := B.bytes
  have hr := B.returns
  have hts : ∀ w ∈ GW, w.before _ s = true := fun w h => atoms_spec (ws := .code y_T_box b_T_box 4 ((some .int)) :: GW) B.pre w (List.mem_cons_of_mem _ h)
  have hown : s.vm.findClass "DangerTables" = some m.cls := findClass_of_methodNamed B.named
  have hlocks := B.notSynchronized
  have hf := hG.here
  have hK := hf.1
  subst hsz
  have hw := hw0.self s.heap.size
  have hAB : ∀ q, gA w s.heap.size q → gB g q := fun q h => h.elim (fun z => z.elim (fun _ he => hw0.inA he)) (fun h => Nat.le_trans hG.1 h)
  have hA : ∀ q, s.heap.size ≤ q → gA w s.heap.size q := fun q h => Or.inr h
  have hS : va_S (gA w s.heap.size) s.heap s.heap [] := va_S.rf
  have hUU := (hf.2.2.2.2.2.2.2.2.1).narrow hAB
  have hNN := (hf.2.2.2.2.2.2.2.2.2).narrow hAB
  have hl := lv_entry ([.ref th, .int u, .int v]) (n := 4) (Nat.le_of_ble_eq_true rfl)
  rw [lg_entry_eq]
  generalize (lg_sl ([.ref th, .int u, .int v]) ++ List.replicate (4 - (lg_sl ([.ref th, .int u, .int v])).length) Slot.unset).toArray = ls at hl ⊢
  have hl : lv_has ls 4 [(0, .ref th), (1, .int u), (2, .int v)] := hl
  obtain ⟨mc, cap, f, he, hcap, hc, hfi, hor⟩ := id hL
  obtain ⟨mcg, capg, fg, heg, hcapg, hcg, hfig, horg⟩ := id hGL
  refine lv_aload_n hx hb d_T_box_0 rfl (lv_at hl 0 rfl) ?_
  refine lv_iload_n hx hb d_T_box_1 rfl (lv_at hl 1 rfl) ?_
  refine wr_i (cV (As := [.int u]) (rest := []) (C := "DangerTables") 1 ⟨hx, hb, hml, hown, hts⟩ (c_T_isGood l g w th tx ru rd go bo zo garr gxs u ht hGL) k_148 k_145 k_1 k_147 kp_2 (by decide +kernel) ⟨Nat.le_of_ble_eq_true rfl, Nat.le_of_ble_eq_true rfl⟩ rfl rfl ⟨prR_blind _ _ _, hw.recv hK ht rfl, prR_at hG hAB hS hw⟩ rfl hl.1 rfl (Nat.le_of_ble_eq_true rfl) d_T_box_2 ⟨Nat.le_of_ble_eq_true rfl, Nat.le_of_ble_eq_true rfl⟩) (fun r_1 e_1 => ?_)
  refine lv_if_eq (tgt := 15) hx hb d_T_box_5 (by decide) (fun c_2 => ?_) (fun c_2 => ?_)
  · have q_2 := b2_f e_1 c_2
    obtain ⟨sa_3, hs_3⟩ := hf.2.2.2.2.1 (117, "no such good or amount") (List.mem_of_getElem? (i := 4) rfl)
    exact vx_throwS (own := "DangerTables") (names := ["java/lang/RuntimeException", "java/lang/Exception"]) (ic := 68) (cls := "java/lang/IllegalArgumentException") hx hb hl0 hown (by decide) (by decide) (hts _ k_218) (hts _ k_12) hs_3 (atS_hat at_IAE hts hf.2.1) gd_IAE hUU hNN hS (hl.1.trans hml.symm) d_T_box_15 d_T_box_18 d_T_box_19 d_T_box_21 d_T_box_24 (fun x h => (hno x h).elim) (Nat.le_of_ble_eq_true rfl) (Nat.le_of_ble_eq_true rfl) (Nat.le_of_ble_eq_true rfl) (Nat.le_of_ble_eq_true rfl) hlocks (fun t ha h1 h2 => ⟨(), trivial, Or.inl ⟨rfl, by simp [q_2]⟩, h1, fun q hq _ => h2 q hq⟩) (fun z h => nomatch h) (Nat.le_of_ble_eq_true rfl) (Nat.le_of_ble_eq_true rfl)
  · have q_2 := b2_t e_1 c_2
    refine lv_iload_n hx hb d_T_box_8 rfl (lv_at hl 2 rfl) ?_
    refine wr_i (cS (As := [.int v]) (rest := []) 1 ⟨hx, hb, hml, hown, hts⟩ (c_T_isAmount l v) k_407 k_405 k_1 k_406 (by decide +kernel) ⟨Nat.le_of_ble_eq_true rfl, Nat.le_of_ble_eq_true rfl⟩ rfl rfl ⟨prN_blind _, fun _ _ _ => ⟨rfl, trivial⟩⟩ rfl hl.1 rfl (Nat.le_of_ble_eq_true rfl) d_T_box_9 ⟨Nat.le_of_ble_eq_true rfl, Nat.le_of_ble_eq_true rfl⟩) (fun r_4 e_4 => ?_)
    refine lv_if_ne (tgt := 25) hx hb d_T_box_12 (by decide) (fun c_5 => ?_) (fun c_5 => ?_)
    · have q_5 := b2_t e_4 c_5
      obtain ⟨j, hgi, rfl⟩ := inL_of q_2 (by omega)
      obtain ⟨qg, hgq0⟩ : ∃ q, gxs[j]? = some q := ⟨_, List.getElem?_eq_getElem hgi⟩
      have hgq := hfig j qg hgq0
      have hgc := hgs j qg hgq0
      have hga := horg.resolve_right (fun z => by rw [z.1] at hgi; exact absurd hgi (Nat.not_lt_zero _))
      refine lv_aload_n hx hb d_T_box_25 rfl (lv_at hl 0 rfl) ?_
      refine ww_get (v := .ref bo) (C := R_T) (T := F_T) (N := 6) (ci := 0) hx hb hts i_T hown hK hw ht rfl 4 (by decide) (hts _ k_84) (fun _ h9 => h9) rfl d_T_box_26 ?_
      refine wr_i (cV (As := []) (rest := []) (C := "java/util/ArrayList") 0 ⟨hx, hb, hml, hown, hts⟩ (c_AL_size l g w bo arr mc (nI xs.length) he) k_152 k_149 k_6 k_150 k_151 (by decide +kernel) ⟨Nat.le_of_ble_eq_true rfl, Nat.le_of_ble_eq_true rfl⟩ rfl rfl ⟨prR_blind _ _ _, hw.recv hK he rfl, prR_at hG hAB hS hw⟩ rfl hl.1 rfl (Nat.le_of_ble_eq_true rfl) d_T_box_29 ⟨Nat.le_of_ble_eq_true rfl, Nat.le_of_ble_eq_true rfl⟩) (fun r_6 e_6 => ?_)
      refine lv_bipush (v := 12) hx hb d_T_box_32 (by decide) ?_
      refine lv_icmp_lt (tgt := 47) hx hb d_T_box_34 (by decide) (fun c_7 => ?_) (fun c_7 => ?_)
      · have hs12 : xs.length < 12 := (nI_ltI (by omega) (b := 12) (by decide)).mp (e_6 ▸ c_7)
        refine ww_new (C := R_X) (T := F_X) (N := 5) (ci := 1) (fs := [.null, .int 0, .int 0, .int 0, .int 0]) hx hb hts i_X ft_X ft_X_ok hown (hts _ k_193) (hts _ k_410) (hts _ k_19) hK hw hS hA rfl (fun j hj => by rcases (show j = 0 ∨ j = 1 ∨ j = 2 ∨ j = 3 ∨ j = 4 by omega) with rfl | rfl | rfl | rfl | rfl <;> rfl) (Nat.le_of_ble_eq_true rfl) (Nat.le_of_ble_eq_true rfl) d_T_box_47 (fun q_8 H hn_8 hw hS => ?_)
        refine W.widen (k := 1) (n := 5) (Nat.le_of_ble_eq_true rfl) (Nat.le_of_ble_eq_true rfl) ?_
        obtain ⟨w_9, ew_9⟩ : ∃ zz9 : Nat → Option va_E, zz9 = va_up w q_8 (some (.inr (1, [.null, .int 0, .int 0, .int 0, .int 0]))) := ⟨_, rfl⟩
        rw [← ew_9] at hw
        have h9_th : w_9 th = some (.inr (0, [.ref tx, .ref ru, .int rd, .ref go, .ref bo, .ref zo])) := by rw [ew_9, va_up_ne _ _ (ne_n hn_8 ht)]; exact ht
        have h9_bo : w_9 bo = some (.inr (6, [.int mc, .ref arr, .int (nI xs.length)])) := by rw [ew_9, va_up_ne _ _ (ne_n hn_8 he)]; exact he
        have h9_go : w_9 go = some (.inr (6, [.int mcg, .ref garr, .int (nI gxs.length)])) := by rw [ew_9, va_up_ne _ _ (ne_n hn_8 heg)]; exact heg
        have h9_qg : w_9 qg = some (.inr (2, [.int (gd j).1, .int (gd j).2.1, .int (gd j).2.2.1, .int (gd j).2.2.2.1, .long (gd j).2.2.2.2])) := by rw [ew_9, va_up_ne _ _ (ne_n hn_8 hgc)]; exact hgc
        have h9_garr : w_9 garr = some (cO g capg fg) := by rw [ew_9, va_up_ne _ _ (ne_n hn_8 hga)]; exact hga
        have h9_q_8 : w_9 q_8 = some (.inr (1, [.null, .int 0, .int 0, .int 0, .int 0])) := by rw [ew_9]; exact va_up_self _ _ _
        refine lv_dup hx hb d_T_box_50 rfl ?_
        refine ww_v (cI (As := []) (rest := [.ref q_8]) 0 ⟨hx, hb, hml, hown, hts⟩ (c_X_init l g H.size w_9 q_8 h9_q_8) k_413 k_411 k_19 k_412 rfl (by decide +kernel) ⟨Nat.le_of_ble_eq_true rfl, Nat.le_of_ble_eq_true rfl⟩ rfl rfl ⟨prW_blind _ _ _ _, prW_at hG hAB hS hw⟩ rfl hl.1 rfl (Nat.le_of_ble_eq_true rfl) d_T_box_51 ⟨Nat.le_of_ble_eq_true rfl, Nat.le_of_ble_eq_true rfl⟩) hw hS hA (fun w_10 H locs e_10 hw hS hz_10 hk_10 hg_10 => ?_)
        refine W.widen (k := 2) (n := 8) (Nat.le_of_ble_eq_true rfl) (Nat.le_of_ble_eq_true rfl) ?_
        obtain ⟨pl, hnp, ew_10⟩ := e_10
        have h10_th : w_10 th = some (.inr (0, [.ref tx, .ref ru, .int rd, .ref go, .ref bo, .ref zo])) := by rw [ew_10, va_up_ne _ _ (ne_c h9_q_8 h9_th (fun z => by cases z)), va_up_ne _ _ (ne_n hnp h9_th)]; exact h9_th
        have h10_bo : w_10 bo = some (.inr (6, [.int mc, .ref arr, .int (nI xs.length)])) := by rw [ew_10, va_up_ne _ _ (ne_c h9_q_8 h9_bo (fun z => by cases z)), va_up_ne _ _ (ne_n hnp h9_bo)]; exact h9_bo
        have h10_go : w_10 go = some (.inr (6, [.int mcg, .ref garr, .int (nI gxs.length)])) := by rw [ew_10, va_up_ne _ _ (ne_c h9_q_8 h9_go (fun z => by cases z)), va_up_ne _ _ (ne_n hnp h9_go)]; exact h9_go
        have h10_qg : w_10 qg = some (.inr (2, [.int (gd j).1, .int (gd j).2.1, .int (gd j).2.2.1, .int (gd j).2.2.2.1, .long (gd j).2.2.2.2])) := by rw [ew_10, va_up_ne _ _ (ne_c h9_q_8 h9_qg (fun z => by cases z)), va_up_ne _ _ (ne_n hnp h9_qg)]; exact h9_qg
        have h10_garr : w_10 garr = some (cO g capg fg) := by rw [ew_10, va_up_ne _ _ (ne_c h9_q_8 h9_garr (fun z => by cases z)), va_up_ne _ _ (ne_n hnp h9_garr)]; exact h9_garr
        have h10_q_8 : w_10 q_8 = some (.inr (1, [.ref pl, .int (-1), .int (-1), .int (-1), .int 0])) := by rw [ew_10]; exact va_up_self _ _ _
        have h10_pl : w_10 pl = some (cL 0 (g.2.2 1) 0) := by rw [ew_10, va_up_ne _ _ (fun e9 => by rw [e9, h9_q_8] at hnp; cases hnp)]; exact va_up_self _ _ _
        refine lv_astore_n (lv' := [(3, .ref q_8), (0, .ref th), (1, .int (nI j)), (2, .int v)]) hx hb d_T_box_54 rfl hl (by decide) rfl (fun ls hl => ?_)
        refine lv_aload_n hx hb d_T_box_55 rfl (lv_at hl 0 rfl) ?_
        refine lv_aload_n hx hb d_T_box_56 rfl (lv_at hl 1 rfl) ?_
        refine ww_get (v := .ref go) (C := R_T) (T := F_T) (N := 6) (ci := 0) hx hb hts i_T hown hK hw h10_th rfl 3 (by decide) (hts _ k_83) (fun _ h9 => h9) rfl d_T_box_57 ?_
        refine lv_iload_n hx hb d_T_box_60 rfl (lv_at hl 2 rfl) ?_
        refine wr_q (cV (As := [.int (nI j)]) (rest := [.ref q_8]) (C := "java/util/ArrayList") 1 ⟨hx, hb, hml, hown, hts⟩ (c_AL_get l g w_10 go garr gxs.length capg j qg mcg fg h10_go h10_garr hcapg (by omega) hgi hgq) k_157 k_154 k_6 k_155 k_156 (by decide +kernel) ⟨Nat.le_of_ble_eq_true rfl, Nat.le_of_ble_eq_true rfl⟩ rfl rfl ⟨prR_blind _ _ _, hw.recv hK h10_go rfl, prR_at hG hAB hS hw⟩ rfl hl.1 rfl (Nat.le_of_ble_eq_true rfl) d_T_box_61 ⟨Nat.le_of_ble_eq_true rfl, Nat.le_of_ble_eq_true rfl⟩) (fun r_11 e_11 => ?_)
        subst e_11
        refine va_castY (C := "DangerTables$Good") hx hb hown (hts _ k_168) (hf.2.1 _ x_872) (hw.recv hK h10_qg rfl) d_T_box_64 ?_
        refine lv_iload_n hx hb d_T_box_67 rfl (lv_at hl 2 rfl) ?_
        refine lv_iload_n hx hb d_T_box_68 rfl (lv_at hl 3 rfl) ?_
        have hLp0 : isL g w_10 pl (g.2.2 1) [] := ⟨0, 10, fun _ => none, h10_pl, by decide, by decide, (fun i q h => by cases h), Or.inr ⟨rfl, rfl⟩⟩
        have hz2 : w_10 (g.2.2 1) = none := emp_none hf hAB hw
        have hwpl : w pl = none := by have h9 := hnp; rw [ew_9, va_up_ne _ _ (fun e9 => by rw [ew_9, e9, va_up_self] at hnp; cases hnp)] at h9; exact h9
        refine ww_v (cV (As := [.ref qg, .int (nI j), .int v]) (rest := []) (C := "DangerTables$Box") 3 ⟨hx, hb, hml, hown, hts⟩ (c_X_fill l g H.size w_10 q_8 qg pl (g.2.2 1) (-1) (-1) (-1) 0 (nI j) v [] h10_q_8 hLp0 (by decide) (fun _ h => by cases h)) k_441 k_438 k_19 k_439 k_440 (by decide +kernel) ⟨Nat.le_of_ble_eq_true rfl, Nat.le_of_ble_eq_true rfl⟩ rfl rfl ⟨prW_blind _ _ _ _, hw.recv hK h10_q_8 rfl, prW_at hG hAB hS hw⟩ rfl hl.1 rfl (Nat.le_of_ble_eq_true rfl) d_T_box_69 ⟨Nat.le_of_ble_eq_true rfl, Nat.le_of_ble_eq_true rfl⟩) hw hS hA (fun w_12 H locs e_12 hw hS hz_12 hk_12 hg_12 => ?_)
        refine W.widen (k := 4) (n := 41) (Nat.le_of_ble_eq_true rfl) (Nat.le_of_ble_eq_true rfl) ?_
        obtain ⟨qp, arr1, hnq, hL1, hcq, hor1, hfr1⟩ := e_12
        have h12_th : w_12 th = some (.inr (0, [.ref tx, .ref ru, .int rd, .ref go, .ref bo, .ref zo])) := by rw [hfr1 _ (ne_c h10_pl h10_th (fun z => by cases z)) (ne_ar hor1 h10_th) (ne_n hnq h10_th)]; exact h10_th
        have h12_bo : w_12 bo = some (.inr (6, [.int mc, .ref arr, .int (nI xs.length)])) := by rw [hfr1 _ (ne_n hwpl he) (ne_ar hor1 h10_bo) (ne_n hnq h10_bo)]; exact h10_bo
        have h12_qg : w_12 qg = some (.inr (2, [.int (gd j).1, .int (gd j).2.1, .int (gd j).2.2.1, .int (gd j).2.2.2.1, .long (gd j).2.2.2.2])) := by rw [hfr1 _ (ne_c h10_pl h10_qg (fun z => by cases z)) (ne_ar hor1 h10_qg) (ne_n hnq h10_qg)]; exact h10_qg
        have h12_q_8 : w_12 q_8 = some (.inr (1, [.ref pl, .int (-1), .int (-1), .int (-1), .int 0])) := by rw [hfr1 _ (ne_c h10_pl h10_q_8 (fun z => by cases z)) (ne_ar hor1 h10_q_8) (ne_n hnq h10_q_8)]; exact h10_q_8
        have hz3 : w_12 (g.2.2 1) = none := emp_none hf hAB hw
        obtain ⟨hfx, h3qb, -, hwpa, hwqp, -⟩ := box_A hn_8 (by rw [← ew_9]; exact hnp) (by rw [ew_10, ew_9]) hnq hcq hor1 hz2 hfr1
        have hor3 := hor1
        have hLp := hL1
        have hcp := hcq
        refine lv_aload_n hx hb d_T_box_72 rfl (lv_at hl 1 rfl) ?_
        refine ww_get (v := .ref bo) (C := R_T) (T := F_T) (N := 6) (ci := 0) hx hb hts i_T hown hK hw h12_th rfl 4 (by decide) (hts _ k_84) (fun _ h9 => h9) rfl d_T_box_73 ?_
        refine lv_aload_n hx hb d_T_box_76 rfl (lv_at hl 0 rfl) ?_
        have hLw : isL g w_12 bo arr xs := isL_keep hL (hfx bo _ he) (fun z hz => hfx arr _ hz)
        have hOq : isO w_12 q_8 := ⟨1, _, h3qb, Or.inl rfl⟩
        have hOs : ∀ z9 ∈ xs, isO w_12 z9 := fun z9 h9 => by obtain ⟨i9, hi9⟩ := List.mem_iff_getElem?.mp h9; obtain ⟨b9, -, pl9, pr9, ps9, hx9, -⟩ := hbs i9 z9 hi9; exact ⟨1, _, (hfx z9 _ hx9).trans hx9, Or.inl rfl⟩
        refine ww_i (cV (As := [.ref q_8]) (rest := []) (C := "java/util/ArrayList") 1 ⟨hx, hb, hml, hown, hts⟩ (c_AL_add l g H.size w_12 bo q_8 arr xs hLw (by omega) hOq hOs) k_346 k_343 k_6 k_344 k_345 (by decide +kernel) ⟨Nat.le_of_ble_eq_true rfl, Nat.le_of_ble_eq_true rfl⟩ rfl rfl ⟨prW_blind _ _ _ _, hw.recv hK h12_bo rfl, prW_at hG hAB hS hw⟩ rfl hl.1 rfl (Nat.le_of_ble_eq_true rfl) d_T_box_77 ⟨Nat.le_of_ble_eq_true rfl, Nat.le_of_ble_eq_true rfl⟩) hw hS hA (fun r_13 w_13 H locs e_13 hw hS hz_13 hk_13 hg_13 => ?_)
        refine W.widen (k := 5) (n := 71) (Nat.le_of_ble_eq_true rfl) (Nat.le_of_ble_eq_true rfl) ?_
        obtain ⟨rfl, arr2, hL4, hor4, hfr4⟩ := e_13
        have eb_13 : (1 : Int32) = b2 true := rfl
        have h13_th : w_13 th = some (.inr (0, [.ref tx, .ref ru, .int rd, .ref go, .ref bo, .ref zo])) := by rw [hfr4 _ (ne_c h12_bo h12_th (fun z => by cases z)) (ne_ar hor4 h12_th)]; exact h12_th
        obtain ⟨mc_13, cap_13, f_13, he_13, -⟩ := id hL4
        refine lv_pop hx hb d_T_box_80 rfl ?_
        refine lv_aload_n hx hb d_T_box_81 rfl (lv_at hl 1 rfl) ?_
        refine ww_get (v := .ref bo) (C := R_T) (T := F_T) (N := 6) (ci := 0) hx hb hts i_T hown hK hw h13_th rfl 4 (by decide) (hts _ k_84) (fun _ h9 => h9) rfl d_T_box_82 ?_
        refine wr_i (cV (As := []) (rest := []) (C := "java/util/ArrayList") 0 ⟨hx, hb, hml, hown, hts⟩ (c_AL_size l g w_13 bo arr2 mc_13 (nI (xs ++ [q_8]).length) he_13) k_152 k_149 k_6 k_150 k_151 (by decide +kernel) ⟨Nat.le_of_ble_eq_true rfl, Nat.le_of_ble_eq_true rfl⟩ rfl rfl ⟨prR_blind _ _ _, hw.recv hK he_13 rfl, prR_at hG hAB hS hw⟩ rfl hl.1 rfl (Nat.le_of_ble_eq_true rfl) d_T_box_85 ⟨Nat.le_of_ble_eq_true rfl, Nat.le_of_ble_eq_true rfl⟩) (fun r_14 e_14 => ?_)
        refine lv_iconst (v := 1) hx hb d_T_box_88 (by decide) ?_
        refine lv_isub hx hb d_T_box_89 ?_
        refine lv_topi (fun v_15 e_15 => ?_)
        exact vx_ret (W.iret (v := v_15) hx hb hr (fun t ht hW => ⟨⟨v_15, w_13, rfl, (by
              obtain ⟨f1, f2, f3, f4, f5, f6⟩ := box_B hfx h3qb hn_8 hwpl hwpa hwqp hcp hLp he hL hz3 hL4 hor4 hfr4
              exact ⟨by rw [q_2, q_5]; rfl, hs12, by rw [e_15, e_14, List.length_append]; exact nI_pred _, j, qg, q_8, pl, arr1, qp, arr2, rfl, hgq0, hn_8, hwpl, hwpa, hwqp, f1, f2, f3, hL4, f4, f5, f6⟩), ww_t ht hw⟩, hS.F ht⟩) hS.2.2 d_T_box_90)
      · obtain ⟨sa_16, hs_16⟩ := hf.2.2.2.2.1 (119, "no room for one more box") (List.mem_of_getElem? (i := 5) rfl)
        exact vx_throwS (own := "DangerTables") (names := ["java/lang/RuntimeException", "java/lang/Exception"]) (ic := 90) (cls := "java/lang/IllegalStateException") hx hb hl0 hown (by decide) (by decide) (hts _ k_299) (hts _ k_13) hs_16 (atS_hat at_ISE hts hf.2.1) gd_ISE hUU hNN hS (hl.1.trans hml.symm) d_T_box_37 d_T_box_40 d_T_box_41 d_T_box_43 d_T_box_46 (fun x h => (hno x h).elim) (Nat.le_of_ble_eq_true rfl) (Nat.le_of_ble_eq_true rfl) (Nat.le_of_ble_eq_true rfl) (Nat.le_of_ble_eq_true rfl) hlocks (fun t ha h1 h2 => ⟨(), trivial, Or.inr ⟨rfl, by rw [q_2, q_5]; rfl, fun z => c_7 (e_6 ▸ nI_lt z (by decide))⟩, h1, fun q hq _ => h2 q hq⟩) (fun z h => nomatch h) (Nat.le_of_ble_eq_true rfl) (Nat.le_of_ble_eq_true rfl)
    · have q_5 := b2_f e_4 c_5
      obtain ⟨sa_17, hs_17⟩ := hf.2.2.2.2.1 (117, "no such good or amount") (List.mem_of_getElem? (i := 4) rfl)
      exact vx_throwS (own := "DangerTables") (names := ["java/lang/RuntimeException", "java/lang/Exception"]) (ic := 68) (cls := "java/lang/IllegalArgumentException") hx hb hl0 hown (by decide) (by decide) (hts _ k_218) (hts _ k_12) hs_17 (atS_hat at_IAE hts hf.2.1) gd_IAE hUU hNN hS (hl.1.trans hml.symm) d_T_box_15 d_T_box_18 d_T_box_19 d_T_box_21 d_T_box_24 (fun x h => (hno x h).elim) (Nat.le_of_ble_eq_true rfl) (Nat.le_of_ble_eq_true rfl) (Nat.le_of_ble_eq_true rfl) (Nat.le_of_ble_eq_true rfl) hlocks (fun t ha h1 h2 => ⟨(), trivial, Or.inl ⟨rfl, by simp [q_2, q_5]⟩, h1, fun q hq _ => h2 q hq⟩) (fun z h => nomatch h) (Nat.le_of_ble_eq_true rfl) (Nat.le_of_ble_eq_true rfl)

