/-! RULES BETWEEN BOXES, SUMS OF A ZONE, WHAT BARS A PLACE -/
abbrev cZ (g : GT) (fz : Nat → Option Nat) : va_E := .inl (g.2.1 4, 4, .inr (.inr (.inr (.inr fz))))
def ffx {α : Type} (p : α → Bool) : List α → Nat → Int32
  | [], _ => -1
  | r :: t, i => if p r = true then nI i else ffx p t (i + 1)
def yardI (k : Nat) : Int32 := match k with
  | 0 => 0
  | 1 => 3
  | 2 => 6
  | _ => 12
def shipI (k : Nat) : Int32 := match k with
  | 0 => 0
  | 1 => 1
  | 2 => 2
  | 3 => 4
  | _ => 8
theorem ne4 {k : Nat} (hk : k ≤ 4) (h : ¬ nI k = 4) : k < 4 := by
  rcases Nat.lt_or_ge k 4 with h1 | h1
  · exact h1
  · obtain rfl : k = 4 := by omega
    exact absurd rfl h
theorem nle4 {k : Nat} (hk : k < 4) : ¬ (4 : Int32) ≤ nI k := by
  rcases (show k = 0 ∨ k = 1 ∨ k = 2 ∨ k = 3 by omega) with rfl | rfl | rfl | rfl <;> decide
def tnI (r d : Int32) : Bool := decide (4 ≤ r) || !decide (yardI r.toNatClampNeg ≤ d)
def okR (rf : Nat → Int32) : Prop := ∀ j : Nat, j < 45 → ∃ k : Nat, k ≤ 4 ∧ rf j = nI k
def in4 (x : Int32) : Prop := ∃ k : Nat, k ≤ 4 ∧ x = nI k
theorem in4_0 : in4 0 := ⟨0, by omega, rfl⟩
theorem in4_mx {x y : Int32} (hx : in4 x) (hy : in4 y) : in4 (mxI x y) := by unfold mxI; split <;> assumption
theorem in4_mn {x y : Int32} (hx : in4 x) (hy : in4 y) : in4 (mnI x y) := by unfold mnI; split <;> assumption
theorem in4_ruC {rf : Nat → Int32} {x1 x2 : Int64} {u v : Int32} (hr : okR rf) (hu : okC u) (hv : okC v) : in4 (ruC rf x1 x2 u v) := by
  unfold ruC
  split
  · exact in4_0
  · rename_i h1
    split
    · exact in4_0
    · rename_i h2
      split
      · exact in4_0
      · split
        · exact in4_0
        · obtain ⟨j, hj, ej⟩ := prI_in (hu.resolve_left h1) (hv.resolve_left h2)
          rw [ej, nI_clamp (by omega)]
          exact hr j hj
theorem in4_ruP {rf : Nat → Int32} {p q : PR} (hr : okR rf) (hp : okP p) (hq : okP q) : in4 (ruP rf p q) := by
  have h : in4 (ruQ rf p q) := in4_mx (in4_mx (in4_mx (in4_ruC hr (Or.inr hp.1) (Or.inr hq.1)) (in4_ruC hr (Or.inr hp.1) hq.2)) (in4_ruC hr hp.2 (Or.inr hq.1))) (in4_ruC hr hp.2 hq.2)
  have h1 : in4 1 := ⟨1, by omega, rfl⟩
  unfold ruP
  split
  · exact in4_mn h h1
  · split
    · exact in4_mn h h1
    · exact h
theorem in4_ruG {rf : Nat → Int32} {p : PR} (hr : okR rf) (hp : okP p) : ∀ (qs : List PR) (a : Int32), (∀ q ∈ qs, okP q) → in4 a → in4 (ruG rf qs a p)
  | [], a, _, ha => ha
  | q :: t, a, hq, ha => in4_ruG hr hp t _ (fun x hx => hq x (List.mem_cons_of_mem _ hx)) (in4_mx ha (in4_ruP hr hp (hq q List.mem_cons_self)))
theorem in4_ruH {rf : Nat → Int32} (hr : okR rf) {qs : List PR} (hq : ∀ q ∈ qs, okP q) : ∀ (ps : List PR) (a : Int32), (∀ p ∈ ps, okP p) → in4 a → in4 (ps.foldl (ruG rf qs) a)
  | [], a, _, ha => ha
  | p :: t, a, hp, ha => in4_ruH hr hq t _ (fun x hx => hp x (List.mem_cons_of_mem _ hx)) (in4_ruG hr (hp p List.mem_cons_self) qs a hq ha)
theorem in4_ruB {rf : Nat → Int32} (hr : okR rf) {ps qs : List PR} (hp : ∀ p ∈ ps, okP p) (hq : ∀ q ∈ qs, okP q) : in4 (ruB rf ps qs) := in4_ruH hr hq ps 0 hp in4_0
def nrP (rf : Nat → Int32) (ps : List PR) (z x y : Int32) (b : BX) : Bool := decide (b.2.1 = z) && tnI (ruB rf ps b.1) (absI (b.2.2.1 - x) + absI (b.2.2.2.1 - y))
def nrB (rf : Nat → Int32) (ps : List PR) (z x y : Int32) (bs : List BX) : Int32 := ffx (nrP rf ps z x y) bs 0
def lpP (mz : Nat → Int32) (bs : List BX) (ps : List PR) (z : Int32) (i : Nat) : Bool := !decide (kcB ps (nI i) ≤ 0) && !decide (kcB ps (nI i) + kzB bs z (nI i) ≤ mz i)
def lpC (p : Nat → Bool) : Nat → Nat → Int32
  | 0, _ => -1
  | n + 1, i => if p i = true then nI i else lpC p n (i + 1)
def lpB (mz : Nat → Int32) (bs : List BX) (ps : List PR) (z : Int32) : Int32 := lpC (lpP mz bs ps z) 9 1
def fbB (rf : Nat → Int32) (mz : Nat → Int32) (bs : List BX) (b : BX) (z x y : Int32) : Int32 :=
  if wtB b.1 &&& (b.2.2.2.2 ^^^ -1) = 0 then
    if tkB bs z x y = true then 32
    else if lpB mz bs b.1 z = -1 then
      if nrB rf b.1 z x y bs = -1 then 0 else 64 + nrB rf b.1 z x y bs
    else 48 + lpB mz bs b.1 z
  else 16
set_option maxHeartbeats 4000000 in
set_option maxRecDepth 100000 in
theorem c_T_ruleOfBoxes (l : Launch) (g : GT) (w : Nat → Option va_E) (th tx ru : Nat) (rd : Int32) (go bo zo : Nat) (rf : Nat → Int32) (aA aB : Nat) (bA bB : BX) (ht : w th = some (cT tx ru rd go bo zo)) (hru : w ru = some (cA g 45 rf)) (hB1 : isBx g w aA bA) (hB2 : isBx g w aB bB) (ho1 : ∀ r ∈ bA.1, okP r) (ho2 : ∀ r ∈ bB.1, okP r) : Met l y_T_ruleOfBoxes (.code y_T_ruleOfBoxes b_T_ruleOfBoxes 6 ((some .int)) :: GW) ({ frames := 3, cells := 0, slots := 0, locals := 73 }) (prR g [.ref th, .ref aA, .ref aB] w) (vp_Si (fun r => r = ruB rf bA.1 bB.1)) 0 0 (fun _ => False) := by
  refine Met.ofW (cc := b_T_ruleOfBoxes) (maxL := 6) (ret := (some .int)) (by decide) rfl ?_
  intro p e s m args below meth c s₁ B hml hv
  obtain ⟨rfl, hG, hw⟩ := hv
  have hx := B.exec
  have hb := B.bytes
  have hr := B.returns
  have hts : ∀ w ∈ GW, w.before _ s = true := fun w h => atoms_spec (ws := .code y_T_ruleOfBoxes b_T_ruleOfBoxes 6 ((some .int)) :: GW) B.pre w (List.mem_cons_of_mem _ h)
  have hown : s.vm.findClass "DangerTables" = some m.cls := findClass_of_methodNamed B.named
  have hlocks := B.notSynchronized
  have hf := hG.here
  have hK := hf.1
  have hAB : ∀ q, gB g q → gB g q := fun _ h => h
  have hS : va_S (gB g) s.heap s.heap [] := va_S.rf
  have hl := lv_entry ([.ref th, .ref aA, .ref aB]) (n := 6) (Nat.le_of_ble_eq_true rfl)
  rw [lg_entry_eq]
  generalize (lg_sl ([.ref th, .ref aA, .ref aB]) ++ List.replicate (6 - (lg_sl ([.ref th, .ref aA, .ref aB])).length) Slot.unset).toArray = ls at hl ⊢
  have hl : lv_has ls 6 [(0, .ref th), (1, .ref aA), (2, .ref aB)] := hl
  obtain ⟨pl1, arr1, ps1, hx1, ⟨mc1, cap1, fn1, he1, hcap1, hc1, hfi1, hor1⟩, hlen1, hps1⟩ := hB1
  obtain ⟨pl2, arr2, ps2, hx2, ⟨mc2, cap2, fn2, he2, hcap2, hc2, hfi2, hor2⟩, hlen2, hps2⟩ := hB2
  refine lv_iconst (v := 0) hx hb d_T_ruleOfBoxes_0 (by decide) ?_
  refine lv_istore_n (lv' := [(3, .int 0), (0, .ref th), (1, .ref aA), (2, .ref aB)]) hx hb d_T_ruleOfBoxes_1 rfl hl (by decide) rfl (fun ls hl => ?_)
  refine lv_iconst (v := 0) hx hb d_T_ruleOfBoxes_2 (by decide) ?_
  refine lv_istore (lv' := [(4, .int 0), (3, .int 0), (0, .ref th), (1, .ref aA), (2, .ref aB)]) hx hb d_T_ruleOfBoxes_3 hl (by decide) rfl (fun ls hl => ?_)
  have loop_5 : ∀ (k i : Nat) (acc : Int32) (ls : Array Slot), i ≤ ps1.length → ps1.length < i + k → ruB rf bA.1 bB.1 = (bA.1.drop i).foldl (ruG rf bB.1) acc → lv_has ls 6 [(0, .ref th), (1, .ref aA), (2, .ref aB), (3, .int acc), (4, .int (nI i))] → W p l e (headSpec (.code y_T_ruleOfBoxes b_T_ruleOfBoxes 6 ((some .int)) :: GW) ({ frames := 3, cells := 0, slots := 0, locals := 73 })).room s m (#[.ref th, .ref aA, .ref aB] : Array Value) below meth c s.heap [] 0 0 (MQ below (vp_Si (fun r => r = ruB rf bA.1 bB.1)) (#[.ref th, .ref aA, .ref aB] : Array Value) s 0 0 (fun _ => False)) (F0 m 5 ls []) := by
    intro k
    induction k with
    | zero =>
      intro i acc ls h1_5 h2_5
      exact absurd h2_5 (by omega)
    | succ k ih_5 =>
      intro i acc ls h1_5 h2_5 hI_5 hl
      refine lv_iload hx hb d_T_ruleOfBoxes_5 (lv_at hl 4 rfl) ?_
      refine lv_aload_n hx hb d_T_ruleOfBoxes_7 rfl (lv_at hl 1 rfl) ?_
      refine ww_getN (v := .ref pl1) (C := R_X) (T := F_X) (N := 5) (ci := 1) hx hb hts i_X hown hK hw hx1 rfl 0 (by decide) (va_Nw.use rfl (hf.2.1 _ x_418)) (fun _ h9 => h9) rfl d_T_ruleOfBoxes_8 ?_
      refine wr_i (cV (As := []) (rest := [.int (nI i)]) (C := "java/util/ArrayList") 0 ⟨hx, hb, hml, hown, hts⟩ (c_AL_size l g w pl1 arr1 mc1 (nI ps1.length) he1) k_152 k_149 k_6 k_150 k_151 (by decide +kernel) ⟨Nat.le_of_ble_eq_true rfl, Nat.le_of_ble_eq_true rfl⟩ rfl rfl ⟨prR_blind _ _ _, hw.recv hK he1 rfl, prR_at hG hAB hS hw⟩ rfl hl.1 rfl (Nat.le_of_ble_eq_true rfl) d_T_ruleOfBoxes_11 ⟨Nat.zero_le _, Nat.zero_le _⟩) (fun r_1 e_1 => ?_)
      refine lv_icmp_ge (tgt := 77) hx hb d_T_ruleOfBoxes_14 (by decide) (fun c_2 => ?_) (fun c_2 => ?_)
      · have hge1 : ps1.length ≤ i := lp_ge e_1 c_2 (by omega) (by omega)
        have hdr1 : bA.1.drop i = [] := dr_n (by omega)
        refine lv_iload_n hx hb d_T_ruleOfBoxes_77 rfl (lv_at hl 3 rfl) ?_
        exact W.iret (v := acc) hx hb hr (fun t ht hW => ⟨acc, rfl, (by rw [hI_5, hdr1]; rfl), ht⟩) t_nil d_T_ruleOfBoxes_78
      · have hlt1 : i < ps1.length := lp_lt e_1 c_2 (by omega) (by omega)
        obtain ⟨q1, hq01⟩ : ∃ q, ps1[i]? = some q := ⟨_, List.getElem?_eq_getElem hlt1⟩
        have hq1 := hfi1 i q1 hq01
        have ha1 := hor1.resolve_right (fun z => by rw [z.1] at hlt1; exact absurd hlt1 (Nat.not_lt_zero _))
        obtain ⟨⟨c1, s1, l1, f1, x1, n1, a1⟩, hr1, g1, hp1, hg1⟩ := hps1 i q1 hq01
        have hdr1 := dr_c hr1
        refine lv_iconst (v := 0) hx hb d_T_ruleOfBoxes_17 (by decide) ?_
        refine lv_istore (lv' := [(5, .int 0), (0, .ref th), (1, .ref aA), (2, .ref aB), (3, .int acc), (4, .int (nI i))]) hx hb d_T_ruleOfBoxes_18 hl (by decide) rfl (fun ls hl => ?_)
        have loop_20 : ∀ (k j : Nat) (acc2 : Int32) (ls : Array Slot), j ≤ ps2.length → ps2.length < j + k → ruB rf bA.1 bB.1 = (bA.1.drop (i + 1)).foldl (ruG rf bB.1) ((bB.1.drop j).foldl (ruF rf (c1, s1, l1, f1, x1, n1, a1)) acc2) → lv_has ls 6 [(0, .ref th), (1, .ref aA), (2, .ref aB), (3, .int acc2), (4, .int (nI i)), (5, .int (nI j))] → W p l e (headSpec (.code y_T_ruleOfBoxes b_T_ruleOfBoxes 6 ((some .int)) :: GW) ({ frames := 3, cells := 0, slots := 0, locals := 73 })).room s m (#[.ref th, .ref aA, .ref aB] : Array Value) below meth c s.heap [] 0 0 (MQ below (vp_Si (fun r => r = ruB rf bA.1 bB.1)) (#[.ref th, .ref aA, .ref aB] : Array Value) s 0 0 (fun _ => False)) (F0 m 20 ls []) := by
          intro k
          induction k with
          | zero =>
            intro j acc2 ls h1_20 h2_20
            exact absurd h2_20 (by omega)
          | succ k ih_20 =>
            intro j acc2 ls h1_20 h2_20 hI_20 hl
            refine lv_iload hx hb d_T_ruleOfBoxes_20 (lv_at hl 5 rfl) ?_
            refine lv_aload_n hx hb d_T_ruleOfBoxes_22 rfl (lv_at hl 2 rfl) ?_
            refine ww_getN (v := .ref pl2) (C := R_X) (T := F_X) (N := 5) (ci := 1) hx hb hts i_X hown hK hw hx2 rfl 0 (by decide) (va_Nw.use rfl (hf.2.1 _ x_418)) (fun _ h9 => h9) rfl d_T_ruleOfBoxes_23 ?_
            refine wr_i (cV (As := []) (rest := [.int (nI j)]) (C := "java/util/ArrayList") 0 ⟨hx, hb, hml, hown, hts⟩ (c_AL_size l g w pl2 arr2 mc2 (nI ps2.length) he2) k_152 k_149 k_6 k_150 k_151 (by decide +kernel) ⟨Nat.le_of_ble_eq_true rfl, Nat.le_of_ble_eq_true rfl⟩ rfl rfl ⟨prR_blind _ _ _, hw.recv hK he2 rfl, prR_at hG hAB hS hw⟩ rfl hl.1 rfl (Nat.le_of_ble_eq_true rfl) d_T_ruleOfBoxes_26 ⟨Nat.zero_le _, Nat.zero_le _⟩) (fun r_3 e_3 => ?_)
            refine lv_icmp_ge (tgt := 71) hx hb d_T_ruleOfBoxes_29 (by decide) (fun c_4 => ?_) (fun c_4 => ?_)
            · have hge2 : ps2.length ≤ j := lp_ge e_3 c_4 (by omega) (by omega)
              have hdr2 : bB.1.drop j = [] := dr_n (by omega)
              refine lv_iinc (v := (nI (i + 1))) (lv' := [(4, .int (nI (i + 1))), (0, .ref th), (1, .ref aA), (2, .ref aB), (3, .int acc2), (5, .int (nI j))]) hx hb d_T_ruleOfBoxes_71 hl (k := 4) rfl (nI_1 _) (by decide) rfl (fun ls hl => ?_)
              refine lv_goto (tgt := 5) hx hb d_T_ruleOfBoxes_74 (by decide) ?_
              exact ih_5 (i + 1) acc2 ls (by omega) (by omega) (by rw [hI_20, hdr2]; rfl) (lv_sub hl [1, 2, 3, 4, 0] rfl)
            · have hlt2 : j < ps2.length := lp_lt e_3 c_4 (by omega) (by omega)
              obtain ⟨q2, hq02⟩ : ∃ q, ps2[j]? = some q := ⟨_, List.getElem?_eq_getElem hlt2⟩
              have hq2 := hfi2 j q2 hq02
              have ha2 := hor2.resolve_right (fun z => by rw [z.1] at hlt2; exact absurd hlt2 (Nat.not_lt_zero _))
              obtain ⟨⟨c2, s2, l2, f2, x2, n2, a2⟩, hr2, g2, hp2, hg2⟩ := hps2 j q2 hq02
              have hdr2 := dr_c hr2
              refine lv_iload_n hx hb d_T_ruleOfBoxes_32 rfl (lv_at hl 3 rfl) ?_
              refine lv_aload_n hx hb d_T_ruleOfBoxes_33 rfl (lv_at hl 0 rfl) ?_
              refine lv_aload_n hx hb d_T_ruleOfBoxes_34 rfl (lv_at hl 1 rfl) ?_
              refine ww_getN (v := .ref pl1) (C := R_X) (T := F_X) (N := 5) (ci := 1) hx hb hts i_X hown hK hw hx1 rfl 0 (by decide) (va_Nw.use rfl (hf.2.1 _ x_418)) (fun _ h9 => h9) rfl d_T_ruleOfBoxes_35 ?_
              refine lv_iload hx hb d_T_ruleOfBoxes_38 (lv_at hl 4 rfl) ?_
              refine wr_q (cV (As := [.int (nI i)]) (rest := [.ref th, .int acc2]) (C := "java/util/ArrayList") 1 ⟨hx, hb, hml, hown, hts⟩ (c_AL_get l g w pl1 arr1 ps1.length cap1 i q1 mc1 fn1 he1 ha1 hcap1 (by omega) hlt1 hq1) k_157 k_154 k_6 k_155 k_156 (by decide +kernel) ⟨Nat.le_of_ble_eq_true rfl, Nat.le_of_ble_eq_true rfl⟩ rfl rfl ⟨prR_blind _ _ _, hw.recv hK he1 rfl, prR_at hG hAB hS hw⟩ rfl hl.1 rfl (Nat.le_of_ble_eq_true rfl) d_T_ruleOfBoxes_40 ⟨Nat.zero_le _, Nat.zero_le _⟩) (fun r_5 e_5 => ?_)
              subst e_5
              refine va_castY (C := "DangerTables$Part") hx hb hown (hts _ k_499) (hf.2.1 _ x_874) (hw.recv hK hp1 rfl) d_T_ruleOfBoxes_43 ?_
              refine lv_aload_n hx hb d_T_ruleOfBoxes_46 rfl (lv_at hl 2 rfl) ?_
              refine ww_getN (v := .ref pl2) (C := R_X) (T := F_X) (N := 5) (ci := 1) hx hb hts i_X hown hK hw hx2 rfl 0 (by decide) (va_Nw.use rfl (hf.2.1 _ x_418)) (fun _ h9 => h9) rfl d_T_ruleOfBoxes_47 ?_
              refine lv_iload hx hb d_T_ruleOfBoxes_50 (lv_at hl 5 rfl) ?_
              refine wr_q (cV (As := [.int (nI j)]) (rest := [.ref q1, .ref th, .int acc2]) (C := "java/util/ArrayList") 1 ⟨hx, hb, hml, hown, hts⟩ (c_AL_get l g w pl2 arr2 ps2.length cap2 j q2 mc2 fn2 he2 ha2 hcap2 (by omega) hlt2 hq2) k_157 k_154 k_6 k_155 k_156 (by decide +kernel) ⟨Nat.le_of_ble_eq_true rfl, Nat.le_of_ble_eq_true rfl⟩ rfl rfl ⟨prR_blind _ _ _, hw.recv hK he2 rfl, prR_at hG hAB hS hw⟩ rfl hl.1 rfl (Nat.le_of_ble_eq_true rfl) d_T_ruleOfBoxes_52 ⟨Nat.zero_le _, Nat.zero_le _⟩) (fun r_6 e_6 => ?_)
              subst e_6
              refine va_castY (C := "DangerTables$Part") hx hb hown (hts _ k_499) (hf.2.1 _ x_874) (hw.recv hK hp2 rfl) d_T_ruleOfBoxes_55 ?_
              refine wr_i (cV (As := [.ref q1, .ref q2]) (rest := [.int acc2]) (C := "DangerTables") 2 ⟨hx, hb, hml, hown, hts⟩ (c_T_ruleOfParts l g w th tx ru rd go bo zo rf q1 q2 g1 g2 c1 s1 l1 f1 x1 c2 s2 l2 f2 x2 n1 a1 n2 a2 ht hru hg1 hg2 hp1 hp2 (ho1 _ (List.mem_of_getElem? hr1)) (ho2 _ (List.mem_of_getElem? hr2))) k_503 k_500 k_1 k_502 kp_11 (by decide +kernel) ⟨Nat.le_of_ble_eq_true rfl, Nat.le_of_ble_eq_true rfl⟩ rfl rfl ⟨prR_blind _ _ _, hw.recv hK ht rfl, prR_at hG hAB hS hw⟩ rfl hl.1 rfl (Nat.le_of_ble_eq_true rfl) d_T_ruleOfBoxes_58 ⟨Nat.zero_le _, Nat.zero_le _⟩) (fun r_7 e_7 => ?_)
              refine va_mmax hx hb (hml.trans hl.1.symm) hown (hts _ k_509) (hts _ k_363) (hts _ k_16) (hts _ k_364) (Nat.le_of_ble_eq_true rfl) (Nat.le_of_ble_eq_true rfl) (Nat.zero_le _) (Nat.zero_le _) d_T_ruleOfBoxes_61 ?_
              refine lv_topi (fun v_8 e_8 => ?_)
              refine lv_istore_n (lv' := [(3, .int v_8), (0, .ref th), (1, .ref aA), (2, .ref aB), (4, .int (nI i)), (5, .int (nI j))]) hx hb d_T_ruleOfBoxes_64 rfl hl (by decide) rfl (fun ls hl => ?_)
              refine lv_iinc (v := (nI (j + 1))) (lv' := [(5, .int (nI (j + 1))), (3, .int v_8), (0, .ref th), (1, .ref aA), (2, .ref aB), (4, .int (nI i))]) hx hb d_T_ruleOfBoxes_65 hl (k := 5) rfl (nI_1 _) (by decide) rfl (fun ls hl => ?_)
              refine lv_goto (tgt := 20) hx hb d_T_ruleOfBoxes_68 (by decide) ?_
              exact ih_20 (j + 1) v_8 ls (by omega) (by omega) (by rw [hI_20, hdr2, List.foldl_cons, show ruF rf (c1, s1, l1, f1, x1, n1, a1) acc2 (c2, s2, l2, f2, x2, n2, a2) = v_8 from by rw [e_8, e_7]; rfl]) (lv_sub hl [2, 3, 4, 1, 5, 0] rfl)
        exact loop_20 (ps2.length + 1) 0 acc ls (by omega) (by omega) (by rw [hI_5, hdr1]; rfl) (lv_sub hl [1, 2, 3, 4, 5, 0] rfl)
  exact loop_5 (ps1.length + 1) 0 0 ls (by omega) (by omega) rfl (lv_sub hl [2, 3, 4, 1, 0] rfl)

set_option maxHeartbeats 4000000 in
set_option maxRecDepth 100000 in
theorem c_T_kilogramsInZone (l : Launch) (g : GT) (w : Nat → Option va_E) (th tx ru : Nat) (rd : Int32) (go bo zo : Nat) (arr : Nat) (xs : List Nat) (bs : List BX) (u v : Int32) (ht : w th = some (cT tx ru rd go bo zo)) (hL : isL g w bo arr xs) (hlen : xs.length = bs.length) (hbs : ∀ i a : Nat, xs[i]? = some a → ∃ b, bs[i]? = some b ∧ isBx g w a b) : Met l y_T_kilogramsInZone (.code y_T_kilogramsInZone b_T_kilogramsInZone 6 ((some .int)) :: GW) ({ frames := 4, cells := 0, slots := 0, locals := 88 }) (prR g [.ref th, .int u, .int v] w) (vp_Si (fun r => r = kzB bs u v)) 0 0 (fun _ => False) := by
  refine Met.ofW (cc := b_T_kilogramsInZone) (maxL := 6) (ret := (some .int)) (by decide) rfl ?_
  intro p e s m args below meth c s₁ B hml hv
  obtain ⟨rfl, hG, hw⟩ := hv
  have hx := B.exec
  have hb := B.bytes
  have hr := B.returns
  have hts : ∀ w ∈ GW, w.before _ s = true := fun w h => atoms_spec (ws := .code y_T_kilogramsInZone b_T_kilogramsInZone 6 ((some .int)) :: GW) B.pre w (List.mem_cons_of_mem _ h)
  have hown : s.vm.findClass "DangerTables" = some m.cls := findClass_of_methodNamed B.named
  have hlocks := B.notSynchronized
  have hf := hG.here
  have hK := hf.1
  have hAB : ∀ q, gB g q → gB g q := fun _ h => h
  have hS : va_S (gB g) s.heap s.heap [] := va_S.rf
  have hl := lv_entry ([.ref th, .int u, .int v]) (n := 6) (Nat.le_of_ble_eq_true rfl)
  rw [lg_entry_eq]
  generalize (lg_sl ([.ref th, .int u, .int v]) ++ List.replicate (6 - (lg_sl ([.ref th, .int u, .int v])).length) Slot.unset).toArray = ls at hl ⊢
  have hl : lv_has ls 6 [(0, .ref th), (1, .int u), (2, .int v)] := hl
  obtain ⟨mc, cap, f, he, hcap, hc, hfi, hor⟩ := hL
  refine lv_iconst (v := 0) hx hb d_T_kilogramsInZone_0 (by decide) ?_
  refine lv_istore_n (lv' := [(3, .int 0), (0, .ref th), (1, .int u), (2, .int v)]) hx hb d_T_kilogramsInZone_1 rfl hl (by decide) rfl (fun ls hl => ?_)
  refine lv_iconst (v := 0) hx hb d_T_kilogramsInZone_2 (by decide) ?_
  refine lv_istore (lv' := [(4, .int 0), (3, .int 0), (0, .ref th), (1, .int u), (2, .int v)]) hx hb d_T_kilogramsInZone_3 hl (by decide) rfl (fun ls hl => ?_)
  have loop_5 : ∀ (k i : Nat) (acc : Int32) (ls : Array Slot), i ≤ xs.length → xs.length < i + k → kzB bs u v = (bs.drop i).foldl (kzF u v) acc → lv_has ls 6 [(0, .ref th), (1, .int u), (2, .int v), (3, .int acc), (4, .int (nI i))] → W p l e (headSpec (.code y_T_kilogramsInZone b_T_kilogramsInZone 6 ((some .int)) :: GW) ({ frames := 4, cells := 0, slots := 0, locals := 88 })).room s m (#[.ref th, .int u, .int v] : Array Value) below meth c s.heap [] 0 0 (MQ below (vp_Si (fun r => r = kzB bs u v)) (#[.ref th, .int u, .int v] : Array Value) s 0 0 (fun _ => False)) (F0 m 5 ls []) := by
    intro k
    induction k with
    | zero =>
      intro i acc ls h1_5 h2_5
      exact absurd h2_5 (by omega)
    | succ k ih_5 =>
      intro i acc ls h1_5 h2_5 hI_5 hl
      refine lv_iload hx hb d_T_kilogramsInZone_5 (lv_at hl 4 rfl) ?_
      refine lv_aload_n hx hb d_T_kilogramsInZone_7 rfl (lv_at hl 0 rfl) ?_
      refine ww_get (v := .ref bo) (C := R_T) (T := F_T) (N := 6) (ci := 0) hx hb hts i_T hown hK hw ht rfl 4 (by decide) (hts _ k_84) (fun _ h9 => h9) rfl d_T_kilogramsInZone_8 ?_
      refine wr_i (cV (As := []) (rest := [.int (nI i)]) (C := "java/util/ArrayList") 0 ⟨hx, hb, hml, hown, hts⟩ (c_AL_size l g w bo arr mc (nI xs.length) he) k_152 k_149 k_6 k_150 k_151 (by decide +kernel) ⟨Nat.le_of_ble_eq_true rfl, Nat.le_of_ble_eq_true rfl⟩ rfl rfl ⟨prR_blind _ _ _, hw.recv hK he rfl, prR_at hG hAB hS hw⟩ rfl hl.1 rfl (Nat.le_of_ble_eq_true rfl) d_T_kilogramsInZone_11 ⟨Nat.zero_le _, Nat.zero_le _⟩) (fun r_1 e_1 => ?_)
      refine lv_icmp_ge (tgt := 55) hx hb d_T_kilogramsInZone_14 (by decide) (fun c_2 => ?_) (fun c_2 => ?_)
      · have hge : xs.length ≤ i := lp_ge e_1 c_2 (by omega) (by omega)
        have hdr : bs.drop i = [] := dr_n (by omega)
        refine lv_iload_n hx hb d_T_kilogramsInZone_55 rfl (lv_at hl 3 rfl) ?_
        exact W.iret (v := acc) hx hb hr (fun t ht hW => ⟨acc, rfl, (by rw [hI_5, hdr]; rfl), ht⟩) t_nil d_T_kilogramsInZone_56
      · have hlt : i < xs.length := lp_lt e_1 c_2 (by omega) (by omega)
        obtain ⟨q, hq0⟩ : ∃ q, xs[i]? = some q := ⟨_, List.getElem?_eq_getElem hlt⟩
        have hq := hfi i q hq0
        have ha := hor.resolve_right (fun z => by rw [z.1] at hlt; exact absurd hlt (Nat.not_lt_zero _))
        obtain ⟨⟨rs, bz, bx, by_, bt⟩, hr0, hBx⟩ := hbs i q hq0
        have hdr := dr_c hr0
        obtain ⟨pl, parr, ps, hxq, hLq, hPq⟩ := id hBx
        refine lv_aload_n hx hb d_T_kilogramsInZone_17 rfl (lv_at hl 0 rfl) ?_
        refine ww_get (v := .ref bo) (C := R_T) (T := F_T) (N := 6) (ci := 0) hx hb hts i_T hown hK hw ht rfl 4 (by decide) (hts _ k_84) (fun _ h9 => h9) rfl d_T_kilogramsInZone_18 ?_
        refine lv_iload hx hb d_T_kilogramsInZone_21 (lv_at hl 4 rfl) ?_
        refine wr_q (cV (As := [.int (nI i)]) (rest := []) (C := "java/util/ArrayList") 1 ⟨hx, hb, hml, hown, hts⟩ (c_AL_get l g w bo arr xs.length cap i q mc f he ha hcap (by omega) hlt hq) k_157 k_154 k_6 k_155 k_156 (by decide +kernel) ⟨Nat.le_of_ble_eq_true rfl, Nat.le_of_ble_eq_true rfl⟩ rfl rfl ⟨prR_blind _ _ _, hw.recv hK he rfl, prR_at hG hAB hS hw⟩ rfl hl.1 rfl (Nat.le_of_ble_eq_true rfl) d_T_kilogramsInZone_23 ⟨Nat.zero_le _, Nat.zero_le _⟩) (fun r_3 e_3 => ?_)
        subst e_3
        refine va_castY (C := "DangerTables$Box") hx hb hown (hts _ k_193) (hf.2.1 _ x_873) (hw.recv hK hxq rfl) d_T_kilogramsInZone_26 ?_
        refine lv_astore (lv' := [(5, .ref q), (0, .ref th), (1, .int u), (2, .int v), (3, .int acc), (4, .int (nI i))]) hx hb d_T_kilogramsInZone_29 hl (by decide) rfl (fun ls hl => ?_)
        refine lv_aload hx hb d_T_kilogramsInZone_31 (lv_at hl 0 rfl) ?_
        refine ww_getN (v := .int bz) (C := R_X) (T := F_X) (N := 5) (ci := 1) hx hb hts i_X hown hK hw hxq rfl 1 (by decide) (va_Nw.use rfl (hf.2.1 _ x_420)) (fun _ h9 => h9) rfl d_T_kilogramsInZone_33 ?_
        refine lv_iload_n hx hb d_T_kilogramsInZone_36 rfl (lv_at hl 2 rfl) ?_
        refine lv_icmp_ne (tgt := 49) hx hb d_T_kilogramsInZone_37 (by decide) (fun c_4 => ?_) (fun c_4 => ?_)
        · refine lv_iinc (v := (nI (i + 1))) (lv' := [(4, .int (nI (i + 1))), (5, .ref q), (0, .ref th), (1, .int u), (2, .int v), (3, .int acc)]) hx hb d_T_kilogramsInZone_49 hl (k := 5) rfl (nI_1 _) (by decide) rfl (fun ls hl => ?_)
          refine lv_goto (tgt := 5) hx hb d_T_kilogramsInZone_52 (by decide) ?_
          exact ih_5 (i + 1) acc ls (by omega) (by omega) (by rw [hI_5, hdr, List.foldl_cons]; congr 1; simp [kzF, e_1, c_2, c_4]) (lv_sub hl [2, 3, 4, 5, 0] rfl)
        · refine lv_iload_n hx hb d_T_kilogramsInZone_40 rfl (lv_at hl 4 rfl) ?_
          refine lv_aload hx hb d_T_kilogramsInZone_41 (lv_at hl 0 rfl) ?_
          refine lv_iload_n hx hb d_T_kilogramsInZone_43 rfl (lv_at hl 3 rfl) ?_
          refine wr_i (cV (As := [.int v]) (rest := [.int acc]) (C := "DangerTables$Box") 1 ⟨hx, hb, hml, hown, hts⟩ (c_X_kilogramsOf l g w q (rs, bz, bx, by_, bt) v hBx) k_541 k_538 k_19 k_539 k_540 (by decide +kernel) ⟨Nat.le_of_ble_eq_true rfl, Nat.le_of_ble_eq_true rfl⟩ rfl rfl ⟨prR_blind _ _ _, hw.recv hK hxq rfl, prR_at hG hAB hS hw⟩ rfl hl.1 rfl (Nat.le_of_ble_eq_true rfl) d_T_kilogramsInZone_44 ⟨Nat.zero_le _, Nat.zero_le _⟩) (fun r_5 e_5 => ?_)
          refine lv_iadd hx hb d_T_kilogramsInZone_47 ?_
          refine lv_topi (fun v_6 e_6 => ?_)
          refine lv_istore_n (lv' := [(3, .int v_6), (5, .ref q), (0, .ref th), (1, .int u), (2, .int v), (4, .int (nI i))]) hx hb d_T_kilogramsInZone_48 rfl hl (by decide) rfl (fun ls hl => ?_)
          refine lv_iinc (v := (nI (i + 1))) (lv' := [(4, .int (nI (i + 1))), (3, .int v_6), (5, .ref q), (0, .ref th), (1, .int u), (2, .int v)]) hx hb d_T_kilogramsInZone_49 hl (k := 5) rfl (nI_1 _) (by decide) rfl (fun ls hl => ?_)
          refine lv_goto (tgt := 5) hx hb d_T_kilogramsInZone_52 (by decide) ?_
          exact ih_5 (i + 1) v_6 ls (by omega) (by omega) (by rw [hI_5, hdr, List.foldl_cons]; congr 1; simp [kzF, e_1, c_2, c_4, e_5, e_6]) (lv_sub hl [3, 4, 5, 1, 0] rfl)
  exact loop_5 (xs.length + 1) 0 0 ls (by omega) (by omega) rfl (lv_sub hl [2, 3, 4, 1, 0] rfl)

set_option maxHeartbeats 4000000 in
set_option maxRecDepth 100000 in
theorem c_T_lyingCount (l : Launch) (g : GT) (w : Nat → Option va_E) (th tx ru : Nat) (rd : Int32) (go bo zo : Nat) (arr : Nat) (xs : List Nat) (bs : List BX) (ht : w th = some (cT tx ru rd go bo zo)) (hL : isL g w bo arr xs) (hlen : xs.length = bs.length) (hbs : ∀ i a : Nat, xs[i]? = some a → ∃ b, bs[i]? = some b ∧ isBx g w a b) : Met l y_T_lyingCount (.code y_T_lyingCount b_T_lyingCount 3 ((some .int)) :: GW) ({ frames := 3, cells := 0, slots := 0, locals := 64 }) (prR g [.ref th] w) (vp_Si (fun r => r = lyB bs)) 0 0 (fun _ => False) := by
  refine Met.ofW (cc := b_T_lyingCount) (maxL := 3) (ret := (some .int)) (by decide) rfl ?_
  intro p e s m args below meth c s₁ B hml hv
  obtain ⟨rfl, hG, hw⟩ := hv
  have hx := B.exec
  have hb := B.bytes
  have hr := B.returns
  have hts : ∀ w ∈ GW, w.before _ s = true := fun w h => atoms_spec (ws := .code y_T_lyingCount b_T_lyingCount 3 ((some .int)) :: GW) B.pre w (List.mem_cons_of_mem _ h)
  have hown : s.vm.findClass "DangerTables" = some m.cls := findClass_of_methodNamed B.named
  have hlocks := B.notSynchronized
  have hf := hG.here
  have hK := hf.1
  have hAB : ∀ q, gB g q → gB g q := fun _ h => h
  have hS : va_S (gB g) s.heap s.heap [] := va_S.rf
  have hl := lv_entry ([.ref th]) (n := 3) (Nat.le_of_ble_eq_true rfl)
  rw [lg_entry_eq]
  generalize (lg_sl ([.ref th]) ++ List.replicate (3 - (lg_sl ([.ref th])).length) Slot.unset).toArray = ls at hl ⊢
  have hl : lv_has ls 3 [(0, .ref th)] := hl
  obtain ⟨mc, cap, f, he, hcap, hc, hfi, hor⟩ := hL
  refine lv_iconst (v := 0) hx hb d_T_lyingCount_0 (by decide) ?_
  refine lv_istore_n (lv' := [(1, .int 0), (0, .ref th)]) hx hb d_T_lyingCount_1 rfl hl (by decide) rfl (fun ls hl => ?_)
  refine lv_iconst (v := 0) hx hb d_T_lyingCount_2 (by decide) ?_
  refine lv_istore_n (lv' := [(2, .int 0), (1, .int 0), (0, .ref th)]) hx hb d_T_lyingCount_3 rfl hl (by decide) rfl (fun ls hl => ?_)
  have loop_4 : ∀ (k i : Nat) (acc : Int32) (ls : Array Slot), i ≤ xs.length → xs.length < i + k → lyB bs = (bs.drop i).foldl lyF acc → lv_has ls 3 [(0, .ref th), (1, .int acc), (2, .int (nI i))] → W p l e (headSpec (.code y_T_lyingCount b_T_lyingCount 3 ((some .int)) :: GW) ({ frames := 3, cells := 0, slots := 0, locals := 64 })).room s m (#[.ref th] : Array Value) below meth c s.heap [] 0 0 (MQ below (vp_Si (fun r => r = lyB bs)) (#[.ref th] : Array Value) s 0 0 (fun _ => False)) (F0 m 4 ls []) := by
    intro k
    induction k with
    | zero =>
      intro i acc ls h1_4 h2_4
      exact absurd h2_4 (by omega)
    | succ k ih_4 =>
      intro i acc ls h1_4 h2_4 hI_4 hl
      refine lv_iload_n hx hb d_T_lyingCount_4 rfl (lv_at hl 2 rfl) ?_
      refine lv_aload_n hx hb d_T_lyingCount_5 rfl (lv_at hl 0 rfl) ?_
      refine ww_get (v := .ref bo) (C := R_T) (T := F_T) (N := 6) (ci := 0) hx hb hts i_T hown hK hw ht rfl 4 (by decide) (hts _ k_84) (fun _ h9 => h9) rfl d_T_lyingCount_6 ?_
      refine wr_i (cV (As := []) (rest := [.int (nI i)]) (C := "java/util/ArrayList") 0 ⟨hx, hb, hml, hown, hts⟩ (c_AL_size l g w bo arr mc (nI xs.length) he) k_152 k_149 k_6 k_150 k_151 (by decide +kernel) ⟨Nat.le_of_ble_eq_true rfl, Nat.le_of_ble_eq_true rfl⟩ rfl rfl ⟨prR_blind _ _ _, hw.recv hK he rfl, prR_at hG hAB hS hw⟩ rfl hl.1 rfl (Nat.le_of_ble_eq_true rfl) d_T_lyingCount_9 ⟨Nat.zero_le _, Nat.zero_le _⟩) (fun r_1 e_1 => ?_)
      refine lv_icmp_ge (tgt := 41) hx hb d_T_lyingCount_12 (by decide) (fun c_2 => ?_) (fun c_2 => ?_)
      · have hge : xs.length ≤ i := lp_ge e_1 c_2 (by omega) (by omega)
        have hdr : bs.drop i = [] := dr_n (by omega)
        refine lv_iload_n hx hb d_T_lyingCount_41 rfl (lv_at hl 1 rfl) ?_
        exact W.iret (v := acc) hx hb hr (fun t ht hW => ⟨acc, rfl, (by rw [hI_4, hdr]; rfl), ht⟩) t_nil d_T_lyingCount_42
      · have hlt : i < xs.length := lp_lt e_1 c_2 (by omega) (by omega)
        obtain ⟨q, hq0⟩ : ∃ q, xs[i]? = some q := ⟨_, List.getElem?_eq_getElem hlt⟩
        have hq := hfi i q hq0
        have ha := hor.resolve_right (fun z => by rw [z.1] at hlt; exact absurd hlt (Nat.not_lt_zero _))
        obtain ⟨⟨rs, bz, bx, by_, bt⟩, hr0, hBx⟩ := hbs i q hq0
        have hdr := dr_c hr0
        obtain ⟨pl, parr, ps, hxq, hLq, hPq⟩ := id hBx
        refine lv_aload_n hx hb d_T_lyingCount_15 rfl (lv_at hl 0 rfl) ?_
        refine ww_get (v := .ref bo) (C := R_T) (T := F_T) (N := 6) (ci := 0) hx hb hts i_T hown hK hw ht rfl 4 (by decide) (hts _ k_84) (fun _ h9 => h9) rfl d_T_lyingCount_16 ?_
        refine lv_iload_n hx hb d_T_lyingCount_19 rfl (lv_at hl 2 rfl) ?_
        refine wr_q (cV (As := [.int (nI i)]) (rest := []) (C := "java/util/ArrayList") 1 ⟨hx, hb, hml, hown, hts⟩ (c_AL_get l g w bo arr xs.length cap i q mc f he ha hcap (by omega) hlt hq) k_157 k_154 k_6 k_155 k_156 (by decide +kernel) ⟨Nat.le_of_ble_eq_true rfl, Nat.le_of_ble_eq_true rfl⟩ rfl rfl ⟨prR_blind _ _ _, hw.recv hK he rfl, prR_at hG hAB hS hw⟩ rfl hl.1 rfl (Nat.le_of_ble_eq_true rfl) d_T_lyingCount_20 ⟨Nat.zero_le _, Nat.zero_le _⟩) (fun r_3 e_3 => ?_)
        subst e_3
        refine va_castY (C := "DangerTables$Box") hx hb hown (hts _ k_193) (hf.2.1 _ x_873) (hw.recv hK hxq rfl) d_T_lyingCount_23 ?_
        refine wr_i (cV (As := []) (rest := []) (C := "DangerTables$Box") 0 ⟨hx, hb, hml, hown, hts⟩ (c_X_lies l g w q pl bz bx by_ bt hxq) k_209 k_206 k_19 k_207 k_208 (by decide +kernel) ⟨Nat.le_of_ble_eq_true rfl, Nat.le_of_ble_eq_true rfl⟩ rfl rfl ⟨prR_blind _ _ _, hw.recv hK hxq rfl, prR_at hG hAB hS hw⟩ rfl hl.1 rfl (Nat.le_of_ble_eq_true rfl) d_T_lyingCount_26 ⟨Nat.zero_le _, Nat.zero_le _⟩) (fun r_4 e_4 => ?_)
        refine lv_if_eq (tgt := 35) hx hb d_T_lyingCount_29 (by decide) (fun c_5 => ?_) (fun c_5 => ?_)
        · have q_5 := b2_f e_4 c_5
          refine lv_iinc (v := (nI (i + 1))) (lv' := [(2, .int (nI (i + 1))), (0, .ref th), (1, .int acc)]) hx hb d_T_lyingCount_35 hl (k := 2) rfl (nI_1 _) (by decide) rfl (fun ls hl => ?_)
          refine lv_goto (tgt := 4) hx hb d_T_lyingCount_38 (by decide) ?_
          exact ih_4 (i + 1) acc ls (by omega) (by omega) (by rw [hI_4, hdr, List.foldl_cons]; congr 1; simp at q_5; simp [lyF, e_1, e_4, q_5]) (lv_sub hl [1, 2, 0] rfl)
        · have q_5 := b2_t e_4 c_5
          obtain ⟨v_6, e_6⟩ : ∃ z : Int32, z = acc + 1 := ⟨_, rfl⟩
          refine lv_iinc (v := v_6) (lv' := [(1, .int v_6), (0, .ref th), (2, .int (nI i))]) hx hb d_T_lyingCount_32 hl (k := 1) rfl (by rw [e_6]; rfl) (by decide) rfl (fun ls hl => ?_)
          refine lv_iinc (v := (nI (i + 1))) (lv' := [(2, .int (nI (i + 1))), (1, .int v_6), (0, .ref th)]) hx hb d_T_lyingCount_35 hl (k := 2) rfl (nI_1 _) (by decide) rfl (fun ls hl => ?_)
          refine lv_goto (tgt := 4) hx hb d_T_lyingCount_38 (by decide) ?_
          exact ih_4 (i + 1) v_6 ls (by omega) (by omega) (by rw [hI_4, hdr, List.foldl_cons]; congr 1; simp at q_5; simp [lyF, e_1, e_4, q_5, e_6]) (lv_sub hl [2, 1, 0] rfl)
  exact loop_4 (xs.length + 1) 0 0 ls (by omega) (by omega) rfl (lv_sub hl [2, 1, 0] rfl)

set_option maxHeartbeats 4000000 in
set_option maxRecDepth 100000 in
theorem c_T_isTaken (l : Launch) (g : GT) (w : Nat → Option va_E) (th tx ru : Nat) (rd : Int32) (go bo zo : Nat) (arr : Nat) (xs : List Nat) (bs : List BX) (u v x : Int32) (ht : w th = some (cT tx ru rd go bo zo)) (hL : isL g w bo arr xs) (hlen : xs.length = bs.length) (hbs : ∀ i a : Nat, xs[i]? = some a → ∃ b, bs[i]? = some b ∧ isBx g w a b) : Met l y_T_isTaken (.code y_T_isTaken b_T_isTaken 6 ((some .boolean)) :: GW) ({ frames := 3, cells := 0, slots := 0, locals := 64 }) (prR g [.ref th, .int u, .int v, .int x] w) (vp_Si (fun r => r = b2 (tkB bs u v x))) 0 0 (fun _ => False) := by
  refine Met.ofW (cc := b_T_isTaken) (maxL := 6) (ret := (some .boolean)) (by decide) rfl ?_
  intro p e s m args below meth c s₁ B hml hv
  obtain ⟨rfl, hG, hw⟩ := hv
  have hx := B.exec
  have hb := B.bytes
  have hr := B.returns
  have hts : ∀ w ∈ GW, w.before _ s = true := fun w h => atoms_spec (ws := .code y_T_isTaken b_T_isTaken 6 ((some .boolean)) :: GW) B.pre w (List.mem_cons_of_mem _ h)
  have hown : s.vm.findClass "DangerTables" = some m.cls := findClass_of_methodNamed B.named
  have hlocks := B.notSynchronized
  have hf := hG.here
  have hK := hf.1
  have hAB : ∀ q, gB g q → gB g q := fun _ h => h
  have hS : va_S (gB g) s.heap s.heap [] := va_S.rf
  have hl := lv_entry ([.ref th, .int u, .int v, .int x]) (n := 6) (Nat.le_of_ble_eq_true rfl)
  rw [lg_entry_eq]
  generalize (lg_sl ([.ref th, .int u, .int v, .int x]) ++ List.replicate (6 - (lg_sl ([.ref th, .int u, .int v, .int x])).length) Slot.unset).toArray = ls at hl ⊢
  have hl : lv_has ls 6 [(0, .ref th), (1, .int u), (2, .int v), (3, .int x)] := hl
  obtain ⟨mc, cap, f, he, hcap, hc, hfi, hor⟩ := hL
  refine lv_iconst (v := 0) hx hb d_T_isTaken_0 (by decide) ?_
  refine lv_istore (lv' := [(4, .int 0), (0, .ref th), (1, .int u), (2, .int v), (3, .int x)]) hx hb d_T_isTaken_1 hl (by decide) rfl (fun ls hl => ?_)
  have loop_3 : ∀ (k i : Nat)  (ls : Array Slot), i ≤ xs.length → xs.length < i + k → tkB bs u v x = (bs.drop i).any (tkP u v x) → lv_has ls 6 [(0, .ref th), (1, .int u), (2, .int v), (3, .int x), (4, .int (nI i))] → W p l e (headSpec (.code y_T_isTaken b_T_isTaken 6 ((some .boolean)) :: GW) ({ frames := 3, cells := 0, slots := 0, locals := 64 })).room s m (#[.ref th, .int u, .int v, .int x] : Array Value) below meth c s.heap [] 0 0 (MQ below (vp_Si (fun r => r = b2 (tkB bs u v x))) (#[.ref th, .int u, .int v, .int x] : Array Value) s 0 0 (fun _ => False)) (F0 m 3 ls []) := by
    intro k
    induction k with
    | zero =>
      intro i  ls h1_3 h2_3
      exact absurd h2_3 (by omega)
    | succ k ih_3 =>
      intro i  ls h1_3 h2_3 hI_3 hl
      refine lv_iload hx hb d_T_isTaken_3 (lv_at hl 4 rfl) ?_
      refine lv_aload_n hx hb d_T_isTaken_5 rfl (lv_at hl 0 rfl) ?_
      refine ww_get (v := .ref bo) (C := R_T) (T := F_T) (N := 6) (ci := 0) hx hb hts i_T hown hK hw ht rfl 4 (by decide) (hts _ k_84) (fun _ h9 => h9) rfl d_T_isTaken_6 ?_
      refine wr_i (cV (As := []) (rest := [.int (nI i)]) (C := "java/util/ArrayList") 0 ⟨hx, hb, hml, hown, hts⟩ (c_AL_size l g w bo arr mc (nI xs.length) he) k_152 k_149 k_6 k_150 k_151 (by decide +kernel) ⟨Nat.le_of_ble_eq_true rfl, Nat.le_of_ble_eq_true rfl⟩ rfl rfl ⟨prR_blind _ _ _, hw.recv hK he rfl, prR_at hG hAB hS hw⟩ rfl hl.1 rfl (Nat.le_of_ble_eq_true rfl) d_T_isTaken_9 ⟨Nat.zero_le _, Nat.zero_le _⟩) (fun r_1 e_1 => ?_)
      refine lv_icmp_ge (tgt := 64) hx hb d_T_isTaken_12 (by decide) (fun c_2 => ?_) (fun c_2 => ?_)
      · have hge : xs.length ≤ i := lp_ge e_1 c_2 (by omega) (by omega)
        have hdr : bs.drop i = [] := dr_n (by omega)
        refine lv_iconst (v := 0) hx hb d_T_isTaken_64 (by decide) ?_
        exact W.zret (v := 0) (ty := .boolean) hx hb hr rfl (fun t ht hW => ⟨0, rfl, (by rw [hI_3, hdr]; simp [b2, tkP]), ht⟩) t_nil d_T_isTaken_65
      · have hlt : i < xs.length := lp_lt e_1 c_2 (by omega) (by omega)
        obtain ⟨q, hq0⟩ : ∃ q, xs[i]? = some q := ⟨_, List.getElem?_eq_getElem hlt⟩
        have hq := hfi i q hq0
        have ha := hor.resolve_right (fun z => by rw [z.1] at hlt; exact absurd hlt (Nat.not_lt_zero _))
        obtain ⟨⟨rs, bz, bx, by_, bt⟩, hr0, hBx⟩ := hbs i q hq0
        have hdr := dr_c hr0
        obtain ⟨pl, parr, ps, hxq, hLq, hPq⟩ := id hBx
        refine lv_aload_n hx hb d_T_isTaken_15 rfl (lv_at hl 0 rfl) ?_
        refine ww_get (v := .ref bo) (C := R_T) (T := F_T) (N := 6) (ci := 0) hx hb hts i_T hown hK hw ht rfl 4 (by decide) (hts _ k_84) (fun _ h9 => h9) rfl d_T_isTaken_16 ?_
        refine lv_iload hx hb d_T_isTaken_19 (lv_at hl 4 rfl) ?_
        refine wr_q (cV (As := [.int (nI i)]) (rest := []) (C := "java/util/ArrayList") 1 ⟨hx, hb, hml, hown, hts⟩ (c_AL_get l g w bo arr xs.length cap i q mc f he ha hcap (by omega) hlt hq) k_157 k_154 k_6 k_155 k_156 (by decide +kernel) ⟨Nat.le_of_ble_eq_true rfl, Nat.le_of_ble_eq_true rfl⟩ rfl rfl ⟨prR_blind _ _ _, hw.recv hK he rfl, prR_at hG hAB hS hw⟩ rfl hl.1 rfl (Nat.le_of_ble_eq_true rfl) d_T_isTaken_21 ⟨Nat.zero_le _, Nat.zero_le _⟩) (fun r_3 e_3 => ?_)
        subst e_3
        refine va_castY (C := "DangerTables$Box") hx hb hown (hts _ k_193) (hf.2.1 _ x_873) (hw.recv hK hxq rfl) d_T_isTaken_24 ?_
        refine lv_astore (lv' := [(5, .ref q), (0, .ref th), (1, .int u), (2, .int v), (3, .int x), (4, .int (nI i))]) hx hb d_T_isTaken_27 hl (by decide) rfl (fun ls hl => ?_)
        refine lv_aload hx hb d_T_isTaken_29 (lv_at hl 0 rfl) ?_
        refine ww_getN (v := .int bz) (C := R_X) (T := F_X) (N := 5) (ci := 1) hx hb hts i_X hown hK hw hxq rfl 1 (by decide) (va_Nw.use rfl (hf.2.1 _ x_420)) (fun _ h9 => h9) rfl d_T_isTaken_31 ?_
        refine lv_iload_n hx hb d_T_isTaken_34 rfl (lv_at hl 2 rfl) ?_
        refine lv_icmp_ne (tgt := 58) hx hb d_T_isTaken_35 (by decide) (fun c_4 => ?_) (fun c_4 => ?_)
        · refine lv_iinc (v := (nI (i + 1))) (lv' := [(4, .int (nI (i + 1))), (5, .ref q), (0, .ref th), (1, .int u), (2, .int v), (3, .int x)]) hx hb d_T_isTaken_58 hl (k := 5) rfl (nI_1 _) (by decide) rfl (fun ls hl => ?_)
          refine lv_goto (tgt := 3) hx hb d_T_isTaken_61 (by decide) ?_
          exact ih_3 (i + 1)  ls (by omega) (by omega) (by rw [hI_3, hdr]; simp [tkP, c_2, c_4]) (lv_sub hl [2, 3, 4, 5, 0] rfl)
        · refine lv_aload hx hb d_T_isTaken_38 (lv_at hl 0 rfl) ?_
          refine ww_getN (v := .int bx) (C := R_X) (T := F_X) (N := 5) (ci := 1) hx hb hts i_X hown hK hw hxq rfl 2 (by decide) (va_Nw.use rfl (hf.2.1 _ x_422)) (fun _ h9 => h9) rfl d_T_isTaken_40 ?_
          refine lv_iload_n hx hb d_T_isTaken_43 rfl (lv_at hl 3 rfl) ?_
          refine lv_icmp_ne (tgt := 58) hx hb d_T_isTaken_44 (by decide) (fun c_5 => ?_) (fun c_5 => ?_)
          · refine lv_iinc (v := (nI (i + 1))) (lv' := [(4, .int (nI (i + 1))), (5, .ref q), (0, .ref th), (1, .int u), (2, .int v), (3, .int x)]) hx hb d_T_isTaken_58 hl (k := 5) rfl (nI_1 _) (by decide) rfl (fun ls hl => ?_)
            refine lv_goto (tgt := 3) hx hb d_T_isTaken_61 (by decide) ?_
            exact ih_3 (i + 1)  ls (by omega) (by omega) (by rw [hI_3, hdr]; simp [tkP, c_2, c_4, c_5]) (lv_sub hl [2, 3, 4, 5, 0] rfl)
          · refine lv_aload hx hb d_T_isTaken_47 (lv_at hl 0 rfl) ?_
            refine ww_getN (v := .int by_) (C := R_X) (T := F_X) (N := 5) (ci := 1) hx hb hts i_X hown hK hw hxq rfl 3 (by decide) (va_Nw.use rfl (hf.2.1 _ x_424)) (fun _ h9 => h9) rfl d_T_isTaken_49 ?_
            refine lv_iload_n hx hb d_T_isTaken_52 rfl (lv_at hl 4 rfl) ?_
            refine lv_icmp_ne (tgt := 58) hx hb d_T_isTaken_53 (by decide) (fun c_6 => ?_) (fun c_6 => ?_)
            · refine lv_iinc (v := (nI (i + 1))) (lv' := [(4, .int (nI (i + 1))), (5, .ref q), (0, .ref th), (1, .int u), (2, .int v), (3, .int x)]) hx hb d_T_isTaken_58 hl (k := 5) rfl (nI_1 _) (by decide) rfl (fun ls hl => ?_)
              refine lv_goto (tgt := 3) hx hb d_T_isTaken_61 (by decide) ?_
              exact ih_3 (i + 1)  ls (by omega) (by omega) (by rw [hI_3, hdr]; simp [tkP, c_2, c_4, c_5, c_6]) (lv_sub hl [2, 3, 4, 5, 0] rfl)
            · refine lv_iconst (v := 1) hx hb d_T_isTaken_56 (by decide) ?_
              exact W.zret (v := 1) (ty := .boolean) hx hb hr rfl (fun t ht hW => ⟨1, rfl, (by rw [hI_3, hdr]; simp [b2, tkP, c_2, c_4, c_5, c_6]), ht⟩) t_nil d_T_isTaken_57
  exact loop_3 (xs.length + 1) 0  ls (by omega) (by omega) rfl (lv_sub hl [1, 2, 3, 4, 0] rfl)

set_option maxHeartbeats 4000000 in
set_option maxRecDepth 100000 in
theorem c_T_leastDistance (l : Launch) (k : Nat) (hk : k < 4) : Met l y_T_leastDistance (.code y_T_leastDistance b_T_leastDistance 1 ((some .int)) :: GW) ({ frames := 0, cells := 0, slots := 0, locals := 0 }) (prN [.int (nI k)]) (vp_Si (fun r => r = yardI (nI k).toNatClampNeg)) 0 0 (fun _ => False) := by
  refine Met.ofW (cc := b_T_leastDistance) (maxL := 1) (ret := (some .int)) (by decide) rfl ?_
  intro p e s m args below meth c s₁ B hml hv
  obtain ⟨rfl, -⟩ := hv
  have hx := B.exec
  have hb := B.bytes
  have hr := B.returns
  have hts : ∀ w ∈ GW, w.before _ s = true := fun w h => atoms_spec (ws := .code y_T_leastDistance b_T_leastDistance 1 ((some .int)) :: GW) B.pre w (List.mem_cons_of_mem _ h)
  have hown : s.vm.findClass "DangerTables" = some m.cls := findClass_of_methodNamed B.named
  have hlocks := B.notSynchronized
  have hl := lv_entry ([.int (nI k)]) (n := 1) (Nat.le_of_ble_eq_true rfl)
  rw [lg_entry_eq]
  generalize (lg_sl ([.int (nI k)]) ++ List.replicate (1 - (lg_sl ([.int (nI k)])).length) Slot.unset).toArray = ls at hl ⊢
  have hl : lv_has ls 1 [(0, .int (nI k))] := hl
  refine lv_iload_n hx hb d_T_leastDistance_0 rfl (lv_at hl 0 rfl) ?_
  rcases (show k = 0 ∨ k = 1 ∨ k = 2 ∨ k = 3 by omega) with rfl | rfl | rfl | rfl
  · refine lv_tableOut (tgt := 36) hx hb d_T_leastDistance_1 (by decide) (by decide) ?_
    refine lv_iconst (v := 0) hx hb d_T_leastDistance_36 (by decide) ?_
    exact W.iret (v := 0) hx hb hr (fun t ht hW => ⟨0, rfl, rfl, ht⟩) t_nil d_T_leastDistance_37
  · refine lv_tableIn (off := 27) (tgt := 28) hx hb d_T_leastDistance_1 (by decide) (by decide) (by first | rfl | decide) (by decide) ?_
    refine lv_iconst (v := 3) hx hb d_T_leastDistance_28 (by decide) ?_
    exact W.iret (v := 3) hx hb hr (fun t ht hW => ⟨3, rfl, rfl, ht⟩) t_nil d_T_leastDistance_29
  · refine lv_tableIn (off := 29) (tgt := 30) hx hb d_T_leastDistance_1 (by decide) (by decide) (by first | rfl | decide) (by decide) ?_
    refine lv_bipush (v := 6) hx hb d_T_leastDistance_30 (by decide) ?_
    exact W.iret (v := 6) hx hb hr (fun t ht hW => ⟨6, rfl, rfl, ht⟩) t_nil d_T_leastDistance_32
  · refine lv_tableIn (off := 32) (tgt := 33) hx hb d_T_leastDistance_1 (by decide) (by decide) (by first | rfl | decide) (by decide) ?_
    refine lv_bipush (v := 12) hx hb d_T_leastDistance_33 (by decide) ?_
    exact W.iret (v := 12) hx hb hr (fun t ht hW => ⟨12, rfl, rfl, ht⟩) t_nil d_T_leastDistance_35

set_option maxHeartbeats 4000000 in
set_option maxRecDepth 100000 in
theorem c_T_leastCells (l : Launch) (k : Nat) (hk : k ≤ 4) : Met l y_T_leastCells (.code y_T_leastCells b_T_leastCells 1 ((some .int)) :: GW) ({ frames := 0, cells := 0, slots := 0, locals := 0 }) (prN [.int (nI k)]) (vp_Si (fun r => r = shipI (nI k).toNatClampNeg)) 0 0 (fun _ => False) := by
  refine Met.ofW (cc := b_T_leastCells) (maxL := 1) (ret := (some .int)) (by decide) rfl ?_
  intro p e s m args below meth c s₁ B hml hv
  obtain ⟨rfl, -⟩ := hv
  have hx := B.exec
  have hb := B.bytes
  have hr := B.returns
  have hts : ∀ w ∈ GW, w.before _ s = true := fun w h => atoms_spec (ws := .code y_T_leastCells b_T_leastCells 1 ((some .int)) :: GW) B.pre w (List.mem_cons_of_mem _ h)
  have hown : s.vm.findClass "DangerTables" = some m.cls := findClass_of_methodNamed B.named
  have hlocks := B.notSynchronized
  have hl := lv_entry ([.int (nI k)]) (n := 1) (Nat.le_of_ble_eq_true rfl)
  rw [lg_entry_eq]
  generalize (lg_sl ([.int (nI k)]) ++ List.replicate (1 - (lg_sl ([.int (nI k)])).length) Slot.unset).toArray = ls at hl ⊢
  have hl : lv_has ls 1 [(0, .int (nI k))] := hl
  refine lv_iload_n hx hb d_T_leastCells_0 rfl (lv_at hl 0 rfl) ?_
  rcases (show k = 0 ∨ k = 1 ∨ k = 2 ∨ k = 3 ∨ k = 4 by omega) with rfl | rfl | rfl | rfl | rfl
  · refine lv_tableOut (tgt := 41) hx hb d_T_leastCells_1 (by decide) (by decide) ?_
    refine lv_iconst (v := 0) hx hb d_T_leastCells_41 (by decide) ?_
    exact W.iret (v := 0) hx hb hr (fun t ht hW => ⟨0, rfl, rfl, ht⟩) t_nil d_T_leastCells_42
  · refine lv_tableIn (off := 31) (tgt := 32) hx hb d_T_leastCells_1 (by decide) (by decide) (by first | rfl | decide) (by decide) ?_
    refine lv_iconst (v := 1) hx hb d_T_leastCells_32 (by decide) ?_
    exact W.iret (v := 1) hx hb hr (fun t ht hW => ⟨1, rfl, rfl, ht⟩) t_nil d_T_leastCells_33
  · refine lv_tableIn (off := 33) (tgt := 34) hx hb d_T_leastCells_1 (by decide) (by decide) (by first | rfl | decide) (by decide) ?_
    refine lv_iconst (v := 2) hx hb d_T_leastCells_34 (by decide) ?_
    exact W.iret (v := 2) hx hb hr (fun t ht hW => ⟨2, rfl, rfl, ht⟩) t_nil d_T_leastCells_35
  · refine lv_tableIn (off := 35) (tgt := 36) hx hb d_T_leastCells_1 (by decide) (by decide) (by first | rfl | decide) (by decide) ?_
    refine lv_iconst (v := 4) hx hb d_T_leastCells_36 (by decide) ?_
    exact W.iret (v := 4) hx hb hr (fun t ht hW => ⟨4, rfl, rfl, ht⟩) t_nil d_T_leastCells_37
  · refine lv_tableIn (off := 37) (tgt := 38) hx hb d_T_leastCells_1 (by decide) (by decide) (by first | rfl | decide) (by decide) ?_
    refine lv_bipush (v := 8) hx hb d_T_leastCells_38 (by decide) ?_
    exact W.iret (v := 8) hx hb hr (fun t ht hW => ⟨8, rfl, rfl, ht⟩) t_nil d_T_leastCells_40

set_option maxHeartbeats 4000000 in
set_option maxRecDepth 100000 in
theorem c_T_isTooNear (l : Launch) (g : GT) (w : Nat → Option va_E) (k : Nat) (v : Int32) (hk : k ≤ 4) : Met l y_T_isTooNear (.code y_T_isTooNear b_T_isTooNear 2 ((some .boolean)) :: GW) ({ frames := 1, cells := 0, slots := 0, locals := 20 }) (prR g [.int (nI k), .int v] w) (vp_Si (fun r => r = b2 (tnI (nI k) v))) 0 0 (fun _ => False) := by
  refine Met.ofW (cc := b_T_isTooNear) (maxL := 2) (ret := (some .boolean)) (by decide) rfl ?_
  intro p e s m args below meth c s₁ B hml hv
  obtain ⟨rfl, hG, hw⟩ := hv
  have hx := B.exec
  have hb := B.bytes
  have hr := B.returns
  have hts : ∀ w ∈ GW, w.before _ s = true := fun w h => atoms_spec (ws := .code y_T_isTooNear b_T_isTooNear 2 ((some .boolean)) :: GW) B.pre w (List.mem_cons_of_mem _ h)
  have hown : s.vm.findClass "DangerTables" = some m.cls := findClass_of_methodNamed B.named
  have hlocks := B.notSynchronized
  have hf := hG.here
  have hK := hf.1
  have hAB : ∀ q, gB g q → gB g q := fun _ h => h
  have hS : va_S (gB g) s.heap s.heap [] := va_S.rf
  have hl := lv_entry ([.int (nI k), .int v]) (n := 2) (Nat.le_of_ble_eq_true rfl)
  rw [lg_entry_eq]
  generalize (lg_sl ([.int (nI k), .int v]) ++ List.replicate (2 - (lg_sl ([.int (nI k), .int v])).length) Slot.unset).toArray = ls at hl ⊢
  have hl : lv_has ls 2 [(0, .int (nI k)), (1, .int v)] := hl
  refine lv_iload_n hx hb d_T_isTooNear_0 rfl (lv_at hl 0 rfl) ?_
  refine lv_iconst (v := 4) hx hb d_T_isTooNear_1 (by decide) ?_
  refine lv_icmp_eq (tgt := 13) hx hb d_T_isTooNear_2 (by decide) (fun c_1 => ?_) (fun c_1 => ?_)
  · refine lv_iconst (v := 1) hx hb d_T_isTooNear_13 (by decide) ?_
    refine lv_goto (tgt := 18) hx hb d_T_isTooNear_14 (by decide) ?_
    exact W.zret (v := 1) (ty := .boolean) hx hb hr rfl (fun t ht hW => ⟨1, rfl, (by unfold tnI; rw [c_1, decide_eq_true (Int32.le_refl 4)]; rfl), ht⟩) t_nil d_T_isTooNear_18
  · have hk4 := ne4 hk c_1
    refine lv_iload_n hx hb d_T_isTooNear_5 rfl (lv_at hl 1 rfl) ?_
    refine lv_iload_n hx hb d_T_isTooNear_6 rfl (lv_at hl 0 rfl) ?_
    refine wr_i (cS (As := [.int (nI k)]) (rest := [.int v]) 1 ⟨hx, hb, hml, hown, hts⟩ (c_T_leastDistance l k hk4) k_595 k_593 k_1 k_594 (by decide +kernel) ⟨Nat.le_of_ble_eq_true rfl, Nat.le_of_ble_eq_true rfl⟩ rfl rfl ⟨prN_blind _, fun _ _ _ => ⟨rfl, trivial⟩⟩ rfl hl.1 rfl (Nat.le_of_ble_eq_true rfl) d_T_isTooNear_7 ⟨Nat.zero_le _, Nat.zero_le _⟩) (fun r_2 e_2 => ?_)
    refine lv_icmp_ge (tgt := 17) hx hb d_T_isTooNear_10 (by decide) (fun c_3 => ?_) (fun c_3 => ?_)
    · refine lv_iconst (v := 0) hx hb d_T_isTooNear_17 (by decide) ?_
      exact W.zret (v := 0) (ty := .boolean) hx hb hr rfl (fun t ht hW => ⟨0, rfl, (by unfold tnI; rw [decide_eq_false (nle4 hk4), ← e_2, decide_eq_true c_3]; rfl), ht⟩) t_nil d_T_isTooNear_18
    · refine lv_iconst (v := 1) hx hb d_T_isTooNear_13 (by decide) ?_
      refine lv_goto (tgt := 18) hx hb d_T_isTooNear_14 (by decide) ?_
      exact W.zret (v := 1) (ty := .boolean) hx hb hr rfl (fun t ht hW => ⟨1, rfl, (by unfold tnI; rw [decide_eq_false (nle4 hk4), ← e_2, decide_eq_false c_3]; rfl), ht⟩) t_nil d_T_isTooNear_18

set_option maxHeartbeats 4000000 in
set_option maxRecDepth 100000 in
theorem c_T_leastTooNear (l : Launch) (g : GT) (w : Nat → Option va_E) (th tx ru : Nat) (rd : Int32) (go bo zo : Nat) (rf : Nat → Int32) (aA : Nat) (bA : BX) (arr : Nat) (xs : List Nat) (bs : List BX) (u x y : Int32) (ht : w th = some (cT tx ru rd go bo zo)) (hru : w ru = some (cA g 45 rf)) (hrf : okR rf) (hB1 : isBx g w aA bA) (ho1 : ∀ r ∈ bA.1, okP r) (hL : isL g w bo arr xs) (hlen : xs.length = bs.length) (hbs : ∀ i a : Nat, xs[i]? = some a → ∃ b, bs[i]? = some b ∧ isBx g w a b) (hos : ∀ b ∈ bs, ∀ r ∈ b.1, okP r) : Met l y_T_leastTooNear (.code y_T_leastTooNear b_T_leastTooNear 7 ((some .int)) :: GW) ({ frames := 4, cells := 0, slots := 0, locals := 98 }) (prR g [.ref th, .ref aA, .int u, .int x, .int y] w) (vp_Si (fun r => r = nrB rf bA.1 u x y bs)) 0 0 (fun _ => False) := by
  refine Met.ofW (cc := b_T_leastTooNear) (maxL := 7) (ret := (some .int)) (by decide) rfl ?_
  intro p e s m args below meth c s₁ B hml hv
  obtain ⟨rfl, hG, hw⟩ := hv
  have hx := B.exec
  have hb := B.bytes
  have hr := B.returns
  have hts : ∀ w ∈ GW, w.before _ s = true := fun w h => atoms_spec (ws := .code y_T_leastTooNear b_T_leastTooNear 7 ((some .int)) :: GW) B.pre w (List.mem_cons_of_mem _ h)
  have hown : s.vm.findClass "DangerTables" = some m.cls := findClass_of_methodNamed B.named
  have hlocks := B.notSynchronized
  have hf := hG.here
  have hK := hf.1
  have hAB : ∀ q, gB g q → gB g q := fun _ h => h
  have hS : va_S (gB g) s.heap s.heap [] := va_S.rf
  have hl := lv_entry ([.ref th, .ref aA, .int u, .int x, .int y]) (n := 7) (Nat.le_of_ble_eq_true rfl)
  rw [lg_entry_eq]
  generalize (lg_sl ([.ref th, .ref aA, .int u, .int x, .int y]) ++ List.replicate (7 - (lg_sl ([.ref th, .ref aA, .int u, .int x, .int y])).length) Slot.unset).toArray = ls at hl ⊢
  have hl : lv_has ls 7 [(0, .ref th), (1, .ref aA), (2, .int u), (3, .int x), (4, .int y)] := hl
  obtain ⟨mc, cap, f, he, hcap, hc, hfi, hor⟩ := hL
  refine lv_iconst (v := 0) hx hb d_T_leastTooNear_0 (by decide) ?_
  refine lv_istore (lv' := [(5, .int 0), (0, .ref th), (1, .ref aA), (2, .int u), (3, .int x), (4, .int y)]) hx hb d_T_leastTooNear_1 hl (by decide) rfl (fun ls hl => ?_)
  have loop_3 : ∀ (k i : Nat)  (ls : Array Slot), i ≤ xs.length → xs.length < i + k → nrB rf bA.1 u x y bs = ffx (nrP rf bA.1 u x y) (bs.drop i) i → lv_has ls 7 [(0, .ref th), (1, .ref aA), (2, .int u), (3, .int x), (4, .int y), (5, .int (nI i))] → W p l e (headSpec (.code y_T_leastTooNear b_T_leastTooNear 7 ((some .int)) :: GW) ({ frames := 4, cells := 0, slots := 0, locals := 98 })).room s m (#[.ref th, .ref aA, .int u, .int x, .int y] : Array Value) below meth c s.heap [] 0 0 (MQ below (vp_Si (fun r => r = nrB rf bA.1 u x y bs)) (#[.ref th, .ref aA, .int u, .int x, .int y] : Array Value) s 0 0 (fun _ => False)) (F0 m 3 ls []) := by
    intro k
    induction k with
    | zero =>
      intro i  ls h1_3 h2_3
      exact absurd h2_3 (by omega)
    | succ k ih_3 =>
      intro i  ls h1_3 h2_3 hI_3 hl
      refine lv_iload hx hb d_T_leastTooNear_3 (lv_at hl 5 rfl) ?_
      refine lv_aload_n hx hb d_T_leastTooNear_5 rfl (lv_at hl 0 rfl) ?_
      refine ww_get (v := .ref bo) (C := R_T) (T := F_T) (N := 6) (ci := 0) hx hb hts i_T hown hK hw ht rfl 4 (by decide) (hts _ k_84) (fun _ h9 => h9) rfl d_T_leastTooNear_6 ?_
      refine wr_i (cV (As := []) (rest := [.int (nI i)]) (C := "java/util/ArrayList") 0 ⟨hx, hb, hml, hown, hts⟩ (c_AL_size l g w bo arr mc (nI xs.length) he) k_152 k_149 k_6 k_150 k_151 (by decide +kernel) ⟨Nat.le_of_ble_eq_true rfl, Nat.le_of_ble_eq_true rfl⟩ rfl rfl ⟨prR_blind _ _ _, hw.recv hK he rfl, prR_at hG hAB hS hw⟩ rfl hl.1 rfl (Nat.le_of_ble_eq_true rfl) d_T_leastTooNear_9 ⟨Nat.zero_le _, Nat.zero_le _⟩) (fun r_1 e_1 => ?_)
      refine lv_icmp_ge (tgt := 68) hx hb d_T_leastTooNear_12 (by decide) (fun c_2 => ?_) (fun c_2 => ?_)
      · have hge : xs.length ≤ i := lp_ge e_1 c_2 (by omega) (by omega)
        have hdr : bs.drop i = [] := dr_n (by omega)
        refine lv_iconst (v := -1) hx hb d_T_leastTooNear_68 (by decide) ?_
        exact W.iret (v := (-1)) hx hb hr (fun t ht hW => ⟨(-1), rfl, (by rw [hI_3, hdr]; simp [ffx, nrP]), ht⟩) t_nil d_T_leastTooNear_69
      · have hlt : i < xs.length := lp_lt e_1 c_2 (by omega) (by omega)
        obtain ⟨q, hq0⟩ : ∃ q, xs[i]? = some q := ⟨_, List.getElem?_eq_getElem hlt⟩
        have hq := hfi i q hq0
        have ha := hor.resolve_right (fun z => by rw [z.1] at hlt; exact absurd hlt (Nat.not_lt_zero _))
        obtain ⟨⟨rs, bz, bx, by_, bt⟩, hr0, hBx⟩ := hbs i q hq0
        have hdr := dr_c hr0
        obtain ⟨pl, parr, ps, hxq, hLq, hPq⟩ := id hBx
        refine lv_aload_n hx hb d_T_leastTooNear_15 rfl (lv_at hl 0 rfl) ?_
        refine ww_get (v := .ref bo) (C := R_T) (T := F_T) (N := 6) (ci := 0) hx hb hts i_T hown hK hw ht rfl 4 (by decide) (hts _ k_84) (fun _ h9 => h9) rfl d_T_leastTooNear_16 ?_
        refine lv_iload hx hb d_T_leastTooNear_19 (lv_at hl 5 rfl) ?_
        refine wr_q (cV (As := [.int (nI i)]) (rest := []) (C := "java/util/ArrayList") 1 ⟨hx, hb, hml, hown, hts⟩ (c_AL_get l g w bo arr xs.length cap i q mc f he ha hcap (by omega) hlt hq) k_157 k_154 k_6 k_155 k_156 (by decide +kernel) ⟨Nat.le_of_ble_eq_true rfl, Nat.le_of_ble_eq_true rfl⟩ rfl rfl ⟨prR_blind _ _ _, hw.recv hK he rfl, prR_at hG hAB hS hw⟩ rfl hl.1 rfl (Nat.le_of_ble_eq_true rfl) d_T_leastTooNear_21 ⟨Nat.zero_le _, Nat.zero_le _⟩) (fun r_3 e_3 => ?_)
        subst e_3
        refine va_castY (C := "DangerTables$Box") hx hb hown (hts _ k_193) (hf.2.1 _ x_873) (hw.recv hK hxq rfl) d_T_leastTooNear_24 ?_
        refine lv_astore (lv' := [(6, .ref q), (0, .ref th), (1, .ref aA), (2, .int u), (3, .int x), (4, .int y), (5, .int (nI i))]) hx hb d_T_leastTooNear_27 hl (by decide) rfl (fun ls hl => ?_)
        refine lv_aload hx hb d_T_leastTooNear_29 (lv_at hl 0 rfl) ?_
        refine ww_getN (v := .int bz) (C := R_X) (T := F_X) (N := 5) (ci := 1) hx hb hts i_X hown hK hw hxq rfl 1 (by decide) (va_Nw.use rfl (hf.2.1 _ x_420)) (fun _ h9 => h9) rfl d_T_leastTooNear_31 ?_
        refine lv_iload_n hx hb d_T_leastTooNear_34 rfl (lv_at hl 3 rfl) ?_
        refine lv_icmp_ne (tgt := 62) hx hb d_T_leastTooNear_35 (by decide) (fun c_4 => ?_) (fun c_4 => ?_)
        · refine lv_iinc (v := (nI (i + 1))) (lv' := [(5, .int (nI (i + 1))), (6, .ref q), (0, .ref th), (1, .ref aA), (2, .int u), (3, .int x), (4, .int y)]) hx hb d_T_leastTooNear_62 hl (k := 6) rfl (nI_1 _) (by decide) rfl (fun ls hl => ?_)
          refine lv_goto (tgt := 3) hx hb d_T_leastTooNear_65 (by decide) ?_
          exact ih_3 (i + 1)  ls (by omega) (by omega) (by rw [hI_3, hdr]; simp [ffx, nrP, c_2, c_4]) (lv_sub hl [2, 3, 4, 5, 6, 0] rfl)
        · refine lv_aload_n hx hb d_T_leastTooNear_38 rfl (lv_at hl 1 rfl) ?_
          refine lv_aload_n hx hb d_T_leastTooNear_39 rfl (lv_at hl 2 rfl) ?_
          refine lv_aload hx hb d_T_leastTooNear_40 (lv_at hl 0 rfl) ?_
          refine wr_i (cV (As := [.ref aA, .ref q]) (rest := []) (C := "DangerTables") 2 ⟨hx, hb, hml, hown, hts⟩ (c_T_ruleOfBoxes l g w th tx ru rd go bo zo rf aA q bA (rs, bz, bx, by_, bt) ht hru hB1 hBx ho1 (hos _ (List.mem_of_getElem? hr0))) k_498 k_495 k_1 k_497 kp_10 (by decide +kernel) ⟨Nat.le_of_ble_eq_true rfl, Nat.le_of_ble_eq_true rfl⟩ rfl rfl ⟨prR_blind _ _ _, hw.recv hK ht rfl, prR_at hG hAB hS hw⟩ rfl hl.1 rfl (Nat.le_of_ble_eq_true rfl) d_T_leastTooNear_42 ⟨Nat.zero_le _, Nat.zero_le _⟩) (fun r_5 e_5 => ?_)
          obtain ⟨k0, hk0, ek0⟩ := in4_ruB hrf ho1 (hos _ (List.mem_of_getElem? hr0))
          obtain rfl : r_5 = nI k0 := e_5.trans ek0
          refine lv_aload hx hb d_T_leastTooNear_45 (lv_at hl 0 rfl) ?_
          refine lv_iload_n hx hb d_T_leastTooNear_47 rfl (lv_at hl 4 rfl) ?_
          refine lv_iload hx hb d_T_leastTooNear_48 (lv_at hl 5 rfl) ?_
          refine wr_i (cV (As := [.int x, .int y]) (rest := [.int (nI k0)]) (C := "DangerTables$Box") 2 ⟨hx, hb, hml, hown, hts⟩ (c_X_distanceTo l g w q pl bz bx by_ bt x y hxq) k_586 k_583 k_19 k_584 k_585 (by decide +kernel) ⟨Nat.le_of_ble_eq_true rfl, Nat.le_of_ble_eq_true rfl⟩ rfl rfl ⟨prR_blind _ _ _, hw.recv hK hxq rfl, prR_at hG hAB hS hw⟩ rfl hl.1 rfl (Nat.le_of_ble_eq_true rfl) d_T_leastTooNear_50 ⟨Nat.zero_le _, Nat.zero_le _⟩) (fun r_6 e_6 => ?_)
          refine wr_i (cS (As := [.int (nI k0), .int r_6]) (rest := []) 2 ⟨hx, hb, hml, hown, hts⟩ (c_T_isTooNear l g w k0 r_6 hk0) k_592 k_590 k_1 k_591 (by decide +kernel) ⟨Nat.le_of_ble_eq_true rfl, Nat.le_of_ble_eq_true rfl⟩ rfl rfl ⟨prR_blind _ _ _, prR_at hG hAB hS hw⟩ rfl hl.1 rfl (Nat.le_of_ble_eq_true rfl) d_T_leastTooNear_53 ⟨Nat.zero_le _, Nat.zero_le _⟩) (fun r_7 e_7 => ?_)
          refine lv_if_eq (tgt := 62) hx hb d_T_leastTooNear_56 (by decide) (fun c_8 => ?_) (fun c_8 => ?_)
          · have q_8 := b2_f e_7 c_8
            have hnr : tnI (ruB rf bA.1 rs) (absI (bx - x) + absI (by_ - y)) = false := by rw [ek0, ← e_6]; exact q_8
            refine lv_iinc (v := (nI (i + 1))) (lv' := [(5, .int (nI (i + 1))), (6, .ref q), (0, .ref th), (1, .ref aA), (2, .int u), (3, .int x), (4, .int y)]) hx hb d_T_leastTooNear_62 hl (k := 6) rfl (nI_1 _) (by decide) rfl (fun ls hl => ?_)
            refine lv_goto (tgt := 3) hx hb d_T_leastTooNear_65 (by decide) ?_
            exact ih_3 (i + 1)  ls (by omega) (by omega) (by rw [hI_3, hdr]; simp [ffx, nrP, c_2, c_4, c_8, hnr]) (lv_sub hl [2, 3, 4, 5, 6, 0] rfl)
          · have q_8 := b2_t e_7 c_8
            have hnr : tnI (ruB rf bA.1 rs) (absI (bx - x) + absI (by_ - y)) = true := by rw [ek0, ← e_6]; exact q_8
            refine lv_iload hx hb d_T_leastTooNear_59 (lv_at hl 6 rfl) ?_
            exact W.iret (v := (nI i)) hx hb hr (fun t ht hW => ⟨(nI i), rfl, (by rw [hI_3, hdr]; simp [ffx, nrP, c_2, c_4, c_8, hnr]), ht⟩) t_nil d_T_leastTooNear_61
  exact loop_3 (xs.length + 1) 0  ls (by omega) (by omega) rfl (lv_sub hl [1, 2, 3, 4, 5, 0] rfl)

