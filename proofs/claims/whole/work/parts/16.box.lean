/-! LISTS, PARTS AND BOXES as pictures; the loops over a box's parts -/
def isL (g : GT) (w : Nat → Option va_E) (a arr : Nat) (xs : List Nat) : Prop := ∃ (mc : Int32) (cap : Nat) (f : Nat → Option Nat), w a = some (cL mc arr (nI xs.length)) ∧ xs.length ≤ cap ∧ (cap < 1000 ∧ 0 < cap) ∧ (∀ i q : Nat, xs[i]? = some q → f i = some q) ∧ (w arr = some (cO g cap f) ∨ (xs = [] ∧ arr = g.2.2 1))
/-- a good in a box: class, side, limit, fields, exempt pairs, number, amount -/
abbrev PR : Type := Int32 × Int32 × Int32 × Int32 × Int64 × Int32 × Int32
def isPt (w : Nat → Option va_E) (q : Nat) (r : PR) : Prop := ∃ ga : Nat, w q = some (cP ga r.2.2.2.2.2.1 r.2.2.2.2.2.2) ∧ w ga = some (cG r.1 r.2.1 r.2.2.1 r.2.2.2.1 r.2.2.2.2.1)
def isPs (w : Nat → Option va_E) (ps : List Nat) (rs : List PR) : Prop := ps.length = rs.length ∧ ∀ i q : Nat, ps[i]? = some q → ∃ r, rs[i]? = some r ∧ isPt w q r
/-- a box: its goods, zone, x, y, fields told -/
abbrev BX : Type := List PR × Int32 × Int32 × Int32 × Int32
def isBx (g : GT) (w : Nat → Option va_E) (a : Nat) (b : BX) : Prop := ∃ (pl parr : Nat) (ps : List Nat), w a = some (cX pl b.2.1 b.2.2.1 b.2.2.2.1 b.2.2.2.2) ∧ isL g w pl parr ps ∧ isPs w ps b.1
theorem dr_c {α : Type} {l : List α} {i : Nat} {r : α} (h : l[i]? = some r) : l.drop i = r :: l.drop (i + 1) := by
  obtain ⟨hi, rfl⟩ := List.getElem?_eq_some_iff.mp h
  exact List.drop_eq_getElem_cons hi
theorem dr_n {α : Type} {l : List α} {i : Nat} (h : l.length ≤ i) : l.drop i = [] := List.drop_eq_nil_of_le h
theorem lp_ge {r : Int32} {i n : Nat} (e : r = nI n) (c : r ≤ nI i) (hn : n < 2 ^ 31) (hi : i < 2 ^ 31) : n ≤ i := (nI_leI hn hi).mp (e ▸ c)
theorem lp_lt {r : Int32} {i n : Nat} (e : r = nI n) (c : ¬ r ≤ nI i) (hn : n < 2 ^ 31) (hi : i < 2 ^ 31) : i < n := by
  rcases Nat.lt_or_ge i n with h | h
  · exact h
  · exact absurd (e ▸ (nI_leI hn hi).mpr h) c
def kgF (a : Int32) (r : PR) : Int32 := a + r.2.2.2.2.2.2
def kgB (rs : List PR) : Int32 := rs.foldl kgF 0
def kcF (v : Int32) (a : Int32) (r : PR) : Int32 := if hasC r.1 r.2.1 v = true then a + r.2.2.2.2.2.2 else a
def kcB (rs : List PR) (v : Int32) : Int32 := rs.foldl (kcF v) 0
def lmF (a : Int32) (r : PR) : Int32 := if isLim r.2.2.2.2.2.2 r.2.2.1 = true then a + 1 else a
def lmB (rs : List PR) : Int32 := rs.foldl lmF 0
def wtF (a : Int32) (r : PR) : Int32 := a ||| wantP r.2.2.2.2.2.2 r.2.2.1 r.2.2.2.1
def wtB (rs : List PR) : Int32 := rs.foldl wtF 0
def hsB (rs : List PR) (v : Int32) : Bool := rs.any (fun r => decide (r.2.2.2.2.2.1 = v))
set_option maxHeartbeats 4000000 in
set_option maxRecDepth 100000 in
theorem c_X_kilograms (l : Launch) (g : GT) (w : Nat → Option va_E) (a : Nat) (b : BX) (hB : isBx g w a b) : Met l y_X_kilograms (.code y_X_kilograms b_X_kilograms 3 ((some .int)) :: GW) ({ frames := 3, cells := 0, slots := 0, locals := 64 }) (prR g [.ref a] w) (vp_Si (fun r => r = kgB b.1)) 0 0 (fun _ => False) := by
  refine Met.ofW (cc := b_X_kilograms) (maxL := 3) (ret := (some .int)) (by decide) rfl ?_
  intro p e s m args below meth c s₁ B hml hv
  obtain ⟨rfl, hG, hw⟩ := hv
  have hx := B.exec
  have hb := B.bytes
  have hr := B.returns
  have hts : ∀ w ∈ GW, w.before _ s = true := fun w h => atoms_spec (ws := .code y_X_kilograms b_X_kilograms 3 ((some .int)) :: GW) B.pre w (List.mem_cons_of_mem _ h)
  have hown : s.vm.findClass "DangerTables$Box" = some m.cls := findClass_of_methodNamed B.named
  have hlocks := B.notSynchronized
  have hf := hG.here
  have hK := hf.1
  have hAB : ∀ q, gB g q → gB g q := fun _ h => h
  have hS : va_S (gB g) s.heap s.heap [] := va_S.rf
  have hl := lv_entry ([.ref a]) (n := 3) (Nat.le_of_ble_eq_true rfl)
  rw [lg_entry_eq]
  generalize (lg_sl ([.ref a]) ++ List.replicate (3 - (lg_sl ([.ref a])).length) Slot.unset).toArray = ls at hl ⊢
  have hl : lv_has ls 3 [(0, .ref a)] := hl
  obtain ⟨pl, arr, ps, hx0, ⟨mc, cap, f, he, hcap, hc, hfi, hor⟩, hlen, hps⟩ := hB
  refine lv_iconst (v := 0) hx hb d_X_kilograms_0 (by decide) ?_
  refine lv_istore_n (lv' := [(1, .int 0), (0, .ref a)]) hx hb d_X_kilograms_1 rfl hl (by decide) rfl (fun ls hl => ?_)
  refine lv_iconst (v := 0) hx hb d_X_kilograms_2 (by decide) ?_
  refine lv_istore_n (lv' := [(2, .int 0), (1, .int 0), (0, .ref a)]) hx hb d_X_kilograms_3 rfl hl (by decide) rfl (fun ls hl => ?_)
  have loop_4 : ∀ (k i : Nat) (acc : Int32) (ls : Array Slot), i ≤ ps.length → ps.length < i + k → kgB b.1 = (b.1.drop i).foldl kgF acc → lv_has ls 3 [(0, .ref a), (1, .int acc), (2, .int (nI i))] → W p l e (headSpec (.code y_X_kilograms b_X_kilograms 3 ((some .int)) :: GW) ({ frames := 3, cells := 0, slots := 0, locals := 64 })).room s m (#[.ref a] : Array Value) below meth c s.heap [] 0 0 (MQ below (vp_Si (fun r => r = kgB b.1)) (#[.ref a] : Array Value) s 0 0 (fun _ => False)) (F0 m 4 ls []) := by
    intro k
    induction k with
    | zero =>
      intro i acc ls h1_4 h2_4
      exact absurd h2_4 (by omega)
    | succ k ih_4 =>
      intro i acc ls h1_4 h2_4 hI_4 hl
      refine lv_iload_n hx hb d_X_kilograms_4 rfl (lv_at hl 2 rfl) ?_
      refine lv_aload_n hx hb d_X_kilograms_5 rfl (lv_at hl 0 rfl) ?_
      refine ww_get (v := .ref pl) (C := R_X) (T := F_X) (N := 5) (ci := 1) hx hb hts i_X hown hK hw hx0 rfl 0 (by decide) (hts _ k_417) (fun _ h9 => h9) rfl d_X_kilograms_6 ?_
      refine wr_i (cV (As := []) (rest := [.int (nI i)]) (C := "java/util/ArrayList") 0 ⟨hx, hb, hml, hown, hts⟩ (c_AL_size l g w pl arr mc (nI ps.length) he) k_152 k_475 k_6 k_150 k_151 (by decide +kernel) ⟨Nat.le_of_ble_eq_true rfl, Nat.le_of_ble_eq_true rfl⟩ rfl rfl ⟨prR_blind _ _ _, hw.recv hK he rfl, prR_at hG hAB hS hw⟩ rfl hl.1 rfl (Nat.le_of_ble_eq_true rfl) d_X_kilograms_9 ⟨Nat.zero_le _, Nat.zero_le _⟩) (fun r_1 e_1 => ?_)
      refine lv_icmp_ge (tgt := 38) hx hb d_X_kilograms_12 (by decide) (fun c_2 => ?_) (fun c_2 => ?_)
      · have hge : ps.length ≤ i := lp_ge e_1 c_2 (by omega) (by omega)
        have hdr : b.1.drop i = [] := dr_n (by omega)
        refine lv_iload_n hx hb d_X_kilograms_38 rfl (lv_at hl 1 rfl) ?_
        exact W.iret (v := acc) hx hb hr (fun t ht hW => ⟨acc, rfl, (by rw [hI_4, hdr]; rfl), ht⟩) t_nil d_X_kilograms_39
      · have hlt : i < ps.length := lp_lt e_1 c_2 (by omega) (by omega)
        obtain ⟨q, hq0⟩ : ∃ q, ps[i]? = some q := ⟨_, List.getElem?_eq_getElem hlt⟩
        have hq := hfi i q hq0
        have ha := hor.resolve_right (fun z => by rw [z.1] at hlt; exact absurd hlt (Nat.not_lt_zero _))
        obtain ⟨⟨cl, sd, lm, fl, x, nu, am⟩, hr0, ga, hp, hg⟩ := hps i q hq0
        have hdr := dr_c hr0
        refine lv_iload_n hx hb d_X_kilograms_15 rfl (lv_at hl 1 rfl) ?_
        refine lv_aload_n hx hb d_X_kilograms_16 rfl (lv_at hl 0 rfl) ?_
        refine ww_get (v := .ref pl) (C := R_X) (T := F_X) (N := 5) (ci := 1) hx hb hts i_X hown hK hw hx0 rfl 0 (by decide) (hts _ k_417) (fun _ h9 => h9) rfl d_X_kilograms_17 ?_
        refine lv_iload_n hx hb d_X_kilograms_20 rfl (lv_at hl 2 rfl) ?_
        refine wr_q (cV (As := [.int (nI i)]) (rest := [.int acc]) (C := "java/util/ArrayList") 1 ⟨hx, hb, hml, hown, hts⟩ (c_AL_get l g w pl arr ps.length cap i q mc f he ha hcap (by omega) hlt hq) k_157 k_476 k_6 k_155 k_156 (by decide +kernel) ⟨Nat.le_of_ble_eq_true rfl, Nat.le_of_ble_eq_true rfl⟩ rfl rfl ⟨prR_blind _ _ _, hw.recv hK he rfl, prR_at hG hAB hS hw⟩ rfl hl.1 rfl (Nat.le_of_ble_eq_true rfl) d_X_kilograms_21 ⟨Nat.zero_le _, Nat.zero_le _⟩) (fun r_3 e_3 => ?_)
        subst e_3
        refine va_castY (C := "DangerTables$Part") hx hb hown (hts _ k_442) (hf.2.1 _ x_874) (hw.recv hK hp rfl) d_X_kilograms_24 ?_
        refine ww_getN (v := .int am) (C := R_P) (T := F_P) (N := 3) (ci := 3) hx hb hts i_P hown hK hw hp rfl 2 (by decide) (va_Nw.use rfl (hf.2.1 _ x_454)) (fun _ h9 => h9) rfl d_X_kilograms_27 ?_
        refine lv_iadd hx hb d_X_kilograms_30 ?_
        refine lv_topi (fun v_4 e_4 => ?_)
        refine lv_istore_n (lv' := [(1, .int v_4), (0, .ref a), (2, .int (nI i))]) hx hb d_X_kilograms_31 rfl hl (by decide) rfl (fun ls hl => ?_)
        refine lv_iinc (v := (nI (i + 1))) (lv' := [(2, .int (nI (i + 1))), (1, .int v_4), (0, .ref a)]) hx hb d_X_kilograms_32 hl (k := 2) rfl (nI_1 _) (by decide) rfl (fun ls hl => ?_)
        refine lv_goto (tgt := 4) hx hb d_X_kilograms_35 (by decide) ?_
        exact ih_4 (i + 1) v_4 ls (by omega) (by omega) (by rw [hI_4, hdr, e_4]; rfl) (lv_sub hl [2, 1, 0] rfl)
  exact loop_4 (ps.length + 1) 0 0 ls (by omega) (by omega) rfl (lv_sub hl [2, 1, 0] rfl)

set_option maxHeartbeats 4000000 in
set_option maxRecDepth 100000 in
theorem c_X_kilogramsOf (l : Launch) (g : GT) (w : Nat → Option va_E) (a : Nat) (b : BX) (v : Int32) (hB : isBx g w a b) : Met l y_X_kilogramsOf (.code y_X_kilogramsOf b_X_kilogramsOf 5 ((some .int)) :: GW) ({ frames := 3, cells := 0, slots := 0, locals := 64 }) (prR g [.ref a, .int v] w) (vp_Si (fun r => r = kcB b.1 v)) 0 0 (fun _ => False) := by
  refine Met.ofW (cc := b_X_kilogramsOf) (maxL := 5) (ret := (some .int)) (by decide) rfl ?_
  intro p e s m args below meth c s₁ B hml hv
  obtain ⟨rfl, hG, hw⟩ := hv
  have hx := B.exec
  have hb := B.bytes
  have hr := B.returns
  have hts : ∀ w ∈ GW, w.before _ s = true := fun w h => atoms_spec (ws := .code y_X_kilogramsOf b_X_kilogramsOf 5 ((some .int)) :: GW) B.pre w (List.mem_cons_of_mem _ h)
  have hown : s.vm.findClass "DangerTables$Box" = some m.cls := findClass_of_methodNamed B.named
  have hlocks := B.notSynchronized
  have hf := hG.here
  have hK := hf.1
  have hAB : ∀ q, gB g q → gB g q := fun _ h => h
  have hS : va_S (gB g) s.heap s.heap [] := va_S.rf
  have hl := lv_entry ([.ref a, .int v]) (n := 5) (Nat.le_of_ble_eq_true rfl)
  rw [lg_entry_eq]
  generalize (lg_sl ([.ref a, .int v]) ++ List.replicate (5 - (lg_sl ([.ref a, .int v])).length) Slot.unset).toArray = ls at hl ⊢
  have hl : lv_has ls 5 [(0, .ref a), (1, .int v)] := hl
  obtain ⟨pl, arr, ps, hx0, ⟨mc, cap, f, he, hcap, hc, hfi, hor⟩, hlen, hps⟩ := hB
  refine lv_iconst (v := 0) hx hb d_X_kilogramsOf_0 (by decide) ?_
  refine lv_istore_n (lv' := [(2, .int 0), (0, .ref a), (1, .int v)]) hx hb d_X_kilogramsOf_1 rfl hl (by decide) rfl (fun ls hl => ?_)
  refine lv_iconst (v := 0) hx hb d_X_kilogramsOf_2 (by decide) ?_
  refine lv_istore_n (lv' := [(3, .int 0), (2, .int 0), (0, .ref a), (1, .int v)]) hx hb d_X_kilogramsOf_3 rfl hl (by decide) rfl (fun ls hl => ?_)
  have loop_4 : ∀ (k i : Nat) (acc : Int32) (ls : Array Slot), i ≤ ps.length → ps.length < i + k → kcB b.1 v = (b.1.drop i).foldl (kcF v) acc → lv_has ls 5 [(0, .ref a), (1, .int v), (2, .int acc), (3, .int (nI i))] → W p l e (headSpec (.code y_X_kilogramsOf b_X_kilogramsOf 5 ((some .int)) :: GW) ({ frames := 3, cells := 0, slots := 0, locals := 64 })).room s m (#[.ref a, .int v] : Array Value) below meth c s.heap [] 0 0 (MQ below (vp_Si (fun r => r = kcB b.1 v)) (#[.ref a, .int v] : Array Value) s 0 0 (fun _ => False)) (F0 m 4 ls []) := by
    intro k
    induction k with
    | zero =>
      intro i acc ls h1_4 h2_4
      exact absurd h2_4 (by omega)
    | succ k ih_4 =>
      intro i acc ls h1_4 h2_4 hI_4 hl
      refine lv_iload_n hx hb d_X_kilogramsOf_4 rfl (lv_at hl 3 rfl) ?_
      refine lv_aload_n hx hb d_X_kilogramsOf_5 rfl (lv_at hl 0 rfl) ?_
      refine ww_get (v := .ref pl) (C := R_X) (T := F_X) (N := 5) (ci := 1) hx hb hts i_X hown hK hw hx0 rfl 0 (by decide) (hts _ k_417) (fun _ h9 => h9) rfl d_X_kilogramsOf_6 ?_
      refine wr_i (cV (As := []) (rest := [.int (nI i)]) (C := "java/util/ArrayList") 0 ⟨hx, hb, hml, hown, hts⟩ (c_AL_size l g w pl arr mc (nI ps.length) he) k_152 k_475 k_6 k_150 k_151 (by decide +kernel) ⟨Nat.le_of_ble_eq_true rfl, Nat.le_of_ble_eq_true rfl⟩ rfl rfl ⟨prR_blind _ _ _, hw.recv hK he rfl, prR_at hG hAB hS hw⟩ rfl hl.1 rfl (Nat.le_of_ble_eq_true rfl) d_X_kilogramsOf_9 ⟨Nat.zero_le _, Nat.zero_le _⟩) (fun r_1 e_1 => ?_)
      refine lv_icmp_ge (tgt := 54) hx hb d_X_kilogramsOf_12 (by decide) (fun c_2 => ?_) (fun c_2 => ?_)
      · have hge : ps.length ≤ i := lp_ge e_1 c_2 (by omega) (by omega)
        have hdr : b.1.drop i = [] := dr_n (by omega)
        refine lv_iload_n hx hb d_X_kilogramsOf_54 rfl (lv_at hl 2 rfl) ?_
        exact W.iret (v := acc) hx hb hr (fun t ht hW => ⟨acc, rfl, (by rw [hI_4, hdr]; rfl), ht⟩) t_nil d_X_kilogramsOf_55
      · have hlt : i < ps.length := lp_lt e_1 c_2 (by omega) (by omega)
        obtain ⟨q, hq0⟩ : ∃ q, ps[i]? = some q := ⟨_, List.getElem?_eq_getElem hlt⟩
        have hq := hfi i q hq0
        have ha := hor.resolve_right (fun z => by rw [z.1] at hlt; exact absurd hlt (Nat.not_lt_zero _))
        obtain ⟨⟨cl, sd, lm, fl, x, nu, am⟩, hr0, ga, hp, hg⟩ := hps i q hq0
        have hdr := dr_c hr0
        refine lv_aload_n hx hb d_X_kilogramsOf_15 rfl (lv_at hl 0 rfl) ?_
        refine ww_get (v := .ref pl) (C := R_X) (T := F_X) (N := 5) (ci := 1) hx hb hts i_X hown hK hw hx0 rfl 0 (by decide) (hts _ k_417) (fun _ h9 => h9) rfl d_X_kilogramsOf_16 ?_
        refine lv_iload_n hx hb d_X_kilogramsOf_19 rfl (lv_at hl 3 rfl) ?_
        refine wr_q (cV (As := [.int (nI i)]) (rest := []) (C := "java/util/ArrayList") 1 ⟨hx, hb, hml, hown, hts⟩ (c_AL_get l g w pl arr ps.length cap i q mc f he ha hcap (by omega) hlt hq) k_157 k_476 k_6 k_155 k_156 (by decide +kernel) ⟨Nat.le_of_ble_eq_true rfl, Nat.le_of_ble_eq_true rfl⟩ rfl rfl ⟨prR_blind _ _ _, hw.recv hK he rfl, prR_at hG hAB hS hw⟩ rfl hl.1 rfl (Nat.le_of_ble_eq_true rfl) d_X_kilogramsOf_20 ⟨Nat.zero_le _, Nat.zero_le _⟩) (fun r_3 e_3 => ?_)
        subst e_3
        refine va_castY (C := "DangerTables$Part") hx hb hown (hts _ k_442) (hf.2.1 _ x_874) (hw.recv hK hp rfl) d_X_kilogramsOf_23 ?_
        refine lv_astore (lv' := [(4, .ref q), (0, .ref a), (1, .int v), (2, .int acc), (3, .int (nI i))]) hx hb d_X_kilogramsOf_26 hl (by decide) rfl (fun ls hl => ?_)
        refine lv_aload hx hb d_X_kilogramsOf_28 (lv_at hl 0 rfl) ?_
        refine ww_getN (v := .ref ga) (C := R_P) (T := F_P) (N := 3) (ci := 3) hx hb hts i_P hown hK hw hp rfl 0 (by decide) (va_Nw.use rfl (hf.2.1 _ x_449)) (fun _ h9 => h9) rfl d_X_kilogramsOf_30 ?_
        refine lv_iload_n hx hb d_X_kilogramsOf_33 rfl (lv_at hl 2 rfl) ?_
        refine wr_i (cV (As := [.int v]) (rest := []) (C := "DangerTables$Good") 1 ⟨hx, hb, hml, hown, hts⟩ (c_G_hasClass l g w ga cl sd lm fl x v hg) k_545 k_542 k_14 k_543 k_544 (by decide +kernel) ⟨Nat.le_of_ble_eq_true rfl, Nat.le_of_ble_eq_true rfl⟩ rfl rfl ⟨prR_blind _ _ _, hw.recv hK hg rfl, prR_at hG hAB hS hw⟩ rfl hl.1 rfl (Nat.le_of_ble_eq_true rfl) d_X_kilogramsOf_34 ⟨Nat.zero_le _, Nat.zero_le _⟩) (fun r_4 e_4 => ?_)
        refine lv_if_eq (tgt := 48) hx hb d_X_kilogramsOf_37 (by decide) (fun c_5 => ?_) (fun c_5 => ?_)
        · have q_5 := b2_f e_4 c_5
          refine lv_iinc (v := (nI (i + 1))) (lv' := [(3, .int (nI (i + 1))), (4, .ref q), (0, .ref a), (1, .int v), (2, .int acc)]) hx hb d_X_kilogramsOf_48 hl (k := 4) rfl (nI_1 _) (by decide) rfl (fun ls hl => ?_)
          refine lv_goto (tgt := 4) hx hb d_X_kilogramsOf_51 (by decide) ?_
          exact ih_4 (i + 1) acc ls (by omega) (by omega) (by rw [hI_4, hdr, List.foldl_cons]; congr 1; simp [kcF, e_1, c_2, e_4, c_5, q_5]) (lv_sub hl [2, 3, 4, 0] rfl)
        · have q_5 := b2_t e_4 c_5
          refine lv_iload_n hx hb d_X_kilogramsOf_40 rfl (lv_at hl 3 rfl) ?_
          refine lv_aload hx hb d_X_kilogramsOf_41 (lv_at hl 0 rfl) ?_
          refine ww_getN (v := .int am) (C := R_P) (T := F_P) (N := 3) (ci := 3) hx hb hts i_P hown hK hw hp rfl 2 (by decide) (va_Nw.use rfl (hf.2.1 _ x_454)) (fun _ h9 => h9) rfl d_X_kilogramsOf_43 ?_
          refine lv_iadd hx hb d_X_kilogramsOf_46 ?_
          refine lv_topi (fun v_6 e_6 => ?_)
          refine lv_istore_n (lv' := [(2, .int v_6), (4, .ref q), (0, .ref a), (1, .int v), (3, .int (nI i))]) hx hb d_X_kilogramsOf_47 rfl hl (by decide) rfl (fun ls hl => ?_)
          refine lv_iinc (v := (nI (i + 1))) (lv' := [(3, .int (nI (i + 1))), (2, .int v_6), (4, .ref q), (0, .ref a), (1, .int v)]) hx hb d_X_kilogramsOf_48 hl (k := 4) rfl (nI_1 _) (by decide) rfl (fun ls hl => ?_)
          refine lv_goto (tgt := 4) hx hb d_X_kilogramsOf_51 (by decide) ?_
          exact ih_4 (i + 1) v_6 ls (by omega) (by omega) (by rw [hI_4, hdr, List.foldl_cons]; congr 1; simp [kcF, e_1, c_2, e_4, c_5, q_5, e_6]) (lv_sub hl [3, 4, 1, 0] rfl)
  exact loop_4 (ps.length + 1) 0 0 ls (by omega) (by omega) rfl (lv_sub hl [2, 3, 1, 0] rfl)

set_option maxHeartbeats 4000000 in
set_option maxRecDepth 100000 in
theorem c_X_limitedCount (l : Launch) (g : GT) (w : Nat → Option va_E) (a : Nat) (b : BX) (hB : isBx g w a b) : Met l y_X_limitedCount (.code y_X_limitedCount b_X_limitedCount 3 ((some .int)) :: GW) ({ frames := 3, cells := 0, slots := 0, locals := 64 }) (prR g [.ref a] w) (vp_Si (fun r => r = lmB b.1)) 0 0 (fun _ => False) := by
  refine Met.ofW (cc := b_X_limitedCount) (maxL := 3) (ret := (some .int)) (by decide) rfl ?_
  intro p e s m args below meth c s₁ B hml hv
  obtain ⟨rfl, hG, hw⟩ := hv
  have hx := B.exec
  have hb := B.bytes
  have hr := B.returns
  have hts : ∀ w ∈ GW, w.before _ s = true := fun w h => atoms_spec (ws := .code y_X_limitedCount b_X_limitedCount 3 ((some .int)) :: GW) B.pre w (List.mem_cons_of_mem _ h)
  have hown : s.vm.findClass "DangerTables$Box" = some m.cls := findClass_of_methodNamed B.named
  have hlocks := B.notSynchronized
  have hf := hG.here
  have hK := hf.1
  have hAB : ∀ q, gB g q → gB g q := fun _ h => h
  have hS : va_S (gB g) s.heap s.heap [] := va_S.rf
  have hl := lv_entry ([.ref a]) (n := 3) (Nat.le_of_ble_eq_true rfl)
  rw [lg_entry_eq]
  generalize (lg_sl ([.ref a]) ++ List.replicate (3 - (lg_sl ([.ref a])).length) Slot.unset).toArray = ls at hl ⊢
  have hl : lv_has ls 3 [(0, .ref a)] := hl
  obtain ⟨pl, arr, ps, hx0, ⟨mc, cap, f, he, hcap, hc, hfi, hor⟩, hlen, hps⟩ := hB
  refine lv_iconst (v := 0) hx hb d_X_limitedCount_0 (by decide) ?_
  refine lv_istore_n (lv' := [(1, .int 0), (0, .ref a)]) hx hb d_X_limitedCount_1 rfl hl (by decide) rfl (fun ls hl => ?_)
  refine lv_iconst (v := 0) hx hb d_X_limitedCount_2 (by decide) ?_
  refine lv_istore_n (lv' := [(2, .int 0), (1, .int 0), (0, .ref a)]) hx hb d_X_limitedCount_3 rfl hl (by decide) rfl (fun ls hl => ?_)
  have loop_4 : ∀ (k i : Nat) (acc : Int32) (ls : Array Slot), i ≤ ps.length → ps.length < i + k → lmB b.1 = (b.1.drop i).foldl lmF acc → lv_has ls 3 [(0, .ref a), (1, .int acc), (2, .int (nI i))] → W p l e (headSpec (.code y_X_limitedCount b_X_limitedCount 3 ((some .int)) :: GW) ({ frames := 3, cells := 0, slots := 0, locals := 64 })).room s m (#[.ref a] : Array Value) below meth c s.heap [] 0 0 (MQ below (vp_Si (fun r => r = lmB b.1)) (#[.ref a] : Array Value) s 0 0 (fun _ => False)) (F0 m 4 ls []) := by
    intro k
    induction k with
    | zero =>
      intro i acc ls h1_4 h2_4
      exact absurd h2_4 (by omega)
    | succ k ih_4 =>
      intro i acc ls h1_4 h2_4 hI_4 hl
      refine lv_iload_n hx hb d_X_limitedCount_4 rfl (lv_at hl 2 rfl) ?_
      refine lv_aload_n hx hb d_X_limitedCount_5 rfl (lv_at hl 0 rfl) ?_
      refine ww_get (v := .ref pl) (C := R_X) (T := F_X) (N := 5) (ci := 1) hx hb hts i_X hown hK hw hx0 rfl 0 (by decide) (hts _ k_417) (fun _ h9 => h9) rfl d_X_limitedCount_6 ?_
      refine wr_i (cV (As := []) (rest := [.int (nI i)]) (C := "java/util/ArrayList") 0 ⟨hx, hb, hml, hown, hts⟩ (c_AL_size l g w pl arr mc (nI ps.length) he) k_152 k_475 k_6 k_150 k_151 (by decide +kernel) ⟨Nat.le_of_ble_eq_true rfl, Nat.le_of_ble_eq_true rfl⟩ rfl rfl ⟨prR_blind _ _ _, hw.recv hK he rfl, prR_at hG hAB hS hw⟩ rfl hl.1 rfl (Nat.le_of_ble_eq_true rfl) d_X_limitedCount_9 ⟨Nat.zero_le _, Nat.zero_le _⟩) (fun r_1 e_1 => ?_)
      refine lv_icmp_ge (tgt := 41) hx hb d_X_limitedCount_12 (by decide) (fun c_2 => ?_) (fun c_2 => ?_)
      · have hge : ps.length ≤ i := lp_ge e_1 c_2 (by omega) (by omega)
        have hdr : b.1.drop i = [] := dr_n (by omega)
        refine lv_iload_n hx hb d_X_limitedCount_41 rfl (lv_at hl 1 rfl) ?_
        exact W.iret (v := acc) hx hb hr (fun t ht hW => ⟨acc, rfl, (by rw [hI_4, hdr]; rfl), ht⟩) t_nil d_X_limitedCount_42
      · have hlt : i < ps.length := lp_lt e_1 c_2 (by omega) (by omega)
        obtain ⟨q, hq0⟩ : ∃ q, ps[i]? = some q := ⟨_, List.getElem?_eq_getElem hlt⟩
        have hq := hfi i q hq0
        have ha := hor.resolve_right (fun z => by rw [z.1] at hlt; exact absurd hlt (Nat.not_lt_zero _))
        obtain ⟨⟨cl, sd, lm, fl, x, nu, am⟩, hr0, ga, hp, hg⟩ := hps i q hq0
        have hdr := dr_c hr0
        refine lv_aload_n hx hb d_X_limitedCount_15 rfl (lv_at hl 0 rfl) ?_
        refine ww_get (v := .ref pl) (C := R_X) (T := F_X) (N := 5) (ci := 1) hx hb hts i_X hown hK hw hx0 rfl 0 (by decide) (hts _ k_417) (fun _ h9 => h9) rfl d_X_limitedCount_16 ?_
        refine lv_iload_n hx hb d_X_limitedCount_19 rfl (lv_at hl 2 rfl) ?_
        refine wr_q (cV (As := [.int (nI i)]) (rest := []) (C := "java/util/ArrayList") 1 ⟨hx, hb, hml, hown, hts⟩ (c_AL_get l g w pl arr ps.length cap i q mc f he ha hcap (by omega) hlt hq) k_157 k_476 k_6 k_155 k_156 (by decide +kernel) ⟨Nat.le_of_ble_eq_true rfl, Nat.le_of_ble_eq_true rfl⟩ rfl rfl ⟨prR_blind _ _ _, hw.recv hK he rfl, prR_at hG hAB hS hw⟩ rfl hl.1 rfl (Nat.le_of_ble_eq_true rfl) d_X_limitedCount_20 ⟨Nat.zero_le _, Nat.zero_le _⟩) (fun r_3 e_3 => ?_)
        subst e_3
        refine va_castY (C := "DangerTables$Part") hx hb hown (hts _ k_442) (hf.2.1 _ x_874) (hw.recv hK hp rfl) d_X_limitedCount_23 ?_
        refine wr_i (cV (As := []) (rest := []) (C := "DangerTables$Part") 0 ⟨hx, hb, hml, hown, hts⟩ (c_P_isLimited l g w q ga nu am cl sd lm fl x hp hg) k_513 k_647 k_20 k_511 k_512 (by decide +kernel) ⟨Nat.le_of_ble_eq_true rfl, Nat.le_of_ble_eq_true rfl⟩ rfl rfl ⟨prR_blind _ _ _, hw.recv hK hp rfl, prR_at hG hAB hS hw⟩ rfl hl.1 rfl (Nat.le_of_ble_eq_true rfl) d_X_limitedCount_26 ⟨Nat.zero_le _, Nat.zero_le _⟩) (fun r_4 e_4 => ?_)
        refine lv_if_eq (tgt := 35) hx hb d_X_limitedCount_29 (by decide) (fun c_5 => ?_) (fun c_5 => ?_)
        · have q_5 := b2_f e_4 c_5
          refine lv_iinc (v := (nI (i + 1))) (lv' := [(2, .int (nI (i + 1))), (0, .ref a), (1, .int acc)]) hx hb d_X_limitedCount_35 hl (k := 2) rfl (nI_1 _) (by decide) rfl (fun ls hl => ?_)
          refine lv_goto (tgt := 4) hx hb d_X_limitedCount_38 (by decide) ?_
          exact ih_4 (i + 1) acc ls (by omega) (by omega) (by rw [hI_4, hdr, List.foldl_cons]; congr 1; simp [lmF, e_1, c_2, e_4, c_5, q_5]) (lv_sub hl [1, 2, 0] rfl)
        · have q_5 := b2_t e_4 c_5
          obtain ⟨v_6, e_6⟩ : ∃ z : Int32, z = acc + 1 := ⟨_, rfl⟩
          refine lv_iinc (v := v_6) (lv' := [(1, .int v_6), (0, .ref a), (2, .int (nI i))]) hx hb d_X_limitedCount_32 hl (k := 1) rfl (by rw [e_6]; rfl) (by decide) rfl (fun ls hl => ?_)
          refine lv_iinc (v := (nI (i + 1))) (lv' := [(2, .int (nI (i + 1))), (1, .int v_6), (0, .ref a)]) hx hb d_X_limitedCount_35 hl (k := 2) rfl (nI_1 _) (by decide) rfl (fun ls hl => ?_)
          refine lv_goto (tgt := 4) hx hb d_X_limitedCount_38 (by decide) ?_
          exact ih_4 (i + 1) v_6 ls (by omega) (by omega) (by rw [hI_4, hdr, List.foldl_cons]; congr 1; simp [lmF, e_1, c_2, e_4, c_5, q_5, e_6]) (lv_sub hl [2, 1, 0] rfl)
  exact loop_4 (ps.length + 1) 0 0 ls (by omega) (by omega) rfl (lv_sub hl [2, 1, 0] rfl)

set_option maxHeartbeats 4000000 in
set_option maxRecDepth 100000 in
theorem c_X_untoldFields (l : Launch) (g : GT) (w : Nat → Option va_E) (a : Nat) (b : BX) (hB : isBx g w a b) : Met l y_X_untoldFields (.code y_X_untoldFields b_X_untoldFields 3 ((some .int)) :: GW) ({ frames := 3, cells := 0, slots := 0, locals := 64 }) (prR g [.ref a] w) (vp_Si (fun r => r = wtB b.1 &&& (b.2.2.2.2 ^^^ -1))) 0 0 (fun _ => False) := by
  refine Met.ofW (cc := b_X_untoldFields) (maxL := 3) (ret := (some .int)) (by decide) rfl ?_
  intro p e s m args below meth c s₁ B hml hv
  obtain ⟨rfl, hG, hw⟩ := hv
  have hx := B.exec
  have hb := B.bytes
  have hr := B.returns
  have hts : ∀ w ∈ GW, w.before _ s = true := fun w h => atoms_spec (ws := .code y_X_untoldFields b_X_untoldFields 3 ((some .int)) :: GW) B.pre w (List.mem_cons_of_mem _ h)
  have hown : s.vm.findClass "DangerTables$Box" = some m.cls := findClass_of_methodNamed B.named
  have hlocks := B.notSynchronized
  have hf := hG.here
  have hK := hf.1
  have hAB : ∀ q, gB g q → gB g q := fun _ h => h
  have hS : va_S (gB g) s.heap s.heap [] := va_S.rf
  have hl := lv_entry ([.ref a]) (n := 3) (Nat.le_of_ble_eq_true rfl)
  rw [lg_entry_eq]
  generalize (lg_sl ([.ref a]) ++ List.replicate (3 - (lg_sl ([.ref a])).length) Slot.unset).toArray = ls at hl ⊢
  have hl : lv_has ls 3 [(0, .ref a)] := hl
  obtain ⟨pl, arr, ps, hx0, ⟨mc, cap, f, he, hcap, hc, hfi, hor⟩, hlen, hps⟩ := hB
  refine lv_iconst (v := 0) hx hb d_X_untoldFields_0 (by decide) ?_
  refine lv_istore_n (lv' := [(1, .int 0), (0, .ref a)]) hx hb d_X_untoldFields_1 rfl hl (by decide) rfl (fun ls hl => ?_)
  refine lv_iconst (v := 0) hx hb d_X_untoldFields_2 (by decide) ?_
  refine lv_istore_n (lv' := [(2, .int 0), (1, .int 0), (0, .ref a)]) hx hb d_X_untoldFields_3 rfl hl (by decide) rfl (fun ls hl => ?_)
  have loop_4 : ∀ (k i : Nat) (acc : Int32) (ls : Array Slot), i ≤ ps.length → ps.length < i + k → wtB b.1 = (b.1.drop i).foldl wtF acc → lv_has ls 3 [(0, .ref a), (1, .int acc), (2, .int (nI i))] → W p l e (headSpec (.code y_X_untoldFields b_X_untoldFields 3 ((some .int)) :: GW) ({ frames := 3, cells := 0, slots := 0, locals := 64 })).room s m (#[.ref a] : Array Value) below meth c s.heap [] 0 0 (MQ below (vp_Si (fun r => r = wtB b.1 &&& (b.2.2.2.2 ^^^ -1))) (#[.ref a] : Array Value) s 0 0 (fun _ => False)) (F0 m 4 ls []) := by
    intro k
    induction k with
    | zero =>
      intro i acc ls h1_4 h2_4
      exact absurd h2_4 (by omega)
    | succ k ih_4 =>
      intro i acc ls h1_4 h2_4 hI_4 hl
      refine lv_iload_n hx hb d_X_untoldFields_4 rfl (lv_at hl 2 rfl) ?_
      refine lv_aload_n hx hb d_X_untoldFields_5 rfl (lv_at hl 0 rfl) ?_
      refine ww_get (v := .ref pl) (C := R_X) (T := F_X) (N := 5) (ci := 1) hx hb hts i_X hown hK hw hx0 rfl 0 (by decide) (hts _ k_417) (fun _ h9 => h9) rfl d_X_untoldFields_6 ?_
      refine wr_i (cV (As := []) (rest := [.int (nI i)]) (C := "java/util/ArrayList") 0 ⟨hx, hb, hml, hown, hts⟩ (c_AL_size l g w pl arr mc (nI ps.length) he) k_152 k_475 k_6 k_150 k_151 (by decide +kernel) ⟨Nat.le_of_ble_eq_true rfl, Nat.le_of_ble_eq_true rfl⟩ rfl rfl ⟨prR_blind _ _ _, hw.recv hK he rfl, prR_at hG hAB hS hw⟩ rfl hl.1 rfl (Nat.le_of_ble_eq_true rfl) d_X_untoldFields_9 ⟨Nat.zero_le _, Nat.zero_le _⟩) (fun r_1 e_1 => ?_)
      refine lv_icmp_ge (tgt := 38) hx hb d_X_untoldFields_12 (by decide) (fun c_2 => ?_) (fun c_2 => ?_)
      · have hge : ps.length ≤ i := lp_ge e_1 c_2 (by omega) (by omega)
        have hdr : b.1.drop i = [] := dr_n (by omega)
        refine lv_iload_n hx hb d_X_untoldFields_38 rfl (lv_at hl 1 rfl) ?_
        refine lv_aload_n hx hb d_X_untoldFields_39 rfl (lv_at hl 0 rfl) ?_
        refine ww_get (v := .int b.2.2.2.2) (C := R_X) (T := F_X) (N := 5) (ci := 1) hx hb hts i_X hown hK hw hx0 rfl 4 (by decide) (hts _ k_425) (fun _ h9 => h9) rfl d_X_untoldFields_40 ?_
        refine lv_iconst (v := -1) hx hb d_X_untoldFields_43 (by decide) ?_
        refine lv_ixor hx hb d_X_untoldFields_44 ?_
        refine lv_topi (fun v_3 e_3 => ?_)
        refine lv_iand hx hb d_X_untoldFields_45 ?_
        refine lv_topi (fun v_4 e_4 => ?_)
        exact W.iret (v := v_4) hx hb hr (fun t ht hW => ⟨v_4, rfl, (by rw [hI_4, hdr, e_4, e_3]; rfl), ht⟩) t_nil d_X_untoldFields_46
      · have hlt : i < ps.length := lp_lt e_1 c_2 (by omega) (by omega)
        obtain ⟨q, hq0⟩ : ∃ q, ps[i]? = some q := ⟨_, List.getElem?_eq_getElem hlt⟩
        have hq := hfi i q hq0
        have ha := hor.resolve_right (fun z => by rw [z.1] at hlt; exact absurd hlt (Nat.not_lt_zero _))
        obtain ⟨⟨cl, sd, lm, fl, x, nu, am⟩, hr0, ga, hp, hg⟩ := hps i q hq0
        have hdr := dr_c hr0
        refine lv_iload_n hx hb d_X_untoldFields_15 rfl (lv_at hl 1 rfl) ?_
        refine lv_aload_n hx hb d_X_untoldFields_16 rfl (lv_at hl 0 rfl) ?_
        refine ww_get (v := .ref pl) (C := R_X) (T := F_X) (N := 5) (ci := 1) hx hb hts i_X hown hK hw hx0 rfl 0 (by decide) (hts _ k_417) (fun _ h9 => h9) rfl d_X_untoldFields_17 ?_
        refine lv_iload_n hx hb d_X_untoldFields_20 rfl (lv_at hl 2 rfl) ?_
        refine wr_q (cV (As := [.int (nI i)]) (rest := [.int acc]) (C := "java/util/ArrayList") 1 ⟨hx, hb, hml, hown, hts⟩ (c_AL_get l g w pl arr ps.length cap i q mc f he ha hcap (by omega) hlt hq) k_157 k_476 k_6 k_155 k_156 (by decide +kernel) ⟨Nat.le_of_ble_eq_true rfl, Nat.le_of_ble_eq_true rfl⟩ rfl rfl ⟨prR_blind _ _ _, hw.recv hK he rfl, prR_at hG hAB hS hw⟩ rfl hl.1 rfl (Nat.le_of_ble_eq_true rfl) d_X_untoldFields_21 ⟨Nat.zero_le _, Nat.zero_le _⟩) (fun r_5 e_5 => ?_)
        subst e_5
        refine va_castY (C := "DangerTables$Part") hx hb hown (hts _ k_442) (hf.2.1 _ x_874) (hw.recv hK hp rfl) d_X_untoldFields_24 ?_
        refine wr_i (cV (As := []) (rest := [.int acc]) (C := "DangerTables$Part") 0 ⟨hx, hb, hml, hown, hts⟩ (c_P_wantedFields l g w q ga nu am cl sd lm fl x hp hg) k_569 k_566 k_20 k_567 k_568 (by decide +kernel) ⟨Nat.le_of_ble_eq_true rfl, Nat.le_of_ble_eq_true rfl⟩ rfl rfl ⟨prR_blind _ _ _, hw.recv hK hp rfl, prR_at hG hAB hS hw⟩ rfl hl.1 rfl (Nat.le_of_ble_eq_true rfl) d_X_untoldFields_27 ⟨Nat.zero_le _, Nat.zero_le _⟩) (fun r_6 e_6 => ?_)
        refine lv_ior hx hb d_X_untoldFields_30 ?_
        refine lv_topi (fun v_7 e_7 => ?_)
        refine lv_istore_n (lv' := [(1, .int v_7), (0, .ref a), (2, .int (nI i))]) hx hb d_X_untoldFields_31 rfl hl (by decide) rfl (fun ls hl => ?_)
        refine lv_iinc (v := (nI (i + 1))) (lv' := [(2, .int (nI (i + 1))), (1, .int v_7), (0, .ref a)]) hx hb d_X_untoldFields_32 hl (k := 2) rfl (nI_1 _) (by decide) rfl (fun ls hl => ?_)
        refine lv_goto (tgt := 4) hx hb d_X_untoldFields_35 (by decide) ?_
        exact ih_4 (i + 1) v_7 ls (by omega) (by omega) (by rw [hI_4, hdr, List.foldl_cons]; congr 1; simp [wtF, e_1, c_2, e_6, e_7]) (lv_sub hl [2, 1, 0] rfl)
  exact loop_4 (ps.length + 1) 0 0 ls (by omega) (by omega) rfl (lv_sub hl [2, 1, 0] rfl)

set_option maxHeartbeats 4000000 in
set_option maxRecDepth 100000 in
theorem c_X_holds (l : Launch) (g : GT) (w : Nat → Option va_E) (a : Nat) (b : BX) (v : Int32) (hB : isBx g w a b) : Met l y_X_holds (.code y_X_holds b_X_holds 3 ((some .boolean)) :: GW) ({ frames := 3, cells := 0, slots := 0, locals := 64 }) (prR g [.ref a, .int v] w) (vp_Si (fun r => r = b2 (hsB b.1 v))) 0 0 (fun _ => False) := by
  refine Met.ofW (cc := b_X_holds) (maxL := 3) (ret := (some .boolean)) (by decide) rfl ?_
  intro p e s m args below meth c s₁ B hml hv
  obtain ⟨rfl, hG, hw⟩ := hv
  have hx := B.exec
  have hb := B.bytes
  have hr := B.returns
  have hts : ∀ w ∈ GW, w.before _ s = true := fun w h => atoms_spec (ws := .code y_X_holds b_X_holds 3 ((some .boolean)) :: GW) B.pre w (List.mem_cons_of_mem _ h)
  have hown : s.vm.findClass "DangerTables$Box" = some m.cls := findClass_of_methodNamed B.named
  have hlocks := B.notSynchronized
  have hf := hG.here
  have hK := hf.1
  have hAB : ∀ q, gB g q → gB g q := fun _ h => h
  have hS : va_S (gB g) s.heap s.heap [] := va_S.rf
  have hl := lv_entry ([.ref a, .int v]) (n := 3) (Nat.le_of_ble_eq_true rfl)
  rw [lg_entry_eq]
  generalize (lg_sl ([.ref a, .int v]) ++ List.replicate (3 - (lg_sl ([.ref a, .int v])).length) Slot.unset).toArray = ls at hl ⊢
  have hl : lv_has ls 3 [(0, .ref a), (1, .int v)] := hl
  obtain ⟨pl, arr, ps, hx0, ⟨mc, cap, f, he, hcap, hc, hfi, hor⟩, hlen, hps⟩ := hB
  refine lv_iconst (v := 0) hx hb d_X_holds_0 (by decide) ?_
  refine lv_istore_n (lv' := [(2, .int 0), (0, .ref a), (1, .int v)]) hx hb d_X_holds_1 rfl hl (by decide) rfl (fun ls hl => ?_)
  have loop_2 : ∀ (k i : Nat)  (ls : Array Slot), i ≤ ps.length → ps.length < i + k → hsB b.1 v = (b.1.drop i).any (fun r => decide (r.2.2.2.2.2.1 = v)) → lv_has ls 3 [(0, .ref a), (1, .int v), (2, .int (nI i))] → W p l e (headSpec (.code y_X_holds b_X_holds 3 ((some .boolean)) :: GW) ({ frames := 3, cells := 0, slots := 0, locals := 64 })).room s m (#[.ref a, .int v] : Array Value) below meth c s.heap [] 0 0 (MQ below (vp_Si (fun r => r = b2 (hsB b.1 v))) (#[.ref a, .int v] : Array Value) s 0 0 (fun _ => False)) (F0 m 2 ls []) := by
    intro k
    induction k with
    | zero =>
      intro i  ls h1_2 h2_2
      exact absurd h2_2 (by omega)
    | succ k ih_2 =>
      intro i  ls h1_2 h2_2 hI_2 hl
      refine lv_iload_n hx hb d_X_holds_2 rfl (lv_at hl 2 rfl) ?_
      refine lv_aload_n hx hb d_X_holds_3 rfl (lv_at hl 0 rfl) ?_
      refine ww_get (v := .ref pl) (C := R_X) (T := F_X) (N := 5) (ci := 1) hx hb hts i_X hown hK hw hx0 rfl 0 (by decide) (hts _ k_417) (fun _ h9 => h9) rfl d_X_holds_4 ?_
      refine wr_i (cV (As := []) (rest := [.int (nI i)]) (C := "java/util/ArrayList") 0 ⟨hx, hb, hml, hown, hts⟩ (c_AL_size l g w pl arr mc (nI ps.length) he) k_152 k_475 k_6 k_150 k_151 (by decide +kernel) ⟨Nat.le_of_ble_eq_true rfl, Nat.le_of_ble_eq_true rfl⟩ rfl rfl ⟨prR_blind _ _ _, hw.recv hK he rfl, prR_at hG hAB hS hw⟩ rfl hl.1 rfl (Nat.le_of_ble_eq_true rfl) d_X_holds_7 ⟨Nat.zero_le _, Nat.zero_le _⟩) (fun r_1 e_1 => ?_)
      refine lv_icmp_ge (tgt := 39) hx hb d_X_holds_10 (by decide) (fun c_2 => ?_) (fun c_2 => ?_)
      · have hge : ps.length ≤ i := lp_ge e_1 c_2 (by omega) (by omega)
        have hdr : b.1.drop i = [] := dr_n (by omega)
        refine lv_iconst (v := 0) hx hb d_X_holds_39 (by decide) ?_
        exact W.zret (v := 0) (ty := .boolean) hx hb hr rfl (fun t ht hW => ⟨0, rfl, (by rw [hI_2, hdr]; simp [b2]), ht⟩) t_nil d_X_holds_40
      · have hlt : i < ps.length := lp_lt e_1 c_2 (by omega) (by omega)
        obtain ⟨q, hq0⟩ : ∃ q, ps[i]? = some q := ⟨_, List.getElem?_eq_getElem hlt⟩
        have hq := hfi i q hq0
        have ha := hor.resolve_right (fun z => by rw [z.1] at hlt; exact absurd hlt (Nat.not_lt_zero _))
        obtain ⟨⟨cl, sd, lm, fl, x, nu, am⟩, hr0, ga, hp, hg⟩ := hps i q hq0
        have hdr := dr_c hr0
        refine lv_aload_n hx hb d_X_holds_13 rfl (lv_at hl 0 rfl) ?_
        refine ww_get (v := .ref pl) (C := R_X) (T := F_X) (N := 5) (ci := 1) hx hb hts i_X hown hK hw hx0 rfl 0 (by decide) (hts _ k_417) (fun _ h9 => h9) rfl d_X_holds_14 ?_
        refine lv_iload_n hx hb d_X_holds_17 rfl (lv_at hl 2 rfl) ?_
        refine wr_q (cV (As := [.int (nI i)]) (rest := []) (C := "java/util/ArrayList") 1 ⟨hx, hb, hml, hown, hts⟩ (c_AL_get l g w pl arr ps.length cap i q mc f he ha hcap (by omega) hlt hq) k_157 k_476 k_6 k_155 k_156 (by decide +kernel) ⟨Nat.le_of_ble_eq_true rfl, Nat.le_of_ble_eq_true rfl⟩ rfl rfl ⟨prR_blind _ _ _, hw.recv hK he rfl, prR_at hG hAB hS hw⟩ rfl hl.1 rfl (Nat.le_of_ble_eq_true rfl) d_X_holds_18 ⟨Nat.zero_le _, Nat.zero_le _⟩) (fun r_3 e_3 => ?_)
        subst e_3
        refine va_castY (C := "DangerTables$Part") hx hb hown (hts _ k_442) (hf.2.1 _ x_874) (hw.recv hK hp rfl) d_X_holds_21 ?_
        refine ww_getN (v := .int nu) (C := R_P) (T := F_P) (N := 3) (ci := 3) hx hb hts i_P hown hK hw hp rfl 1 (by decide) (va_Nw.use rfl (hf.2.1 _ x_452)) (fun _ h9 => h9) rfl d_X_holds_24 ?_
        refine lv_iload_n hx hb d_X_holds_27 rfl (lv_at hl 1 rfl) ?_
        refine lv_icmp_ne (tgt := 33) hx hb d_X_holds_28 (by decide) (fun c_4 => ?_) (fun c_4 => ?_)
        · refine lv_iinc (v := (nI (i + 1))) (lv' := [(2, .int (nI (i + 1))), (0, .ref a), (1, .int v)]) hx hb d_X_holds_33 hl (k := 2) rfl (nI_1 _) (by decide) rfl (fun ls hl => ?_)
          refine lv_goto (tgt := 2) hx hb d_X_holds_36 (by decide) ?_
          exact ih_2 (i + 1)  ls (by omega) (by omega) (by rw [hI_2, hdr]; simp [c_4]) (lv_sub hl [1, 2, 0] rfl)
        · refine lv_iconst (v := 1) hx hb d_X_holds_31 (by decide) ?_
          exact W.zret (v := 1) (ty := .boolean) hx hb hr rfl (fun t ht hW => ⟨1, rfl, (by rw [hI_2, hdr]; simp [b2, c_4]), ht⟩) t_nil d_X_holds_32
  exact loop_2 (ps.length + 1) 0  ls (by omega) (by omega) rfl (lv_sub hl [1, 2, 0] rfl)

