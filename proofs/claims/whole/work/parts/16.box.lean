/-! LISTS, PARTS AND BOXES as pictures; the loops over a box's parts -/
def isL (g : GT) (w : Nat → Option va_E) (a arr : Nat) (xs : List Nat) : Prop := ∃ (mc : Int32) (cap : Nat) (f : Nat → Option Nat), w a = some (cL mc arr (nI xs.length)) ∧ xs.length ≤ cap ∧ cap < 1000 ∧ (∀ i q : Nat, xs[i]? = some q → f i = some q) ∧ (w arr = some (cO g cap f) ∨ (xs = [] ∧ arr = g.2.2 1))
/-- a good in a box: class, side, limit, fields, exempt pairs, number, amount -/
abbrev PR : Type := Int32 × Int32 × Int32 × Int32 × Int64 × Int32 × Int32
def isPt (w : Nat → Option va_E) (q : Nat) (r : PR) : Prop := ∃ ga : Nat, w q = some (cP ga r.2.2.2.2.2.1 r.2.2.2.2.2.2) ∧ w ga = some (cG r.1 r.2.1 r.2.2.1 r.2.2.2.1 r.2.2.2.2.1)
def isPs (w : Nat → Option va_E) (ps : List Nat) (rs : List PR) : Prop := ps.length = rs.length ∧ ∀ i q : Nat, ps[i]? = some q → ∃ r, rs[i]? = some r ∧ isPt w q r
/-- a box: its goods, zone, x, y, fields told -/
abbrev BX : Type := List PR × Int32 × Int32 × Int32 × Int32
def isBx (g : GT) (w : Nat → Option va_E) (a : Nat) (b : BX) : Prop := ∃ (pl parr : Nat) (ps : List Nat), w a = some (cX pl b.2.1 b.2.2.1 b.2.2.2.1 b.2.2.2.2) ∧ isL g w pl parr ps ∧ isPs w ps b.1
theorem dr_c {α : Type} {l : List α} {i : Nat} {r : α} (h : l[i]? = some r) : l.drop i = r :: l.drop (i + 1) := by
  obtain ⟨hi, rfl⟩ := List.getElem?_eq_some_iff.mp h
  exact List.drop_eq_getElem_cons hi
theorem dr_n {α : Type} {l : List α} {i : Nat} (h : l.length ≤ i) : l.drop i = [] := List.drop_eq_nil_of_le h
theorem lp_ge {r : Int32} {i n : Nat} (e : r = nI n) (c : r ≤ nI i) (hn : n < 2 ^ 31) (hi : i < 2 ^ 31) : n ≤ i := (nI_leI hn hi).mp (e ▸ c)
theorem lp_lt {r : Int32} {i n : Nat} (e : r = nI n) (c : ¬ r ≤ nI i) (hn : n < 2 ^ 31) (hi : i < 2 ^ 31) : i < n := by
  rcases Nat.lt_or_ge i n with h | h
  · exact h
  · exact absurd (e ▸ (nI_leI hn hi).mpr h) c
def kgF (a : Int32) (r : PR) : Int32 := a + r.2.2.2.2.2.2
def kgB (rs : List PR) : Int32 := rs.foldl kgF 0
def kcF (v : Int32) (a : Int32) (r : PR) : Int32 := if hasC r.1 r.2.1 v = true then a + r.2.2.2.2.2.2 else a
def kcB (rs : List PR) (v : Int32) : Int32 := rs.foldl (kcF v) 0
def lmF (a : Int32) (r : PR) : Int32 := if isLim r.2.2.2.2.2.2 r.2.2.1 = true then a + 1 else a
def lmB (rs : List PR) : Int32 := rs.foldl lmF 0
def wtF (a : Int32) (r : PR) : Int32 := a ||| wantP r.2.2.2.2.2.2 r.2.2.1 r.2.2.2.1
def wtB (rs : List PR) : Int32 := rs.foldl wtF 0
def hsB (rs : List PR) (v : Int32) : Bool := rs.any (fun r => decide (r.2.2.2.2.2.1 = v))
set_option maxHeartbeats 4000000 in
set_option maxRecDepth 100000 in
theorem c_X_kilograms (l : Launch) (g : GT) (w : Nat → Option va_E) (a : Nat) (b : BX) (hB : isBx g w a b) : Met l y_X_kilograms (.code y_X_kilograms b_X_kilograms 3 ((some .int)) :: GW) ({ frames := 3, cells := 0, slots := 0, locals := 64 }) (prR g [.ref a] w) (vp_Si (fun r => r = kgB b.1)) 0 0 (fun _ => False) := by
  refine Met.ofW (cc := b_X_kilograms) (maxL := 3) (ret := (some .int)) (by decide) rfl ?_
  intro p e s m args below meth c s₁ B hml hv
  obtain ⟨rfl, hG, hw⟩ := hv
  have hx := B.exec
  have hb := B.bytes
  have hr := B.returns
  have hts : ∀ w ∈ GW, w.before _ s = true := fun w h => atoms_spec (ws := .code y_X_kilograms b_X_kilograms 3 ((some .int)) :: GW) B.pre w (List.mem_cons_of_mem _ h)
  have hown : s.vm.findClass "DangerTables$Box" = some m.cls := findClass_of_methodNamed B.named
  have hlocks := B.notSynchronized
  have hf := hG.here
  have hK := hf.1
  have hAB : ∀ q, gB g q → gB g q := fun _ h => h
  have hS : va_S (gB g) s.heap s.heap [] := va_S.rf
  have hl := lv_entry ([.ref a]) (n := 3) (Nat.le_of_ble_eq_true rfl)
  rw [lg_entry_eq]
  generalize (lg_sl ([.ref a]) ++ List.replicate (3 - (lg_sl ([.ref a])).length) Slot.unset).toArray = ls at hl ⊢
  have hl : lv_has ls 3 [(0, .ref a)] := hl
  obtain ⟨pl, arr, ps, hx0, ⟨mc, cap, f, he, hcap, hc, hfi, hor⟩, hlen, hps⟩ := hB
  refine lv_iconst (v := 0) hx hb d_X_kilograms_0 (by decide) ?_
  refine lv_istore_n (lv' := [(1, .int 0), (0, .ref a)]) hx hb d_X_kilograms_1 rfl hl (by decide) rfl (fun ls hl => ?_)
  refine lv_iconst (v := 0) hx hb d_X_kilograms_2 (by decide) ?_
  refine lv_istore_n (lv' := [(2, .int 0), (1, .int 0), (0, .ref a)]) hx hb d_X_kilograms_3 rfl hl (by decide) rfl (fun ls hl => ?_)
  have loop_4 : ∀ (k i : Nat) (acc : Int32) (ls : Array Slot), i ≤ ps.length → ps.length < i + k → kgB b.1 = (b.1.drop i).foldl kgF acc → lv_has ls 3 [(0, .ref a), (1, .int acc), (2, .int (nI i))] → W p l e (headSpec (.code y_X_kilograms b_X_kilograms 3 ((some .int)) :: GW) ({ frames := 3, cells := 0, slots := 0, locals := 64 })).room s m (#[.ref a] : Array Value) below meth c s.heap [] 0 0 (MQ below (vp_Si (fun r => r = kgB b.1)) (#[.ref a] : Array Value) s 0 0 (fun _ => False)) (F0 m 4 ls []) := by
    intro k
    induction k with
    | zero =>
      intro i acc ls h1_4 h2_4
      exact absurd h2_4 (by omega)
    | succ k ih_4 =>
      intro i acc ls h1_4 h2_4 hI_4 hl
      refine lv_iload_n hx hb d_X_kilograms_4 rfl (lv_at hl 2 rfl) ?_
      refine lv_aload_n hx hb d_X_kilograms_5 rfl (lv_at hl 0 rfl) ?_
      refine ww_get (v := .ref pl) (C := R_X) (T := F_X) (N := 5) (ci := 1) hx hb hts i_X hown hK hw hx0 rfl 0 (by decide) (hts _ k_417) (fun _ h9 => h9) rfl d_X_kilograms_6 ?_
      refine wr_i (cV (As := []) (rest := [.int (nI i)]) (C := "java/util/ArrayList") 0 ⟨hx, hb, hml, hown, hts⟩ (c_AL_size l g w pl arr mc (nI ps.length) he) k_152 k_475 k_6 k_150 k_151 (by decide +kernel) ⟨Nat.le_of_ble_eq_true rfl, Nat.le_of_ble_eq_true rfl⟩ rfl rfl ⟨prR_blind _ _ _, hw.recv hK he rfl, prR_at hG hAB hS hw⟩ rfl hl.1 rfl (Nat.le_of_ble_eq_true rfl) d_X_kilograms_9 ⟨Nat.zero_le _, Nat.zero_le _⟩) (fun r_1 e_1 => ?_)
      refine lv_icmp_ge (tgt := 38) hx hb d_X_kilograms_12 (by decide) (fun c_2 => ?_) (fun c_2 => ?_)
      · have hge : ps.length ≤ i := lp_ge e_1 c_2 (by omega) (by omega)
        have hdr : b.1.drop i = [] := dr_n (by omega)
        refine lv_iload_n hx hb d_X_kilograms_38 rfl (lv_at hl 1 rfl) ?_
        exact W.iret (v := acc) hx hb hr (fun t ht hW => ⟨acc, rfl, (by rw [hI_4, hdr]; rfl), ht⟩) t_nil d_X_kilograms_39
      · have hlt : i < ps.length := lp_lt e_1 c_2 (by omega) (by omega)
        obtain ⟨q, hq0⟩ : ∃ q, ps[i]? = some q := ⟨_, List.getElem?_eq_getElem hlt⟩
        have hq := hfi i q hq0
        have ha := hor.resolve_right (fun z => by rw [z.1] at hlt; exact absurd hlt (Nat.not_lt_zero _))
        obtain ⟨⟨cl, sd, lm, fl, x, nu, am⟩, hr0, ga, hp, hg⟩ := hps i q hq0
        have hdr := dr_c hr0
        refine lv_iload_n hx hb d_X_kilograms_15 rfl (lv_at hl 1 rfl) ?_
        refine lv_aload_n hx hb d_X_kilograms_16 rfl (lv_at hl 0 rfl) ?_
        refine ww_get (v := .ref pl) (C := R_X) (T := F_X) (N := 5) (ci := 1) hx hb hts i_X hown hK hw hx0 rfl 0 (by decide) (hts _ k_417) (fun _ h9 => h9) rfl d_X_kilograms_17 ?_
        refine lv_iload_n hx hb d_X_kilograms_20 rfl (lv_at hl 2 rfl) ?_
        refine wr_q (cV (As := [.int (nI i)]) (rest := [.int acc]) (C := "java/util/ArrayList") 1 ⟨hx, hb, hml, hown, hts⟩ (c_AL_get l g w pl arr ps.length cap i q mc f he ha hcap (by omega) hlt hq) k_157 k_476 k_6 k_155 k_156 (by decide +kernel) ⟨Nat.le_of_ble_eq_true rfl, Nat.le_of_ble_eq_true rfl⟩ rfl rfl ⟨prR_blind _ _ _, hw.recv hK he rfl, prR_at hG hAB hS hw⟩ rfl hl.1 rfl (Nat.le_of_ble_eq_true rfl) d_X_kilograms_21 ⟨Nat.zero_le _, Nat.zero_le _⟩) (fun r_3 e_3 => ?_)
        subst e_3
        refine va_castY (C := "DangerTables$Part") hx hb hown (hts _ k_442) (hf.2.1 _ x_872) (hw.recv hK hp rfl) d_X_kilograms_24 ?_
        refine ww_getN (v := .int am) (C := R_P) (T := F_P) (N := 3) (ci := 3) hx hb hts i_P hown hK hw hp rfl 2 (by decide) (va_Nw.use rfl (hf.2.1 _ x_454)) (fun _ h9 => h9) rfl d_X_kilograms_27 ?_
        refine lv_iadd hx hb d_X_kilograms_30 ?_
        refine lv_topi (fun v_4 e_4 => ?_)
        refine lv_istore_n (lv' := [(1, .int v_4), (0, .ref a), (2, .int (nI i))]) hx hb d_X_kilograms_31 rfl hl (by decide) rfl (fun ls hl => ?_)
        refine lv_iinc (v := (nI (i + 1))) (lv' := [(2, .int (nI (i + 1))), (1, .int v_4), (0, .ref a)]) hx hb d_X_kilograms_32 hl (k := 2) rfl (nI_1 _) (by decide) rfl (fun ls hl => ?_)
        refine lv_goto (tgt := 4) hx hb d_X_kilograms_35 (by decide) ?_
        exact ih_4 (i + 1) v_4 ls (by omega) (by omega) (by rw [hI_4, hdr, e_4]; rfl) (lv_sub hl [2, 1, 0] rfl)
  exact loop_4 (ps.length + 1) 0 0 ls (by omega) (by omega) rfl (lv_sub hl [2, 1, 0] rfl)

