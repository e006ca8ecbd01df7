/-! THE TEXT OF A TABLE: what reading it means -/
section CSN
variable {p : Program} {l : Launch} {e : Env} {R : Room} {s : State} {m : MethodId} {args : Array Value} {below : List Frame} {meth : Method} {c : Code} {H : Heap} {locs : List Loc} {cells slots : Nat}
variable {y : MethodName} {b0 cc : ByteArray} {maxL nL mc ms index pc : Nat} {ret : Option FieldType} {rm : Room} {Pc : Array Value → State → Prop} {Qc : Array Value → State → Outcome → State → Prop} {free : Addr → Prop} {own host : String} {As rest st0 : List Value} {ls : Array Slot}
theorem cSN (n : Nat) (S : CallFix p m c cc nL s args GW own) (hM : Met l y (Cond.code y b0 maxL ret :: GW) rm Pc Qc mc ms free) (hc : Cond.code y b0 maxL ret ∈ GW) (hl : va_Nw (.methodLinkNest own index y host) s) (hi : Cond.initialized y.cls ∈ GW) (hs : Cond.static y ∈ GW) (hd : y.cls ≠ "java/lang/invoke/MethodHandle" ∧ y.cls ≠ "java/lang/invoke/VarHandle" ∧ (parseMethodDescriptor y.desc).map (fun d => d.parameters.length) = some n) (hR : rm.frames + 1 ≤ R.frames ∧ 8 + (maxL + 11) + rm.locals ≤ R.locals) (hrc : rm.cells = mc) (hrs : rm.slots = ms)
    (hp : PreS s H Pc As) (hn : As.length = n) (hsize : ls.size = nL) (hst : st0 = As.reverse ++ rest) (hW : (rest.map fun v => v.category).sum ≤ 8) (hdg : decode cc pc = .ok (.invokestatic index, 3)) (hf : cells + mc ≤ R.cells ∧ slots + ms ≤ R.slots) :
    va_Run p l e R s m args below meth c H locs cells slots mc ms (F0 m pc ls st0) rest (Qc As.toArray) free :=
  va_runSN S hM ⟨va_cnB n S.2.2.2.2 (fun w hw => (List.mem_cons.mp hw).elim (fun e => by subst e; exact ⟨hc, GW_good hc⟩) (fun h1 => ⟨h1, GW_good h1⟩)) rfl hrc hrs hl (S.2.2.2.2 _ hi) hd hR, S.2.2.2.2 _ hs, trivial⟩ hp rfl hn hsize hst (lv_room hW) hdg hf
end CSN
theorem va_same {w : Nat → Option va_E} {a : Nat} {e : Option va_E} (h : w a = e) : va_up w a e = w := by
  funext x
  by_cases hx : x = a
  · subst hx
    rw [va_up_self, h]
  · rw [va_up_ne _ _ hx]
def okS (v : Int32) : Bool := (!decide (v < 48) && !decide (57 < v)) || decide (v = 59)
def dgI (f : Nat → Int32) (n p : Nat) : Int32 := if n ≤ p then -1 else if f p = 59 then -1 else f p - 48
def tabAt (f : Nat → Int32) : Nat → Nat → Int32
  | 0 => fun _ => -1
  | q + 1 => upd (tabAt f q) (prI (f (4 * q) - 48) (f (4 * q + 1) - 48)).toNatClampNeg (f (4 * q + 2) - 48)
def okPl (f : Nat → Int32) (p : Nat) : Bool := if p % 4 = 0 then isCls (f p - 48) else if p % 4 = 1 then isCls (f p - 48) && decide (tabAt f (p / 4) (prI (f (p - 1) - 48) (f p - 48)).toNatClampNeg = -1) else if p % 4 = 2 then inR (f p - 48) 0 4 else decide (f p = 59)
def wrF (f : Nat → Int32) (n : Nat) : Nat → Nat → Int32
  | 0, _ => if n = 180 then -1 else nI n
  | k + 1, p => if okPl f p = true then wrF f n k (p + 1) else nI p
def WR (f : Nat → Int32) (n : Nat) : Int32 := wrF f n n 0
theorem okPl_0 (f : Nat → Int32) (q : Nat) : okPl f (4 * q) = isCls (f (4 * q) - 48) := by
  unfold okPl
  rw [if_pos (by omega)]
theorem okPl_1 (f : Nat → Int32) (q : Nat) : okPl f (4 * q + 1) = (isCls (f (4 * q + 1) - 48) && decide (tabAt f q (prI (f (4 * q) - 48) (f (4 * q + 1) - 48)).toNatClampNeg = -1)) := by
  unfold okPl
  rw [if_neg (by omega), if_pos (by omega), show (4 * q + 1) / 4 = q by omega, show 4 * q + 1 - 1 = 4 * q by omega]
theorem okPl_2 (f : Nat → Int32) (q : Nat) : okPl f (4 * q + 2) = inR (f (4 * q + 2) - 48) 0 4 := by
  unfold okPl
  rw [if_neg (by omega), if_neg (by omega), if_pos (by omega)]
theorem okPl_3 (f : Nat → Int32) (q : Nat) : okPl f (4 * q + 3) = decide (f (4 * q + 3) = 59) := by
  unfold okPl
  rw [if_neg (by omega), if_neg (by omega), if_neg (by omega)]
theorem wrF_ok {f : Nat → Int32} {n p : Nat} (h : p < n) (ho : okPl f p = true) : wrF f n (n - p) p = wrF f n (n - (p + 1)) (p + 1) := by
  rw [show n - p = (n - (p + 1)) + 1 by omega, wrF, if_pos ho]
theorem wrF_bad {f : Nat → Int32} {n p : Nat} (h : p < n) (ho : okPl f p = false) : wrF f n (n - p) p = nI p := by
  rw [show n - p = (n - (p + 1)) + 1 by omega, wrF, if_neg (by rw [ho]; decide)]
theorem wrF_to {f : Nat → Int32} {n a : Nat} : ∀ (k : Nat), a + k ≤ n → (∀ t : Nat, a ≤ t → t < a + k → okPl f t = true) → wrF f n (n - a) a = wrF f n (n - (a + k)) (a + k)
  | 0, _, _ => rfl
  | k + 1, h, ho => by
    rw [wrF_to k (by omega) (fun t h1 h2 => ho t h1 (by omega)), wrF_ok (by omega) (ho (a + k) (by omega) (by omega))]
    rfl
theorem wr_row {f : Nat → Int32} {n q p : Nat} (hq : 4 * q < n) (h1 : 4 * q ≤ p) (h2 : p ≤ 4 * q + 3) (hn : p ≤ n) (ho : ∀ t : Nat, 4 * q ≤ t → t < p → okPl f t = true) (hb : p < n → okPl f p = false) : wrF f n (n - 4 * q) (4 * q) = nI p := by
  obtain ⟨k, rfl⟩ := Nat.exists_eq_add_of_le h1
  rw [wrF_to k hn ho]
  rcases Nat.lt_or_ge (4 * q + k) n with h | h
  · exact wrF_bad h (hb h)
  · rw [show n - (4 * q + k) = 0 by omega, wrF, if_neg (by omega)]
    congr 1
    omega
theorem dg_cls {f : Nat → Int32} {n p : Nat} (h : isCls (dgI f n p) = true) : p < n ∧ dgI f n p = f p - 48 := by
  unfold dgI at h ⊢
  by_cases h1 : n ≤ p
  · rw [if_pos h1] at h
    exact absurd h (by decide)
  · rw [if_neg h1] at h ⊢
    by_cases h2 : f p = 59
    · rw [if_pos h2] at h
      exact absurd h (by decide)
    · rw [if_neg h2]
      exact ⟨by omega, rfl⟩
theorem dg_ncls {f : Nat → Int32} {n p : Nat} (h : isCls (dgI f n p) = false) (hp : p < n) : isCls (f p - 48) = false := by
  unfold dgI at h
  rw [if_neg (by omega)] at h
  by_cases h2 : f p = 59
  · rw [h2]
    rfl
  · rw [if_neg h2] at h
    exact h
theorem dg_in {f : Nat → Int32} {n p : Nat} (h : ¬ dgI f n p < 0) : p < n ∧ dgI f n p = f p - 48 := by
  unfold dgI at h ⊢
  by_cases h1 : n ≤ p
  · rw [if_pos h1] at h
    exact absurd (show (-1 : Int32) < 0 by decide) h
  · rw [if_neg h1] at h ⊢
    by_cases h2 : f p = 59
    · rw [if_pos h2] at h
      exact absurd (show (-1 : Int32) < 0 by decide) h
    · rw [if_neg h2]
      exact ⟨by omega, rfl⟩
theorem dg_lt {f : Nat → Int32} {n p : Nat} (h : dgI f n p < 0) (hp : p < n) : inR (f p - 48) 0 4 = false := by
  unfold dgI at h
  rw [if_neg (by omega)] at h
  by_cases h2 : f p = 59
  · rw [h2]
    rfl
  · rw [if_neg h2] at h
    unfold inR
    rw [decide_eq_true h]
    rfl
theorem lt2 {p a : Nat} {P : Nat → Prop} (h : p < a + 1) (h0 : P a) (h1 : p < a → P p) : P p := by
  rcases Nat.lt_or_ge p a with h2 | h2
  · exact h1 h2
  · obtain rfl : p = a := by omega
    exact h0
set_option maxHeartbeats 4000000 in
set_option maxRecDepth 100000 in
theorem c_U_digitAt (l : Launch) (g : GT) (w : Nat → Option va_E) (a sg fo n p0 : Nat) (f : Nat → Int32) (hu : w a = some (cU sg (nI n) fo)) (hs : w sg = some (cA g 300 f)) (hn : n ≤ 300) (hp : p0 < 400) : Met l y_U_digitAt (.code y_U_digitAt b_U_digitAt 2 ((some .int)) :: GW) ({ frames := 0, cells := 0, slots := 0, locals := 0 }) (prR g [.ref a, .int (nI p0)] w) (vp_Si (fun r => r = dgI f n p0)) 0 0 (fun _ => False) := by
  refine Met.ofW (cc := b_U_digitAt) (maxL := 2) (ret := (some .int)) (by decide) rfl ?_
  intro p e s m args below meth c s₁ B hml hv
  obtain ⟨rfl, hG, hw⟩ := hv
  have hx := B.exec
  have hb := B.bytes
  have hr := B.returns
  have hts : ∀ w ∈ GW, w.before _ s = true := fun w h => atoms_spec (ws := .code y_U_digitAt b_U_digitAt 2 ((some .int)) :: GW) B.pre w (List.mem_cons_of_mem _ h)
  have hown : s.vm.findClass "DangerTables$RuleText" = some m.cls := findClass_of_methodNamed B.named
  have hlocks := B.notSynchronized
  have hf := hG.here
  have hK := hf.1
  have hAB : ∀ q, gB g q → gB g q := fun _ h => h
  have hS : va_S (gB g) s.heap s.heap [] := va_S.rf
  have hl := lv_entry ([.ref a, .int (nI p0)]) (n := 2) (Nat.le_of_ble_eq_true rfl)
  rw [lg_entry_eq]
  generalize (lg_sl ([.ref a, .int (nI p0)]) ++ List.replicate (2 - (lg_sl ([.ref a, .int (nI p0)])).length) Slot.unset).toArray = ls at hl ⊢
  have hl : lv_has ls 2 [(0, .ref a), (1, .int (nI p0))] := hl
  refine lv_iload_n hx hb d_U_digitAt_0 rfl (lv_at hl 1 rfl) ?_
  refine lv_aload_n hx hb d_U_digitAt_1 rfl (lv_at hl 0 rfl) ?_
  refine ww_get (v := .int (nI n)) (C := R_U) (T := F_U) (N := 3) (ci := 4) hx hb hts i_U hown hK hw hu rfl 1 (by decide) (hts _ k_37) (fun _ h9 => h9) rfl d_U_digitAt_2 ?_
  refine lv_icmp_ge (tgt := 31) hx hb d_U_digitAt_5 (by decide) (fun c_1 => ?_) (fun c_1 => ?_)
  · have hge : n ≤ p0 := (nI_leI (by omega) (by omega)).mp c_1
    refine lv_iconst (v := -1) hx hb d_U_digitAt_31 (by decide) ?_
    exact W.iret (v := (-1)) hx hb hr (fun t ht hW => ⟨(-1), rfl, (by rw [dgI, if_pos hge]), ht⟩) t_nil d_U_digitAt_32
  · have hlt : ¬ n ≤ p0 := fun z => c_1 (nI_le z (by omega))
    refine lv_aload_n hx hb d_U_digitAt_8 rfl (lv_at hl 0 rfl) ?_
    refine ww_get (v := .ref sg) (C := R_U) (T := F_U) (N := 3) (ci := 4) hx hb hts i_U hown hK hw hu rfl 0 (by decide) (hts _ k_36) (fun _ h9 => h9) rfl d_U_digitAt_9 ?_
    refine lv_iload_n hx hb d_U_digitAt_12 rfl (lv_at hl 1 rfl) ?_
    refine ww_iald (v := f p0) hx hb hK hw 0 hs rfl (vp_in_nI (by omega) (by decide)) (by rw [nI_clamp (by omega)]) d_U_digitAt_13 ?_
    refine lv_topi (fun v_2 e_2 => ?_)
    refine lv_bipush (v := 59) hx hb d_U_digitAt_14 (by decide) ?_
    refine lv_icmp_eq (tgt := 31) hx hb d_U_digitAt_16 (by decide) (fun c_3 => ?_) (fun c_3 => ?_)
    · refine lv_iconst (v := -1) hx hb d_U_digitAt_31 (by decide) ?_
      exact W.iret (v := (-1)) hx hb hr (fun t ht hW => ⟨(-1), rfl, (by rw [dgI, if_neg hlt, if_pos (e_2 ▸ c_3)]), ht⟩) t_nil d_U_digitAt_32
    · refine lv_aload_n hx hb d_U_digitAt_19 rfl (lv_at hl 0 rfl) ?_
      refine ww_get (v := .ref sg) (C := R_U) (T := F_U) (N := 3) (ci := 4) hx hb hts i_U hown hK hw hu rfl 0 (by decide) (hts _ k_36) (fun _ h9 => h9) rfl d_U_digitAt_20 ?_
      refine lv_iload_n hx hb d_U_digitAt_23 rfl (lv_at hl 1 rfl) ?_
      refine ww_iald (v := f p0) hx hb hK hw 0 hs rfl (vp_in_nI (by omega) (by decide)) (by rw [nI_clamp (by omega)]) d_U_digitAt_24 ?_
      refine lv_topi (fun v_4 e_4 => ?_)
      refine lv_bipush (v := 48) hx hb d_U_digitAt_25 (by decide) ?_
      refine lv_isub hx hb d_U_digitAt_27 ?_
      refine lv_topi (fun v_5 e_5 => ?_)
      refine lv_goto (tgt := 32) hx hb d_U_digitAt_28 (by decide) ?_
      exact W.iret (v := v_5) hx hb hr (fun t ht hW => ⟨v_5, rfl, (by rw [dgI, if_neg hlt, if_neg (e_2 ▸ c_3), e_5, e_4]), ht⟩) t_nil d_U_digitAt_32

theorem okS_a {v : Int32} (h1 : ¬ v < 48) (h2 : v ≤ 57) : okS v = true := by
  unfold okS
  rw [decide_eq_false h1, decide_eq_false (Int32.not_lt.mpr h2)]
  rfl
theorem okS_b {v : Int32} (h1 : v = 59) : okS v = true := by rw [h1]; rfl
theorem okS_c {v : Int32} (h1 : v < 48) (h2 : ¬ v = 59) : okS v = false := by
  unfold okS
  rw [decide_eq_true h1, decide_eq_false h2]
  rfl
theorem okS_d {v : Int32} (h1 : ¬ v ≤ 57) (h2 : ¬ v = 59) : okS v = false := by
  unfold okS
  rw [decide_eq_true (Int32.not_le.mp h1), decide_eq_false h2]
  simp
set_option maxHeartbeats 4000000 in
set_option maxRecDepth 100000 in
theorem c_U_append (l : Launch) (g : GT) (sz : Nat) (w : Nat → Option va_E) (a sg fo n : Nat) (f : Nat → Int32) (v : Int32) (hu : w a = some (cU sg (nI n) fo)) (hs : w sg = some (cA g 300 f)) (hn : n ≤ 300) : Met l y_U_append (.code y_U_append b_U_append 3 ((some .boolean)) :: GW) ({ frames := 0, cells := 0, slots := 0, locals := 0 }) (prW g sz [.ref a, .int v] w) (qI g sz w (fun r w1 => (okS v = true ∧ n < 300 ∧ r = 1 ∧ w1 = va_up (va_up w sg (some (cA g 300 (upd f n v)))) a (some (cU sg (nI (n + 1)) fo))) ∨ ((okS v = false ∨ n = 300) ∧ r = 0 ∧ w1 = w))) 0 0 (gA w sz) := by
  refine Met.ofW (cc := b_U_append) (maxL := 3) (ret := (some .boolean)) (by decide) rfl ?_
  intro p e s m args below meth c s₁ B hml hv
  obtain ⟨rfl, hsz, hG, hw0⟩ := hv
  have hx := B.exec
  have hb := B.bytes
  have hr := B.returns
  have hts : ∀ w ∈ GW, w.before _ s = true := fun w h => atoms_spec (ws := .code y_U_append b_U_append 3 ((some .boolean)) :: GW) B.pre w (List.mem_cons_of_mem _ h)
  have hown : s.vm.findClass "DangerTables$RuleText" = some m.cls := findClass_of_methodNamed B.named
  have hlocks := B.notSynchronized
  have hf := hG.here
  have hK := hf.1
  subst hsz
  have hw := hw0.self s.heap.size
  have hAB : ∀ q, gA w s.heap.size q → gB g q := fun q h => h.elim (fun z => z.elim (fun _ he => hw0.inA he)) (fun h => Nat.le_trans hG.1 h)
  have hA : ∀ q, s.heap.size ≤ q → gA w s.heap.size q := fun q h => Or.inr h
  have hS : va_S (gA w s.heap.size) s.heap s.heap [] := va_S.rf
  have hl := lv_entry ([.ref a, .int v]) (n := 3) (Nat.le_of_ble_eq_true rfl)
  rw [lg_entry_eq]
  generalize (lg_sl ([.ref a, .int v]) ++ List.replicate (3 - (lg_sl ([.ref a, .int v])).length) Slot.unset).toArray = ls at hl ⊢
  have hl : lv_has ls 3 [(0, .ref a), (1, .int v)] := hl
  refine lv_iload_n hx hb d_U_append_0 rfl (lv_at hl 1 rfl) ?_
  refine lv_bipush (v := 48) hx hb d_U_append_1 (by decide) ?_
  refine lv_icmp_lt (tgt := 12) hx hb d_U_append_3 (by decide) (fun c_1 => ?_) (fun c_1 => ?_)
  · refine lv_iload_n hx hb d_U_append_12 rfl (lv_at hl 1 rfl) ?_
    refine lv_bipush (v := 59) hx hb d_U_append_13 (by decide) ?_
    refine lv_icmp_ne (tgt := 22) hx hb d_U_append_15 (by decide) (fun c_2 => ?_) (fun c_2 => ?_)
    · refine lv_iconst (v := 0) hx hb d_U_append_22 (by decide) ?_
      refine lv_istore_n (lv' := [(2, .int 0), (0, .ref a), (1, .int v)]) hx hb d_U_append_23 rfl hl (by decide) rfl (fun ls hl => ?_)
      refine lv_iload_n hx hb d_U_append_24 rfl (lv_at hl 0 rfl) ?_
      refine lv_if_eq (tgt := 38) hx hb d_U_append_25 (by decide) (fun _ => ?_) (fun z => absurd z (by decide))
      refine lv_iconst (v := 0) hx hb d_U_append_38 (by decide) ?_
      exact W.zret (v := 0) (ty := .boolean) hx hb hr rfl (fun t ht hW => ⟨⟨0, w, rfl, Or.inr ⟨Or.inl (okS_c c_1 c_2), rfl, rfl⟩, ww_t ht hw⟩, hS.F ht⟩) hS.2.2 d_U_append_39
    · refine lv_iconst (v := 1) hx hb d_U_append_18 (by decide) ?_
      refine lv_goto (tgt := 23) hx hb d_U_append_19 (by decide) ?_
      refine lv_istore_n (lv' := [(2, .int 1), (0, .ref a), (1, .int v)]) hx hb d_U_append_23 rfl hl (by decide) rfl (fun ls hl => ?_)
      refine lv_iload_n hx hb d_U_append_24 rfl (lv_at hl 0 rfl) ?_
      refine lv_if_eq (tgt := 38) hx hb d_U_append_25 (by decide) (fun z => absurd z (by decide)) (fun _ => ?_)
      refine lv_aload_n hx hb d_U_append_28 rfl (lv_at hl 1 rfl) ?_
      refine ww_get (v := .int (nI n)) (C := R_U) (T := F_U) (N := 3) (ci := 4) hx hb hts i_U hown hK hw hu rfl 1 (by decide) (hts _ k_37) (fun _ h9 => h9) rfl d_U_append_29 ?_
      refine lv_sipush (v := 300) hx hb d_U_append_32 (by decide) ?_
      refine lv_icmp_lt (tgt := 40) hx hb d_U_append_35 (by decide) (fun c_5 => ?_) (fun c_5 => ?_)
      · have hlt : n < 300 := (nI_ltI (by omega) (b := 300) (by decide)).mp c_5
        refine lv_aload_n hx hb d_U_append_40 rfl (lv_at hl 1 rfl) ?_
        refine ww_get (v := .ref sg) (C := R_U) (T := F_U) (N := 3) (ci := 4) hx hb hts i_U hown hK hw hu rfl 0 (by decide) (hts _ k_36) (fun _ h9 => h9) rfl d_U_append_41 ?_
        refine lv_aload_n hx hb d_U_append_44 rfl (lv_at hl 1 rfl) ?_
        refine ww_get (v := .int (nI n)) (C := R_U) (T := F_U) (N := 3) (ci := 4) hx hb hts i_U hown hK hw hu rfl 1 (by decide) (hts _ k_37) (fun _ h9 => h9) rfl d_U_append_45 ?_
        refine lv_iload_n hx hb d_U_append_48 rfl (lv_at hl 2 rfl) ?_
        refine ww_iast hx hb hK hw hS 0 hs rfl (vp_in_nI (by omega) (by decide)) d_U_append_49 (fun H locs hw hS => ?_)
        rw [nI_clamp (show n < 2 ^ 31 by omega)] at hw
        obtain ⟨w_6, ew_6⟩ : ∃ zz9 : Nat → Option va_E, zz9 = va_up w sg (some (cA g 300 (upd f n v))) := ⟨_, rfl⟩
        rw [← ew_6] at hw
        have h6_a : w_6 a = some (.inr (4, [.ref sg, .int (nI n), .ref fo])) := by rw [ew_6, va_up_ne _ _ (ne_c hs hu (fun z => by first | cases z | simp at z))]; exact hu
        have h6_sg : w_6 sg = some (cA g 300 (upd f n v)) := by rw [ew_6]; exact va_up_self _ _ _
        refine lv_aload_n hx hb d_U_append_50 rfl (lv_at hl 1 rfl) ?_
        refine lv_dup hx hb d_U_append_51 rfl ?_
        refine ww_get (v := .int (nI n)) (C := R_U) (T := F_U) (N := 3) (ci := 4) hx hb hts i_U hown hK hw h6_a rfl 1 (by decide) (hts _ k_37) (fun _ h9 => h9) rfl d_U_append_52 ?_
        refine lv_iconst (v := 1) hx hb d_U_append_55 (by decide) ?_
        refine lv_iadd hx hb d_U_append_56 ?_
        refine lv_topi (fun v_7 e_7 => ?_)
        obtain rfl : v_7 = nI (n + 1) := by rw [e_7]; exact nI_add n 1
        refine ww_put (v := .int (nI (n + 1))) (ty := .int) (C := R_U) (T := F_U) (N := 3) (ci := 4) (fs' := [.ref sg, .int (nI (n + 1)), .ref fo]) hx hb hts i_U ft_U ft_U_ok fn_U hown hK hw hS h6_a rfl 1 (by decide) (hts _ k_37) (fun _ h9 => h9) rfl (by decide +kernel) rfl rfl (Nat.le_of_ble_eq_true rfl) rfl d_U_append_57 (fun H locs hw hS => ?_)
        obtain ⟨w_8, ew_8⟩ : ∃ zz9 : Nat → Option va_E, zz9 = va_up w_6 a (some (.inr (4, [.ref sg, .int (nI (n + 1)), .ref fo]))) := ⟨_, rfl⟩
        rw [← ew_8] at hw
        have h8_sg : w_8 sg = some (cA g 300 (upd f n v)) := by rw [ew_8, va_up_ne _ _ (ne_c h6_a h6_sg (fun z => by first | cases z | simp at z))]; exact h6_sg
        have h8_a : w_8 a = some (.inr (4, [.ref sg, .int (nI (n + 1)), .ref fo])) := by rw [ew_8]; exact va_up_self _ _ _
        refine lv_iconst (v := 1) hx hb d_U_append_60 (by decide) ?_
        exact W.zret (v := 1) (ty := .boolean) hx hb hr rfl (fun t ht hW => ⟨⟨1, w_8, rfl, Or.inl ⟨okS_b c_2, hlt, rfl, by rw [ew_8, ew_6]⟩, ww_t ht hw⟩, hS.F ht⟩) hS.2.2 d_U_append_61
      · have hge : n = 300 := by
            rcases Nat.lt_or_ge n 300 with h | h
            · exact absurd (nI_lt h (by decide)) c_5
            · omega
        refine lv_iconst (v := 0) hx hb d_U_append_38 (by decide) ?_
        exact W.zret (v := 0) (ty := .boolean) hx hb hr rfl (fun t ht hW => ⟨⟨0, w, rfl, Or.inr ⟨Or.inr hge, rfl, rfl⟩, ww_t ht hw⟩, hS.F ht⟩) hS.2.2 d_U_append_39
  · refine lv_iload_n hx hb d_U_append_6 rfl (lv_at hl 1 rfl) ?_
    refine lv_bipush (v := 57) hx hb d_U_append_7 (by decide) ?_
    refine lv_icmp_le (tgt := 18) hx hb d_U_append_9 (by decide) (fun c_9 => ?_) (fun c_9 => ?_)
    · refine lv_iconst (v := 1) hx hb d_U_append_18 (by decide) ?_
      refine lv_goto (tgt := 23) hx hb d_U_append_19 (by decide) ?_
      refine lv_istore_n (lv' := [(2, .int 1), (0, .ref a), (1, .int v)]) hx hb d_U_append_23 rfl hl (by decide) rfl (fun ls hl => ?_)
      refine lv_iload_n hx hb d_U_append_24 rfl (lv_at hl 0 rfl) ?_
      refine lv_if_eq (tgt := 38) hx hb d_U_append_25 (by decide) (fun z => absurd z (by decide)) (fun _ => ?_)
      refine lv_aload_n hx hb d_U_append_28 rfl (lv_at hl 1 rfl) ?_
      refine ww_get (v := .int (nI n)) (C := R_U) (T := F_U) (N := 3) (ci := 4) hx hb hts i_U hown hK hw hu rfl 1 (by decide) (hts _ k_37) (fun _ h9 => h9) rfl d_U_append_29 ?_
      refine lv_sipush (v := 300) hx hb d_U_append_32 (by decide) ?_
      refine lv_icmp_lt (tgt := 40) hx hb d_U_append_35 (by decide) (fun c_11 => ?_) (fun c_11 => ?_)
      · have hlt : n < 300 := (nI_ltI (by omega) (b := 300) (by decide)).mp c_11
        refine lv_aload_n hx hb d_U_append_40 rfl (lv_at hl 1 rfl) ?_
        refine ww_get (v := .ref sg) (C := R_U) (T := F_U) (N := 3) (ci := 4) hx hb hts i_U hown hK hw hu rfl 0 (by decide) (hts _ k_36) (fun _ h9 => h9) rfl d_U_append_41 ?_
        refine lv_aload_n hx hb d_U_append_44 rfl (lv_at hl 1 rfl) ?_
        refine ww_get (v := .int (nI n)) (C := R_U) (T := F_U) (N := 3) (ci := 4) hx hb hts i_U hown hK hw hu rfl 1 (by decide) (hts _ k_37) (fun _ h9 => h9) rfl d_U_append_45 ?_
        refine lv_iload_n hx hb d_U_append_48 rfl (lv_at hl 2 rfl) ?_
        refine ww_iast hx hb hK hw hS 0 hs rfl (vp_in_nI (by omega) (by decide)) d_U_append_49 (fun H locs hw hS => ?_)
        rw [nI_clamp (show n < 2 ^ 31 by omega)] at hw
        obtain ⟨w_12, ew_12⟩ : ∃ zz9 : Nat → Option va_E, zz9 = va_up w sg (some (cA g 300 (upd f n v))) := ⟨_, rfl⟩
        rw [← ew_12] at hw
        have h12_a : w_12 a = some (.inr (4, [.ref sg, .int (nI n), .ref fo])) := by rw [ew_12, va_up_ne _ _ (ne_c hs hu (fun z => by first | cases z | simp at z))]; exact hu
        have h12_sg : w_12 sg = some (cA g 300 (upd f n v)) := by rw [ew_12]; exact va_up_self _ _ _
        refine lv_aload_n hx hb d_U_append_50 rfl (lv_at hl 1 rfl) ?_
        refine lv_dup hx hb d_U_append_51 rfl ?_
        refine ww_get (v := .int (nI n)) (C := R_U) (T := F_U) (N := 3) (ci := 4) hx hb hts i_U hown hK hw h12_a rfl 1 (by decide) (hts _ k_37) (fun _ h9 => h9) rfl d_U_append_52 ?_
        refine lv_iconst (v := 1) hx hb d_U_append_55 (by decide) ?_
        refine lv_iadd hx hb d_U_append_56 ?_
        refine lv_topi (fun v_13 e_13 => ?_)
        obtain rfl : v_13 = nI (n + 1) := by rw [e_13]; exact nI_add n 1
        refine ww_put (v := .int (nI (n + 1))) (ty := .int) (C := R_U) (T := F_U) (N := 3) (ci := 4) (fs' := [.ref sg, .int (nI (n + 1)), .ref fo]) hx hb hts i_U ft_U ft_U_ok fn_U hown hK hw hS h12_a rfl 1 (by decide) (hts _ k_37) (fun _ h9 => h9) rfl (by decide +kernel) rfl rfl (Nat.le_of_ble_eq_true rfl) rfl d_U_append_57 (fun H locs hw hS => ?_)
        obtain ⟨w_14, ew_14⟩ : ∃ zz9 : Nat → Option va_E, zz9 = va_up w_12 a (some (.inr (4, [.ref sg, .int (nI (n + 1)), .ref fo]))) := ⟨_, rfl⟩
        rw [← ew_14] at hw
        have h14_sg : w_14 sg = some (cA g 300 (upd f n v)) := by rw [ew_14, va_up_ne _ _ (ne_c h12_a h12_sg (fun z => by first | cases z | simp at z))]; exact h12_sg
        have h14_a : w_14 a = some (.inr (4, [.ref sg, .int (nI (n + 1)), .ref fo])) := by rw [ew_14]; exact va_up_self _ _ _
        refine lv_iconst (v := 1) hx hb d_U_append_60 (by decide) ?_
        exact W.zret (v := 1) (ty := .boolean) hx hb hr rfl (fun t ht hW => ⟨⟨1, w_14, rfl, Or.inl ⟨okS_a c_1 c_9, hlt, rfl, by rw [ew_14, ew_12]⟩, ww_t ht hw⟩, hS.F ht⟩) hS.2.2 d_U_append_61
      · have hge : n = 300 := by
            rcases Nat.lt_or_ge n 300 with h | h
            · exact absurd (nI_lt h (by decide)) c_11
            · omega
        refine lv_iconst (v := 0) hx hb d_U_append_38 (by decide) ?_
        exact W.zret (v := 0) (ty := .boolean) hx hb hr rfl (fun t ht hW => ⟨⟨0, w, rfl, Or.inr ⟨Or.inr hge, rfl, rfl⟩, ww_t ht hw⟩, hS.F ht⟩) hS.2.2 d_U_append_39
    · refine lv_iload_n hx hb d_U_append_12 rfl (lv_at hl 1 rfl) ?_
      refine lv_bipush (v := 59) hx hb d_U_append_13 (by decide) ?_
      refine lv_icmp_ne (tgt := 22) hx hb d_U_append_15 (by decide) (fun c_15 => ?_) (fun c_15 => ?_)
      · refine lv_iconst (v := 0) hx hb d_U_append_22 (by decide) ?_
        refine lv_istore_n (lv' := [(2, .int 0), (0, .ref a), (1, .int v)]) hx hb d_U_append_23 rfl hl (by decide) rfl (fun ls hl => ?_)
        refine lv_iload_n hx hb d_U_append_24 rfl (lv_at hl 0 rfl) ?_
        refine lv_if_eq (tgt := 38) hx hb d_U_append_25 (by decide) (fun _ => ?_) (fun z => absurd z (by decide))
        refine lv_iconst (v := 0) hx hb d_U_append_38 (by decide) ?_
        exact W.zret (v := 0) (ty := .boolean) hx hb hr rfl (fun t ht hW => ⟨⟨0, w, rfl, Or.inr ⟨Or.inl (okS_d c_9 c_15), rfl, rfl⟩, ww_t ht hw⟩, hS.F ht⟩) hS.2.2 d_U_append_39
      · refine lv_iconst (v := 1) hx hb d_U_append_18 (by decide) ?_
        refine lv_goto (tgt := 23) hx hb d_U_append_19 (by decide) ?_
        refine lv_istore_n (lv' := [(2, .int 1), (0, .ref a), (1, .int v)]) hx hb d_U_append_23 rfl hl (by decide) rfl (fun ls hl => ?_)
        refine lv_iload_n hx hb d_U_append_24 rfl (lv_at hl 0 rfl) ?_
        refine lv_if_eq (tgt := 38) hx hb d_U_append_25 (by decide) (fun z => absurd z (by decide)) (fun _ => ?_)
        refine lv_aload_n hx hb d_U_append_28 rfl (lv_at hl 1 rfl) ?_
        refine ww_get (v := .int (nI n)) (C := R_U) (T := F_U) (N := 3) (ci := 4) hx hb hts i_U hown hK hw hu rfl 1 (by decide) (hts _ k_37) (fun _ h9 => h9) rfl d_U_append_29 ?_
        refine lv_sipush (v := 300) hx hb d_U_append_32 (by decide) ?_
        refine lv_icmp_lt (tgt := 40) hx hb d_U_append_35 (by decide) (fun c_18 => ?_) (fun c_18 => ?_)
        · have hlt : n < 300 := (nI_ltI (by omega) (b := 300) (by decide)).mp c_18
          refine lv_aload_n hx hb d_U_append_40 rfl (lv_at hl 1 rfl) ?_
          refine ww_get (v := .ref sg) (C := R_U) (T := F_U) (N := 3) (ci := 4) hx hb hts i_U hown hK hw hu rfl 0 (by decide) (hts _ k_36) (fun _ h9 => h9) rfl d_U_append_41 ?_
          refine lv_aload_n hx hb d_U_append_44 rfl (lv_at hl 1 rfl) ?_
          refine ww_get (v := .int (nI n)) (C := R_U) (T := F_U) (N := 3) (ci := 4) hx hb hts i_U hown hK hw hu rfl 1 (by decide) (hts _ k_37) (fun _ h9 => h9) rfl d_U_append_45 ?_
          refine lv_iload_n hx hb d_U_append_48 rfl (lv_at hl 2 rfl) ?_
          refine ww_iast hx hb hK hw hS 0 hs rfl (vp_in_nI (by omega) (by decide)) d_U_append_49 (fun H locs hw hS => ?_)
          rw [nI_clamp (show n < 2 ^ 31 by omega)] at hw
          obtain ⟨w_19, ew_19⟩ : ∃ zz9 : Nat → Option va_E, zz9 = va_up w sg (some (cA g 300 (upd f n v))) := ⟨_, rfl⟩
          rw [← ew_19] at hw
          have h19_a : w_19 a = some (.inr (4, [.ref sg, .int (nI n), .ref fo])) := by rw [ew_19, va_up_ne _ _ (ne_c hs hu (fun z => by first | cases z | simp at z))]; exact hu
          have h19_sg : w_19 sg = some (cA g 300 (upd f n v)) := by rw [ew_19]; exact va_up_self _ _ _
          refine lv_aload_n hx hb d_U_append_50 rfl (lv_at hl 1 rfl) ?_
          refine lv_dup hx hb d_U_append_51 rfl ?_
          refine ww_get (v := .int (nI n)) (C := R_U) (T := F_U) (N := 3) (ci := 4) hx hb hts i_U hown hK hw h19_a rfl 1 (by decide) (hts _ k_37) (fun _ h9 => h9) rfl d_U_append_52 ?_
          refine lv_iconst (v := 1) hx hb d_U_append_55 (by decide) ?_
          refine lv_iadd hx hb d_U_append_56 ?_
          refine lv_topi (fun v_20 e_20 => ?_)
          obtain rfl : v_20 = nI (n + 1) := by rw [e_20]; exact nI_add n 1
          refine ww_put (v := .int (nI (n + 1))) (ty := .int) (C := R_U) (T := F_U) (N := 3) (ci := 4) (fs' := [.ref sg, .int (nI (n + 1)), .ref fo]) hx hb hts i_U ft_U ft_U_ok fn_U hown hK hw hS h19_a rfl 1 (by decide) (hts _ k_37) (fun _ h9 => h9) rfl (by decide +kernel) rfl rfl (Nat.le_of_ble_eq_true rfl) rfl d_U_append_57 (fun H locs hw hS => ?_)
          obtain ⟨w_21, ew_21⟩ : ∃ zz9 : Nat → Option va_E, zz9 = va_up w_19 a (some (.inr (4, [.ref sg, .int (nI (n + 1)), .ref fo]))) := ⟨_, rfl⟩
          rw [← ew_21] at hw
          have h21_sg : w_21 sg = some (cA g 300 (upd f n v)) := by rw [ew_21, va_up_ne _ _ (ne_c h19_a h19_sg (fun z => by first | cases z | simp at z))]; exact h19_sg
          have h21_a : w_21 a = some (.inr (4, [.ref sg, .int (nI (n + 1)), .ref fo])) := by rw [ew_21]; exact va_up_self _ _ _
          refine lv_iconst (v := 1) hx hb d_U_append_60 (by decide) ?_
          exact W.zret (v := 1) (ty := .boolean) hx hb hr rfl (fun t ht hW => ⟨⟨1, w_21, rfl, Or.inl ⟨okS_b c_15, hlt, rfl, by rw [ew_21, ew_19]⟩, ww_t ht hw⟩, hS.F ht⟩) hS.2.2 d_U_append_61
        · have hge : n = 300 := by
            rcases Nat.lt_or_ge n 300 with h | h
            · exact absurd (nI_lt h (by decide)) c_18
            · omega
          refine lv_iconst (v := 0) hx hb d_U_append_38 (by decide) ?_
          exact W.zret (v := 0) (ty := .boolean) hx hb hr rfl (fun t ht hW => ⟨⟨0, w, rfl, Or.inr ⟨Or.inr hge, rfl, rfl⟩, ww_t ht hw⟩, hS.F ht⟩) hS.2.2 d_U_append_39

set_option maxHeartbeats 4000000 in
set_option maxRecDepth 100000 in
theorem c_U_copyRulesTo (l : Launch) (g : GT) (sz : Nat) (w : Nat → Option va_E) (a sg fo ru : Nat) (n0 : Int32) (ff rf : Nat → Int32) (hu : w a = some (cU sg n0 fo)) (hf0 : w fo = some (cA g 45 ff)) (hru : w ru = some (cA g 45 rf)) (hne : fo ≠ ru) : Met l y_U_copyRulesTo (.code y_U_copyRulesTo b_U_copyRulesTo 2 (none) :: GW) ({ frames := 1, cells := 0, slots := 0, locals := 23 }) (prW g sz [.ref a, .ref ru] w) (qV g sz w (fun w1 => w1 = va_up w ru (some (cA g 45 (va_cpy ff rf 0 0 45))))) 0 0 (gA w sz) := by
  refine Met.ofW (cc := b_U_copyRulesTo) (maxL := 2) (ret := none) (by decide) rfl ?_
  intro p e s m args below meth c s₁ B hml hv
  obtain ⟨rfl, hsz, hG, hw0⟩ := hv
  have hx := B.exec
  have hb := B.bytes
  have hr := B.returns
  have hts : ∀ w ∈ GW, w.before _ s = true := fun w h => atoms_spec (ws := .code y_U_copyRulesTo b_U_copyRulesTo 2 (none) :: GW) B.pre w (List.mem_cons_of_mem _ h)
  have hown : s.vm.findClass "DangerTables$RuleText" = some m.cls := findClass_of_methodNamed B.named
  have hlocks := B.notSynchronized
  have hf := hG.here
  have hK := hf.1
  subst hsz
  have hw := hw0.self s.heap.size
  have hAB : ∀ q, gA w s.heap.size q → gB g q := fun q h => h.elim (fun z => z.elim (fun _ he => hw0.inA he)) (fun h => Nat.le_trans hG.1 h)
  have hA : ∀ q, s.heap.size ≤ q → gA w s.heap.size q := fun q h => Or.inr h
  have hS : va_S (gA w s.heap.size) s.heap s.heap [] := va_S.rf
  have hl := lv_entry ([.ref a, .ref ru]) (n := 2) (Nat.le_of_ble_eq_true rfl)
  rw [lg_entry_eq]
  generalize (lg_sl ([.ref a, .ref ru]) ++ List.replicate (2 - (lg_sl ([.ref a, .ref ru])).length) Slot.unset).toArray = ls at hl ⊢
  have hl : lv_has ls 2 [(0, .ref a), (1, .ref ru)] := hl
  refine lv_aload_n hx hb d_U_copyRulesTo_0 rfl (lv_at hl 0 rfl) ?_
  refine ww_get (v := .ref fo) (C := R_U) (T := F_U) (N := 3) (ci := 4) hx hb hts i_U hown hK hw hu rfl 2 (by decide) (hts _ k_39) (fun _ h9 => h9) rfl d_U_copyRulesTo_1 ?_
  refine lv_iconst (v := 0) hx hb d_U_copyRulesTo_4 (by decide) ?_
  refine lv_aload_n hx hb d_U_copyRulesTo_5 rfl (lv_at hl 1 rfl) ?_
  refine lv_iconst (v := 0) hx hb d_U_copyRulesTo_6 (by decide) ?_
  refine lv_bipush (v := 45) hx hb d_U_copyRulesTo_7 (by decide) ?_
  refine ww_copyi (ty := .int) hx hb (hml.trans hl.1.symm) hown (hts _ k_138) (hts _ k_140) (hts _ k_139) (hts _ k_8) hK hw hS 0 0 hf0 hru rfl rfl rfl (by decide) (by decide) (by decide) (by decide) (by decide) (fun _ _ => rfl) (Nat.le_of_ble_eq_true rfl) (Nat.le_of_ble_eq_true rfl) d_U_copyRulesTo_9 (fun H locs hw hS => ?_)
  rw [show (0 : Int32).toNatClampNeg = 0 from rfl, show (45 : Int32).toNatClampNeg = 45 from rfl] at hw
  obtain ⟨w_1, ew_1⟩ : ∃ zz9 : Nat → Option va_E, zz9 = va_up w ru (some (cA g 45 (va_cpy ff rf 0 0 45))) := ⟨_, rfl⟩
  rw [← ew_1] at hw
  have h1_a : w_1 a = some (.inr (4, [.ref sg, .int n0, .ref fo])) := by rw [ew_1, va_up_ne _ _ (ne_c hru hu (fun z => by first | cases z | simp at z))]; exact hu
  have h1_fo : w_1 fo = some (cA g 45 ff) := by rw [ew_1, va_up_ne _ _ hne]; exact hf0
  have h1_ru : w_1 ru = some (cA g 45 (va_cpy ff rf 0 0 45)) := by rw [ew_1]; exact va_up_self _ _ _
  exact W.vret hx hb hr (fun t ht hW => ⟨⟨w_1, rfl, ew_1, ww_t ht hw⟩, hS.F ht⟩) hS.2.2 d_U_copyRulesTo_12

set_option maxHeartbeats 4000000 in
set_option maxRecDepth 100000 in
theorem c_AR_fill (l : Launch) (g : GT) (sz : Nat) (w : Nat → Option va_E) (a N : Nat) (f : Nat → Int32) (v : Int32) (ha : w a = some (cA g N f)) (hN : N ≤ 400) : Met l y_AR_fill (.code y_AR_fill b_AR_fill 4 (none) :: GW) ({ frames := 0, cells := 0, slots := 0, locals := 0 }) (prW g sz [.ref a, .int v] w) (qV g sz w (fun w1 => ∃ f1 : Nat → Int32, (∀ j : Nat, j < N → f1 j = v) ∧ w1 = va_up w a (some (cA g N f1)))) 0 0 (gA w sz) := by
  refine Met.ofW (cc := b_AR_fill) (maxL := 4) (ret := none) (by decide) rfl ?_
  intro p e s m args below meth c s₁ B hml hv
  obtain ⟨rfl, hsz, hG, hw0⟩ := hv
  have hx := B.exec
  have hb := B.bytes
  have hr := B.returns
  have hts : ∀ w ∈ GW, w.before _ s = true := fun w h => atoms_spec (ws := .code y_AR_fill b_AR_fill 4 (none) :: GW) B.pre w (List.mem_cons_of_mem _ h)
  have hown : s.vm.findClass "java/util/Arrays" = some m.cls := findClass_of_methodNamed B.named
  have hlocks := B.notSynchronized
  have hf := hG.here
  have hK := hf.1
  subst hsz
  have hw := hw0.self s.heap.size
  have hAB : ∀ q, gA w s.heap.size q → gB g q := fun q h => h.elim (fun z => z.elim (fun _ he => hw0.inA he)) (fun h => Nat.le_trans hG.1 h)
  have hA : ∀ q, s.heap.size ≤ q → gA w s.heap.size q := fun q h => Or.inr h
  have hS : va_S (gA w s.heap.size) s.heap s.heap [] := va_S.rf
  have hl := lv_entry ([.ref a, .int v]) (n := 4) (Nat.le_of_ble_eq_true rfl)
  rw [lg_entry_eq]
  generalize (lg_sl ([.ref a, .int v]) ++ List.replicate (4 - (lg_sl ([.ref a, .int v])).length) Slot.unset).toArray = ls at hl ⊢
  have hl : lv_has ls 4 [(0, .ref a), (1, .int v)] := hl
  refine lv_iconst (v := 0) hx hb d_AR_fill_0 (by decide) ?_
  refine lv_istore_n (lv' := [(2, .int 0), (0, .ref a), (1, .int v)]) hx hb d_AR_fill_1 rfl hl (by decide) rfl (fun ls hl => ?_)
  refine lv_aload_n hx hb d_AR_fill_2 rfl (lv_at hl 1 rfl) ?_
  refine ww_alen (v := nI N) hx hb hK hw 0 ha rfl rfl d_AR_fill_3 ?_
  refine lv_istore_n (lv' := [(3, .int (nI N)), (2, .int 0), (0, .ref a), (1, .int v)]) hx hb d_AR_fill_4 rfl hl (by decide) rfl (fun ls hl => ?_)
  have loop_5 : ∀ (k i : Nat) (w2 : Nat → Option va_E) (f2 : Nat → Int32) (H : Heap) (locs : List Loc) (ls : Array Slot), i ≤ N → N < i + k → ww g.1 vwCl (gA w s.heap.size) w2 H ∧ va_S (gA w s.heap.size) s.heap H locs ∧ w2 = va_up w a (some (cA g N f2)) ∧ (∀ j : Nat, j < i → f2 j = v) → lv_has ls 4 [(0, .ref a), (1, .int v), (2, .int (nI i)), (3, .int (nI N))] → W p l e (headSpec (.code y_AR_fill b_AR_fill 4 (none) :: GW) ({ frames := 0, cells := 0, slots := 0, locals := 0 })).room s m (#[.ref a, .int v] : Array Value) below meth c H locs 0 0 (MQ below (qV g s.heap.size w (fun w1 => ∃ f1 : Nat → Int32, (∀ j : Nat, j < N → f1 j = v) ∧ w1 = va_up w a (some (cA g N f1)))) (#[.ref a, .int v] : Array Value) s 0 0 (gA w s.heap.size)) (F0 m 5 ls []) := by
    intro k
    induction k with
    | zero =>
      intro i w2 f2 H locs ls h1_5 h2_5
      exact absurd h2_5 (by omega)
    | succ k ih_5 =>
      intro i w2 f2 H locs ls h1_5 h2_5 hI_5 hl
      obtain ⟨hw, hS, ew2, hfl⟩ := hI_5
      have ha2 : w2 a = some (cA g N f2) := by rw [ew2]; exact va_up_self _ _ _
      refine lv_iload_n hx hb d_AR_fill_5 rfl (lv_at hl 2 rfl) ?_
      refine lv_iload_n hx hb d_AR_fill_6 rfl (lv_at hl 3 rfl) ?_
      refine lv_icmp_ge (tgt := 20) hx hb d_AR_fill_7 (by decide) (fun c_1 => ?_) (fun c_1 => ?_)
      · have hge : N ≤ i := (nI_leI (by omega) (by omega)).mp c_1
        exact W.vret hx hb hr (fun t ht hW => ⟨⟨w2, rfl, ⟨f2, fun j hj => hfl j (by omega), ew2⟩, ww_t ht hw⟩, hS.F ht⟩) hS.2.2 d_AR_fill_20
      · have hlt : i < N := lp_lt rfl c_1 (by omega) (by omega)
        refine lv_aload_n hx hb d_AR_fill_10 rfl (lv_at hl 0 rfl) ?_
        refine lv_iload_n hx hb d_AR_fill_11 rfl (lv_at hl 2 rfl) ?_
        refine lv_iload_n hx hb d_AR_fill_12 rfl (lv_at hl 1 rfl) ?_
        refine ww_iast hx hb hK hw hS 0 ha2 rfl (vp_in_nI hlt (by omega)) d_AR_fill_13 (fun H locs hw hS => ?_)
        rw [nI_clamp (show i < 2 ^ 31 by omega)] at hw
        obtain ⟨w_2, ew_2⟩ : ∃ zz9 : Nat → Option va_E, zz9 = va_up w2 a (some (cA g N (upd f2 i v))) := ⟨_, rfl⟩
        rw [← ew_2] at hw
        have h2_a : w_2 a = some (cA g N (upd f2 i v)) := by rw [ew_2]; exact va_up_self _ _ _
        refine lv_iinc (v := (nI (i + 1))) (lv' := [(2, .int (nI (i + 1))), (0, .ref a), (1, .int v), (3, .int (nI N))]) hx hb d_AR_fill_14 hl (k := 2) rfl (nI_1 _) (by decide) rfl (fun ls hl => ?_)
        refine lv_goto (tgt := 5) hx hb d_AR_fill_17 (by decide) ?_
        exact ih_5 (i + 1) w_2 (upd f2 i v) H locs ls (by omega) (by omega) ⟨hw, hS, by rw [ew_2, ew2, bx_uu], fun j hj => lt2 (P := fun j => upd f2 i v j = v) hj pk_us (fun h => by rw [pk_un (by omega)]; exact hfl j h)⟩ (lv_sub hl [1, 2, 0, 3] rfl)
  exact loop_5 (N + 1) 0 w f s.heap [] ls (by omega) (by omega) ⟨hw, hS, (va_same ha).symm, fun j hj => absurd hj (Nat.not_lt_zero _)⟩ (lv_sub hl [2, 3, 1, 0] rfl)

