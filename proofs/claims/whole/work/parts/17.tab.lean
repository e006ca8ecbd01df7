/-! THE TABLE'S OWN METHODS THAT ONLY READ -/
section WWA
variable {p : Program} {l : Launch} {e : Env} {R : Room} {s : State} {m : MethodId} {args : Array Value} {below : List Frame} {meth : Method} {c : Code} {H : Heap} {locs : List Loc} {cells slots : Nat} {Q : State → Prop}
variable {cc : ByteArray} {pc : Nat} {ls : Array Slot} {rest : List Value} {D : va_G} {cl : List vw_C} {A : Nat → Prop} {a : Nat} {tys : List (ClassId × FieldType)} {w : Nat → Option va_E}
theorem ww_aldA (hexec : p.tables.exec = Jvm.exec) (hb : c.code = cc) (hK : va_K D cl tys s) (hw : ww D cl A w H) (t0 : Nat) {cA : ClassId} {t : FieldType} {n : Nat} {f : Nat → Option Nat} (ha : w a = some (.inl (cA, n, .inr (.inr (.inr (.inr f)))))) (ht : tys[t0]? = some (cA, .array t)) {i : Int32} (hin : vp_in i n) {v : Value} (hv : va_rf (f i.toNatClampNeg) = v) (hdg : decode cc pc = .ok (.aaload, 1))
    (kk : W p l e R s m args below meth c H locs cells slots Q (F0 m (pc + 1) ls (v :: rest))) : W p l e R s m args below meth c H locs cells slots Q (F0 m pc ls (.int i :: .ref a :: rest)) := by
  subst hv
  have hlt : i.toNatClampNeg < n := Nat.not_le.mp fun q => hin (Or.inr q)
  obtain ⟨hP, -⟩ := hw.one ha
  exact W.aald (v := va_rf (f i.toNatClampNeg)) (ty := .array t) hexec hb (hP 0 _ rfl) ((hK.2 t0 _ ht).1 n (fun j => va_rf (f j))) rfl (fun q => by cases q) (by show ¬ (i < 0 ∨ (arrV _ _ _).slots.size ≤ _); rw [arrV_size]; exact hin) (by show (arrV _ _ _).slots[_]? = _; rw [arrV_read _ _ hlt]) rfl rfl hdg kk
end WWA
def inL (v : Int32) (n : Nat) : Bool := !decide (v < 0) && !decide (nI n ≤ v)
def mxI (x y : Int32) : Int32 := if x < y then y else x
def mnI (x y : Int32) : Int32 := if y < x then y else x
theorem isCls_of {x : Int32} (h : isCls x = true) : ∃ k : Nat, k < 9 ∧ x = nI (k + 1) := by
  simp only [isCls, Bool.and_eq_true, Bool.not_eq_true', decide_eq_false_iff_not] at h
  obtain ⟨h1, h2⟩ := h
  rw [Int32.lt_iff_toInt_lt, show (1 : Int32).toInt = 1 from rfl] at h1
  rw [Int32.lt_iff_toInt_lt, show (9 : Int32).toInt = 9 from rfl] at h2
  obtain ⟨j, hj, rfl⟩ := nI_of (x := x) (by rw [Int32.lt_iff_toInt_lt, Int32.toInt_zero]; omega)
  rw [nI_toInt hj] at h1 h2
  exact ⟨j - 1, by omega, by rw [Nat.sub_add_cancel (by omega)]⟩
theorem cls_ne {x : Int32} (h : isCls x = true) : ¬ x = 0 := fun e => by rw [e] at h; exact absurd h (by decide)
theorem prI_tab : ∀ i : Nat, i < 9 → ∀ j : Nat, j < 9 → ∃ k : Nat, k < 45 ∧ prI (nI (i + 1)) (nI (j + 1)) = nI k := by decide
theorem prI_in {x y : Int32} (hx : isCls x = true) (hy : isCls y = true) : ∃ k : Nat, k < 45 ∧ prI x y = nI k := by
  obtain ⟨i, hi, rfl⟩ := isCls_of hx
  obtain ⟨j, hj, rfl⟩ := isCls_of hy
  exact prI_tab i hi j hj
def okC (x : Int32) : Prop := x = 0 ∨ isCls x = true
def okP (r : PR) : Prop := isCls r.1 = true ∧ okC r.2.1
def ruC (rf : Nat → Int32) (x1 x2 : Int64) (u v : Int32) : Int32 := if u = 0 then 0 else if v = 0 then 0 else if isEx x1 (prI u v) = true then 0 else if isEx x2 (prI u v) = true then 0 else rf (prI u v).toNatClampNeg
def ruQ (rf : Nat → Int32) (p q : PR) : Int32 := mxI (mxI (mxI (ruC rf p.2.2.2.2.1 q.2.2.2.2.1 p.1 q.1) (ruC rf p.2.2.2.2.1 q.2.2.2.2.1 p.1 q.2.1)) (ruC rf p.2.2.2.2.1 q.2.2.2.2.1 p.2.1 q.1)) (ruC rf p.2.2.2.2.1 q.2.2.2.2.1 p.2.1 q.2.1)
def ruP (rf : Nat → Int32) (p q : PR) : Int32 := if isLim p.2.2.2.2.2.2 p.2.2.1 = true then mnI (ruQ rf p q) 1 else if isLim q.2.2.2.2.2.2 q.2.2.1 = true then mnI (ruQ rf p q) 1 else ruQ rf p q
def ruF (rf : Nat → Int32) (p : PR) (a : Int32) (q : PR) : Int32 := mxI a (ruP rf p q)
def ruG (rf : Nat → Int32) (qs : List PR) (a : Int32) (p : PR) : Int32 := qs.foldl (ruF rf p) a
def ruB (rf : Nat → Int32) (ps qs : List PR) : Int32 := ps.foldl (ruG rf qs) 0
def isBs (g : GT) (w : Nat → Option va_E) (ba : List Nat) (bs : List BX) : Prop := ba.length = bs.length ∧ ∀ i a : Nat, ba[i]? = some a → ∃ b, bs[i]? = some b ∧ isBx g w a b
def kzF (z v : Int32) (a : Int32) (b : BX) : Int32 := if b.2.1 = z then a + kcB b.1 v else a
def kzB (bs : List BX) (z v : Int32) : Int32 := bs.foldl (kzF z v) 0
def lyF (a : Int32) (b : BX) : Int32 := if b.2.1 = -1 then a else a + 1
def lyB (bs : List BX) : Int32 := bs.foldl lyF 0
def tkP (z x y : Int32) (b : BX) : Bool := decide (b.2.1 = z) && decide (b.2.2.1 = x) && decide (b.2.2.2.1 = y)
def tkB (bs : List BX) (z x y : Int32) : Bool := bs.any (tkP z x y)
set_option maxHeartbeats 4000000 in
set_option maxRecDepth 100000 in
theorem c_T_isGood (l : Launch) (g : GT) (w : Nat → Option va_E) (th tx ru : Nat) (rd : Int32) (go bo zo : Nat) (arr : Nat) (xs : List Nat) (v : Int32) (ht : w th = some (cT tx ru rd go bo zo)) (hL : isL g w go arr xs) : Met l y_T_isGood (.code y_T_isGood b_T_isGood 2 ((some .boolean)) :: GW) ({ frames := 1, cells := 0, slots := 0, locals := 20 }) (prR g [.ref th, .int v] w) (vp_Si (fun r => r = b2 (inL v xs.length))) 0 0 (fun _ => False) := by
  refine Met.ofW (cc := b_T_isGood) (maxL := 2) (ret := (some .boolean)) (by decide) rfl ?_
  intro p e s m args below meth c s₁ B hml hv
  obtain ⟨rfl, hG, hw⟩ := hv
  have hx := B.exec
  have hb := B.bytes
  have hr := B.returns
  have hts : ∀ w ∈ GW, w.before _ s = true := fun w h => atoms_spec (ws := .code y_T_isGood b_T_isGood 2 ((some .boolean)) :: GW) B.pre w (List.mem_cons_of_mem _ h)
  have hown : s.vm.findClass "DangerTables" = some m.cls := findClass_of_methodNamed B.named
  have hlocks := B.notSynchronized
  have hf := hG.here
  have hK := hf.1
  have hAB : ∀ q, gB g q → gB g q := fun _ h => h
  have hS : va_S (gB g) s.heap s.heap [] := va_S.rf
  have hl := lv_entry ([.ref th, .int v]) (n := 2) (Nat.le_of_ble_eq_true rfl)
  rw [lg_entry_eq]
  generalize (lg_sl ([.ref th, .int v]) ++ List.replicate (2 - (lg_sl ([.ref th, .int v])).length) Slot.unset).toArray = ls at hl ⊢
  have hl : lv_has ls 2 [(0, .ref th), (1, .int v)] := hl
  obtain ⟨mc, cap, f, he, hcap, hc, hfi, hor⟩ := hL
  refine lv_iload_n hx hb d_T_isGood_0 rfl (lv_at hl 1 rfl) ?_
  refine lv_if_lt (tgt := 19) hx hb d_T_isGood_1 (by decide) (fun c_1 => ?_) (fun c_1 => ?_)
  · refine lv_iconst (v := 0) hx hb d_T_isGood_19 (by decide) ?_
    exact W.zret (v := 0) (ty := .boolean) hx hb hr rfl (fun t ht hW => ⟨0, rfl, (by first | (simp [b2, inL, c_1]; done) | (clear hts hown B; simp_all [b2, inL]; done)), ht⟩) t_nil d_T_isGood_20
  · refine lv_iload_n hx hb d_T_isGood_4 rfl (lv_at hl 1 rfl) ?_
    refine lv_aload_n hx hb d_T_isGood_5 rfl (lv_at hl 0 rfl) ?_
    refine ww_get (v := .ref go) (C := R_T) (T := F_T) (N := 6) (ci := 0) hx hb hts i_T hown hK hw ht rfl 3 (by decide) (hts _ k_83) (fun _ h9 => h9) rfl d_T_isGood_6 ?_
    refine wr_i (cV (As := []) (rest := [.int v]) (C := "java/util/ArrayList") 0 ⟨hx, hb, hml, hown, hts⟩ (c_AL_size l g w go arr mc (nI xs.length) he) k_152 k_149 k_6 k_150 k_151 (by decide +kernel) ⟨Nat.le_of_ble_eq_true rfl, Nat.le_of_ble_eq_true rfl⟩ rfl rfl ⟨prR_blind _ _ _, hw.recv hK he rfl, prR_at hG hAB hS hw⟩ rfl hl.1 rfl (Nat.le_of_ble_eq_true rfl) d_T_isGood_9 ⟨Nat.zero_le _, Nat.zero_le _⟩) (fun r_2 e_2 => ?_)
    refine lv_icmp_ge (tgt := 19) hx hb d_T_isGood_12 (by decide) (fun c_3 => ?_) (fun c_3 => ?_)
    · refine lv_iconst (v := 0) hx hb d_T_isGood_19 (by decide) ?_
      exact W.zret (v := 0) (ty := .boolean) hx hb hr rfl (fun t ht hW => ⟨0, rfl, (by first | (simp [b2, inL, c_1, e_2, c_3]; done) | (clear hts hown B; simp_all [b2, inL]; done)), ht⟩) t_nil d_T_isGood_20
    · refine lv_iconst (v := 1) hx hb d_T_isGood_15 (by decide) ?_
      refine lv_goto (tgt := 20) hx hb d_T_isGood_16 (by decide) ?_
      exact W.zret (v := 1) (ty := .boolean) hx hb hr rfl (fun t ht hW => ⟨1, rfl, (by first | (simp [b2, inL, c_1, e_2, c_3]; done) | (clear hts hown B; simp_all [b2, inL]; done)), ht⟩) t_nil d_T_isGood_20

set_option maxHeartbeats 4000000 in
set_option maxRecDepth 100000 in
theorem c_T_isBox (l : Launch) (g : GT) (w : Nat → Option va_E) (th tx ru : Nat) (rd : Int32) (go bo zo : Nat) (arr : Nat) (xs : List Nat) (v : Int32) (ht : w th = some (cT tx ru rd go bo zo)) (hL : isL g w bo arr xs) : Met l y_T_isBox (.code y_T_isBox b_T_isBox 2 ((some .boolean)) :: GW) ({ frames := 1, cells := 0, slots := 0, locals := 20 }) (prR g [.ref th, .int v] w) (vp_Si (fun r => r = b2 (inL v xs.length))) 0 0 (fun _ => False) := by
  refine Met.ofW (cc := b_T_isBox) (maxL := 2) (ret := (some .boolean)) (by decide) rfl ?_
  intro p e s m args below meth c s₁ B hml hv
  obtain ⟨rfl, hG, hw⟩ := hv
  have hx := B.exec
  have hb := B.bytes
  have hr := B.returns
  have hts : ∀ w ∈ GW, w.before _ s = true := fun w h => atoms_spec (ws := .code y_T_isBox b_T_isBox 2 ((some .boolean)) :: GW) B.pre w (List.mem_cons_of_mem _ h)
  have hown : s.vm.findClass "DangerTables" = some m.cls := findClass_of_methodNamed B.named
  have hlocks := B.notSynchronized
  have hf := hG.here
  have hK := hf.1
  have hAB : ∀ q, gB g q → gB g q := fun _ h => h
  have hS : va_S (gB g) s.heap s.heap [] := va_S.rf
  have hl := lv_entry ([.ref th, .int v]) (n := 2) (Nat.le_of_ble_eq_true rfl)
  rw [lg_entry_eq]
  generalize (lg_sl ([.ref th, .int v]) ++ List.replicate (2 - (lg_sl ([.ref th, .int v])).length) Slot.unset).toArray = ls at hl ⊢
  have hl : lv_has ls 2 [(0, .ref th), (1, .int v)] := hl
  obtain ⟨mc, cap, f, he, hcap, hc, hfi, hor⟩ := hL
  refine lv_iload_n hx hb d_T_isBox_0 rfl (lv_at hl 1 rfl) ?_
  refine lv_if_lt (tgt := 19) hx hb d_T_isBox_1 (by decide) (fun c_1 => ?_) (fun c_1 => ?_)
  · refine lv_iconst (v := 0) hx hb d_T_isBox_19 (by decide) ?_
    exact W.zret (v := 0) (ty := .boolean) hx hb hr rfl (fun t ht hW => ⟨0, rfl, (by first | (simp [b2, inL, c_1]; done) | (clear hts hown B; simp_all [b2, inL]; done)), ht⟩) t_nil d_T_isBox_20
  · refine lv_iload_n hx hb d_T_isBox_4 rfl (lv_at hl 1 rfl) ?_
    refine lv_aload_n hx hb d_T_isBox_5 rfl (lv_at hl 0 rfl) ?_
    refine ww_get (v := .ref bo) (C := R_T) (T := F_T) (N := 6) (ci := 0) hx hb hts i_T hown hK hw ht rfl 4 (by decide) (hts _ k_84) (fun _ h9 => h9) rfl d_T_isBox_6 ?_
    refine wr_i (cV (As := []) (rest := [.int v]) (C := "java/util/ArrayList") 0 ⟨hx, hb, hml, hown, hts⟩ (c_AL_size l g w bo arr mc (nI xs.length) he) k_152 k_149 k_6 k_150 k_151 (by decide +kernel) ⟨Nat.le_of_ble_eq_true rfl, Nat.le_of_ble_eq_true rfl⟩ rfl rfl ⟨prR_blind _ _ _, hw.recv hK he rfl, prR_at hG hAB hS hw⟩ rfl hl.1 rfl (Nat.le_of_ble_eq_true rfl) d_T_isBox_9 ⟨Nat.zero_le _, Nat.zero_le _⟩) (fun r_2 e_2 => ?_)
    refine lv_icmp_ge (tgt := 19) hx hb d_T_isBox_12 (by decide) (fun c_3 => ?_) (fun c_3 => ?_)
    · refine lv_iconst (v := 0) hx hb d_T_isBox_19 (by decide) ?_
      exact W.zret (v := 0) (ty := .boolean) hx hb hr rfl (fun t ht hW => ⟨0, rfl, (by first | (simp [b2, inL, c_1, e_2, c_3]; done) | (clear hts hown B; simp_all [b2, inL]; done)), ht⟩) t_nil d_T_isBox_20
    · refine lv_iconst (v := 1) hx hb d_T_isBox_15 (by decide) ?_
      refine lv_goto (tgt := 20) hx hb d_T_isBox_16 (by decide) ?_
      exact W.zret (v := 1) (ty := .boolean) hx hb hr rfl (fun t ht hW => ⟨1, rfl, (by first | (simp [b2, inL, c_1, e_2, c_3]; done) | (clear hts hown B; simp_all [b2, inL]; done)), ht⟩) t_nil d_T_isBox_20

set_option maxHeartbeats 4000000 in
set_option maxRecDepth 100000 in
theorem c_T_areTwoBoxes (l : Launch) (g : GT) (w : Nat → Option va_E) (th tx ru : Nat) (rd : Int32) (go bo zo : Nat) (arr : Nat) (xs : List Nat) (u v : Int32) (ht : w th = some (cT tx ru rd go bo zo)) (hL : isL g w bo arr xs) : Met l y_T_areTwoBoxes (.code y_T_areTwoBoxes b_T_areTwoBoxes 3 ((some .boolean)) :: GW) ({ frames := 2, cells := 0, slots := 0, locals := 41 }) (prR g [.ref th, .int u, .int v] w) (vp_Si (fun r => r = b2 (inL u xs.length && inL v xs.length && !decide (u = v)))) 0 0 (fun _ => False) := by
  refine Met.ofW (cc := b_T_areTwoBoxes) (maxL := 3) (ret := (some .boolean)) (by decide) rfl ?_
  intro p e s m args below meth c s₁ B hml hv
  obtain ⟨rfl, hG, hw⟩ := hv
  have hx := B.exec
  have hb := B.bytes
  have hr := B.returns
  have hts : ∀ w ∈ GW, w.before _ s = true := fun w h => atoms_spec (ws := .code y_T_areTwoBoxes b_T_areTwoBoxes 3 ((some .boolean)) :: GW) B.pre w (List.mem_cons_of_mem _ h)
  have hown : s.vm.findClass "DangerTables" = some m.cls := findClass_of_methodNamed B.named
  have hlocks := B.notSynchronized
  have hf := hG.here
  have hK := hf.1
  have hAB : ∀ q, gB g q → gB g q := fun _ h => h
  have hS : va_S (gB g) s.heap s.heap [] := va_S.rf
  have hl := lv_entry ([.ref th, .int u, .int v]) (n := 3) (Nat.le_of_ble_eq_true rfl)
  rw [lg_entry_eq]
  generalize (lg_sl ([.ref th, .int u, .int v]) ++ List.replicate (3 - (lg_sl ([.ref th, .int u, .int v])).length) Slot.unset).toArray = ls at hl ⊢
  have hl : lv_has ls 3 [(0, .ref th), (1, .int u), (2, .int v)] := hl
  refine lv_aload_n hx hb d_T_areTwoBoxes_0 rfl (lv_at hl 0 rfl) ?_
  refine lv_iload_n hx hb d_T_areTwoBoxes_1 rfl (lv_at hl 1 rfl) ?_
  refine wr_i (cV (As := [.int u]) (rest := []) (C := "DangerTables") 1 ⟨hx, hb, hml, hown, hts⟩ (c_T_isBox l g w th tx ru rd go bo zo arr xs u ht hL) k_192 k_189 k_1 k_191 kp_3 (by decide +kernel) ⟨Nat.le_of_ble_eq_true rfl, Nat.le_of_ble_eq_true rfl⟩ rfl rfl ⟨prR_blind _ _ _, hw.recv hK ht rfl, prR_at hG hAB hS hw⟩ rfl hl.1 rfl (Nat.le_of_ble_eq_true rfl) d_T_areTwoBoxes_2 ⟨Nat.zero_le _, Nat.zero_le _⟩) (fun r_1 e_1 => ?_)
  refine lv_if_eq (tgt := 25) hx hb d_T_areTwoBoxes_5 (by decide) (fun c_2 => ?_) (fun c_2 => ?_)
  · have q_2 := b2_f e_1 c_2
    refine lv_iconst (v := 0) hx hb d_T_areTwoBoxes_25 (by decide) ?_
    exact W.zret (v := 0) (ty := .boolean) hx hb hr rfl (fun t ht hW => ⟨0, rfl, (by first | (simp [b2, e_1, c_2, q_2]; done) | (clear hts hown B; simp_all [b2]; done)), ht⟩) t_nil d_T_areTwoBoxes_26
  · have q_2 := b2_t e_1 c_2
    refine lv_aload_n hx hb d_T_areTwoBoxes_8 rfl (lv_at hl 0 rfl) ?_
    refine lv_iload_n hx hb d_T_areTwoBoxes_9 rfl (lv_at hl 2 rfl) ?_
    refine wr_i (cV (As := [.int v]) (rest := []) (C := "DangerTables") 1 ⟨hx, hb, hml, hown, hts⟩ (c_T_isBox l g w th tx ru rd go bo zo arr xs v ht hL) k_192 k_189 k_1 k_191 kp_3 (by decide +kernel) ⟨Nat.le_of_ble_eq_true rfl, Nat.le_of_ble_eq_true rfl⟩ rfl rfl ⟨prR_blind _ _ _, hw.recv hK ht rfl, prR_at hG hAB hS hw⟩ rfl hl.1 rfl (Nat.le_of_ble_eq_true rfl) d_T_areTwoBoxes_10 ⟨Nat.zero_le _, Nat.zero_le _⟩) (fun r_3 e_3 => ?_)
    refine lv_if_eq (tgt := 25) hx hb d_T_areTwoBoxes_13 (by decide) (fun c_4 => ?_) (fun c_4 => ?_)
    · have q_4 := b2_f e_3 c_4
      refine lv_iconst (v := 0) hx hb d_T_areTwoBoxes_25 (by decide) ?_
      exact W.zret (v := 0) (ty := .boolean) hx hb hr rfl (fun t ht hW => ⟨0, rfl, (by first | (simp [b2, e_1, c_2, q_2, e_3, c_4, q_4]; done) | (clear hts hown B; simp_all [b2]; done)), ht⟩) t_nil d_T_areTwoBoxes_26
    · have q_4 := b2_t e_3 c_4
      refine lv_iload_n hx hb d_T_areTwoBoxes_16 rfl (lv_at hl 1 rfl) ?_
      refine lv_iload_n hx hb d_T_areTwoBoxes_17 rfl (lv_at hl 2 rfl) ?_
      refine lv_icmp_eq (tgt := 25) hx hb d_T_areTwoBoxes_18 (by decide) (fun c_5 => ?_) (fun c_5 => ?_)
      · refine lv_iconst (v := 0) hx hb d_T_areTwoBoxes_25 (by decide) ?_
        exact W.zret (v := 0) (ty := .boolean) hx hb hr rfl (fun t ht hW => ⟨0, rfl, (by first | (simp [b2, e_1, c_2, q_2, e_3, c_4, q_4, c_5]; done) | (clear hts hown B; simp_all [b2]; done)), ht⟩) t_nil d_T_areTwoBoxes_26
      · refine lv_iconst (v := 1) hx hb d_T_areTwoBoxes_21 (by decide) ?_
        refine lv_goto (tgt := 26) hx hb d_T_areTwoBoxes_22 (by decide) ?_
        exact W.zret (v := 1) (ty := .boolean) hx hb hr rfl (fun t ht hW => ⟨1, rfl, (by first | (simp [b2, e_1, c_2, q_2, e_3, c_4, q_4, c_5]; done) | (clear hts hown B; simp_all [b2]; done)), ht⟩) t_nil d_T_areTwoBoxes_26

set_option maxHeartbeats 4000000 in
set_option maxRecDepth 100000 in
theorem c_T_ruleOfClasses (l : Launch) (g : GT) (w : Nat → Option va_E) (th tx ru : Nat) (rd : Int32) (go bo zo : Nat) (rf : Nat → Int32) (ga gb : Nat) (c1 s1 l1 f1 : Int32) (x1 : Int64) (c2 s2 l2 f2 : Int32) (x2 : Int64) (u v : Int32) (ht : w th = some (cT tx ru rd go bo zo)) (hru : w ru = some (cA g 45 rf)) (hg1 : w ga = some (cG c1 s1 l1 f1 x1)) (hg2 : w gb = some (cG c2 s2 l2 f2 x2)) (hu : okC u) (hv : okC v) : Met l y_T_ruleOfClasses (.code y_T_ruleOfClasses b_T_ruleOfClasses 6 ((some .int)) :: GW) ({ frames := 1, cells := 0, slots := 0, locals := 23 }) (prR g [.ref th, .ref ga, .int u, .ref gb, .int v] w) (vp_Si (fun r => r = ruC rf x1 x2 u v)) 0 0 (fun _ => False) := by
  refine Met.ofW (cc := b_T_ruleOfClasses) (maxL := 6) (ret := (some .int)) (by decide) rfl ?_
  intro p e s m args below meth c s₁ B hml hv
  obtain ⟨rfl, hG, hw⟩ := hv
  have hx := B.exec
  have hb := B.bytes
  have hr := B.returns
  have hts : ∀ w ∈ GW, w.before _ s = true := fun w h => atoms_spec (ws := .code y_T_ruleOfClasses b_T_ruleOfClasses 6 ((some .int)) :: GW) B.pre w (List.mem_cons_of_mem _ h)
  have hown : s.vm.findClass "DangerTables" = some m.cls := findClass_of_methodNamed B.named
  have hlocks := B.notSynchronized
  have hf := hG.here
  have hK := hf.1
  have hAB : ∀ q, gB g q → gB g q := fun _ h => h
  have hS : va_S (gB g) s.heap s.heap [] := va_S.rf
  have hl := lv_entry ([.ref th, .ref ga, .int u, .ref gb, .int v]) (n := 6) (Nat.le_of_ble_eq_true rfl)
  rw [lg_entry_eq]
  generalize (lg_sl ([.ref th, .ref ga, .int u, .ref gb, .int v]) ++ List.replicate (6 - (lg_sl ([.ref th, .ref ga, .int u, .ref gb, .int v])).length) Slot.unset).toArray = ls at hl ⊢
  have hl : lv_has ls 6 [(0, .ref th), (1, .ref ga), (2, .int u), (3, .ref gb), (4, .int v)] := hl
  refine lv_iload_n hx hb d_T_ruleOfClasses_0 rfl (lv_at hl 2 rfl) ?_
  refine wr_i (cS (As := [.int u]) (rest := []) 1 ⟨hx, hb, hml, hown, hts⟩ (c_T_isClass l u) k_126 k_153 k_1 k_125 (by decide +kernel) ⟨Nat.le_of_ble_eq_true rfl, Nat.le_of_ble_eq_true rfl⟩ rfl rfl ⟨prN_blind _, fun _ _ _ => ⟨rfl, trivial⟩⟩ rfl hl.1 rfl (Nat.le_of_ble_eq_true rfl) d_T_ruleOfClasses_1 ⟨Nat.zero_le _, Nat.zero_le _⟩) (fun r_1 e_1 => ?_)
  refine lv_if_eq (tgt := 15) hx hb d_T_ruleOfClasses_4 (by decide) (fun c_2 => ?_) (fun c_2 => ?_)
  · have q_2 := b2_f e_1 c_2
    have hu0 : u = 0 := hu.resolve_right (by rw [q_2]; decide)
    refine lv_iconst (v := 0) hx hb d_T_ruleOfClasses_15 (by decide) ?_
    exact W.iret (v := 0) hx hb hr (fun t ht hW => ⟨0, rfl, (by first | (simp [b2, ruC, e_1, c_2, q_2, hu0]; done) | (clear hts hown B; simp_all [b2, ruC]; done)), ht⟩) t_nil d_T_ruleOfClasses_16
  · have q_2 := b2_t e_1 c_2
    have hu0 : ¬ u = 0 := cls_ne q_2
    refine lv_iload hx hb d_T_ruleOfClasses_7 (lv_at hl 4 rfl) ?_
    refine wr_i (cS (As := [.int v]) (rest := []) 1 ⟨hx, hb, hml, hown, hts⟩ (c_T_isClass l v) k_126 k_153 k_1 k_125 (by decide +kernel) ⟨Nat.le_of_ble_eq_true rfl, Nat.le_of_ble_eq_true rfl⟩ rfl rfl ⟨prN_blind _, fun _ _ _ => ⟨rfl, trivial⟩⟩ rfl hl.1 rfl (Nat.le_of_ble_eq_true rfl) d_T_ruleOfClasses_9 ⟨Nat.zero_le _, Nat.zero_le _⟩) (fun r_3 e_3 => ?_)
    refine lv_if_ne (tgt := 17) hx hb d_T_ruleOfClasses_12 (by decide) (fun c_4 => ?_) (fun c_4 => ?_)
    · have q_4 := b2_t e_3 c_4
      have hv0 : ¬ v = 0 := cls_ne q_4
      refine lv_iload_n hx hb d_T_ruleOfClasses_17 rfl (lv_at hl 2 rfl) ?_
      refine lv_iload hx hb d_T_ruleOfClasses_18 (lv_at hl 4 rfl) ?_
      refine wr_i (cS (As := [.int u, .int v]) (rest := []) 2 ⟨hx, hb, hml, hown, hts⟩ (c_T_pairNumber l u v) k_129 k_169 k_1 k_128 (by decide +kernel) ⟨Nat.le_of_ble_eq_true rfl, Nat.le_of_ble_eq_true rfl⟩ rfl rfl ⟨prN_blind _, fun _ _ _ => ⟨rfl, trivial⟩⟩ rfl hl.1 rfl (Nat.le_of_ble_eq_true rfl) d_T_ruleOfClasses_20 ⟨Nat.zero_le _, Nat.zero_le _⟩) (fun r_5 e_5 => ?_)
      refine lv_istore (lv' := [(5, .int r_5), (0, .ref th), (1, .ref ga), (2, .int u), (3, .ref gb), (4, .int v)]) hx hb d_T_ruleOfClasses_23 hl (by decide) rfl (fun ls hl => ?_)
      refine lv_aload_n hx hb d_T_ruleOfClasses_25 rfl (lv_at hl 2 rfl) ?_
      refine lv_iload hx hb d_T_ruleOfClasses_26 (lv_at hl 0 rfl) ?_
      refine wr_i (cV (As := [.int r_5]) (rest := []) (C := "DangerTables$Good") 1 ⟨hx, hb, hml, hown, hts⟩ (c_G_isExempt l g w ga c1 s1 l1 f1 x1 r_5 hg1) k_177 k_508 k_14 k_175 k_176 (by decide +kernel) ⟨Nat.le_of_ble_eq_true rfl, Nat.le_of_ble_eq_true rfl⟩ rfl rfl ⟨prR_blind _ _ _, hw.recv hK hg1 rfl, prR_at hG hAB hS hw⟩ rfl hl.1 rfl (Nat.le_of_ble_eq_true rfl) d_T_ruleOfClasses_28 ⟨Nat.zero_le _, Nat.zero_le _⟩) (fun r_6 e_6 => ?_)
      refine lv_if_ne (tgt := 43) hx hb d_T_ruleOfClasses_31 (by decide) (fun c_7 => ?_) (fun c_7 => ?_)
      · have q_7 := b2_t e_6 c_7
        refine lv_iconst (v := 0) hx hb d_T_ruleOfClasses_43 (by decide) ?_
        refine lv_goto (tgt := 54) hx hb d_T_ruleOfClasses_44 (by decide) ?_
        exact W.iret (v := 0) hx hb hr (fun t ht hW => ⟨0, rfl, (by first | (simp [b2, ruC, e_1, c_2, q_2, hu0, e_3, c_4, q_4, hv0, e_5, e_6, c_7, q_7]; done) | (clear hts hown B; simp_all [b2, ruC]; done)), ht⟩) t_nil d_T_ruleOfClasses_54
      · have q_7 := b2_f e_6 c_7
        refine lv_aload_n hx hb d_T_ruleOfClasses_34 rfl (lv_at hl 4 rfl) ?_
        refine lv_iload hx hb d_T_ruleOfClasses_35 (lv_at hl 0 rfl) ?_
        refine wr_i (cV (As := [.int r_5]) (rest := []) (C := "DangerTables$Good") 1 ⟨hx, hb, hml, hown, hts⟩ (c_G_isExempt l g w gb c2 s2 l2 f2 x2 r_5 hg2) k_177 k_508 k_14 k_175 k_176 (by decide +kernel) ⟨Nat.le_of_ble_eq_true rfl, Nat.le_of_ble_eq_true rfl⟩ rfl rfl ⟨prR_blind _ _ _, hw.recv hK hg2 rfl, prR_at hG hAB hS hw⟩ rfl hl.1 rfl (Nat.le_of_ble_eq_true rfl) d_T_ruleOfClasses_37 ⟨Nat.zero_le _, Nat.zero_le _⟩) (fun r_8 e_8 => ?_)
        refine lv_if_eq (tgt := 47) hx hb d_T_ruleOfClasses_40 (by decide) (fun c_9 => ?_) (fun c_9 => ?_)
        · have q_9 := b2_f e_8 c_9
          refine lv_aload_n hx hb d_T_ruleOfClasses_47 rfl (lv_at hl 1 rfl) ?_
          refine ww_get (v := .ref ru) (C := R_T) (T := F_T) (N := 6) (ci := 0) hx hb hts i_T hown hK hw ht rfl 1 (by decide) (hts _ k_81) (fun _ h9 => h9) rfl d_T_ruleOfClasses_48 ?_
          refine lv_iload hx hb d_T_ruleOfClasses_51 (lv_at hl 0 rfl) ?_
          obtain ⟨j, hj, ej⟩ := prI_in q_2 q_4
          refine ww_iald (v := rf (prI u v).toNatClampNeg) hx hb hK hw 0 hru rfl (by rw [e_5, ej]; exact vp_in_nI hj (by decide)) (by rw [e_5]) d_T_ruleOfClasses_53 ?_
          exact W.iret (v := (rf (prI u v).toNatClampNeg)) hx hb hr (fun t ht hW => ⟨(rf (prI u v).toNatClampNeg), rfl, (by first | (simp [b2, ruC, e_1, c_2, q_2, hu0, e_3, c_4, q_4, hv0, e_5, e_6, c_7, q_7, e_8, c_9, q_9]; done) | (clear hts hown B; simp_all [b2, ruC]; done)), ht⟩) t_nil d_T_ruleOfClasses_54
        · have q_9 := b2_t e_8 c_9
          refine lv_iconst (v := 0) hx hb d_T_ruleOfClasses_43 (by decide) ?_
          refine lv_goto (tgt := 54) hx hb d_T_ruleOfClasses_44 (by decide) ?_
          exact W.iret (v := 0) hx hb hr (fun t ht hW => ⟨0, rfl, (by first | (simp [b2, ruC, e_1, c_2, q_2, hu0, e_3, c_4, q_4, hv0, e_5, e_6, c_7, q_7, e_8, c_9, q_9]; done) | (clear hts hown B; simp_all [b2, ruC]; done)), ht⟩) t_nil d_T_ruleOfClasses_54
    · have q_4 := b2_f e_3 c_4
      have hv0 : v = 0 := hv.resolve_right (by rw [q_4]; decide)
      refine lv_iconst (v := 0) hx hb d_T_ruleOfClasses_15 (by decide) ?_
      exact W.iret (v := 0) hx hb hr (fun t ht hW => ⟨0, rfl, (by first | (simp [b2, ruC, e_1, c_2, q_2, hu0, e_3, c_4, q_4, hv0]; done) | (clear hts hown B; simp_all [b2, ruC]; done)), ht⟩) t_nil d_T_ruleOfClasses_16

set_option maxHeartbeats 4000000 in
set_option maxRecDepth 100000 in
theorem c_T_ruleOfParts (l : Launch) (g : GT) (w : Nat → Option va_E) (th tx ru : Nat) (rd : Int32) (go bo zo : Nat) (rf : Nat → Int32) (qa qb : Nat) (ga gb : Nat) (c1 s1 l1 f1 : Int32) (x1 : Int64) (c2 s2 l2 f2 : Int32) (x2 : Int64) (n1 a1 n2 a2 : Int32) (ht : w th = some (cT tx ru rd go bo zo)) (hru : w ru = some (cA g 45 rf)) (hg1 : w ga = some (cG c1 s1 l1 f1 x1)) (hg2 : w gb = some (cG c2 s2 l2 f2 x2)) (hp1 : w qa = some (cP ga n1 a1)) (hp2 : w qb = some (cP gb n2 a2)) (ho1 : okP (c1, s1, l1, f1, x1, n1, a1)) (ho2 : okP (c2, s2, l2, f2, x2, n2, a2)) : Met l y_T_ruleOfParts (.code y_T_ruleOfParts b_T_ruleOfParts 6 ((some .int)) :: GW) ({ frames := 2, cells := 0, slots := 0, locals := 48 }) (prR g [.ref th, .ref qa, .ref qb] w) (vp_Si (fun r => r = ruP rf (c1, s1, l1, f1, x1, n1, a1) (c2, s2, l2, f2, x2, n2, a2))) 0 0 (fun _ => False) := by
  refine Met.ofW (cc := b_T_ruleOfParts) (maxL := 6) (ret := (some .int)) (by decide) rfl ?_
  intro p e s m args below meth c s₁ B hml hv
  obtain ⟨rfl, hG, hw⟩ := hv
  have hx := B.exec
  have hb := B.bytes
  have hr := B.returns
  have hts : ∀ w ∈ GW, w.before _ s = true := fun w h => atoms_spec (ws := .code y_T_ruleOfParts b_T_ruleOfParts 6 ((some .int)) :: GW) B.pre w (List.mem_cons_of_mem _ h)
  have hown : s.vm.findClass "DangerTables" = some m.cls := findClass_of_methodNamed B.named
  have hlocks := B.notSynchronized
  have hf := hG.here
  have hK := hf.1
  have hAB : ∀ q, gB g q → gB g q := fun _ h => h
  have hS : va_S (gB g) s.heap s.heap [] := va_S.rf
  have hl := lv_entry ([.ref th, .ref qa, .ref qb]) (n := 6) (Nat.le_of_ble_eq_true rfl)
  rw [lg_entry_eq]
  generalize (lg_sl ([.ref th, .ref qa, .ref qb]) ++ List.replicate (6 - (lg_sl ([.ref th, .ref qa, .ref qb])).length) Slot.unset).toArray = ls at hl ⊢
  have hl : lv_has ls 6 [(0, .ref th), (1, .ref qa), (2, .ref qb)] := hl
  refine lv_aload_n hx hb d_T_ruleOfParts_0 rfl (lv_at hl 1 rfl) ?_
  refine ww_getN (v := .ref ga) (C := R_P) (T := F_P) (N := 3) (ci := 3) hx hb hts i_P hown hK hw hp1 rfl 0 (by decide) (va_Nw.use rfl (hf.2.1 _ x_450)) (fun _ h9 => h9) rfl d_T_ruleOfParts_1 ?_
  refine lv_astore_n (lv' := [(3, .ref ga), (0, .ref th), (1, .ref qa), (2, .ref qb)]) hx hb d_T_ruleOfParts_4 rfl hl (by decide) rfl (fun ls hl => ?_)
  refine lv_aload_n hx hb d_T_ruleOfParts_5 rfl (lv_at hl 3 rfl) ?_
  refine ww_getN (v := .ref gb) (C := R_P) (T := F_P) (N := 3) (ci := 3) hx hb hts i_P hown hK hw hp2 rfl 0 (by decide) (va_Nw.use rfl (hf.2.1 _ x_450)) (fun _ h9 => h9) rfl d_T_ruleOfParts_6 ?_
  refine lv_astore (lv' := [(4, .ref gb), (3, .ref ga), (0, .ref th), (1, .ref qa), (2, .ref qb)]) hx hb d_T_ruleOfParts_9 hl (by decide) rfl (fun ls hl => ?_)
  refine lv_aload_n hx hb d_T_ruleOfParts_11 rfl (lv_at hl 2 rfl) ?_
  refine lv_aload_n hx hb d_T_ruleOfParts_12 rfl (lv_at hl 1 rfl) ?_
  refine lv_aload_n hx hb d_T_ruleOfParts_13 rfl (lv_at hl 1 rfl) ?_
  refine ww_getN (v := .int c1) (C := R_G) (T := F_G) (N := 5) (ci := 2) hx hb hts i_G hown hK hw hg1 rfl 0 (by decide) (va_Nw.use rfl (hf.2.1 _ x_324)) (fun _ h9 => h9) rfl d_T_ruleOfParts_14 ?_
  refine lv_aload hx hb d_T_ruleOfParts_17 (lv_at hl 0 rfl) ?_
  refine lv_aload hx hb d_T_ruleOfParts_19 (lv_at hl 0 rfl) ?_
  refine ww_getN (v := .int c2) (C := R_G) (T := F_G) (N := 5) (ci := 2) hx hb hts i_G hown hK hw hg2 rfl 0 (by decide) (va_Nw.use rfl (hf.2.1 _ x_324)) (fun _ h9 => h9) rfl d_T_ruleOfParts_21 ?_
  refine wr_i (cV (As := [.ref ga, .int c1, .ref gb, .int c2]) (rest := []) (C := "DangerTables") 4 ⟨hx, hb, hml, hown, hts⟩ (c_T_ruleOfClasses l g w th tx ru rd go bo zo rf ga gb c1 s1 l1 f1 x1 c2 s2 l2 f2 x2 c1 c2 ht hru hg1 hg2 (Or.inr ho1.1) (Or.inr ho2.1)) k_507 k_504 k_1 k_506 kp_12 (by decide +kernel) ⟨Nat.le_of_ble_eq_true rfl, Nat.le_of_ble_eq_true rfl⟩ rfl rfl ⟨prR_blind _ _ _, hw.recv hK ht rfl, prR_at hG hAB hS hw⟩ rfl hl.1 rfl (Nat.le_of_ble_eq_true rfl) d_T_ruleOfParts_24 ⟨Nat.zero_le _, Nat.zero_le _⟩) (fun r_1 e_1 => ?_)
  refine lv_istore (lv' := [(5, .int r_1), (4, .ref gb), (3, .ref ga), (0, .ref th), (1, .ref qa), (2, .ref qb)]) hx hb d_T_ruleOfParts_27 hl (by decide) rfl (fun ls hl => ?_)
  refine lv_iload hx hb d_T_ruleOfParts_29 (lv_at hl 0 rfl) ?_
  refine lv_aload_n hx hb d_T_ruleOfParts_31 rfl (lv_at hl 3 rfl) ?_
  refine lv_aload_n hx hb d_T_ruleOfParts_32 rfl (lv_at hl 2 rfl) ?_
  refine lv_aload_n hx hb d_T_ruleOfParts_33 rfl (lv_at hl 2 rfl) ?_
  refine ww_getN (v := .int c1) (C := R_G) (T := F_G) (N := 5) (ci := 2) hx hb hts i_G hown hK hw hg1 rfl 0 (by decide) (va_Nw.use rfl (hf.2.1 _ x_324)) (fun _ h9 => h9) rfl d_T_ruleOfParts_34 ?_
  refine lv_aload hx hb d_T_ruleOfParts_37 (lv_at hl 1 rfl) ?_
  refine lv_aload hx hb d_T_ruleOfParts_39 (lv_at hl 1 rfl) ?_
  refine ww_getN (v := .int s2) (C := R_G) (T := F_G) (N := 5) (ci := 2) hx hb hts i_G hown hK hw hg2 rfl 1 (by decide) (va_Nw.use rfl (hf.2.1 _ x_326)) (fun _ h9 => h9) rfl d_T_ruleOfParts_41 ?_
  refine wr_i (cV (As := [.ref ga, .int c1, .ref gb, .int s2]) (rest := [.int r_1]) (C := "DangerTables") 4 ⟨hx, hb, hml, hown, hts⟩ (c_T_ruleOfClasses l g w th tx ru rd go bo zo rf ga gb c1 s1 l1 f1 x1 c2 s2 l2 f2 x2 c1 s2 ht hru hg1 hg2 (Or.inr ho1.1) ho2.2) k_507 k_504 k_1 k_506 kp_12 (by decide +kernel) ⟨Nat.le_of_ble_eq_true rfl, Nat.le_of_ble_eq_true rfl⟩ rfl rfl ⟨prR_blind _ _ _, hw.recv hK ht rfl, prR_at hG hAB hS hw⟩ rfl hl.1 rfl (Nat.le_of_ble_eq_true rfl) d_T_ruleOfParts_44 ⟨Nat.zero_le _, Nat.zero_le _⟩) (fun r_2 e_2 => ?_)
  refine va_mmax hx hb (hml.trans hl.1.symm) hown (hts _ k_509) (hts _ k_363) (hts _ k_16) (hts _ k_364) (Nat.le_of_ble_eq_true rfl) (Nat.le_of_ble_eq_true rfl) (Nat.zero_le _) (Nat.zero_le _) d_T_ruleOfParts_47 ?_
  refine lv_topi (fun v_3 e_3 => ?_)
  refine lv_istore (lv' := [(5, .int v_3), (4, .ref gb), (3, .ref ga), (0, .ref th), (1, .ref qa), (2, .ref qb)]) hx hb d_T_ruleOfParts_50 hl (by decide) rfl (fun ls hl => ?_)
  refine lv_iload hx hb d_T_ruleOfParts_52 (lv_at hl 0 rfl) ?_
  refine lv_aload_n hx hb d_T_ruleOfParts_54 rfl (lv_at hl 3 rfl) ?_
  refine lv_aload_n hx hb d_T_ruleOfParts_55 rfl (lv_at hl 2 rfl) ?_
  refine lv_aload_n hx hb d_T_ruleOfParts_56 rfl (lv_at hl 2 rfl) ?_
  refine ww_getN (v := .int s1) (C := R_G) (T := F_G) (N := 5) (ci := 2) hx hb hts i_G hown hK hw hg1 rfl 1 (by decide) (va_Nw.use rfl (hf.2.1 _ x_326)) (fun _ h9 => h9) rfl d_T_ruleOfParts_57 ?_
  refine lv_aload hx hb d_T_ruleOfParts_60 (lv_at hl 1 rfl) ?_
  refine lv_aload hx hb d_T_ruleOfParts_62 (lv_at hl 1 rfl) ?_
  refine ww_getN (v := .int c2) (C := R_G) (T := F_G) (N := 5) (ci := 2) hx hb hts i_G hown hK hw hg2 rfl 0 (by decide) (va_Nw.use rfl (hf.2.1 _ x_324)) (fun _ h9 => h9) rfl d_T_ruleOfParts_64 ?_
  refine wr_i (cV (As := [.ref ga, .int s1, .ref gb, .int c2]) (rest := [.int v_3]) (C := "DangerTables") 4 ⟨hx, hb, hml, hown, hts⟩ (c_T_ruleOfClasses l g w th tx ru rd go bo zo rf ga gb c1 s1 l1 f1 x1 c2 s2 l2 f2 x2 s1 c2 ht hru hg1 hg2 ho1.2 (Or.inr ho2.1)) k_507 k_504 k_1 k_506 kp_12 (by decide +kernel) ⟨Nat.le_of_ble_eq_true rfl, Nat.le_of_ble_eq_true rfl⟩ rfl rfl ⟨prR_blind _ _ _, hw.recv hK ht rfl, prR_at hG hAB hS hw⟩ rfl hl.1 rfl (Nat.le_of_ble_eq_true rfl) d_T_ruleOfParts_67 ⟨Nat.zero_le _, Nat.zero_le _⟩) (fun r_4 e_4 => ?_)
  refine va_mmax hx hb (hml.trans hl.1.symm) hown (hts _ k_509) (hts _ k_363) (hts _ k_16) (hts _ k_364) (Nat.le_of_ble_eq_true rfl) (Nat.le_of_ble_eq_true rfl) (Nat.zero_le _) (Nat.zero_le _) d_T_ruleOfParts_70 ?_
  refine lv_topi (fun v_5 e_5 => ?_)
  refine lv_istore (lv' := [(5, .int v_5), (4, .ref gb), (3, .ref ga), (0, .ref th), (1, .ref qa), (2, .ref qb)]) hx hb d_T_ruleOfParts_73 hl (by decide) rfl (fun ls hl => ?_)
  refine lv_iload hx hb d_T_ruleOfParts_75 (lv_at hl 0 rfl) ?_
  refine lv_aload_n hx hb d_T_ruleOfParts_77 rfl (lv_at hl 3 rfl) ?_
  refine lv_aload_n hx hb d_T_ruleOfParts_78 rfl (lv_at hl 2 rfl) ?_
  refine lv_aload_n hx hb d_T_ruleOfParts_79 rfl (lv_at hl 2 rfl) ?_
  refine ww_getN (v := .int s1) (C := R_G) (T := F_G) (N := 5) (ci := 2) hx hb hts i_G hown hK hw hg1 rfl 1 (by decide) (va_Nw.use rfl (hf.2.1 _ x_326)) (fun _ h9 => h9) rfl d_T_ruleOfParts_80 ?_
  refine lv_aload hx hb d_T_ruleOfParts_83 (lv_at hl 1 rfl) ?_
  refine lv_aload hx hb d_T_ruleOfParts_85 (lv_at hl 1 rfl) ?_
  refine ww_getN (v := .int s2) (C := R_G) (T := F_G) (N := 5) (ci := 2) hx hb hts i_G hown hK hw hg2 rfl 1 (by decide) (va_Nw.use rfl (hf.2.1 _ x_326)) (fun _ h9 => h9) rfl d_T_ruleOfParts_87 ?_
  refine wr_i (cV (As := [.ref ga, .int s1, .ref gb, .int s2]) (rest := [.int v_5]) (C := "DangerTables") 4 ⟨hx, hb, hml, hown, hts⟩ (c_T_ruleOfClasses l g w th tx ru rd go bo zo rf ga gb c1 s1 l1 f1 x1 c2 s2 l2 f2 x2 s1 s2 ht hru hg1 hg2 ho1.2 ho2.2) k_507 k_504 k_1 k_506 kp_12 (by decide +kernel) ⟨Nat.le_of_ble_eq_true rfl, Nat.le_of_ble_eq_true rfl⟩ rfl rfl ⟨prR_blind _ _ _, hw.recv hK ht rfl, prR_at hG hAB hS hw⟩ rfl hl.1 rfl (Nat.le_of_ble_eq_true rfl) d_T_ruleOfParts_90 ⟨Nat.zero_le _, Nat.zero_le _⟩) (fun r_6 e_6 => ?_)
  refine va_mmax hx hb (hml.trans hl.1.symm) hown (hts _ k_509) (hts _ k_363) (hts _ k_16) (hts _ k_364) (Nat.le_of_ble_eq_true rfl) (Nat.le_of_ble_eq_true rfl) (Nat.zero_le _) (Nat.zero_le _) d_T_ruleOfParts_93 ?_
  refine lv_topi (fun v_7 e_7 => ?_)
  refine lv_istore (lv' := [(5, .int v_7), (4, .ref gb), (3, .ref ga), (0, .ref th), (1, .ref qa), (2, .ref qb)]) hx hb d_T_ruleOfParts_96 hl (by decide) rfl (fun ls hl => ?_)
  refine lv_aload_n hx hb d_T_ruleOfParts_98 rfl (lv_at hl 4 rfl) ?_
  refine wr_i (cV (As := []) (rest := []) (C := "DangerTables$Part") 0 ⟨hx, hb, hml, hown, hts⟩ (c_P_isLimited l g w qa ga n1 a1 c1 s1 l1 f1 x1 hp1 hg1) k_513 k_510 k_20 k_511 k_512 (by decide +kernel) ⟨Nat.le_of_ble_eq_true rfl, Nat.le_of_ble_eq_true rfl⟩ rfl rfl ⟨prR_blind _ _ _, hw.recv hK hp1 rfl, prR_at hG hAB hS hw⟩ rfl hl.1 rfl (Nat.le_of_ble_eq_true rfl) d_T_ruleOfParts_99 ⟨Nat.zero_le _, Nat.zero_le _⟩) (fun r_8 e_8 => ?_)
  refine lv_if_ne (tgt := 112) hx hb d_T_ruleOfParts_102 (by decide) (fun c_9 => ?_) (fun c_9 => ?_)
  · have q_9 := b2_t e_8 c_9
    refine lv_iload hx hb d_T_ruleOfParts_112 (lv_at hl 0 rfl) ?_
    refine lv_iconst (v := 1) hx hb d_T_ruleOfParts_114 (by decide) ?_
    refine va_mmin hx hb (hml.trans hl.1.symm) hown (hts _ k_514) (hts _ k_393) (hts _ k_16) (hts _ k_394) (Nat.le_of_ble_eq_true rfl) (Nat.le_of_ble_eq_true rfl) (Nat.zero_le _) (Nat.zero_le _) d_T_ruleOfParts_115 ?_
    refine lv_topi (fun v_10 e_10 => ?_)
    refine lv_goto (tgt := 123) hx hb d_T_ruleOfParts_118 (by decide) ?_
    exact W.iret (v := v_10) hx hb hr (fun t ht hW => ⟨v_10, rfl, (by first | (simp [b2, ruP, ruQ, mxI, mnI, e_1, e_2, e_3, e_4, e_5, e_6, e_7, e_8, c_9, q_9, e_10]; done) | (clear hts hown B; simp_all [b2, ruP, ruQ, mxI, mnI]; done)), ht⟩) t_nil d_T_ruleOfParts_123
  · have q_9 := b2_f e_8 c_9
    refine lv_aload_n hx hb d_T_ruleOfParts_105 rfl (lv_at hl 5 rfl) ?_
    refine wr_i (cV (As := []) (rest := []) (C := "DangerTables$Part") 0 ⟨hx, hb, hml, hown, hts⟩ (c_P_isLimited l g w qb gb n2 a2 c2 s2 l2 f2 x2 hp2 hg2) k_513 k_510 k_20 k_511 k_512 (by decide +kernel) ⟨Nat.le_of_ble_eq_true rfl, Nat.le_of_ble_eq_true rfl⟩ rfl rfl ⟨prR_blind _ _ _, hw.recv hK hp2 rfl, prR_at hG hAB hS hw⟩ rfl hl.1 rfl (Nat.le_of_ble_eq_true rfl) d_T_ruleOfParts_106 ⟨Nat.zero_le _, Nat.zero_le _⟩) (fun r_11 e_11 => ?_)
    refine lv_if_eq (tgt := 121) hx hb d_T_ruleOfParts_109 (by decide) (fun c_12 => ?_) (fun c_12 => ?_)
    · have q_12 := b2_f e_11 c_12
      refine lv_iload hx hb d_T_ruleOfParts_121 (lv_at hl 0 rfl) ?_
      exact W.iret (v := v_7) hx hb hr (fun t ht hW => ⟨v_7, rfl, (by first | (simp [b2, ruP, ruQ, mxI, mnI, e_1, e_2, e_3, e_4, e_5, e_6, e_7, e_8, c_9, q_9, e_11, c_12, q_12]; done) | (clear hts hown B; simp_all [b2, ruP, ruQ, mxI, mnI]; done)), ht⟩) t_nil d_T_ruleOfParts_123
    · have q_12 := b2_t e_11 c_12
      refine lv_iload hx hb d_T_ruleOfParts_112 (lv_at hl 0 rfl) ?_
      refine lv_iconst (v := 1) hx hb d_T_ruleOfParts_114 (by decide) ?_
      refine va_mmin hx hb (hml.trans hl.1.symm) hown (hts _ k_514) (hts _ k_393) (hts _ k_16) (hts _ k_394) (Nat.le_of_ble_eq_true rfl) (Nat.le_of_ble_eq_true rfl) (Nat.zero_le _) (Nat.zero_le _) d_T_ruleOfParts_115 ?_
      refine lv_topi (fun v_13 e_13 => ?_)
      refine lv_goto (tgt := 123) hx hb d_T_ruleOfParts_118 (by decide) ?_
      exact W.iret (v := v_13) hx hb hr (fun t ht hW => ⟨v_13, rfl, (by first | (simp [b2, ruP, ruQ, mxI, mnI, e_1, e_2, e_3, e_4, e_5, e_6, e_7, e_8, c_9, q_9, e_11, c_12, q_12, e_13]; done) | (clear hts hown B; simp_all [b2, ruP, ruQ, mxI, mnI]; done)), ht⟩) t_nil d_T_ruleOfParts_123

