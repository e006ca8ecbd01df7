/-! CELLS: the objects of the class as cells of a world -/
abbrev cT (tx ru : Nat) (rd : Int32) (go bo zo : Nat) : va_E := .inr (0, [.ref tx, .ref ru, .int rd, .ref go, .ref bo, .ref zo])
abbrev cX (pl : Nat) (z x y t : Int32) : va_E := .inr (1, [.ref pl, .int z, .int x, .int y, .int t])
abbrev cG (c s l f : Int32) (x : Int64) : va_E := .inr (2, [.int c, .int s, .int l, .int f, .long x])
abbrev cP (ga : Nat) (num amt : Int32) : va_E := .inr (3, [.ref ga, .int num, .int amt])
abbrev cU (sg : Nat) (n : Int32) (fo : Nat) : va_E := .inr (4, [.ref sg, .int n, .ref fo])
abbrev cL (mc : Int32) (arr : Nat) (n : Int32) : va_E := .inr (6, [.int mc, .ref arr, .int n])
abbrev cO (g : GT) (n : Nat) (f : Nat → Option Nat) : va_E := .inl (g.2.1 3, n, .inr (.inr (.inr (.inr f))))
abbrev cA (g : GT) (n : Nat) (f : Nat → Int32) : va_E := .inl (g.2.1 0, n, .inl f)
def isEx (x : Int64) (v : Int32) : Bool := !decide (lg_cmp ((x >>> (v.toInt64 &&& 63)) &&& 1) 0 = 0)
def hasC (c s v : Int32) : Bool := decide (c = v) || decide (s = v)
def isLim (amt lim : Int32) : Bool := !decide (lim < amt)
def wantP (amt lim f : Int32) : Int32 := if isLim amt lim = true then f else f ||| 16
def absI (x : Int32) : Int32 := if 0 ≤ x then x else 0 - x
theorem rf_at {f : Nat → Option Nat} {i q : Nat} (h : i < 2 ^ 31) (hq : f i = some q) : va_rf (f (nI i).toNatClampNeg) = .ref q := by rw [nI_clamp h, hq]; rfl
set_option maxHeartbeats 4000000 in
set_option maxRecDepth 100000 in
theorem c_AL_size (l : Launch) (g : GT) (w : Nat → Option va_E) (a arr : Nat) (mc n : Int32) (he : w a = some (cL mc arr n)) : Met l y_AL_size (.code y_AL_size b_AL_size 1 ((some .int)) :: GW) ({ frames := 0, cells := 0, slots := 0, locals := 0 }) (prR g [.ref a] w) (vp_Si (fun r => r = n)) 0 0 (fun _ => False) := by
  refine Met.ofW (cc := b_AL_size) (maxL := 1) (ret := (some .int)) (by decide) rfl ?_
  intro p e s m args below meth c s₁ B hml hv
  obtain ⟨rfl, hG, hw⟩ := hv
  have hx := B.exec
  have hb := B.bytes
  have hr := B.returns
  have hts : ∀ w ∈ GW, w.before _ s = true := fun w h => atoms_spec (ws := .code y_AL_size b_AL_size 1 ((some .int)) :: GW) B.pre w (List.mem_cons_of_mem _ h)
  have hown : s.vm.findClass "java/util/ArrayList" = some m.cls := findClass_of_methodNamed B.named
  have hlocks := B.notSynchronized
  have hf := hG.here
  have hK := hf.1
  have hAB : ∀ q, gB g q → gB g q := fun _ h => h
  have hS : va_S (gB g) s.heap s.heap [] := va_S.rf
  have hl := lv_entry ([.ref a]) (n := 1) (Nat.le_of_ble_eq_true rfl)
  rw [lg_entry_eq]
  generalize (lg_sl ([.ref a]) ++ List.replicate (1 - (lg_sl ([.ref a])).length) Slot.unset).toArray = ls at hl ⊢
  have hl : lv_has ls 1 [(0, .ref a)] := hl
  refine lv_aload_n hx hb d_AL_size_0 rfl (lv_at hl 0 rfl) ?_
  refine ww_get (v := .int n) (C := R_AL) (T := F_AL) (N := 3) (ci := 6) hx hb hts i_AL hown hK hw he rfl 2 (by decide) (hts _ k_66) (fun _ h9 => h9) rfl d_AL_size_1 ?_
  exact W.iret (v := n) hx hb hr (fun t ht hW => ⟨n, rfl, rfl, ht⟩) t_nil d_AL_size_4

set_option maxHeartbeats 4000000 in
set_option maxRecDepth 100000 in
theorem c_PC_checkIndex (l : Launch) (i n : Nat) (hi : i < n) (hn : n < 2 ^ 31) : Met l y_PC_checkIndex (.code y_PC_checkIndex b_PC_checkIndex 3 ((some .int)) :: GW) ({ frames := 0, cells := 0, slots := 0, locals := 0 }) (prN [.int (nI i), .int (nI n), .null]) (vp_Si (fun r => r = nI i)) 0 0 (fun _ => False) := by
  refine Met.ofW (cc := b_PC_checkIndex) (maxL := 3) (ret := (some .int)) (by decide) rfl ?_
  intro p e s m args below meth c s₁ B hml hv
  obtain ⟨rfl, -⟩ := hv
  have hx := B.exec
  have hb := B.bytes
  have hr := B.returns
  have hts : ∀ w ∈ GW, w.before _ s = true := fun w h => atoms_spec (ws := .code y_PC_checkIndex b_PC_checkIndex 3 ((some .int)) :: GW) B.pre w (List.mem_cons_of_mem _ h)
  have hown : s.vm.findClass "jdk/internal/util/Preconditions" = some m.cls := findClass_of_methodNamed B.named
  have hlocks := B.notSynchronized
  have hl := lv_entry ([.int (nI i), .int (nI n), .null]) (n := 3) (Nat.le_of_ble_eq_true rfl)
  rw [lg_entry_eq]
  generalize (lg_sl ([.int (nI i), .int (nI n), .null]) ++ List.replicate (3 - (lg_sl ([.int (nI i), .int (nI n), .null])).length) Slot.unset).toArray = ls at hl ⊢
  have hl : lv_has ls 3 [(0, .int (nI i)), (1, .int (nI n)), (2, .null)] := hl
  refine lv_iload_n hx hb d_PC_checkIndex_0 rfl (lv_at hl 0 rfl) ?_
  refine lv_if_lt (tgt := 9) hx hb d_PC_checkIndex_1 (by decide) (fun c_1 => ?_) (fun c_1 => ?_)
  · exact absurd c_1 (nI_pos (by omega))
  · refine lv_iload_n hx hb d_PC_checkIndex_4 rfl (lv_at hl 0 rfl) ?_
    refine lv_iload_n hx hb d_PC_checkIndex_5 rfl (lv_at hl 1 rfl) ?_
    refine lv_icmp_lt (tgt := 16) hx hb d_PC_checkIndex_6 (by decide) (fun c_2 => ?_) (fun c_2 => ?_)
    · refine lv_iload_n hx hb d_PC_checkIndex_16 rfl (lv_at hl 0 rfl) ?_
      exact W.iret (v := (nI i)) hx hb hr (fun t ht hW => ⟨(nI i), rfl, rfl, ht⟩) t_nil d_PC_checkIndex_17
    · exact absurd (nI_lt hi hn) c_2

set_option maxHeartbeats 4000000 in
set_option maxRecDepth 100000 in
theorem c_OB_checkIndex (l : Launch) (i n : Nat) (hi : i < n) (hn : n < 2 ^ 31) : Met l y_OB_checkIndex (.code y_OB_checkIndex b_OB_checkIndex 2 ((some .int)) :: GW) ({ frames := 1, cells := 0, slots := 0, locals := 22 }) (prN [.int (nI i), .int (nI n)]) (vp_Si (fun r => r = nI i)) 0 0 (fun _ => False) := by
  refine Met.ofW (cc := b_OB_checkIndex) (maxL := 2) (ret := (some .int)) (by decide) rfl ?_
  intro p e s m args below meth c s₁ B hml hv
  obtain ⟨rfl, -⟩ := hv
  have hx := B.exec
  have hb := B.bytes
  have hr := B.returns
  have hts : ∀ w ∈ GW, w.before _ s = true := fun w h => atoms_spec (ws := .code y_OB_checkIndex b_OB_checkIndex 2 ((some .int)) :: GW) B.pre w (List.mem_cons_of_mem _ h)
  have hown : s.vm.findClass "java/util/Objects" = some m.cls := findClass_of_methodNamed B.named
  have hlocks := B.notSynchronized
  have hl := lv_entry ([.int (nI i), .int (nI n)]) (n := 2) (Nat.le_of_ble_eq_true rfl)
  rw [lg_entry_eq]
  generalize (lg_sl ([.int (nI i), .int (nI n)]) ++ List.replicate (2 - (lg_sl ([.int (nI i), .int (nI n)])).length) Slot.unset).toArray = ls at hl ⊢
  have hl : lv_has ls 2 [(0, .int (nI i)), (1, .int (nI n))] := hl
  refine lv_iload_n hx hb d_OB_checkIndex_0 rfl (lv_at hl 0 rfl) ?_
  refine lv_iload_n hx hb d_OB_checkIndex_1 rfl (lv_at hl 1 rfl) ?_
  refine lv_null hx hb d_OB_checkIndex_2 ?_
  refine wr_i (cS (As := [.int (nI i), .int (nI n), .null]) (rest := []) 3 ⟨hx, hb, hml, hown, hts⟩ (c_PC_checkIndex l i n hi hn) k_163 k_161 k_18 k_162 (by decide +kernel) ⟨Nat.le_of_ble_eq_true rfl, Nat.le_of_ble_eq_true rfl⟩ rfl rfl ⟨prN_blind _, fun _ _ _ => ⟨rfl, trivial⟩⟩ rfl hl.1 rfl (Nat.le_of_ble_eq_true rfl) d_OB_checkIndex_3 ⟨Nat.zero_le _, Nat.zero_le _⟩) (fun r_1 e_1 => ?_)
  exact W.iret (v := r_1) hx hb hr (fun t ht hW => ⟨r_1, rfl, e_1, ht⟩) t_nil d_OB_checkIndex_6

set_option maxHeartbeats 4000000 in
set_option maxRecDepth 100000 in
theorem c_AL_elementData (l : Launch) (g : GT) (w : Nat → Option va_E) (a arr n cap i q : Nat) (mc : Int32) (f : Nat → Option Nat) (he : w a = some (cL mc arr (nI n))) (ha : w arr = some (cO g cap f)) (hn : n ≤ cap) (hc : cap < 2 ^ 31) (hi : i < n) (hq : f i = some q) : Met l y_AL_elementData (.code y_AL_elementData b_AL_elementData 2 ((some (.object "java/lang/Object"))) :: GW) ({ frames := 0, cells := 0, slots := 0, locals := 0 }) (prR g [.ref a, .int (nI i)] w) (va_Sq (fun r => r = some q)) 0 0 (fun _ => False) := by
  refine Met.ofW (cc := b_AL_elementData) (maxL := 2) (ret := (some (.object "java/lang/Object"))) (by decide) rfl ?_
  intro p e s m args below meth c s₁ B hml hv
  obtain ⟨rfl, hG, hw⟩ := hv
  have hx := B.exec
  have hb := B.bytes
  have hr := B.returns
  have hts : ∀ w ∈ GW, w.before _ s = true := fun w h => atoms_spec (ws := .code y_AL_elementData b_AL_elementData 2 ((some (.object "java/lang/Object"))) :: GW) B.pre w (List.mem_cons_of_mem _ h)
  have hown : s.vm.findClass "java/util/ArrayList" = some m.cls := findClass_of_methodNamed B.named
  have hlocks := B.notSynchronized
  have hf := hG.here
  have hK := hf.1
  have hAB : ∀ q, gB g q → gB g q := fun _ h => h
  have hS : va_S (gB g) s.heap s.heap [] := va_S.rf
  have hl := lv_entry ([.ref a, .int (nI i)]) (n := 2) (Nat.le_of_ble_eq_true rfl)
  rw [lg_entry_eq]
  generalize (lg_sl ([.ref a, .int (nI i)]) ++ List.replicate (2 - (lg_sl ([.ref a, .int (nI i)])).length) Slot.unset).toArray = ls at hl ⊢
  have hl : lv_has ls 2 [(0, .ref a), (1, .int (nI i))] := hl
  refine lv_aload_n hx hb d_AL_elementData_0 rfl (lv_at hl 0 rfl) ?_
  refine ww_get (v := .ref arr) (C := R_AL) (T := F_AL) (N := 3) (ci := 6) hx hb hts i_AL hown hK hw he rfl 1 (by decide) (hts _ k_65) (fun _ h9 => h9) rfl d_AL_elementData_1 ?_
  refine lv_iload_n hx hb d_AL_elementData_4 rfl (lv_at hl 1 rfl) ?_
  refine ww_aldq (v := .ref q) hx hb hK hw 3 ha rfl (vp_in_nI (by omega) hc) (rf_at (by omega) hq) d_AL_elementData_5 ?_
  exact W.aret (v := .ref q) hx hb hr (Or.inl ⟨_, rfl⟩) (Or.inr ⟨_, rfl⟩) (fun t ht hW => ⟨some q, rfl, rfl, ht⟩) t_nil d_AL_elementData_6

set_option maxHeartbeats 4000000 in
set_option maxRecDepth 100000 in
theorem c_AL_get (l : Launch) (g : GT) (w : Nat → Option va_E) (a arr n cap i q : Nat) (mc : Int32) (f : Nat → Option Nat) (he : w a = some (cL mc arr (nI n))) (ha : w arr = some (cO g cap f)) (hn : n ≤ cap) (hc : cap < 2 ^ 31) (hi : i < n) (hq : f i = some q) : Met l y_AL_get (.code y_AL_get b_AL_get 2 ((some (.object "java/lang/Object"))) :: GW) ({ frames := 2, cells := 0, slots := 0, locals := 43 }) (prR g [.ref a, .int (nI i)] w) (va_Sq (fun r => r = some q)) 0 0 (fun _ => False) := by
  refine Met.ofW (cc := b_AL_get) (maxL := 2) (ret := (some (.object "java/lang/Object"))) (by decide) rfl ?_
  intro p e s m args below meth c s₁ B hml hv
  obtain ⟨rfl, hG, hw⟩ := hv
  have hx := B.exec
  have hb := B.bytes
  have hr := B.returns
  have hts : ∀ w ∈ GW, w.before _ s = true := fun w h => atoms_spec (ws := .code y_AL_get b_AL_get 2 ((some (.object "java/lang/Object"))) :: GW) B.pre w (List.mem_cons_of_mem _ h)
  have hown : s.vm.findClass "java/util/ArrayList" = some m.cls := findClass_of_methodNamed B.named
  have hlocks := B.notSynchronized
  have hf := hG.here
  have hK := hf.1
  have hAB : ∀ q, gB g q → gB g q := fun _ h => h
  have hS : va_S (gB g) s.heap s.heap [] := va_S.rf
  have hl := lv_entry ([.ref a, .int (nI i)]) (n := 2) (Nat.le_of_ble_eq_true rfl)
  rw [lg_entry_eq]
  generalize (lg_sl ([.ref a, .int (nI i)]) ++ List.replicate (2 - (lg_sl ([.ref a, .int (nI i)])).length) Slot.unset).toArray = ls at hl ⊢
  have hl : lv_has ls 2 [(0, .ref a), (1, .int (nI i))] := hl
  refine lv_iload_n hx hb d_AL_get_0 rfl (lv_at hl 1 rfl) ?_
  refine lv_aload_n hx hb d_AL_get_1 rfl (lv_at hl 0 rfl) ?_
  refine ww_get (v := .int (nI n)) (C := R_AL) (T := F_AL) (N := 3) (ci := 6) hx hb hts i_AL hown hK hw he rfl 2 (by decide) (hts _ k_66) (fun _ h9 => h9) rfl d_AL_get_2 ?_
  refine wr_i (cS (As := [.int (nI i), .int (nI n)]) (rest := []) 2 ⟨hx, hb, hml, hown, hts⟩ (c_OB_checkIndex l i n hi (by omega)) k_160 k_158 k_17 k_159 (by decide +kernel) ⟨Nat.le_of_ble_eq_true rfl, Nat.le_of_ble_eq_true rfl⟩ rfl rfl ⟨prN_blind _, fun _ _ _ => ⟨rfl, trivial⟩⟩ rfl hl.1 rfl (Nat.le_of_ble_eq_true rfl) d_AL_get_5 ⟨Nat.zero_le _, Nat.zero_le _⟩) (fun r_1 e_1 => ?_)
  refine lv_pop hx hb d_AL_get_8 rfl ?_
  refine lv_aload_n hx hb d_AL_get_9 rfl (lv_at hl 0 rfl) ?_
  refine lv_iload_n hx hb d_AL_get_10 rfl (lv_at hl 1 rfl) ?_
  refine wr_q (cV (As := [.int (nI i)]) (rest := []) (C := "java/util/ArrayList") 1 ⟨hx, hb, hml, hown, hts⟩ (c_AL_elementData l g w a arr n cap i q mc f he ha hn hc hi hq) k_167 k_164 k_6 k_165 k_166 (by decide +kernel) ⟨Nat.le_of_ble_eq_true rfl, Nat.le_of_ble_eq_true rfl⟩ rfl rfl ⟨prR_blind _ _ _, hw.recv hK he rfl, prR_at hG hAB hS hw⟩ rfl hl.1 rfl (Nat.le_of_ble_eq_true rfl) d_AL_get_11 ⟨Nat.zero_le _, Nat.zero_le _⟩) (fun r_2 e_2 => ?_)
  subst e_2
  exact W.aret (v := .ref q) hx hb hr (Or.inl ⟨_, rfl⟩) (Or.inr ⟨_, rfl⟩) (fun t ht hW => ⟨some q, rfl, rfl, ht⟩) t_nil d_AL_get_14

set_option maxHeartbeats 4000000 in
set_option maxRecDepth 100000 in
theorem c_G_hasClass (l : Launch) (g : GT) (w : Nat → Option va_E) (a : Nat) (cl sd lm fl : Int32) (x : Int64) (v : Int32) (he : w a = some (cG cl sd lm fl x)) : Met l y_G_hasClass (.code y_G_hasClass b_G_hasClass 2 ((some .boolean)) :: GW) ({ frames := 0, cells := 0, slots := 0, locals := 0 }) (prR g [.ref a, .int v] w) (vp_Si (fun r => r = b2 (hasC cl sd v))) 0 0 (fun _ => False) := by
  refine Met.ofW (cc := b_G_hasClass) (maxL := 2) (ret := (some .boolean)) (by decide) rfl ?_
  intro p e s m args below meth c s₁ B hml hv
  obtain ⟨rfl, hG, hw⟩ := hv
  have hx := B.exec
  have hb := B.bytes
  have hr := B.returns
  have hts : ∀ w ∈ GW, w.before _ s = true := fun w h => atoms_spec (ws := .code y_G_hasClass b_G_hasClass 2 ((some .boolean)) :: GW) B.pre w (List.mem_cons_of_mem _ h)
  have hown : s.vm.findClass "DangerTables$Good" = some m.cls := findClass_of_methodNamed B.named
  have hlocks := B.notSynchronized
  have hf := hG.here
  have hK := hf.1
  have hAB : ∀ q, gB g q → gB g q := fun _ h => h
  have hS : va_S (gB g) s.heap s.heap [] := va_S.rf
  have hl := lv_entry ([.ref a, .int v]) (n := 2) (Nat.le_of_ble_eq_true rfl)
  rw [lg_entry_eq]
  generalize (lg_sl ([.ref a, .int v]) ++ List.replicate (2 - (lg_sl ([.ref a, .int v])).length) Slot.unset).toArray = ls at hl ⊢
  have hl : lv_has ls 2 [(0, .ref a), (1, .int v)] := hl
  refine lv_aload_n hx hb d_G_hasClass_0 rfl (lv_at hl 0 rfl) ?_
  refine ww_get (v := .int cl) (C := R_G) (T := F_G) (N := 5) (ci := 2) hx hb hts i_G hown hK hw he rfl 0 (by decide) (hts _ k_323) (fun _ h9 => h9) rfl d_G_hasClass_1 ?_
  refine lv_iload_n hx hb d_G_hasClass_4 rfl (lv_at hl 1 rfl) ?_
  refine lv_icmp_eq (tgt := 16) hx hb d_G_hasClass_5 (by decide) (fun c_1 => ?_) (fun c_1 => ?_)
  · refine lv_iconst (v := 1) hx hb d_G_hasClass_16 (by decide) ?_
    refine lv_goto (tgt := 21) hx hb d_G_hasClass_17 (by decide) ?_
    exact W.zret (v := 1) (ty := .boolean) hx hb hr rfl (fun t ht hW => ⟨1, rfl, (by first | (simp [b2, hasC, c_1]; done) | (clear hts hown B; simp_all [b2, hasC]; done)), ht⟩) t_nil d_G_hasClass_21
  · refine lv_aload_n hx hb d_G_hasClass_8 rfl (lv_at hl 0 rfl) ?_
    refine ww_get (v := .int sd) (C := R_G) (T := F_G) (N := 5) (ci := 2) hx hb hts i_G hown hK hw he rfl 1 (by decide) (hts _ k_325) (fun _ h9 => h9) rfl d_G_hasClass_9 ?_
    refine lv_iload_n hx hb d_G_hasClass_12 rfl (lv_at hl 1 rfl) ?_
    refine lv_icmp_ne (tgt := 20) hx hb d_G_hasClass_13 (by decide) (fun c_2 => ?_) (fun c_2 => ?_)
    · refine lv_iconst (v := 0) hx hb d_G_hasClass_20 (by decide) ?_
      exact W.zret (v := 0) (ty := .boolean) hx hb hr rfl (fun t ht hW => ⟨0, rfl, (by first | (simp [b2, hasC, c_1, c_2]; done) | (clear hts hown B; simp_all [b2, hasC]; done)), ht⟩) t_nil d_G_hasClass_21
    · refine lv_iconst (v := 1) hx hb d_G_hasClass_16 (by decide) ?_
      refine lv_goto (tgt := 21) hx hb d_G_hasClass_17 (by decide) ?_
      exact W.zret (v := 1) (ty := .boolean) hx hb hr rfl (fun t ht hW => ⟨1, rfl, (by first | (simp [b2, hasC, c_1, c_2]; done) | (clear hts hown B; simp_all [b2, hasC]; done)), ht⟩) t_nil d_G_hasClass_21

set_option maxHeartbeats 4000000 in
set_option maxRecDepth 100000 in
theorem c_G_isExempt (l : Launch) (g : GT) (w : Nat → Option va_E) (a : Nat) (cl sd lm fl : Int32) (x : Int64) (v : Int32) (he : w a = some (cG cl sd lm fl x)) : Met l y_G_isExempt (.code y_G_isExempt b_G_isExempt 2 ((some .boolean)) :: GW) ({ frames := 0, cells := 0, slots := 0, locals := 0 }) (prR g [.ref a, .int v] w) (vp_Si (fun r => r = b2 (isEx x v))) 0 0 (fun _ => False) := by
  refine Met.ofW (cc := b_G_isExempt) (maxL := 2) (ret := (some .boolean)) (by decide) rfl ?_
  intro p e s m args below meth c s₁ B hml hv
  obtain ⟨rfl, hG, hw⟩ := hv
  have hx := B.exec
  have hb := B.bytes
  have hr := B.returns
  have hts : ∀ w ∈ GW, w.before _ s = true := fun w h => atoms_spec (ws := .code y_G_isExempt b_G_isExempt 2 ((some .boolean)) :: GW) B.pre w (List.mem_cons_of_mem _ h)
  have hown : s.vm.findClass "DangerTables$Good" = some m.cls := findClass_of_methodNamed B.named
  have hlocks := B.notSynchronized
  have hf := hG.here
  have hK := hf.1
  have hAB : ∀ q, gB g q → gB g q := fun _ h => h
  have hS : va_S (gB g) s.heap s.heap [] := va_S.rf
  have hl := lv_entry ([.ref a, .int v]) (n := 2) (Nat.le_of_ble_eq_true rfl)
  rw [lg_entry_eq]
  generalize (lg_sl ([.ref a, .int v]) ++ List.replicate (2 - (lg_sl ([.ref a, .int v])).length) Slot.unset).toArray = ls at hl ⊢
  have hl : lv_has ls 2 [(0, .ref a), (1, .int v)] := hl
  refine lv_aload_n hx hb d_G_isExempt_0 rfl (lv_at hl 0 rfl) ?_
  refine ww_get (v := .long x) (C := R_G) (T := F_G) (N := 5) (ci := 2) hx hb hts i_G hown hK hw he rfl 4 (by decide) (hts _ k_331) (fun _ h9 => h9) rfl d_G_isExempt_1 ?_
  refine lv_iload_n hx hb d_G_isExempt_4 rfl (lv_at hl 1 rfl) ?_
  refine lv_lshr hx hb d_G_isExempt_5 rfl ?_
  refine lv_topl (fun v_1 e_1 => ?_)
  refine lv_lconst (v := 1) hx hb d_G_isExempt_6 (by decide) ?_
  refine lv_land hx hb d_G_isExempt_7 ?_
  refine lv_topl (fun v_2 e_2 => ?_)
  refine lv_lconst (v := 0) hx hb d_G_isExempt_8 (by decide) ?_
  refine W.lcmp hx hb d_G_isExempt_9 ?_
  refine lv_topi (fun v_3 e_3 => ?_)
  refine lv_if_eq (tgt := 17) hx hb d_G_isExempt_10 (by decide) (fun c_4 => ?_) (fun c_4 => ?_)
  · refine lv_iconst (v := 0) hx hb d_G_isExempt_17 (by decide) ?_
    exact W.zret (v := 0) (ty := .boolean) hx hb hr rfl (fun t ht hW => ⟨0, rfl, (by first | (simp [b2, isEx, e_1, e_2, e_3, c_4]; done) | (clear hts hown B; simp_all [b2, isEx]; done)), ht⟩) t_nil d_G_isExempt_18
  · refine lv_iconst (v := 1) hx hb d_G_isExempt_13 (by decide) ?_
    refine lv_goto (tgt := 18) hx hb d_G_isExempt_14 (by decide) ?_
    exact W.zret (v := 1) (ty := .boolean) hx hb hr rfl (fun t ht hW => ⟨1, rfl, (by first | (simp [b2, isEx, e_1, e_2, e_3, c_4]; done) | (clear hts hown B; simp_all [b2, isEx]; done)), ht⟩) t_nil d_G_isExempt_18

set_option maxHeartbeats 4000000 in
set_option maxRecDepth 100000 in
theorem c_P_isLimited (l : Launch) (g : GT) (w : Nat → Option va_E) (a ga : Nat) (nu am : Int32) (cl sd lm fl : Int32) (x : Int64) (hp : w a = some (cP ga nu am)) (he : w ga = some (cG cl sd lm fl x)) : Met l y_P_isLimited (.code y_P_isLimited b_P_isLimited 1 ((some .boolean)) :: GW) ({ frames := 0, cells := 0, slots := 0, locals := 0 }) (prR g [.ref a] w) (vp_Si (fun r => r = b2 (isLim am lm))) 0 0 (fun _ => False) := by
  refine Met.ofW (cc := b_P_isLimited) (maxL := 1) (ret := (some .boolean)) (by decide) rfl ?_
  intro p e s m args below meth c s₁ B hml hv
  obtain ⟨rfl, hG, hw⟩ := hv
  have hx := B.exec
  have hb := B.bytes
  have hr := B.returns
  have hts : ∀ w ∈ GW, w.before _ s = true := fun w h => atoms_spec (ws := .code y_P_isLimited b_P_isLimited 1 ((some .boolean)) :: GW) B.pre w (List.mem_cons_of_mem _ h)
  have hown : s.vm.findClass "DangerTables$Part" = some m.cls := findClass_of_methodNamed B.named
  have hlocks := B.notSynchronized
  have hf := hG.here
  have hK := hf.1
  have hAB : ∀ q, gB g q → gB g q := fun _ h => h
  have hS : va_S (gB g) s.heap s.heap [] := va_S.rf
  have hl := lv_entry ([.ref a]) (n := 1) (Nat.le_of_ble_eq_true rfl)
  rw [lg_entry_eq]
  generalize (lg_sl ([.ref a]) ++ List.replicate (1 - (lg_sl ([.ref a])).length) Slot.unset).toArray = ls at hl ⊢
  have hl : lv_has ls 1 [(0, .ref a)] := hl
  refine lv_aload_n hx hb d_P_isLimited_0 rfl (lv_at hl 0 rfl) ?_
  refine ww_get (v := .int am) (C := R_P) (T := F_P) (N := 3) (ci := 3) hx hb hts i_P hown hK hw hp rfl 2 (by decide) (hts _ k_453) (fun _ h9 => h9) rfl d_P_isLimited_1 ?_
  refine lv_aload_n hx hb d_P_isLimited_4 rfl (lv_at hl 0 rfl) ?_
  refine ww_get (v := .ref ga) (C := R_P) (T := F_P) (N := 3) (ci := 3) hx hb hts i_P hown hK hw hp rfl 0 (by decide) (hts _ k_448) (fun _ h9 => h9) rfl d_P_isLimited_5 ?_
  refine ww_getN (v := .int lm) (C := R_G) (T := F_G) (N := 5) (ci := 2) hx hb hts i_G hown hK hw he rfl 2 (by decide) (va_Nw.use rfl (hf.2.1 _ x_328)) (fun _ h9 => h9) rfl d_P_isLimited_8 ?_
  refine lv_icmp_gt (tgt := 18) hx hb d_P_isLimited_11 (by decide) (fun c_1 => ?_) (fun c_1 => ?_)
  · refine lv_iconst (v := 0) hx hb d_P_isLimited_18 (by decide) ?_
    exact W.zret (v := 0) (ty := .boolean) hx hb hr rfl (fun t ht hW => ⟨0, rfl, (by first | (simp [b2, isLim, c_1]; done) | (clear hts hown B; simp_all [b2, isLim]; done)), ht⟩) t_nil d_P_isLimited_19
  · refine lv_iconst (v := 1) hx hb d_P_isLimited_14 (by decide) ?_
    refine lv_goto (tgt := 19) hx hb d_P_isLimited_15 (by decide) ?_
    exact W.zret (v := 1) (ty := .boolean) hx hb hr rfl (fun t ht hW => ⟨1, rfl, (by first | (simp [b2, isLim, c_1]; done) | (clear hts hown B; simp_all [b2, isLim]; done)), ht⟩) t_nil d_P_isLimited_19

set_option maxHeartbeats 4000000 in
set_option maxRecDepth 100000 in
theorem c_P_wantedFields (l : Launch) (g : GT) (w : Nat → Option va_E) (a ga : Nat) (nu am : Int32) (cl sd lm fl : Int32) (x : Int64) (hp : w a = some (cP ga nu am)) (he : w ga = some (cG cl sd lm fl x)) : Met l y_P_wantedFields (.code y_P_wantedFields b_P_wantedFields 1 ((some .int)) :: GW) ({ frames := 1, cells := 0, slots := 0, locals := 20 }) (prR g [.ref a] w) (vp_Si (fun r => r = wantP am lm fl)) 0 0 (fun _ => False) := by
  refine Met.ofW (cc := b_P_wantedFields) (maxL := 1) (ret := (some .int)) (by decide) rfl ?_
  intro p e s m args below meth c s₁ B hml hv
  obtain ⟨rfl, hG, hw⟩ := hv
  have hx := B.exec
  have hb := B.bytes
  have hr := B.returns
  have hts : ∀ w ∈ GW, w.before _ s = true := fun w h => atoms_spec (ws := .code y_P_wantedFields b_P_wantedFields 1 ((some .int)) :: GW) B.pre w (List.mem_cons_of_mem _ h)
  have hown : s.vm.findClass "DangerTables$Part" = some m.cls := findClass_of_methodNamed B.named
  have hlocks := B.notSynchronized
  have hf := hG.here
  have hK := hf.1
  have hAB : ∀ q, gB g q → gB g q := fun _ h => h
  have hS : va_S (gB g) s.heap s.heap [] := va_S.rf
  have hl := lv_entry ([.ref a]) (n := 1) (Nat.le_of_ble_eq_true rfl)
  rw [lg_entry_eq]
  generalize (lg_sl ([.ref a]) ++ List.replicate (1 - (lg_sl ([.ref a])).length) Slot.unset).toArray = ls at hl ⊢
  have hl : lv_has ls 1 [(0, .ref a)] := hl
  refine lv_aload_n hx hb d_P_wantedFields_0 rfl (lv_at hl 0 rfl) ?_
  refine wr_i (cV (As := []) (rest := []) (C := "DangerTables$Part") 0 ⟨hx, hb, hml, hown, hts⟩ (c_P_isLimited l g w a ga nu am cl sd lm fl x hp he) k_513 k_570 k_20 k_511 k_512 (by decide +kernel) ⟨Nat.le_of_ble_eq_true rfl, Nat.le_of_ble_eq_true rfl⟩ rfl rfl ⟨prR_blind _ _ _, hw.recv hK hp rfl, prR_at hG hAB hS hw⟩ rfl hl.1 rfl (Nat.le_of_ble_eq_true rfl) d_P_wantedFields_1 ⟨Nat.zero_le _, Nat.zero_le _⟩) (fun r_1 e_1 => ?_)
  refine lv_if_eq (tgt := 17) hx hb d_P_wantedFields_4 (by decide) (fun c_2 => ?_) (fun c_2 => ?_)
  · have q_2 := b2_f e_1 c_2
    refine lv_aload_n hx hb d_P_wantedFields_17 rfl (lv_at hl 0 rfl) ?_
    refine ww_get (v := .ref ga) (C := R_P) (T := F_P) (N := 3) (ci := 3) hx hb hts i_P hown hK hw hp rfl 0 (by decide) (hts _ k_448) (fun _ h9 => h9) rfl d_P_wantedFields_18 ?_
    refine ww_getN (v := .int fl) (C := R_G) (T := F_G) (N := 5) (ci := 2) hx hb hts i_G hown hK hw he rfl 3 (by decide) (va_Nw.use rfl (hf.2.1 _ x_330)) (fun _ h9 => h9) rfl d_P_wantedFields_21 ?_
    refine lv_bipush (v := 16) hx hb d_P_wantedFields_24 (by decide) ?_
    refine lv_ior hx hb d_P_wantedFields_26 ?_
    refine lv_topi (fun v_3 e_3 => ?_)
    exact W.iret (v := v_3) hx hb hr (fun t ht hW => ⟨v_3, rfl, (by first | (simp [b2, wantP, e_1, c_2, q_2, e_3]; done) | (clear hts hown B; simp_all [b2, wantP]; done)), ht⟩) t_nil d_P_wantedFields_27
  · have q_2 := b2_t e_1 c_2
    refine lv_aload_n hx hb d_P_wantedFields_7 rfl (lv_at hl 0 rfl) ?_
    refine ww_get (v := .ref ga) (C := R_P) (T := F_P) (N := 3) (ci := 3) hx hb hts i_P hown hK hw hp rfl 0 (by decide) (hts _ k_448) (fun _ h9 => h9) rfl d_P_wantedFields_8 ?_
    refine ww_getN (v := .int fl) (C := R_G) (T := F_G) (N := 5) (ci := 2) hx hb hts i_G hown hK hw he rfl 3 (by decide) (va_Nw.use rfl (hf.2.1 _ x_330)) (fun _ h9 => h9) rfl d_P_wantedFields_11 ?_
    refine lv_goto (tgt := 27) hx hb d_P_wantedFields_14 (by decide) ?_
    exact W.iret (v := fl) hx hb hr (fun t ht hW => ⟨fl, rfl, (by first | (simp [b2, wantP, e_1, c_2, q_2]; done) | (clear hts hown B; simp_all [b2, wantP]; done)), ht⟩) t_nil d_P_wantedFields_27

set_option maxHeartbeats 4000000 in
set_option maxRecDepth 100000 in
theorem c_X_lies (l : Launch) (g : GT) (w : Nat → Option va_E) (a pl : Nat) (z bx by_ t : Int32) (hx0 : w a = some (cX pl z bx by_ t)) : Met l y_X_lies (.code y_X_lies b_X_lies 1 ((some .boolean)) :: GW) ({ frames := 0, cells := 0, slots := 0, locals := 0 }) (prR g [.ref a] w) (vp_Si (fun r => r = b2 (!decide (z = -1)))) 0 0 (fun _ => False) := by
  refine Met.ofW (cc := b_X_lies) (maxL := 1) (ret := (some .boolean)) (by decide) rfl ?_
  intro p e s m args below meth c s₁ B hml hv
  obtain ⟨rfl, hG, hw⟩ := hv
  have hx := B.exec
  have hb := B.bytes
  have hr := B.returns
  have hts : ∀ w ∈ GW, w.before _ s = true := fun w h => atoms_spec (ws := .code y_X_lies b_X_lies 1 ((some .boolean)) :: GW) B.pre w (List.mem_cons_of_mem _ h)
  have hown : s.vm.findClass "DangerTables$Box" = some m.cls := findClass_of_methodNamed B.named
  have hlocks := B.notSynchronized
  have hf := hG.here
  have hK := hf.1
  have hAB : ∀ q, gB g q → gB g q := fun _ h => h
  have hS : va_S (gB g) s.heap s.heap [] := va_S.rf
  have hl := lv_entry ([.ref a]) (n := 1) (Nat.le_of_ble_eq_true rfl)
  rw [lg_entry_eq]
  generalize (lg_sl ([.ref a]) ++ List.replicate (1 - (lg_sl ([.ref a])).length) Slot.unset).toArray = ls at hl ⊢
  have hl : lv_has ls 1 [(0, .ref a)] := hl
  refine lv_aload_n hx hb d_X_lies_0 rfl (lv_at hl 0 rfl) ?_
  refine ww_get (v := .int z) (C := R_X) (T := F_X) (N := 5) (ci := 1) hx hb hts i_X hown hK hw hx0 rfl 1 (by decide) (hts _ k_419) (fun _ h9 => h9) rfl d_X_lies_1 ?_
  refine lv_iconst (v := -1) hx hb d_X_lies_4 (by decide) ?_
  refine lv_icmp_eq (tgt := 12) hx hb d_X_lies_5 (by decide) (fun c_1 => ?_) (fun c_1 => ?_)
  · refine lv_iconst (v := 0) hx hb d_X_lies_12 (by decide) ?_
    exact W.zret (v := 0) (ty := .boolean) hx hb hr rfl (fun t ht hW => ⟨0, rfl, (by first | (simp [b2, c_1]; done) | (clear hts hown B; simp_all [b2]; done)), ht⟩) t_nil d_X_lies_13
  · refine lv_iconst (v := 1) hx hb d_X_lies_8 (by decide) ?_
    refine lv_goto (tgt := 13) hx hb d_X_lies_9 (by decide) ?_
    exact W.zret (v := 1) (ty := .boolean) hx hb hr rfl (fun t ht hW => ⟨1, rfl, (by first | (simp [b2, c_1]; done) | (clear hts hown B; simp_all [b2]; done)), ht⟩) t_nil d_X_lies_13

set_option maxHeartbeats 4000000 in
set_option maxRecDepth 100000 in
theorem c_X_partCount (l : Launch) (g : GT) (w : Nat → Option va_E) (a pl : Nat) (z bx by_ t : Int32) (mc n : Int32) (arr : Nat) (hx0 : w a = some (cX pl z bx by_ t)) (he : w pl = some (cL mc arr n)) : Met l y_X_partCount (.code y_X_partCount b_X_partCount 1 ((some .int)) :: GW) ({ frames := 1, cells := 0, slots := 0, locals := 20 }) (prR g [.ref a] w) (vp_Si (fun r => r = n)) 0 0 (fun _ => False) := by
  refine Met.ofW (cc := b_X_partCount) (maxL := 1) (ret := (some .int)) (by decide) rfl ?_
  intro p e s m args below meth c s₁ B hml hv
  obtain ⟨rfl, hG, hw⟩ := hv
  have hx := B.exec
  have hb := B.bytes
  have hr := B.returns
  have hts : ∀ w ∈ GW, w.before _ s = true := fun w h => atoms_spec (ws := .code y_X_partCount b_X_partCount 1 ((some .int)) :: GW) B.pre w (List.mem_cons_of_mem _ h)
  have hown : s.vm.findClass "DangerTables$Box" = some m.cls := findClass_of_methodNamed B.named
  have hlocks := B.notSynchronized
  have hf := hG.here
  have hK := hf.1
  have hAB : ∀ q, gB g q → gB g q := fun _ h => h
  have hS : va_S (gB g) s.heap s.heap [] := va_S.rf
  have hl := lv_entry ([.ref a]) (n := 1) (Nat.le_of_ble_eq_true rfl)
  rw [lg_entry_eq]
  generalize (lg_sl ([.ref a]) ++ List.replicate (1 - (lg_sl ([.ref a])).length) Slot.unset).toArray = ls at hl ⊢
  have hl : lv_has ls 1 [(0, .ref a)] := hl
  refine lv_aload_n hx hb d_X_partCount_0 rfl (lv_at hl 0 rfl) ?_
  refine ww_get (v := .ref pl) (C := R_X) (T := F_X) (N := 5) (ci := 1) hx hb hts i_X hown hK hw hx0 rfl 0 (by decide) (hts _ k_417) (fun _ h9 => h9) rfl d_X_partCount_1 ?_
  refine wr_i (cV (As := []) (rest := []) (C := "java/util/ArrayList") 0 ⟨hx, hb, hml, hown, hts⟩ (c_AL_size l g w pl arr mc n he) k_152 k_475 k_6 k_150 k_151 (by decide +kernel) ⟨Nat.le_of_ble_eq_true rfl, Nat.le_of_ble_eq_true rfl⟩ rfl rfl ⟨prR_blind _ _ _, hw.recv hK he rfl, prR_at hG hAB hS hw⟩ rfl hl.1 rfl (Nat.le_of_ble_eq_true rfl) d_X_partCount_4 ⟨Nat.zero_le _, Nat.zero_le _⟩) (fun r_1 e_1 => ?_)
  exact W.iret (v := r_1) hx hb hr (fun t ht hW => ⟨r_1, rfl, e_1, ht⟩) t_nil d_X_partCount_7

set_option maxHeartbeats 4000000 in
set_option maxRecDepth 100000 in
theorem c_X_distanceTo (l : Launch) (g : GT) (w : Nat → Option va_E) (a pl : Nat) (z bx by_ t : Int32) (u v : Int32) (hx0 : w a = some (cX pl z bx by_ t)) : Met l y_X_distanceTo (.code y_X_distanceTo b_X_distanceTo 3 ((some .int)) :: GW) ({ frames := 1, cells := 0, slots := 0, locals := 15 }) (prR g [.ref a, .int u, .int v] w) (vp_Si (fun r => r = absI (bx - u) + absI (by_ - v))) 0 0 (fun _ => False) := by
  refine Met.ofW (cc := b_X_distanceTo) (maxL := 3) (ret := (some .int)) (by decide) rfl ?_
  intro p e s m args below meth c s₁ B hml hv
  obtain ⟨rfl, hG, hw⟩ := hv
  have hx := B.exec
  have hb := B.bytes
  have hr := B.returns
  have hts : ∀ w ∈ GW, w.before _ s = true := fun w h => atoms_spec (ws := .code y_X_distanceTo b_X_distanceTo 3 ((some .int)) :: GW) B.pre w (List.mem_cons_of_mem _ h)
  have hown : s.vm.findClass "DangerTables$Box" = some m.cls := findClass_of_methodNamed B.named
  have hlocks := B.notSynchronized
  have hf := hG.here
  have hK := hf.1
  have hAB : ∀ q, gB g q → gB g q := fun _ h => h
  have hS : va_S (gB g) s.heap s.heap [] := va_S.rf
  have hl := lv_entry ([.ref a, .int u, .int v]) (n := 3) (Nat.le_of_ble_eq_true rfl)
  rw [lg_entry_eq]
  generalize (lg_sl ([.ref a, .int u, .int v]) ++ List.replicate (3 - (lg_sl ([.ref a, .int u, .int v])).length) Slot.unset).toArray = ls at hl ⊢
  have hl : lv_has ls 3 [(0, .ref a), (1, .int u), (2, .int v)] := hl
  refine lv_aload_n hx hb d_X_distanceTo_0 rfl (lv_at hl 0 rfl) ?_
  refine ww_get (v := .int bx) (C := R_X) (T := F_X) (N := 5) (ci := 1) hx hb hts i_X hown hK hw hx0 rfl 2 (by decide) (hts _ k_421) (fun _ h9 => h9) rfl d_X_distanceTo_1 ?_
  refine lv_iload_n hx hb d_X_distanceTo_4 rfl (lv_at hl 1 rfl) ?_
  refine lv_isub hx hb d_X_distanceTo_5 ?_
  refine lv_topi (fun v_1 e_1 => ?_)
  refine va_mabs hx hb (hml.trans hl.1.symm) hown (hts _ k_587) (hts _ k_588) (hts _ k_16) (hts _ k_589) (Nat.le_of_ble_eq_true rfl) (Nat.le_of_ble_eq_true rfl) (Nat.zero_le _) (Nat.zero_le _) d_X_distanceTo_6 ?_
  refine lv_topi (fun v_2 e_2 => ?_)
  refine lv_aload_n hx hb d_X_distanceTo_9 rfl (lv_at hl 0 rfl) ?_
  refine ww_get (v := .int by_) (C := R_X) (T := F_X) (N := 5) (ci := 1) hx hb hts i_X hown hK hw hx0 rfl 3 (by decide) (hts _ k_423) (fun _ h9 => h9) rfl d_X_distanceTo_10 ?_
  refine lv_iload_n hx hb d_X_distanceTo_13 rfl (lv_at hl 2 rfl) ?_
  refine lv_isub hx hb d_X_distanceTo_14 ?_
  refine lv_topi (fun v_3 e_3 => ?_)
  refine va_mabs hx hb (hml.trans hl.1.symm) hown (hts _ k_587) (hts _ k_588) (hts _ k_16) (hts _ k_589) (Nat.le_of_ble_eq_true rfl) (Nat.le_of_ble_eq_true rfl) (Nat.zero_le _) (Nat.zero_le _) d_X_distanceTo_15 ?_
  refine lv_topi (fun v_4 e_4 => ?_)
  refine lv_iadd hx hb d_X_distanceTo_18 ?_
  refine lv_topi (fun v_5 e_5 => ?_)
  exact W.iret (v := v_5) hx hb hr (fun t ht hW => ⟨v_5, rfl, (by simp only [absI, e_1, e_2, e_3, e_4, e_5]), ht⟩) t_nil d_X_distanceTo_19

