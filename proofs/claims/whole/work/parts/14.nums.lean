/-! METHODS OVER NUMBERS ALONE: what they answer -/
def inR (v a b : Int32) : Bool := !decide (v < a) && !decide (b < v)
def isCls (x : Int32) : Bool := !decide (x < 1) && !decide (9 < x)
def isSd (x y : Int32) : Bool := decide (x = 0) || (isCls x && !decide (x = y))
def isAmt (x : Int32) : Bool := !decide (x < 1) && !decide (30000 < x)
def isZn (x : Int32) : Bool := !decide (x < 0) && !decide (4 ≤ x)
def isSl (x y : Int32) : Bool := !decide (x < 0) && !decide (20 ≤ x) && !decide (y < 0) && !decide (20 ≤ y)
def prI (a b : Int32) : Int32 := if a ≤ b then b * (b - 1) / 2 + a - 1 else a * (a - 1) / 2 + b - 1
def prM (a b : Int32) : Int32 := 9 * (a - 1) + b - 1
def fieI (g m t : Int32) : Int32 := ((1 ||| (if g = 1 then 2 else 0)) ||| (if m = 0 then 0 else 4)) ||| (if t = 0 then 0 else 8)
def gtI (a b : Int32) : Int32 := if a ≤ b then b else a
def farI (a : Int32) : Int32 := if 0 ≤ a then a else -a
set_option maxHeartbeats 4000000 in
set_option maxRecDepth 100000 in
theorem c_T_isClass (l : Launch) (x : Int32) : Met l y_T_isClass (.code y_T_isClass b_T_isClass 1 ((some .boolean)) :: GW) ({ frames := 0, cells := 0, slots := 0, locals := 0 }) (prN [.int x]) (vp_Si (fun r => r = b2 (isCls x))) 0 0 (fun _ => False) := by
  refine Met.ofW (cc := b_T_isClass) (maxL := 1) (ret := (some .boolean)) (by decide) rfl ?_
  intro p e s m args below meth c s₁ B hml hv
  obtain ⟨rfl, -⟩ := hv
  have hx := B.exec
  have hb := B.bytes
  have hr := B.returns
  have hts : ∀ w ∈ GW, w.before _ s = true := fun w h => atoms_spec (ws := .code y_T_isClass b_T_isClass 1 ((some .boolean)) :: GW) B.pre w (List.mem_cons_of_mem _ h)
  have hown : s.vm.findClass "DangerTables" = some m.cls := findClass_of_methodNamed B.named
  have hlocks := B.notSynchronized
  have hl := lv_entry ([.int x]) (n := 1) (Nat.le_of_ble_eq_true rfl)
  rw [lg_entry_eq]
  generalize (lg_sl ([.int x]) ++ List.replicate (1 - (lg_sl ([.int x])).length) Slot.unset).toArray = ls at hl ⊢
  have hl : lv_has ls 1 [(0, .int x)] := hl
  refine lv_iload_n hx hb d_T_isClass_0 rfl (lv_at hl 0 rfl) ?_
  refine lv_iconst (v := 1) hx hb d_T_isClass_1 (by decide) ?_
  refine lv_icmp_lt (tgt := 15) hx hb d_T_isClass_2 (by decide) (fun c_1 => ?_) (fun c_1 => ?_)
  · refine lv_iconst (v := 0) hx hb d_T_isClass_15 (by decide) ?_
    exact W.zret (v := 0) (ty := .boolean) hx hb hr rfl (fun t ht hW => ⟨0, rfl, (by first | (simp [b2, isCls, c_1]; done) | (clear hts hown B; simp_all [b2, isCls]; done)), ht⟩) t_nil d_T_isClass_16
  · refine lv_iload_n hx hb d_T_isClass_5 rfl (lv_at hl 0 rfl) ?_
    refine lv_bipush (v := 9) hx hb d_T_isClass_6 (by decide) ?_
    refine lv_icmp_gt (tgt := 15) hx hb d_T_isClass_8 (by decide) (fun c_2 => ?_) (fun c_2 => ?_)
    · refine lv_iconst (v := 0) hx hb d_T_isClass_15 (by decide) ?_
      exact W.zret (v := 0) (ty := .boolean) hx hb hr rfl (fun t ht hW => ⟨0, rfl, (by first | (simp [b2, isCls, c_1, c_2]; done) | (clear hts hown B; simp_all [b2, isCls]; done)), ht⟩) t_nil d_T_isClass_16
    · refine lv_iconst (v := 1) hx hb d_T_isClass_11 (by decide) ?_
      refine lv_goto (tgt := 16) hx hb d_T_isClass_12 (by decide) ?_
      exact W.zret (v := 1) (ty := .boolean) hx hb hr rfl (fun t ht hW => ⟨1, rfl, (by first | (simp [b2, isCls, c_1, c_2]; done) | (clear hts hown B; simp_all [b2, isCls]; done)), ht⟩) t_nil d_T_isClass_16

set_option maxHeartbeats 4000000 in
set_option maxRecDepth 100000 in
theorem c_T_isSide (l : Launch) (x y : Int32) : Met l y_T_isSide (.code y_T_isSide b_T_isSide 2 ((some .boolean)) :: GW) ({ frames := 1, cells := 0, slots := 0, locals := 20 }) (prN [.int x, .int y]) (vp_Si (fun r => r = b2 (isSd x y))) 0 0 (fun _ => False) := by
  refine Met.ofW (cc := b_T_isSide) (maxL := 2) (ret := (some .boolean)) (by decide) rfl ?_
  intro p e s m args below meth c s₁ B hml hv
  obtain ⟨rfl, -⟩ := hv
  have hx := B.exec
  have hb := B.bytes
  have hr := B.returns
  have hts : ∀ w ∈ GW, w.before _ s = true := fun w h => atoms_spec (ws := .code y_T_isSide b_T_isSide 2 ((some .boolean)) :: GW) B.pre w (List.mem_cons_of_mem _ h)
  have hown : s.vm.findClass "DangerTables" = some m.cls := findClass_of_methodNamed B.named
  have hlocks := B.notSynchronized
  have hl := lv_entry ([.int x, .int y]) (n := 2) (Nat.le_of_ble_eq_true rfl)
  rw [lg_entry_eq]
  generalize (lg_sl ([.int x, .int y]) ++ List.replicate (2 - (lg_sl ([.int x, .int y])).length) Slot.unset).toArray = ls at hl ⊢
  have hl : lv_has ls 2 [(0, .int x), (1, .int y)] := hl
  refine lv_iload_n hx hb d_T_isSide_0 rfl (lv_at hl 0 rfl) ?_
  refine lv_if_eq (tgt := 16) hx hb d_T_isSide_1 (by decide) (fun c_1 => ?_) (fun c_1 => ?_)
  · refine lv_iconst (v := 1) hx hb d_T_isSide_16 (by decide) ?_
    refine lv_goto (tgt := 21) hx hb d_T_isSide_17 (by decide) ?_
    exact W.zret (v := 1) (ty := .boolean) hx hb hr rfl (fun t ht hW => ⟨1, rfl, (by first | (simp [b2, isSd, c_1]; done) | (clear hts hown B; simp_all [b2, isSd]; done)), ht⟩) t_nil d_T_isSide_21
  · refine lv_iload_n hx hb d_T_isSide_4 rfl (lv_at hl 0 rfl) ?_
    refine wr_i (cS (As := [.int x]) (rest := []) 1 ⟨hx, hb, hml, hown, hts⟩ (c_T_isClass l x) k_126 k_153 k_1 k_125 (by decide +kernel) ⟨Nat.le_of_ble_eq_true rfl, Nat.le_of_ble_eq_true rfl⟩ rfl rfl ⟨prN_blind _, fun _ _ _ => ⟨rfl, trivial⟩⟩ rfl hl.1 rfl (Nat.le_of_ble_eq_true rfl) d_T_isSide_5 ⟨Nat.zero_le _, Nat.zero_le _⟩) (fun r_2 e_2 => ?_)
    refine lv_if_eq (tgt := 20) hx hb d_T_isSide_8 (by decide) (fun c_3 => ?_) (fun c_3 => ?_)
    · have q_3 := b2_f e_2 c_3
      refine lv_iconst (v := 0) hx hb d_T_isSide_20 (by decide) ?_
      exact W.zret (v := 0) (ty := .boolean) hx hb hr rfl (fun t ht hW => ⟨0, rfl, (by first | (simp [b2, isSd, c_1, e_2, c_3, q_3]; done) | (clear hts hown B; simp_all [b2, isSd]; done)), ht⟩) t_nil d_T_isSide_21
    · have q_3 := b2_t e_2 c_3
      refine lv_iload_n hx hb d_T_isSide_11 rfl (lv_at hl 0 rfl) ?_
      refine lv_iload_n hx hb d_T_isSide_12 rfl (lv_at hl 1 rfl) ?_
      refine lv_icmp_eq (tgt := 20) hx hb d_T_isSide_13 (by decide) (fun c_4 => ?_) (fun c_4 => ?_)
      · refine lv_iconst (v := 0) hx hb d_T_isSide_20 (by decide) ?_
        exact W.zret (v := 0) (ty := .boolean) hx hb hr rfl (fun t ht hW => ⟨0, rfl, (by first | (simp [b2, isSd, c_1, e_2, c_3, q_3, c_4]; done) | (clear hts hown B; simp_all [b2, isSd]; done)), ht⟩) t_nil d_T_isSide_21
      · refine lv_iconst (v := 1) hx hb d_T_isSide_16 (by decide) ?_
        refine lv_goto (tgt := 21) hx hb d_T_isSide_17 (by decide) ?_
        exact W.zret (v := 1) (ty := .boolean) hx hb hr rfl (fun t ht hW => ⟨1, rfl, (by first | (simp [b2, isSd, c_1, e_2, c_3, q_3, c_4]; done) | (clear hts hown B; simp_all [b2, isSd]; done)), ht⟩) t_nil d_T_isSide_21

set_option maxHeartbeats 4000000 in
set_option maxRecDepth 100000 in
theorem c_T_isAmount (l : Launch) (x : Int32) : Met l y_T_isAmount (.code y_T_isAmount b_T_isAmount 1 ((some .boolean)) :: GW) ({ frames := 0, cells := 0, slots := 0, locals := 0 }) (prN [.int x]) (vp_Si (fun r => r = b2 (isAmt x))) 0 0 (fun _ => False) := by
  refine Met.ofW (cc := b_T_isAmount) (maxL := 1) (ret := (some .boolean)) (by decide) rfl ?_
  intro p e s m args below meth c s₁ B hml hv
  obtain ⟨rfl, -⟩ := hv
  have hx := B.exec
  have hb := B.bytes
  have hr := B.returns
  have hts : ∀ w ∈ GW, w.before _ s = true := fun w h => atoms_spec (ws := .code y_T_isAmount b_T_isAmount 1 ((some .boolean)) :: GW) B.pre w (List.mem_cons_of_mem _ h)
  have hown : s.vm.findClass "DangerTables" = some m.cls := findClass_of_methodNamed B.named
  have hlocks := B.notSynchronized
  have hl := lv_entry ([.int x]) (n := 1) (Nat.le_of_ble_eq_true rfl)
  rw [lg_entry_eq]
  generalize (lg_sl ([.int x]) ++ List.replicate (1 - (lg_sl ([.int x])).length) Slot.unset).toArray = ls at hl ⊢
  have hl : lv_has ls 1 [(0, .int x)] := hl
  refine lv_iload_n hx hb d_T_isAmount_0 rfl (lv_at hl 0 rfl) ?_
  refine lv_iconst (v := 1) hx hb d_T_isAmount_1 (by decide) ?_
  refine lv_icmp_lt (tgt := 16) hx hb d_T_isAmount_2 (by decide) (fun c_1 => ?_) (fun c_1 => ?_)
  · refine lv_iconst (v := 0) hx hb d_T_isAmount_16 (by decide) ?_
    exact W.zret (v := 0) (ty := .boolean) hx hb hr rfl (fun t ht hW => ⟨0, rfl, (by first | (simp [b2, isAmt, c_1]; done) | (clear hts hown B; simp_all [b2, isAmt]; done)), ht⟩) t_nil d_T_isAmount_17
  · refine lv_iload_n hx hb d_T_isAmount_5 rfl (lv_at hl 0 rfl) ?_
    refine lv_sipush (v := 30000) hx hb d_T_isAmount_6 (by decide) ?_
    refine lv_icmp_gt (tgt := 16) hx hb d_T_isAmount_9 (by decide) (fun c_2 => ?_) (fun c_2 => ?_)
    · refine lv_iconst (v := 0) hx hb d_T_isAmount_16 (by decide) ?_
      exact W.zret (v := 0) (ty := .boolean) hx hb hr rfl (fun t ht hW => ⟨0, rfl, (by first | (simp [b2, isAmt, c_1, c_2]; done) | (clear hts hown B; simp_all [b2, isAmt]; done)), ht⟩) t_nil d_T_isAmount_17
    · refine lv_iconst (v := 1) hx hb d_T_isAmount_12 (by decide) ?_
      refine lv_goto (tgt := 17) hx hb d_T_isAmount_13 (by decide) ?_
      exact W.zret (v := 1) (ty := .boolean) hx hb hr rfl (fun t ht hW => ⟨1, rfl, (by first | (simp [b2, isAmt, c_1, c_2]; done) | (clear hts hown B; simp_all [b2, isAmt]; done)), ht⟩) t_nil d_T_isAmount_17

set_option maxHeartbeats 4000000 in
set_option maxRecDepth 100000 in
theorem c_T_isZone (l : Launch) (x : Int32) : Met l y_T_isZone (.code y_T_isZone b_T_isZone 1 ((some .boolean)) :: GW) ({ frames := 0, cells := 0, slots := 0, locals := 0 }) (prN [.int x]) (vp_Si (fun r => r = b2 (isZn x))) 0 0 (fun _ => False) := by
  refine Met.ofW (cc := b_T_isZone) (maxL := 1) (ret := (some .boolean)) (by decide) rfl ?_
  intro p e s m args below meth c s₁ B hml hv
  obtain ⟨rfl, -⟩ := hv
  have hx := B.exec
  have hb := B.bytes
  have hr := B.returns
  have hts : ∀ w ∈ GW, w.before _ s = true := fun w h => atoms_spec (ws := .code y_T_isZone b_T_isZone 1 ((some .boolean)) :: GW) B.pre w (List.mem_cons_of_mem _ h)
  have hown : s.vm.findClass "DangerTables" = some m.cls := findClass_of_methodNamed B.named
  have hlocks := B.notSynchronized
  have hl := lv_entry ([.int x]) (n := 1) (Nat.le_of_ble_eq_true rfl)
  rw [lg_entry_eq]
  generalize (lg_sl ([.int x]) ++ List.replicate (1 - (lg_sl ([.int x])).length) Slot.unset).toArray = ls at hl ⊢
  have hl : lv_has ls 1 [(0, .int x)] := hl
  refine lv_iload_n hx hb d_T_isZone_0 rfl (lv_at hl 0 rfl) ?_
  refine lv_if_lt (tgt := 13) hx hb d_T_isZone_1 (by decide) (fun c_1 => ?_) (fun c_1 => ?_)
  · refine lv_iconst (v := 0) hx hb d_T_isZone_13 (by decide) ?_
    exact W.zret (v := 0) (ty := .boolean) hx hb hr rfl (fun t ht hW => ⟨0, rfl, (by first | (simp [b2, isZn, c_1]; done) | (clear hts hown B; simp_all [b2, isZn]; done)), ht⟩) t_nil d_T_isZone_14
  · refine lv_iload_n hx hb d_T_isZone_4 rfl (lv_at hl 0 rfl) ?_
    refine lv_iconst (v := 4) hx hb d_T_isZone_5 (by decide) ?_
    refine lv_icmp_ge (tgt := 13) hx hb d_T_isZone_6 (by decide) (fun c_2 => ?_) (fun c_2 => ?_)
    · refine lv_iconst (v := 0) hx hb d_T_isZone_13 (by decide) ?_
      exact W.zret (v := 0) (ty := .boolean) hx hb hr rfl (fun t ht hW => ⟨0, rfl, (by first | (simp [b2, isZn, c_1, c_2]; done) | (clear hts hown B; simp_all [b2, isZn]; done)), ht⟩) t_nil d_T_isZone_14
    · refine lv_iconst (v := 1) hx hb d_T_isZone_9 (by decide) ?_
      refine lv_goto (tgt := 14) hx hb d_T_isZone_10 (by decide) ?_
      exact W.zret (v := 1) (ty := .boolean) hx hb hr rfl (fun t ht hW => ⟨1, rfl, (by first | (simp [b2, isZn, c_1, c_2]; done) | (clear hts hown B; simp_all [b2, isZn]; done)), ht⟩) t_nil d_T_isZone_14

set_option maxHeartbeats 4000000 in
set_option maxRecDepth 100000 in
theorem c_T_isSlot (l : Launch) (x y : Int32) : Met l y_T_isSlot (.code y_T_isSlot b_T_isSlot 2 ((some .boolean)) :: GW) ({ frames := 0, cells := 0, slots := 0, locals := 0 }) (prN [.int x, .int y]) (vp_Si (fun r => r = b2 (isSl x y))) 0 0 (fun _ => False) := by
  refine Met.ofW (cc := b_T_isSlot) (maxL := 2) (ret := (some .boolean)) (by decide) rfl ?_
  intro p e s m args below meth c s₁ B hml hv
  obtain ⟨rfl, -⟩ := hv
  have hx := B.exec
  have hb := B.bytes
  have hr := B.returns
  have hts : ∀ w ∈ GW, w.before _ s = true := fun w h => atoms_spec (ws := .code y_T_isSlot b_T_isSlot 2 ((some .boolean)) :: GW) B.pre w (List.mem_cons_of_mem _ h)
  have hown : s.vm.findClass "DangerTables" = some m.cls := findClass_of_methodNamed B.named
  have hlocks := B.notSynchronized
  have hl := lv_entry ([.int x, .int y]) (n := 2) (Nat.le_of_ble_eq_true rfl)
  rw [lg_entry_eq]
  generalize (lg_sl ([.int x, .int y]) ++ List.replicate (2 - (lg_sl ([.int x, .int y])).length) Slot.unset).toArray = ls at hl ⊢
  have hl : lv_has ls 2 [(0, .int x), (1, .int y)] := hl
  refine lv_iload_n hx hb d_T_isSlot_0 rfl (lv_at hl 0 rfl) ?_
  refine lv_if_lt (tgt := 24) hx hb d_T_isSlot_1 (by decide) (fun c_1 => ?_) (fun c_1 => ?_)
  · refine lv_iconst (v := 0) hx hb d_T_isSlot_24 (by decide) ?_
    exact W.zret (v := 0) (ty := .boolean) hx hb hr rfl (fun t ht hW => ⟨0, rfl, (by first | (simp [b2, isSl, c_1]; done) | (clear hts hown B; simp_all [b2, isSl]; done)), ht⟩) t_nil d_T_isSlot_25
  · refine lv_iload_n hx hb d_T_isSlot_4 rfl (lv_at hl 0 rfl) ?_
    refine lv_bipush (v := 20) hx hb d_T_isSlot_5 (by decide) ?_
    refine lv_icmp_ge (tgt := 24) hx hb d_T_isSlot_7 (by decide) (fun c_2 => ?_) (fun c_2 => ?_)
    · refine lv_iconst (v := 0) hx hb d_T_isSlot_24 (by decide) ?_
      exact W.zret (v := 0) (ty := .boolean) hx hb hr rfl (fun t ht hW => ⟨0, rfl, (by first | (simp [b2, isSl, c_1, c_2]; done) | (clear hts hown B; simp_all [b2, isSl]; done)), ht⟩) t_nil d_T_isSlot_25
    · refine lv_iload_n hx hb d_T_isSlot_10 rfl (lv_at hl 1 rfl) ?_
      refine lv_if_lt (tgt := 24) hx hb d_T_isSlot_11 (by decide) (fun c_3 => ?_) (fun c_3 => ?_)
      · refine lv_iconst (v := 0) hx hb d_T_isSlot_24 (by decide) ?_
        exact W.zret (v := 0) (ty := .boolean) hx hb hr rfl (fun t ht hW => ⟨0, rfl, (by first | (simp [b2, isSl, c_1, c_2, c_3]; done) | (clear hts hown B; simp_all [b2, isSl]; done)), ht⟩) t_nil d_T_isSlot_25
      · refine lv_iload_n hx hb d_T_isSlot_14 rfl (lv_at hl 1 rfl) ?_
        refine lv_bipush (v := 20) hx hb d_T_isSlot_15 (by decide) ?_
        refine lv_icmp_ge (tgt := 24) hx hb d_T_isSlot_17 (by decide) (fun c_4 => ?_) (fun c_4 => ?_)
        · refine lv_iconst (v := 0) hx hb d_T_isSlot_24 (by decide) ?_
          exact W.zret (v := 0) (ty := .boolean) hx hb hr rfl (fun t ht hW => ⟨0, rfl, (by first | (simp [b2, isSl, c_1, c_2, c_3, c_4]; done) | (clear hts hown B; simp_all [b2, isSl]; done)), ht⟩) t_nil d_T_isSlot_25
        · refine lv_iconst (v := 1) hx hb d_T_isSlot_20 (by decide) ?_
          refine lv_goto (tgt := 25) hx hb d_T_isSlot_21 (by decide) ?_
          exact W.zret (v := 1) (ty := .boolean) hx hb hr rfl (fun t ht hW => ⟨1, rfl, (by first | (simp [b2, isSl, c_1, c_2, c_3, c_4]; done) | (clear hts hown B; simp_all [b2, isSl]; done)), ht⟩) t_nil d_T_isSlot_25

set_option maxHeartbeats 4000000 in
set_option maxRecDepth 100000 in
theorem c_T_pairNumber (l : Launch) (x y : Int32) : Met l y_T_pairNumber (.code y_T_pairNumber b_T_pairNumber 4 ((some .int)) :: GW) ({ frames := 0, cells := 0, slots := 0, locals := 0 }) (prN [.int x, .int y]) (vp_Si (fun r => r = prI x y)) 0 0 (fun _ => False) := by
  refine Met.ofW (cc := b_T_pairNumber) (maxL := 4) (ret := (some .int)) (by decide) rfl ?_
  intro p e s m args below meth c s₁ B hml hv
  obtain ⟨rfl, -⟩ := hv
  have hx := B.exec
  have hb := B.bytes
  have hr := B.returns
  have hts : ∀ w ∈ GW, w.before _ s = true := fun w h => atoms_spec (ws := .code y_T_pairNumber b_T_pairNumber 4 ((some .int)) :: GW) B.pre w (List.mem_cons_of_mem _ h)
  have hown : s.vm.findClass "DangerTables" = some m.cls := findClass_of_methodNamed B.named
  have hlocks := B.notSynchronized
  have hl := lv_entry ([.int x, .int y]) (n := 4) (Nat.le_of_ble_eq_true rfl)
  rw [lg_entry_eq]
  generalize (lg_sl ([.int x, .int y]) ++ List.replicate (4 - (lg_sl ([.int x, .int y])).length) Slot.unset).toArray = ls at hl ⊢
  have hl : lv_has ls 4 [(0, .int x), (1, .int y)] := hl
  refine lv_iload_n hx hb d_T_pairNumber_0 rfl (lv_at hl 0 rfl) ?_
  refine lv_iload_n hx hb d_T_pairNumber_1 rfl (lv_at hl 1 rfl) ?_
  refine lv_icmp_le (tgt := 9) hx hb d_T_pairNumber_2 (by decide) (fun c_1 => ?_) (fun c_1 => ?_)
  · refine lv_iload_n hx hb d_T_pairNumber_9 rfl (lv_at hl 1 rfl) ?_
    refine lv_istore_n (lv' := [(2, .int y), (0, .int x), (1, .int y)]) hx hb d_T_pairNumber_10 rfl hl (by decide) rfl (fun ls hl => ?_)
    refine lv_iload_n hx hb d_T_pairNumber_11 rfl (lv_at hl 1 rfl) ?_
    refine lv_iload_n hx hb d_T_pairNumber_12 rfl (lv_at hl 2 rfl) ?_
    refine lv_icmp_le (tgt := 20) hx hb d_T_pairNumber_13 (by decide) (fun c_2 => ?_) (fun c_2 => ?_)
    · refine lv_iload_n hx hb d_T_pairNumber_20 rfl (lv_at hl 1 rfl) ?_
      refine lv_istore_n (lv' := [(3, .int x), (2, .int y), (0, .int x), (1, .int y)]) hx hb d_T_pairNumber_21 rfl hl (by decide) rfl (fun ls hl => ?_)
      refine lv_iload_n hx hb d_T_pairNumber_22 rfl (lv_at hl 1 rfl) ?_
      refine lv_iload_n hx hb d_T_pairNumber_23 rfl (lv_at hl 1 rfl) ?_
      refine lv_iconst (v := 1) hx hb d_T_pairNumber_24 (by decide) ?_
      refine lv_isub hx hb d_T_pairNumber_25 ?_
      refine lv_topi (fun v_3 e_3 => ?_)
      refine lv_imul hx hb d_T_pairNumber_26 ?_
      refine lv_topi (fun v_4 e_4 => ?_)
      refine lv_iconst (v := 2) hx hb d_T_pairNumber_27 (by decide) ?_
      refine lv_idiv hx hb d_T_pairNumber_28 (by decide) ?_
      refine lv_topi (fun v_5 e_5 => ?_)
      refine lv_iload_n hx hb d_T_pairNumber_29 rfl (lv_at hl 0 rfl) ?_
      refine lv_iadd hx hb d_T_pairNumber_30 ?_
      refine lv_topi (fun v_6 e_6 => ?_)
      refine lv_iconst (v := 1) hx hb d_T_pairNumber_31 (by decide) ?_
      refine lv_isub hx hb d_T_pairNumber_32 ?_
      refine lv_topi (fun v_7 e_7 => ?_)
      exact W.iret (v := v_7) hx hb hr (fun t ht hW => ⟨v_7, rfl, (by first | (simp [b2, prI, c_1, c_2, e_3, e_4, e_5, e_6, e_7]; done) | (clear hts hown B; simp_all [b2, prI]; done)), ht⟩) t_nil d_T_pairNumber_33
    · refine lv_iload_n hx hb d_T_pairNumber_16 rfl (lv_at hl 2 rfl) ?_
      refine lv_goto (tgt := 21) hx hb d_T_pairNumber_17 (by decide) ?_
      refine lv_istore_n (lv' := [(3, .int y), (2, .int y), (0, .int x), (1, .int y)]) hx hb d_T_pairNumber_21 rfl hl (by decide) rfl (fun ls hl => ?_)
      refine lv_iload_n hx hb d_T_pairNumber_22 rfl (lv_at hl 1 rfl) ?_
      refine lv_iload_n hx hb d_T_pairNumber_23 rfl (lv_at hl 1 rfl) ?_
      refine lv_iconst (v := 1) hx hb d_T_pairNumber_24 (by decide) ?_
      refine lv_isub hx hb d_T_pairNumber_25 ?_
      refine lv_topi (fun v_8 e_8 => ?_)
      refine lv_imul hx hb d_T_pairNumber_26 ?_
      refine lv_topi (fun v_9 e_9 => ?_)
      refine lv_iconst (v := 2) hx hb d_T_pairNumber_27 (by decide) ?_
      refine lv_idiv hx hb d_T_pairNumber_28 (by decide) ?_
      refine lv_topi (fun v_10 e_10 => ?_)
      refine lv_iload_n hx hb d_T_pairNumber_29 rfl (lv_at hl 0 rfl) ?_
      refine lv_iadd hx hb d_T_pairNumber_30 ?_
      refine lv_topi (fun v_11 e_11 => ?_)
      refine lv_iconst (v := 1) hx hb d_T_pairNumber_31 (by decide) ?_
      refine lv_isub hx hb d_T_pairNumber_32 ?_
      refine lv_topi (fun v_12 e_12 => ?_)
      exact W.iret (v := v_12) hx hb hr (fun t ht hW => ⟨v_12, rfl, (by first | (simp [b2, prI, c_1, c_2, e_8, e_9, e_10, e_11, e_12]; done) | (clear hts hown B; simp_all [b2, prI]; done)), ht⟩) t_nil d_T_pairNumber_33
  · refine lv_iload_n hx hb d_T_pairNumber_5 rfl (lv_at hl 0 rfl) ?_
    refine lv_goto (tgt := 10) hx hb d_T_pairNumber_6 (by decide) ?_
    refine lv_istore_n (lv' := [(2, .int x), (0, .int x), (1, .int y)]) hx hb d_T_pairNumber_10 rfl hl (by decide) rfl (fun ls hl => ?_)
    refine lv_iload_n hx hb d_T_pairNumber_11 rfl (lv_at hl 1 rfl) ?_
    refine lv_iload_n hx hb d_T_pairNumber_12 rfl (lv_at hl 2 rfl) ?_
    refine lv_icmp_le (tgt := 20) hx hb d_T_pairNumber_13 (by decide) (fun c_13 => ?_) (fun c_13 => ?_)
    · refine lv_iload_n hx hb d_T_pairNumber_20 rfl (lv_at hl 1 rfl) ?_
      refine lv_istore_n (lv' := [(3, .int x), (2, .int x), (0, .int x), (1, .int y)]) hx hb d_T_pairNumber_21 rfl hl (by decide) rfl (fun ls hl => ?_)
      refine lv_iload_n hx hb d_T_pairNumber_22 rfl (lv_at hl 1 rfl) ?_
      refine lv_iload_n hx hb d_T_pairNumber_23 rfl (lv_at hl 1 rfl) ?_
      refine lv_iconst (v := 1) hx hb d_T_pairNumber_24 (by decide) ?_
      refine lv_isub hx hb d_T_pairNumber_25 ?_
      refine lv_topi (fun v_14 e_14 => ?_)
      refine lv_imul hx hb d_T_pairNumber_26 ?_
      refine lv_topi (fun v_15 e_15 => ?_)
      refine lv_iconst (v := 2) hx hb d_T_pairNumber_27 (by decide) ?_
      refine lv_idiv hx hb d_T_pairNumber_28 (by decide) ?_
      refine lv_topi (fun v_16 e_16 => ?_)
      refine lv_iload_n hx hb d_T_pairNumber_29 rfl (lv_at hl 0 rfl) ?_
      refine lv_iadd hx hb d_T_pairNumber_30 ?_
      refine lv_topi (fun v_17 e_17 => ?_)
      refine lv_iconst (v := 1) hx hb d_T_pairNumber_31 (by decide) ?_
      refine lv_isub hx hb d_T_pairNumber_32 ?_
      refine lv_topi (fun v_18 e_18 => ?_)
      exact W.iret (v := v_18) hx hb hr (fun t ht hW => ⟨v_18, rfl, (by first | (simp [b2, prI, c_1, c_13, e_14, e_15, e_16, e_17, e_18]; done) | (clear hts hown B; simp_all [b2, prI]; done)), ht⟩) t_nil d_T_pairNumber_33
    · refine lv_iload_n hx hb d_T_pairNumber_16 rfl (lv_at hl 2 rfl) ?_
      refine lv_goto (tgt := 21) hx hb d_T_pairNumber_17 (by decide) ?_
      refine lv_istore_n (lv' := [(3, .int y), (2, .int x), (0, .int x), (1, .int y)]) hx hb d_T_pairNumber_21 rfl hl (by decide) rfl (fun ls hl => ?_)
      refine lv_iload_n hx hb d_T_pairNumber_22 rfl (lv_at hl 1 rfl) ?_
      refine lv_iload_n hx hb d_T_pairNumber_23 rfl (lv_at hl 1 rfl) ?_
      refine lv_iconst (v := 1) hx hb d_T_pairNumber_24 (by decide) ?_
      refine lv_isub hx hb d_T_pairNumber_25 ?_
      refine lv_topi (fun v_19 e_19 => ?_)
      refine lv_imul hx hb d_T_pairNumber_26 ?_
      refine lv_topi (fun v_20 e_20 => ?_)
      refine lv_iconst (v := 2) hx hb d_T_pairNumber_27 (by decide) ?_
      refine lv_idiv hx hb d_T_pairNumber_28 (by decide) ?_
      refine lv_topi (fun v_21 e_21 => ?_)
      refine lv_iload_n hx hb d_T_pairNumber_29 rfl (lv_at hl 0 rfl) ?_
      refine lv_iadd hx hb d_T_pairNumber_30 ?_
      refine lv_topi (fun v_22 e_22 => ?_)
      refine lv_iconst (v := 1) hx hb d_T_pairNumber_31 (by decide) ?_
      refine lv_isub hx hb d_T_pairNumber_32 ?_
      refine lv_topi (fun v_23 e_23 => ?_)
      exact W.iret (v := v_23) hx hb hr (fun t ht hW => ⟨v_23, rfl, (by first | (simp [b2, prI, c_1, c_13, e_19, e_20, e_21, e_22, e_23]; done) | (clear hts hown B; simp_all [b2, prI]; done)), ht⟩) t_nil d_T_pairNumber_33

set_option maxHeartbeats 4000000 in
set_option maxRecDepth 100000 in
theorem c_T_fieldsOf (l : Launch) (x y z : Int32) : Met l y_T_fieldsOf (.code y_T_fieldsOf b_T_fieldsOf 4 ((some .int)) :: GW) ({ frames := 0, cells := 0, slots := 0, locals := 0 }) (prN [.int x, .int y, .int z]) (vp_Si (fun r => r = fieI x y z)) 0 0 (fun _ => False) := by
  refine Met.ofW (cc := b_T_fieldsOf) (maxL := 4) (ret := (some .int)) (by decide) rfl ?_
  intro p e s m args below meth c s₁ B hml hv
  obtain ⟨rfl, -⟩ := hv
  have hx := B.exec
  have hb := B.bytes
  have hr := B.returns
  have hts : ∀ w ∈ GW, w.before _ s = true := fun w h => atoms_spec (ws := .code y_T_fieldsOf b_T_fieldsOf 4 ((some .int)) :: GW) B.pre w (List.mem_cons_of_mem _ h)
  have hown : s.vm.findClass "DangerTables" = some m.cls := findClass_of_methodNamed B.named
  have hlocks := B.notSynchronized
  have hl := lv_entry ([.int x, .int y, .int z]) (n := 4) (Nat.le_of_ble_eq_true rfl)
  rw [lg_entry_eq]
  generalize (lg_sl ([.int x, .int y, .int z]) ++ List.replicate (4 - (lg_sl ([.int x, .int y, .int z])).length) Slot.unset).toArray = ls at hl ⊢
  have hl : lv_has ls 4 [(0, .int x), (1, .int y), (2, .int z)] := hl
  refine lv_iconst (v := 1) hx hb d_T_fieldsOf_0 (by decide) ?_
  refine lv_istore_n (lv' := [(3, .int 1), (0, .int x), (1, .int y), (2, .int z)]) hx hb d_T_fieldsOf_1 rfl hl (by decide) rfl (fun ls hl => ?_)
  refine lv_iload_n hx hb d_T_fieldsOf_2 rfl (lv_at hl 1 rfl) ?_
  refine lv_iconst (v := 1) hx hb d_T_fieldsOf_3 (by decide) ?_
  refine lv_icmp_ne (tgt := 11) hx hb d_T_fieldsOf_4 (by decide) (fun c_1 => ?_) (fun c_1 => ?_)
  · refine lv_iload_n hx hb d_T_fieldsOf_11 rfl (lv_at hl 2 rfl) ?_
    refine lv_if_eq (tgt := 19) hx hb d_T_fieldsOf_12 (by decide) (fun c_2 => ?_) (fun c_2 => ?_)
    · refine lv_iload_n hx hb d_T_fieldsOf_19 rfl (lv_at hl 3 rfl) ?_
      refine lv_if_eq (tgt := 28) hx hb d_T_fieldsOf_20 (by decide) (fun c_3 => ?_) (fun c_3 => ?_)
      · refine lv_iload_n hx hb d_T_fieldsOf_28 rfl (lv_at hl 0 rfl) ?_
        exact W.iret (v := 1) hx hb hr (fun t ht hW => ⟨1, rfl, (by first | (simp [b2, fieI, c_1, c_2, c_3]; done) | (clear hts hown B; simp_all [b2, fieI]; done)), ht⟩) t_nil d_T_fieldsOf_29
      · refine lv_iload_n hx hb d_T_fieldsOf_23 rfl (lv_at hl 0 rfl) ?_
        refine lv_bipush (v := 8) hx hb d_T_fieldsOf_24 (by decide) ?_
        refine lv_ior hx hb d_T_fieldsOf_26 ?_
        refine lv_topi (fun v_4 e_4 => ?_)
        refine lv_istore_n (lv' := [(3, .int v_4), (0, .int x), (1, .int y), (2, .int z)]) hx hb d_T_fieldsOf_27 rfl hl (by decide) rfl (fun ls hl => ?_)
        refine lv_iload_n hx hb d_T_fieldsOf_28 rfl (lv_at hl 0 rfl) ?_
        exact W.iret (v := v_4) hx hb hr (fun t ht hW => ⟨v_4, rfl, (by first | (simp [b2, fieI, c_1, c_2, c_3, e_4]; done) | (clear hts hown B; simp_all [b2, fieI]; done)), ht⟩) t_nil d_T_fieldsOf_29
    · refine lv_iload_n hx hb d_T_fieldsOf_15 rfl (lv_at hl 0 rfl) ?_
      refine lv_iconst (v := 4) hx hb d_T_fieldsOf_16 (by decide) ?_
      refine lv_ior hx hb d_T_fieldsOf_17 ?_
      refine lv_topi (fun v_5 e_5 => ?_)
      refine lv_istore_n (lv' := [(3, .int v_5), (0, .int x), (1, .int y), (2, .int z)]) hx hb d_T_fieldsOf_18 rfl hl (by decide) rfl (fun ls hl => ?_)
      refine lv_iload_n hx hb d_T_fieldsOf_19 rfl (lv_at hl 3 rfl) ?_
      refine lv_if_eq (tgt := 28) hx hb d_T_fieldsOf_20 (by decide) (fun c_6 => ?_) (fun c_6 => ?_)
      · refine lv_iload_n hx hb d_T_fieldsOf_28 rfl (lv_at hl 0 rfl) ?_
        exact W.iret (v := v_5) hx hb hr (fun t ht hW => ⟨v_5, rfl, (by first | (simp [b2, fieI, c_1, c_2, e_5, c_6]; done) | (clear hts hown B; simp_all [b2, fieI]; done)), ht⟩) t_nil d_T_fieldsOf_29
      · refine lv_iload_n hx hb d_T_fieldsOf_23 rfl (lv_at hl 0 rfl) ?_
        refine lv_bipush (v := 8) hx hb d_T_fieldsOf_24 (by decide) ?_
        refine lv_ior hx hb d_T_fieldsOf_26 ?_
        refine lv_topi (fun v_7 e_7 => ?_)
        refine lv_istore_n (lv' := [(3, .int v_7), (0, .int x), (1, .int y), (2, .int z)]) hx hb d_T_fieldsOf_27 rfl hl (by decide) rfl (fun ls hl => ?_)
        refine lv_iload_n hx hb d_T_fieldsOf_28 rfl (lv_at hl 0 rfl) ?_
        exact W.iret (v := v_7) hx hb hr (fun t ht hW => ⟨v_7, rfl, (by first | (simp [b2, fieI, c_1, c_2, e_5, c_6, e_7]; done) | (clear hts hown B; simp_all [b2, fieI]; done)), ht⟩) t_nil d_T_fieldsOf_29
  · refine lv_iload_n hx hb d_T_fieldsOf_7 rfl (lv_at hl 0 rfl) ?_
    refine lv_iconst (v := 2) hx hb d_T_fieldsOf_8 (by decide) ?_
    refine lv_ior hx hb d_T_fieldsOf_9 ?_
    refine lv_topi (fun v_8 e_8 => ?_)
    refine lv_istore_n (lv' := [(3, .int v_8), (0, .int x), (1, .int y), (2, .int z)]) hx hb d_T_fieldsOf_10 rfl hl (by decide) rfl (fun ls hl => ?_)
    refine lv_iload_n hx hb d_T_fieldsOf_11 rfl (lv_at hl 2 rfl) ?_
    refine lv_if_eq (tgt := 19) hx hb d_T_fieldsOf_12 (by decide) (fun c_9 => ?_) (fun c_9 => ?_)
    · refine lv_iload_n hx hb d_T_fieldsOf_19 rfl (lv_at hl 3 rfl) ?_
      refine lv_if_eq (tgt := 28) hx hb d_T_fieldsOf_20 (by decide) (fun c_10 => ?_) (fun c_10 => ?_)
      · refine lv_iload_n hx hb d_T_fieldsOf_28 rfl (lv_at hl 0 rfl) ?_
        exact W.iret (v := v_8) hx hb hr (fun t ht hW => ⟨v_8, rfl, (by first | (simp [b2, fieI, c_1, e_8, c_9, c_10]; done) | (clear hts hown B; simp_all [b2, fieI]; done)), ht⟩) t_nil d_T_fieldsOf_29
      · refine lv_iload_n hx hb d_T_fieldsOf_23 rfl (lv_at hl 0 rfl) ?_
        refine lv_bipush (v := 8) hx hb d_T_fieldsOf_24 (by decide) ?_
        refine lv_ior hx hb d_T_fieldsOf_26 ?_
        refine lv_topi (fun v_11 e_11 => ?_)
        refine lv_istore_n (lv' := [(3, .int v_11), (0, .int x), (1, .int y), (2, .int z)]) hx hb d_T_fieldsOf_27 rfl hl (by decide) rfl (fun ls hl => ?_)
        refine lv_iload_n hx hb d_T_fieldsOf_28 rfl (lv_at hl 0 rfl) ?_
        exact W.iret (v := v_11) hx hb hr (fun t ht hW => ⟨v_11, rfl, (by first | (simp [b2, fieI, c_1, e_8, c_9, c_10, e_11]; done) | (clear hts hown B; simp_all [b2, fieI]; done)), ht⟩) t_nil d_T_fieldsOf_29
    · refine lv_iload_n hx hb d_T_fieldsOf_15 rfl (lv_at hl 0 rfl) ?_
      refine lv_iconst (v := 4) hx hb d_T_fieldsOf_16 (by decide) ?_
      refine lv_ior hx hb d_T_fieldsOf_17 ?_
      refine lv_topi (fun v_12 e_12 => ?_)
      refine lv_istore_n (lv' := [(3, .int v_12), (0, .int x), (1, .int y), (2, .int z)]) hx hb d_T_fieldsOf_18 rfl hl (by decide) rfl (fun ls hl => ?_)
      refine lv_iload_n hx hb d_T_fieldsOf_19 rfl (lv_at hl 3 rfl) ?_
      refine lv_if_eq (tgt := 28) hx hb d_T_fieldsOf_20 (by decide) (fun c_13 => ?_) (fun c_13 => ?_)
      · refine lv_iload_n hx hb d_T_fieldsOf_28 rfl (lv_at hl 0 rfl) ?_
        exact W.iret (v := v_12) hx hb hr (fun t ht hW => ⟨v_12, rfl, (by first | (simp [b2, fieI, c_1, e_8, c_9, e_12, c_13]; done) | (clear hts hown B; simp_all [b2, fieI]; done)), ht⟩) t_nil d_T_fieldsOf_29
      · refine lv_iload_n hx hb d_T_fieldsOf_23 rfl (lv_at hl 0 rfl) ?_
        refine lv_bipush (v := 8) hx hb d_T_fieldsOf_24 (by decide) ?_
        refine lv_ior hx hb d_T_fieldsOf_26 ?_
        refine lv_topi (fun v_14 e_14 => ?_)
        refine lv_istore_n (lv' := [(3, .int v_14), (0, .int x), (1, .int y), (2, .int z)]) hx hb d_T_fieldsOf_27 rfl hl (by decide) rfl (fun ls hl => ?_)
        refine lv_iload_n hx hb d_T_fieldsOf_28 rfl (lv_at hl 0 rfl) ?_
        exact W.iret (v := v_14) hx hb hr (fun t ht hW => ⟨v_14, rfl, (by first | (simp [b2, fieI, c_1, e_8, c_9, e_12, c_13, e_14]; done) | (clear hts hown B; simp_all [b2, fieI]; done)), ht⟩) t_nil d_T_fieldsOf_29

set_option maxHeartbeats 4000000 in
set_option maxRecDepth 100000 in
theorem c_M_in (l : Launch) (x y z : Int32) : Met l y_M_in (.code y_M_in b_M_in 3 ((some .boolean)) :: GW) ({ frames := 0, cells := 0, slots := 0, locals := 0 }) (prN [.int x, .int y, .int z]) (vp_Si (fun r => r = b2 (inR x y z))) 0 0 (fun _ => False) := by
  refine Met.ofW (cc := b_M_in) (maxL := 3) (ret := (some .boolean)) (by decide) rfl ?_
  intro p e s m args below meth c s₁ B hml hv
  obtain ⟨rfl, -⟩ := hv
  have hx := B.exec
  have hb := B.bytes
  have hr := B.returns
  have hts : ∀ w ∈ GW, w.before _ s = true := fun w h => atoms_spec (ws := .code y_M_in b_M_in 3 ((some .boolean)) :: GW) B.pre w (List.mem_cons_of_mem _ h)
  have hown : s.vm.findClass "DangerTablesModel" = some m.cls := findClass_of_methodNamed B.named
  have hlocks := B.notSynchronized
  have hl := lv_entry ([.int x, .int y, .int z]) (n := 3) (Nat.le_of_ble_eq_true rfl)
  rw [lg_entry_eq]
  generalize (lg_sl ([.int x, .int y, .int z]) ++ List.replicate (3 - (lg_sl ([.int x, .int y, .int z])).length) Slot.unset).toArray = ls at hl ⊢
  have hl : lv_has ls 3 [(0, .int x), (1, .int y), (2, .int z)] := hl
  refine lv_iload_n hx hb d_M_in_0 rfl (lv_at hl 0 rfl) ?_
  refine lv_iload_n hx hb d_M_in_1 rfl (lv_at hl 1 rfl) ?_
  refine lv_icmp_lt (tgt := 14) hx hb d_M_in_2 (by decide) (fun c_1 => ?_) (fun c_1 => ?_)
  · refine lv_iconst (v := 0) hx hb d_M_in_14 (by decide) ?_
    exact W.zret (v := 0) (ty := .boolean) hx hb hr rfl (fun t ht hW => ⟨0, rfl, (by first | (simp [b2, inR, c_1]; done) | (clear hts hown B; simp_all [b2, inR]; done)), ht⟩) t_nil d_M_in_15
  · refine lv_iload_n hx hb d_M_in_5 rfl (lv_at hl 0 rfl) ?_
    refine lv_iload_n hx hb d_M_in_6 rfl (lv_at hl 2 rfl) ?_
    refine lv_icmp_gt (tgt := 14) hx hb d_M_in_7 (by decide) (fun c_2 => ?_) (fun c_2 => ?_)
    · refine lv_iconst (v := 0) hx hb d_M_in_14 (by decide) ?_
      exact W.zret (v := 0) (ty := .boolean) hx hb hr rfl (fun t ht hW => ⟨0, rfl, (by first | (simp [b2, inR, c_1, c_2]; done) | (clear hts hown B; simp_all [b2, inR]; done)), ht⟩) t_nil d_M_in_15
    · refine lv_iconst (v := 1) hx hb d_M_in_10 (by decide) ?_
      refine lv_goto (tgt := 15) hx hb d_M_in_11 (by decide) ?_
      exact W.zret (v := 1) (ty := .boolean) hx hb hr rfl (fun t ht hW => ⟨1, rfl, (by first | (simp [b2, inR, c_1, c_2]; done) | (clear hts hown B; simp_all [b2, inR]; done)), ht⟩) t_nil d_M_in_15

set_option maxHeartbeats 4000000 in
set_option maxRecDepth 100000 in
theorem c_M_isClass (l : Launch) (x : Int32) : Met l y_M_isClass (.code y_M_isClass b_M_isClass 1 ((some .boolean)) :: GW) ({ frames := 0, cells := 0, slots := 0, locals := 0 }) (prN [.int x]) (vp_Si (fun r => r = b2 (isCls x))) 0 0 (fun _ => False) := by
  refine Met.ofW (cc := b_M_isClass) (maxL := 1) (ret := (some .boolean)) (by decide) rfl ?_
  intro p e s m args below meth c s₁ B hml hv
  obtain ⟨rfl, -⟩ := hv
  have hx := B.exec
  have hb := B.bytes
  have hr := B.returns
  have hts : ∀ w ∈ GW, w.before _ s = true := fun w h => atoms_spec (ws := .code y_M_isClass b_M_isClass 1 ((some .boolean)) :: GW) B.pre w (List.mem_cons_of_mem _ h)
  have hown : s.vm.findClass "DangerTablesModel" = some m.cls := findClass_of_methodNamed B.named
  have hlocks := B.notSynchronized
  have hl := lv_entry ([.int x]) (n := 1) (Nat.le_of_ble_eq_true rfl)
  rw [lg_entry_eq]
  generalize (lg_sl ([.int x]) ++ List.replicate (1 - (lg_sl ([.int x])).length) Slot.unset).toArray = ls at hl ⊢
  have hl : lv_has ls 1 [(0, .int x)] := hl
  refine lv_iload_n hx hb d_M_isClass_0 rfl (lv_at hl 0 rfl) ?_
  refine lv_iconst (v := 1) hx hb d_M_isClass_1 (by decide) ?_
  refine lv_icmp_lt (tgt := 15) hx hb d_M_isClass_2 (by decide) (fun c_1 => ?_) (fun c_1 => ?_)
  · refine lv_iconst (v := 0) hx hb d_M_isClass_15 (by decide) ?_
    exact W.zret (v := 0) (ty := .boolean) hx hb hr rfl (fun t ht hW => ⟨0, rfl, (by first | (simp [b2, isCls, c_1]; done) | (clear hts hown B; simp_all [b2, isCls]; done)), ht⟩) t_nil d_M_isClass_16
  · refine lv_iload_n hx hb d_M_isClass_5 rfl (lv_at hl 0 rfl) ?_
    refine lv_bipush (v := 9) hx hb d_M_isClass_6 (by decide) ?_
    refine lv_icmp_gt (tgt := 15) hx hb d_M_isClass_8 (by decide) (fun c_2 => ?_) (fun c_2 => ?_)
    · refine lv_iconst (v := 0) hx hb d_M_isClass_15 (by decide) ?_
      exact W.zret (v := 0) (ty := .boolean) hx hb hr rfl (fun t ht hW => ⟨0, rfl, (by first | (simp [b2, isCls, c_1, c_2]; done) | (clear hts hown B; simp_all [b2, isCls]; done)), ht⟩) t_nil d_M_isClass_16
    · refine lv_iconst (v := 1) hx hb d_M_isClass_11 (by decide) ?_
      refine lv_goto (tgt := 16) hx hb d_M_isClass_12 (by decide) ?_
      exact W.zret (v := 1) (ty := .boolean) hx hb hr rfl (fun t ht hW => ⟨1, rfl, (by first | (simp [b2, isCls, c_1, c_2]; done) | (clear hts hown B; simp_all [b2, isCls]; done)), ht⟩) t_nil d_M_isClass_16

set_option maxHeartbeats 4000000 in
set_option maxRecDepth 100000 in
theorem c_M_pair (l : Launch) (x y : Int32) : Met l y_M_pair (.code y_M_pair b_M_pair 2 ((some .int)) :: GW) ({ frames := 0, cells := 0, slots := 0, locals := 0 }) (prN [.int x, .int y]) (vp_Si (fun r => r = prM x y)) 0 0 (fun _ => False) := by
  refine Met.ofW (cc := b_M_pair) (maxL := 2) (ret := (some .int)) (by decide) rfl ?_
  intro p e s m args below meth c s₁ B hml hv
  obtain ⟨rfl, -⟩ := hv
  have hx := B.exec
  have hb := B.bytes
  have hr := B.returns
  have hts : ∀ w ∈ GW, w.before _ s = true := fun w h => atoms_spec (ws := .code y_M_pair b_M_pair 2 ((some .int)) :: GW) B.pre w (List.mem_cons_of_mem _ h)
  have hown : s.vm.findClass "DangerTablesModel" = some m.cls := findClass_of_methodNamed B.named
  have hlocks := B.notSynchronized
  have hl := lv_entry ([.int x, .int y]) (n := 2) (Nat.le_of_ble_eq_true rfl)
  rw [lg_entry_eq]
  generalize (lg_sl ([.int x, .int y]) ++ List.replicate (2 - (lg_sl ([.int x, .int y])).length) Slot.unset).toArray = ls at hl ⊢
  have hl : lv_has ls 2 [(0, .int x), (1, .int y)] := hl
  refine lv_bipush (v := 9) hx hb d_M_pair_0 (by decide) ?_
  refine lv_iload_n hx hb d_M_pair_2 rfl (lv_at hl 0 rfl) ?_
  refine lv_iconst (v := 1) hx hb d_M_pair_3 (by decide) ?_
  refine lv_isub hx hb d_M_pair_4 ?_
  refine lv_topi (fun v_1 e_1 => ?_)
  refine lv_imul hx hb d_M_pair_5 ?_
  refine lv_topi (fun v_2 e_2 => ?_)
  refine lv_iload_n hx hb d_M_pair_6 rfl (lv_at hl 1 rfl) ?_
  refine lv_iadd hx hb d_M_pair_7 ?_
  refine lv_topi (fun v_3 e_3 => ?_)
  refine lv_iconst (v := 1) hx hb d_M_pair_8 (by decide) ?_
  refine lv_isub hx hb d_M_pair_9 ?_
  refine lv_topi (fun v_4 e_4 => ?_)
  exact W.iret (v := v_4) hx hb hr (fun t ht hW => ⟨v_4, rfl, (by first | (simp [b2, prM, e_1, e_2, e_3, e_4]; done) | (clear hts hown B; simp_all [b2, prM]; done)), ht⟩) t_nil d_M_pair_10

set_option maxHeartbeats 4000000 in
set_option maxRecDepth 100000 in
theorem c_M_greater (l : Launch) (x y : Int32) : Met l y_M_greater (.code y_M_greater b_M_greater 2 ((some .int)) :: GW) ({ frames := 0, cells := 0, slots := 0, locals := 0 }) (prN [.int x, .int y]) (vp_Si (fun r => r = gtI x y)) 0 0 (fun _ => False) := by
  refine Met.ofW (cc := b_M_greater) (maxL := 2) (ret := (some .int)) (by decide) rfl ?_
  intro p e s m args below meth c s₁ B hml hv
  obtain ⟨rfl, -⟩ := hv
  have hx := B.exec
  have hb := B.bytes
  have hr := B.returns
  have hts : ∀ w ∈ GW, w.before _ s = true := fun w h => atoms_spec (ws := .code y_M_greater b_M_greater 2 ((some .int)) :: GW) B.pre w (List.mem_cons_of_mem _ h)
  have hown : s.vm.findClass "DangerTablesModel" = some m.cls := findClass_of_methodNamed B.named
  have hlocks := B.notSynchronized
  have hl := lv_entry ([.int x, .int y]) (n := 2) (Nat.le_of_ble_eq_true rfl)
  rw [lg_entry_eq]
  generalize (lg_sl ([.int x, .int y]) ++ List.replicate (2 - (lg_sl ([.int x, .int y])).length) Slot.unset).toArray = ls at hl ⊢
  have hl : lv_has ls 2 [(0, .int x), (1, .int y)] := hl
  refine lv_iload_n hx hb d_M_greater_0 rfl (lv_at hl 0 rfl) ?_
  refine lv_iload_n hx hb d_M_greater_1 rfl (lv_at hl 1 rfl) ?_
  refine lv_icmp_le (tgt := 9) hx hb d_M_greater_2 (by decide) (fun c_1 => ?_) (fun c_1 => ?_)
  · refine lv_iload_n hx hb d_M_greater_9 rfl (lv_at hl 1 rfl) ?_
    exact W.iret (v := y) hx hb hr (fun t ht hW => ⟨y, rfl, (by first | (simp [b2, gtI, c_1]; done) | (clear hts hown B; simp_all [b2, gtI]; done)), ht⟩) t_nil d_M_greater_10
  · refine lv_iload_n hx hb d_M_greater_5 rfl (lv_at hl 0 rfl) ?_
    refine lv_goto (tgt := 10) hx hb d_M_greater_6 (by decide) ?_
    exact W.iret (v := x) hx hb hr (fun t ht hW => ⟨x, rfl, (by first | (simp [b2, gtI, c_1]; done) | (clear hts hown B; simp_all [b2, gtI]; done)), ht⟩) t_nil d_M_greater_10

set_option maxHeartbeats 4000000 in
set_option maxRecDepth 100000 in
theorem c_M_far (l : Launch) (x : Int32) : Met l y_M_far (.code y_M_far b_M_far 1 ((some .int)) :: GW) ({ frames := 0, cells := 0, slots := 0, locals := 0 }) (prN [.int x]) (vp_Si (fun r => r = farI x)) 0 0 (fun _ => False) := by
  refine Met.ofW (cc := b_M_far) (maxL := 1) (ret := (some .int)) (by decide) rfl ?_
  intro p e s m args below meth c s₁ B hml hv
  obtain ⟨rfl, -⟩ := hv
  have hx := B.exec
  have hb := B.bytes
  have hr := B.returns
  have hts : ∀ w ∈ GW, w.before _ s = true := fun w h => atoms_spec (ws := .code y_M_far b_M_far 1 ((some .int)) :: GW) B.pre w (List.mem_cons_of_mem _ h)
  have hown : s.vm.findClass "DangerTablesModel" = some m.cls := findClass_of_methodNamed B.named
  have hlocks := B.notSynchronized
  have hl := lv_entry ([.int x]) (n := 1) (Nat.le_of_ble_eq_true rfl)
  rw [lg_entry_eq]
  generalize (lg_sl ([.int x]) ++ List.replicate (1 - (lg_sl ([.int x])).length) Slot.unset).toArray = ls at hl ⊢
  have hl : lv_has ls 1 [(0, .int x)] := hl
  refine lv_iload_n hx hb d_M_far_0 rfl (lv_at hl 0 rfl) ?_
  refine lv_if_ge (tgt := 9) hx hb d_M_far_1 (by decide) (fun c_1 => ?_) (fun c_1 => ?_)
  · refine lv_iload_n hx hb d_M_far_9 rfl (lv_at hl 0 rfl) ?_
    exact W.iret (v := x) hx hb hr (fun t ht hW => ⟨x, rfl, (by first | (simp [b2, farI, c_1]; done) | (clear hts hown B; simp_all [b2, farI]; done)), ht⟩) t_nil d_M_far_10
  · refine lv_iload_n hx hb d_M_far_4 rfl (lv_at hl 0 rfl) ?_
    refine lv_ineg hx hb d_M_far_5 ?_
    refine lv_topi (fun v_2 e_2 => ?_)
    refine lv_goto (tgt := 10) hx hb d_M_far_6 (by decide) ?_
    exact W.iret (v := v_2) hx hb hr (fun t ht hW => ⟨v_2, rfl, (by first | (simp [b2, farI, c_1, e_2]; done) | (clear hts hown B; simp_all [b2, farI]; done)), ht⟩) t_nil d_M_far_10

