/-! THE REFERENCE: its cells, and what they say of goods, boxes, rules -/
abbrev cB (g : GT) (n : Nat) (f : Nat → Int32) : va_E := .inl (g.2.1 1, n, .inl f)
def mln (k : Nat) : Nat := [300, 162, 16, 16, 16, 16, 16, 16, 1296, 12, 12, 12, 12, 12, 48, 48, 36].getD k 0
def mty (k : Nat) : Nat := [0, 0, 0, 0, 0, 0, 1, 1, 1, 0, 0, 0, 0, 0, 0, 0, 0].getD k 0
abbrev cM (ad : Nat → Nat) (t sn hd gn bn : Int32) : va_E := .inr (5, [.int t, .ref (ad 0), .int sn, .int hd, .ref (ad 1), .int gn, .ref (ad 2), .ref (ad 3), .ref (ad 4), .ref (ad 5), .ref (ad 6), .ref (ad 7), .ref (ad 8), .int bn, .ref (ad 9), .ref (ad 10), .ref (ad 11), .ref (ad 12), .ref (ad 13), .ref (ad 14), .ref (ad 15), .ref (ad 16)])
def isM (g : GT) (w : Nat → Option va_E) (mo : Nat) (ad : Nat → Nat) (t : Int32) (sn : Nat) (hd : Int32) (gn bn : Nat) (F : Nat → Nat → Int32) : Prop := w mo = some (cM ad t (nI sn) hd (nI gn) (nI bn)) ∧ (∀ k : Nat, k < 17 → w (ad k) = some (.inl (g.2.1 (mty k), mln k, .inl (F k)))) ∧ ∀ i j : Nat, i < 17 → j < 17 → ad i = ad j → i = j
def upd2 (F : Nat → Nat → Int32) (k : Nat) (f : Nat → Int32) : Nat → Nat → Int32 := fun j => if j = k then f else F j
theorem isM_put {g : GT} {w : Nat → Option va_E} {mo : Nat} {ad : Nat → Nat} {t hd t1 hd1 : Int32} {sn gn bn sn1 gn1 bn1 : Nat} {F : Nat → Nat → Int32} (h : isM g w mo ad t sn hd gn bn F) : isM g (va_up w mo (some (cM ad t1 (nI sn1) hd1 (nI gn1) (nI bn1)))) mo ad t1 sn1 hd1 gn1 bn1 F := by
  refine ⟨va_up_self _ _ _, fun k hk => ?_, h.2.2⟩
  rw [va_up_ne _ _ (ne_c h.1 (h.2.1 k hk) (fun z => by cases z))]
  exact h.2.1 k hk
theorem isM_arr (k : Nat) (hk : k < 17) {g : GT} {w : Nat → Option va_E} {mo : Nat} {ad : Nat → Nat} {t hd : Int32} {sn gn bn : Nat} {F : Nat → Nat → Int32} {f : Nat → Int32} (h : isM g w mo ad t sn hd gn bn F) : isM g (va_up w (ad k) (some (.inl (g.2.1 (mty k), mln k, .inl f)))) mo ad t sn hd gn bn (upd2 F k f) := by
  refine ⟨?_, fun j hj => ?_, h.2.2⟩
  · rw [va_up_ne _ _ (ne_c (h.2.1 k hk) h.1 (fun z => by cases z))]
    exact h.1
  · unfold upd2
    by_cases hjk : j = k
    · subst hjk
      rw [va_up_self, if_pos rfl]
    · rw [va_up_ne _ _ (fun e => hjk (h.2.2 j k hj hk e)), if_neg hjk]
      exact h.2.1 j hj
/-- a box: its goods by number and amount, zone, x, y, fields told -/
abbrev BR : Type := List (Nat × Int32) × Int32 × Int32 × Int32 × Int32
def prOf (gd : Nat → GD) (p : Nat × Int32) : PR := ((gd p.1).1, (gd p.1).2.1, (gd p.1).2.2.1, (gd p.1).2.2.2.1, (gd p.1).2.2.2.2, nI p.1, p.2)
def bxOf (gd : Nat → GD) (b : BR) : BX := (b.1.map (prOf gd), b.2)
def RG (gd : Nat → GD) (gn : Nat) (F : Nat → Nat → Int32) : Prop := gn ≤ 16 ∧ ∀ n : Nat, n < gn → F 2 n = (gd n).1 ∧ F 3 n = (gd n).2.1 ∧ F 5 n = (gd n).2.2.1 ∧ (gd n).2.2.2.1 = fieI (F 4 n) (F 6 n) (F 7 n) ∧ isCls (gd n).1 = true ∧ okC (gd n).2.1 ∧ ∀ i j : Nat, i < 9 → j < 9 → F 8 (81 * n + (9 * i + j)) = b2 (isEx (gd n).2.2.2.2 (prI (nI (i + 1)) (nI (j + 1))))
def RT (rf : Nat → Int32) (F : Nat → Nat → Int32) : Prop := ∀ i j : Nat, i < 9 → j < 9 → F 1 (9 * i + j) = rf (prI (nI (i + 1)) (nI (j + 1))).toNatClampNeg
def RBx (F : Nat → Nat → Int32) (gn i : Nat) (b : BR) : Prop := (0 < b.1.length ∧ b.1.length ≤ 4) ∧ F 9 i = nI b.1.length ∧ F 10 i = b.2.1 ∧ F 13 i = b.2.2.2.2 ∧ ((b.2.1 = -1 ∧ b.2.2.1 = -1 ∧ b.2.2.2.1 = -1) ∨ (isZn b.2.1 = true ∧ F 11 i = b.2.2.1 ∧ F 12 i = b.2.2.2.1 ∧ isSl b.2.2.1 b.2.2.2.1 = true)) ∧ ∀ (j : Nat) (p : Nat × Int32), b.1[j]? = some p → p.1 < gn ∧ F 14 (4 * i + j) = nI p.1 ∧ F 15 (4 * i + j) = p.2
def RBs (F : Nat → Nat → Int32) (gn bn : Nat) (br : List BR) : Prop := bn ≤ 12 ∧ br.length = bn ∧ ∀ (i : Nat) (b : BR), br[i]? = some b → RBx F gn i b
def RZ (mz : Nat → Nat → Int32) (F : Nat → Nat → Int32) : Prop := ∀ z c : Nat, z < 4 → c < 9 → F 16 (9 * z + c) = mz z (c + 1)
theorem prM_nat {i j : Nat} (hi : i < 9) (hj : j < 9) : prM (nI (i + 1)) (nI (j + 1)) = nI (9 * i + j) := by
  unfold prM
  rw [nI_pred, show (9 : Int32) = nI 9 from rfl, pk_mul, nI_add, show 9 * i + (j + 1) = (9 * i + j) + 1 by omega, nI_pred]
theorem gt_mx (x y : Int32) : gtI x y = mxI x y := by
  unfold gtI mxI
  by_cases h : x < y
  · rw [if_pos h, if_pos (Int32.le_of_lt h)]
  · rw [if_neg h]
    by_cases h2 : x ≤ y
    · rw [if_pos h2]
      exact Int32.le_antisymm (Int32.not_lt.mp h) h2
    · rw [if_neg h2]
theorem mx_as (x y z : Int32) : mxI (mxI x y) z = mxI x (mxI y z) := by
  unfold mxI
  repeat' split
  all_goals first | rfl | (rw [Int32.lt_iff_toInt_lt] at *; omega) | (apply Int32.toInt_inj.mp; rw [Int32.lt_iff_toInt_lt] at *; omega)
theorem mn_1 (x : Int32) : mnI x 1 = if x ≤ 1 then x else 1 := by
  unfold mnI
  by_cases h : (1 : Int32) < x
  · rw [if_pos h, if_neg (Int32.not_le.mpr h)]
  · rw [if_neg h, if_pos (Int32.not_lt.mp h)]
set_option maxHeartbeats 4000000 in
set_option maxRecDepth 100000 in
theorem c_M_thrown (l : Launch) (g : GT) (w : Nat → Option va_E) (mo : Nat) (ad : Nat → Nat) (t0 hd : Int32) (sn gn bn : Nat) (F : Nat → Nat → Int32)  (hM : isM g w mo ad t0 sn hd gn bn F)  : Met l y_M_thrown (.code y_M_thrown b_M_thrown 1 ((some .int)) :: GW) ({ frames := 0, cells := 0, slots := 0, locals := 0 }) (prR g [.ref mo] w) (vp_Si (fun r => r = t0)) 0 0 (fun _ => False) := by
  refine Met.ofW (cc := b_M_thrown) (maxL := 1) (ret := (some .int)) (by decide) rfl ?_
  intro p e s m args below meth c s₁ B hml hv
  obtain ⟨rfl, hG, hw⟩ := hv
  have hx := B.exec
  have hb := B.bytes
  have hr := B.returns
  have hts : ∀ w ∈ GW, w.before _ s = true := fun w h => atoms_spec (ws := .code y_M_thrown b_M_thrown 1 ((some .int)) :: GW) B.pre w (List.mem_cons_of_mem _ h)
  have hown : s.vm.findClass "DangerTablesModel" = some m.cls := findClass_of_methodNamed B.named
  have hlocks := B.notSynchronized
  have hf := hG.here
  have hK := hf.1
  have hAB : ∀ q, gB g q → gB g q := fun _ h => h
  have hS : va_S (gB g) s.heap s.heap [] := va_S.rf
  have hl := lv_entry ([.ref mo]) (n := 1) (Nat.le_of_ble_eq_true rfl)
  rw [lg_entry_eq]
  generalize (lg_sl ([.ref mo]) ++ List.replicate (1 - (lg_sl ([.ref mo])).length) Slot.unset).toArray = ls at hl ⊢
  have hl : lv_has ls 1 [(0, .ref mo)] := hl
  refine lv_aload_n hx hb d_M_thrown_0 rfl (lv_at hl 0 rfl) ?_
  refine ww_get (v := .int t0) (C := R_M) (T := F_M) (N := 22) (ci := 5) hx hb hts i_M hown hK hw hM.1 rfl 0 (by decide) (hts _ k_655) (fun _ h9 => h9) rfl d_M_thrown_1 ?_
  exact W.iret (v := t0) hx hb hr (fun t ht hW => ⟨t0, rfl, rfl, ht⟩) t_nil d_M_thrown_4

set_option maxHeartbeats 4000000 in
set_option maxRecDepth 100000 in
theorem c_M_isGood (l : Launch) (g : GT) (w : Nat → Option va_E) (mo : Nat) (ad : Nat → Nat) (t0 hd : Int32) (sn gn bn : Nat) (F : Nat → Nat → Int32) (v : Int32) (hM : isM g w mo ad t0 sn hd gn bn F)  : Met l y_M_isGood (.code y_M_isGood b_M_isGood 2 ((some .boolean)) :: GW) ({ frames := 0, cells := 0, slots := 0, locals := 0 }) (prR g [.ref mo, .int v] w) (vp_Si (fun r => r = b2 (inL v gn))) 0 0 (fun _ => False) := by
  refine Met.ofW (cc := b_M_isGood) (maxL := 2) (ret := (some .boolean)) (by decide) rfl ?_
  intro p e s m args below meth c s₁ B hml hv
  obtain ⟨rfl, hG, hw⟩ := hv
  have hx := B.exec
  have hb := B.bytes
  have hr := B.returns
  have hts : ∀ w ∈ GW, w.before _ s = true := fun w h => atoms_spec (ws := .code y_M_isGood b_M_isGood 2 ((some .boolean)) :: GW) B.pre w (List.mem_cons_of_mem _ h)
  have hown : s.vm.findClass "DangerTablesModel" = some m.cls := findClass_of_methodNamed B.named
  have hlocks := B.notSynchronized
  have hf := hG.here
  have hK := hf.1
  have hAB : ∀ q, gB g q → gB g q := fun _ h => h
  have hS : va_S (gB g) s.heap s.heap [] := va_S.rf
  have hl := lv_entry ([.ref mo, .int v]) (n := 2) (Nat.le_of_ble_eq_true rfl)
  rw [lg_entry_eq]
  generalize (lg_sl ([.ref mo, .int v]) ++ List.replicate (2 - (lg_sl ([.ref mo, .int v])).length) Slot.unset).toArray = ls at hl ⊢
  have hl : lv_has ls 2 [(0, .ref mo), (1, .int v)] := hl
  refine lv_iload_n hx hb d_M_isGood_0 rfl (lv_at hl 1 rfl) ?_
  refine lv_if_lt (tgt := 16) hx hb d_M_isGood_1 (by decide) (fun c_1 => ?_) (fun c_1 => ?_)
  · refine lv_iconst (v := 0) hx hb d_M_isGood_16 (by decide) ?_
    exact W.zret (v := 0) (ty := .boolean) hx hb hr rfl (fun t ht hW => ⟨0, rfl, (by first | (simp [b2, inL, c_1]; done) | (clear hts hown B; simp_all [b2, inL]; done)), ht⟩) t_nil d_M_isGood_17
  · refine lv_iload_n hx hb d_M_isGood_4 rfl (lv_at hl 1 rfl) ?_
    refine lv_aload_n hx hb d_M_isGood_5 rfl (lv_at hl 0 rfl) ?_
    refine ww_get (v := .int (nI gn)) (C := R_M) (T := F_M) (N := 22) (ci := 5) hx hb hts i_M hown hK hw hM.1 rfl 5 (by decide) (hts _ k_660) (fun _ h9 => h9) rfl d_M_isGood_6 ?_
    refine lv_icmp_ge (tgt := 16) hx hb d_M_isGood_9 (by decide) (fun c_2 => ?_) (fun c_2 => ?_)
    · refine lv_iconst (v := 0) hx hb d_M_isGood_16 (by decide) ?_
      exact W.zret (v := 0) (ty := .boolean) hx hb hr rfl (fun t ht hW => ⟨0, rfl, (by first | (simp [b2, inL, c_1, c_2]; done) | (clear hts hown B; simp_all [b2, inL]; done)), ht⟩) t_nil d_M_isGood_17
    · refine lv_iconst (v := 1) hx hb d_M_isGood_12 (by decide) ?_
      refine lv_goto (tgt := 17) hx hb d_M_isGood_13 (by decide) ?_
      exact W.zret (v := 1) (ty := .boolean) hx hb hr rfl (fun t ht hW => ⟨1, rfl, (by first | (simp [b2, inL, c_1, c_2]; done) | (clear hts hown B; simp_all [b2, inL]; done)), ht⟩) t_nil d_M_isGood_17

set_option maxHeartbeats 4000000 in
set_option maxRecDepth 100000 in
theorem c_M_isBox (l : Launch) (g : GT) (w : Nat → Option va_E) (mo : Nat) (ad : Nat → Nat) (t0 hd : Int32) (sn gn bn : Nat) (F : Nat → Nat → Int32) (v : Int32) (hM : isM g w mo ad t0 sn hd gn bn F)  : Met l y_M_isBox (.code y_M_isBox b_M_isBox 2 ((some .boolean)) :: GW) ({ frames := 0, cells := 0, slots := 0, locals := 0 }) (prR g [.ref mo, .int v] w) (vp_Si (fun r => r = b2 (inL v bn))) 0 0 (fun _ => False) := by
  refine Met.ofW (cc := b_M_isBox) (maxL := 2) (ret := (some .boolean)) (by decide) rfl ?_
  intro p e s m args below meth c s₁ B hml hv
  obtain ⟨rfl, hG, hw⟩ := hv
  have hx := B.exec
  have hb := B.bytes
  have hr := B.returns
  have hts : ∀ w ∈ GW, w.before _ s = true := fun w h => atoms_spec (ws := .code y_M_isBox b_M_isBox 2 ((some .boolean)) :: GW) B.pre w (List.mem_cons_of_mem _ h)
  have hown : s.vm.findClass "DangerTablesModel" = some m.cls := findClass_of_methodNamed B.named
  have hlocks := B.notSynchronized
  have hf := hG.here
  have hK := hf.1
  have hAB : ∀ q, gB g q → gB g q := fun _ h => h
  have hS : va_S (gB g) s.heap s.heap [] := va_S.rf
  have hl := lv_entry ([.ref mo, .int v]) (n := 2) (Nat.le_of_ble_eq_true rfl)
  rw [lg_entry_eq]
  generalize (lg_sl ([.ref mo, .int v]) ++ List.replicate (2 - (lg_sl ([.ref mo, .int v])).length) Slot.unset).toArray = ls at hl ⊢
  have hl : lv_has ls 2 [(0, .ref mo), (1, .int v)] := hl
  refine lv_iload_n hx hb d_M_isBox_0 rfl (lv_at hl 1 rfl) ?_
  refine lv_if_lt (tgt := 16) hx hb d_M_isBox_1 (by decide) (fun c_1 => ?_) (fun c_1 => ?_)
  · refine lv_iconst (v := 0) hx hb d_M_isBox_16 (by decide) ?_
    exact W.zret (v := 0) (ty := .boolean) hx hb hr rfl (fun t ht hW => ⟨0, rfl, (by first | (simp [b2, inL, c_1]; done) | (clear hts hown B; simp_all [b2, inL]; done)), ht⟩) t_nil d_M_isBox_17
  · refine lv_iload_n hx hb d_M_isBox_4 rfl (lv_at hl 1 rfl) ?_
    refine lv_aload_n hx hb d_M_isBox_5 rfl (lv_at hl 0 rfl) ?_
    refine ww_get (v := .int (nI bn)) (C := R_M) (T := F_M) (N := 22) (ci := 5) hx hb hts i_M hown hK hw hM.1 rfl 13 (by decide) (hts _ k_668) (fun _ h9 => h9) rfl d_M_isBox_6 ?_
    refine lv_icmp_ge (tgt := 16) hx hb d_M_isBox_9 (by decide) (fun c_2 => ?_) (fun c_2 => ?_)
    · refine lv_iconst (v := 0) hx hb d_M_isBox_16 (by decide) ?_
      exact W.zret (v := 0) (ty := .boolean) hx hb hr rfl (fun t ht hW => ⟨0, rfl, (by first | (simp [b2, inL, c_1, c_2]; done) | (clear hts hown B; simp_all [b2, inL]; done)), ht⟩) t_nil d_M_isBox_17
    · refine lv_iconst (v := 1) hx hb d_M_isBox_12 (by decide) ?_
      refine lv_goto (tgt := 17) hx hb d_M_isBox_13 (by decide) ?_
      exact W.zret (v := 1) (ty := .boolean) hx hb hr rfl (fun t ht hW => ⟨1, rfl, (by first | (simp [b2, inL, c_1, c_2]; done) | (clear hts hown B; simp_all [b2, inL]; done)), ht⟩) t_nil d_M_isBox_17

set_option maxHeartbeats 4000000 in
set_option maxRecDepth 100000 in
theorem c_M_isLimited (l : Launch) (g : GT) (w : Nat → Option va_E) (mo : Nat) (ad : Nat → Nat) (t0 hd : Int32) (sn gn bn : Nat) (F : Nat → Nat → Int32) (q n : Nat) (hM : isM g w mo ad t0 sn hd gn bn F) (hq : q < 48) (hn : n < 16) (h14 : F 14 q = nI n) : Met l y_M_isLimited (.code y_M_isLimited b_M_isLimited 2 ((some .boolean)) :: GW) ({ frames := 0, cells := 0, slots := 0, locals := 0 }) (prR g [.ref mo, .int (nI q)] w) (vp_Si (fun r => r = b2 (isLim (F 15 q) (F 5 n)))) 0 0 (fun _ => False) := by
  refine Met.ofW (cc := b_M_isLimited) (maxL := 2) (ret := (some .boolean)) (by decide) rfl ?_
  intro p e s m args below meth c s₁ B hml hv
  obtain ⟨rfl, hG, hw⟩ := hv
  have hx := B.exec
  have hb := B.bytes
  have hr := B.returns
  have hts : ∀ w ∈ GW, w.before _ s = true := fun w h => atoms_spec (ws := .code y_M_isLimited b_M_isLimited 2 ((some .boolean)) :: GW) B.pre w (List.mem_cons_of_mem _ h)
  have hown : s.vm.findClass "DangerTablesModel" = some m.cls := findClass_of_methodNamed B.named
  have hlocks := B.notSynchronized
  have hf := hG.here
  have hK := hf.1
  have hAB : ∀ q, gB g q → gB g q := fun _ h => h
  have hS : va_S (gB g) s.heap s.heap [] := va_S.rf
  have hl := lv_entry ([.ref mo, .int (nI q)]) (n := 2) (Nat.le_of_ble_eq_true rfl)
  rw [lg_entry_eq]
  generalize (lg_sl ([.ref mo, .int (nI q)]) ++ List.replicate (2 - (lg_sl ([.ref mo, .int (nI q)])).length) Slot.unset).toArray = ls at hl ⊢
  have hl : lv_has ls 2 [(0, .ref mo), (1, .int (nI q))] := hl
  refine lv_aload_n hx hb d_M_isLimited_0 rfl (lv_at hl 0 rfl) ?_
  refine ww_get (v := .ref (ad 15)) (C := R_M) (T := F_M) (N := 22) (ci := 5) hx hb hts i_M hown hK hw hM.1 rfl 20 (by decide) (hts _ k_675) (fun _ h9 => h9) rfl d_M_isLimited_1 ?_
  refine lv_iload_n hx hb d_M_isLimited_4 rfl (lv_at hl 1 rfl) ?_
  refine ww_iald (v := (F 15) q) hx hb hK hw 0 (show w (ad 15) = some (cA g 48 (F 15)) from hM.2.1 15 (by decide)) rfl (vp_in_nI (by omega) (by decide)) (by rw [nI_clamp (by omega)]) d_M_isLimited_5 ?_
  refine lv_topi (fun v_1 e_1 => ?_)
  refine lv_aload_n hx hb d_M_isLimited_6 rfl (lv_at hl 0 rfl) ?_
  refine ww_get (v := .ref (ad 5)) (C := R_M) (T := F_M) (N := 22) (ci := 5) hx hb hts i_M hown hK hw hM.1 rfl 9 (by decide) (hts _ k_664) (fun _ h9 => h9) rfl d_M_isLimited_7 ?_
  refine lv_aload_n hx hb d_M_isLimited_10 rfl (lv_at hl 0 rfl) ?_
  refine ww_get (v := .ref (ad 14)) (C := R_M) (T := F_M) (N := 22) (ci := 5) hx hb hts i_M hown hK hw hM.1 rfl 19 (by decide) (hts _ k_674) (fun _ h9 => h9) rfl d_M_isLimited_11 ?_
  refine lv_iload_n hx hb d_M_isLimited_14 rfl (lv_at hl 1 rfl) ?_
  refine ww_iald (v := (F 14) q) hx hb hK hw 0 (show w (ad 14) = some (cA g 48 (F 14)) from hM.2.1 14 (by decide)) rfl (vp_in_nI (by omega) (by decide)) (by rw [nI_clamp (by omega)]) d_M_isLimited_15 ?_
  refine lv_topi (fun v_2 e_2 => ?_)
  obtain rfl : nI n = v_2 := (e_2.trans h14).symm
  refine ww_iald (v := (F 5) n) hx hb hK hw 0 (show w (ad 5) = some (cA g 16 (F 5)) from hM.2.1 5 (by decide)) rfl (vp_in_nI (by omega) (by decide)) (by rw [nI_clamp (by omega)]) d_M_isLimited_16 ?_
  refine lv_topi (fun v_3 e_3 => ?_)
  refine lv_icmp_gt (tgt := 24) hx hb d_M_isLimited_17 (by decide) (fun c_4 => ?_) (fun c_4 => ?_)
  · refine lv_iconst (v := 0) hx hb d_M_isLimited_24 (by decide) ?_
    exact W.zret (v := 0) (ty := .boolean) hx hb hr rfl (fun t ht hW => ⟨0, rfl, (by first | (simp [b2, isLim, e_1, e_3, c_4]; done) | (clear hts hown B; simp_all [b2, isLim]; done)), ht⟩) t_nil d_M_isLimited_25
  · refine lv_iconst (v := 1) hx hb d_M_isLimited_20 (by decide) ?_
    refine lv_goto (tgt := 25) hx hb d_M_isLimited_21 (by decide) ?_
    exact W.zret (v := 1) (ty := .boolean) hx hb hr rfl (fun t ht hW => ⟨1, rfl, (by first | (simp [b2, isLim, e_1, e_3, c_4]; done) | (clear hts hown B; simp_all [b2, isLim]; done)), ht⟩) t_nil d_M_isLimited_25

set_option maxHeartbeats 4000000 in
set_option maxRecDepth 100000 in
theorem c_M_ruleFor (l : Launch) (g : GT) (w : Nat → Option va_E) (mo : Nat) (ad : Nat → Nat) (t0 hd : Int32) (sn gn bn : Nat) (F : Nat → Nat → Int32) (gd : Nat → GD) (rf : Nat → Int32) (n1 n2 : Nat) (u v : Int32) (hM : isM g w mo ad t0 sn hd gn bn F) (hRG : RG gd gn F) (hRT : RT rf F) (h1 : n1 < gn) (h2 : n2 < gn) (hu : okC u) (hv : okC v) : Met l y_M_ruleFor (.code y_M_ruleFor b_M_ruleFor 6 ((some .int)) :: GW) ({ frames := 1, cells := 0, slots := 0, locals := 21 }) (prR g [.ref mo, .int (nI n1), .int (nI n2), .int u, .int v] w) (vp_Si (fun r => r = ruC rf (gd n1).2.2.2.2 (gd n2).2.2.2.2 u v)) 0 0 (fun _ => False) := by
  refine Met.ofW (cc := b_M_ruleFor) (maxL := 6) (ret := (some .int)) (by decide) rfl ?_
  intro p e s m args below meth c s₁ B hml hv
  obtain ⟨rfl, hG, hw⟩ := hv
  have hx := B.exec
  have hb := B.bytes
  have hr := B.returns
  have hts : ∀ w ∈ GW, w.before _ s = true := fun w h => atoms_spec (ws := .code y_M_ruleFor b_M_ruleFor 6 ((some .int)) :: GW) B.pre w (List.mem_cons_of_mem _ h)
  have hown : s.vm.findClass "DangerTablesModel" = some m.cls := findClass_of_methodNamed B.named
  have hlocks := B.notSynchronized
  have hf := hG.here
  have hK := hf.1
  have hAB : ∀ q, gB g q → gB g q := fun _ h => h
  have hS : va_S (gB g) s.heap s.heap [] := va_S.rf
  have hl := lv_entry ([.ref mo, .int (nI n1), .int (nI n2), .int u, .int v]) (n := 6) (Nat.le_of_ble_eq_true rfl)
  rw [lg_entry_eq]
  generalize (lg_sl ([.ref mo, .int (nI n1), .int (nI n2), .int u, .int v]) ++ List.replicate (6 - (lg_sl ([.ref mo, .int (nI n1), .int (nI n2), .int u, .int v])).length) Slot.unset).toArray = ls at hl ⊢
  have hl : lv_has ls 6 [(0, .ref mo), (1, .int (nI n1)), (2, .int (nI n2)), (3, .int u), (4, .int v)] := hl
  have hgn := hRG.1
  have hG1 := hRG.2 n1 h1
  have hG2 := hRG.2 n2 h2
  refine lv_iload_n hx hb d_M_ruleFor_0 rfl (lv_at hl 3 rfl) ?_
  refine lv_if_eq (tgt := 9) hx hb d_M_ruleFor_1 (by decide) (fun c_1 => ?_) (fun c_1 => ?_)
  · refine lv_iconst (v := 0) hx hb d_M_ruleFor_9 (by decide) ?_
    exact W.iret (v := 0) hx hb hr (fun t ht hW => ⟨0, rfl, (by unfold ruC; first | rw [if_pos c_1] | rw [if_neg c_1, if_pos c_1]), ht⟩) t_nil d_M_ruleFor_10
  · refine lv_iload hx hb d_M_ruleFor_4 (lv_at hl 4 rfl) ?_
    refine lv_if_ne (tgt := 11) hx hb d_M_ruleFor_6 (by decide) (fun c_2 => ?_) (fun c_2 => ?_)
    · obtain ⟨i, hi, rfl⟩ := isCls_of (hu.resolve_left c_1)
      obtain ⟨j, hj, rfl⟩ := isCls_of (hv.resolve_left c_2)
      refine lv_aload_n hx hb d_M_ruleFor_11 rfl (lv_at hl 0 rfl) ?_
      refine ww_get (v := .ref (ad 8)) (C := R_M) (T := F_M) (N := 22) (ci := 5) hx hb hts i_M hown hK hw hM.1 rfl 12 (by decide) (hts _ k_667) (fun _ h9 => h9) rfl d_M_ruleFor_12 ?_
      refine lv_bipush (v := 81) hx hb d_M_ruleFor_15 (by decide) ?_
      refine lv_iload_n hx hb d_M_ruleFor_17 rfl (lv_at hl 1 rfl) ?_
      refine lv_imul hx hb d_M_ruleFor_18 ?_
      refine lv_topi (fun v_3 e_3 => ?_)
      obtain rfl : v_3 = nI (81 * n1) := by rw [e_3]; exact pk_mul 81 n1
      refine lv_iload_n hx hb d_M_ruleFor_19 rfl (lv_at hl 3 rfl) ?_
      refine lv_iload hx hb d_M_ruleFor_20 (lv_at hl 4 rfl) ?_
      refine wr_i (cS (As := [.int (nI (i + 1)), .int (nI (j + 1))]) (rest := [.int (nI (81 * n1)), .ref (ad 8)]) 2 ⟨hx, hb, hml, hown, hts⟩ (c_M_pair l (nI (i + 1)) (nI (j + 1))) k_747 k_745 k_7 k_746 (by decide +kernel) ⟨Nat.le_of_ble_eq_true rfl, Nat.le_of_ble_eq_true rfl⟩ rfl rfl ⟨prN_blind _, fun _ _ _ => ⟨rfl, trivial⟩⟩ rfl hl.1 rfl (Nat.le_of_ble_eq_true rfl) d_M_ruleFor_22 ⟨Nat.zero_le _, Nat.zero_le _⟩) (fun r_4 e_4 => ?_)
      obtain rfl : nI (9 * i + j) = r_4 := (e_4.trans (prM_nat hi hj)).symm
      refine lv_iadd hx hb d_M_ruleFor_25 ?_
      refine lv_topi (fun v_5 e_5 => ?_)
      obtain rfl : v_5 = nI ((81 * n1) + (9 * i + j)) := by rw [e_5]; exact nI_add (81 * n1) (9 * i + j)
      refine ww_zald (v := (F 8) ((81 * n1) + (9 * i + j))) hx hb hK hw 1 (show w (ad 8) = some (cB g 1296 (F 8)) from hM.2.1 8 (by decide)) rfl (vp_in_nI (by omega) (by decide)) (by rw [nI_clamp (by omega)]) d_M_ruleFor_26 ?_
      refine lv_topi (fun v_6 e_6 => ?_)
      have e2_6 : v_6 = b2 (isEx (gd n1).2.2.2.2 (prI (nI (i + 1)) (nI (j + 1)))) := e_6.trans (hG1.2.2.2.2.2.2 i j hi hj)
      refine lv_if_ne (tgt := 49) hx hb d_M_ruleFor_27 (by decide) (fun c_7 => ?_) (fun c_7 => ?_)
      · have q_7 := b2_t e2_6 c_7
        refine lv_iconst (v := 1) hx hb d_M_ruleFor_49 (by decide) ?_
        refine lv_goto (tgt := 54) hx hb d_M_ruleFor_50 (by decide) ?_
        refine lv_istore (lv' := [(5, .int 1), (0, .ref mo), (1, .int (nI n1)), (2, .int (nI n2)), (3, .int (nI (i + 1))), (4, .int (nI (j + 1)))]) hx hb d_M_ruleFor_54 hl (by decide) rfl (fun ls hl => ?_)
        refine lv_iload hx hb d_M_ruleFor_56 (lv_at hl 0 rfl) ?_
        refine lv_if_eq (tgt := 65) hx hb d_M_ruleFor_58 (by decide) (fun z => absurd z (by decide)) (fun _ => ?_)
        refine lv_iconst (v := 0) hx hb d_M_ruleFor_61 (by decide) ?_
        refine lv_goto (tgt := 76) hx hb d_M_ruleFor_62 (by decide) ?_
        exact W.iret (v := 0) hx hb hr (fun t ht hW => ⟨0, rfl, (by unfold ruC; rw [if_neg c_1, if_neg c_2, if_pos q_7]), ht⟩) t_nil d_M_ruleFor_76
      · have q_7 := b2_f e2_6 c_7
        refine lv_aload_n hx hb d_M_ruleFor_30 rfl (lv_at hl 0 rfl) ?_
        refine ww_get (v := .ref (ad 8)) (C := R_M) (T := F_M) (N := 22) (ci := 5) hx hb hts i_M hown hK hw hM.1 rfl 12 (by decide) (hts _ k_667) (fun _ h9 => h9) rfl d_M_ruleFor_31 ?_
        refine lv_bipush (v := 81) hx hb d_M_ruleFor_34 (by decide) ?_
        refine lv_iload_n hx hb d_M_ruleFor_36 rfl (lv_at hl 2 rfl) ?_
        refine lv_imul hx hb d_M_ruleFor_37 ?_
        refine lv_topi (fun v_9 e_9 => ?_)
        obtain rfl : v_9 = nI (81 * n2) := by rw [e_9]; exact pk_mul 81 n2
        refine lv_iload_n hx hb d_M_ruleFor_38 rfl (lv_at hl 3 rfl) ?_
        refine lv_iload hx hb d_M_ruleFor_39 (lv_at hl 4 rfl) ?_
        refine wr_i (cS (As := [.int (nI (i + 1)), .int (nI (j + 1))]) (rest := [.int (nI (81 * n2)), .ref (ad 8)]) 2 ⟨hx, hb, hml, hown, hts⟩ (c_M_pair l (nI (i + 1)) (nI (j + 1))) k_747 k_745 k_7 k_746 (by decide +kernel) ⟨Nat.le_of_ble_eq_true rfl, Nat.le_of_ble_eq_true rfl⟩ rfl rfl ⟨prN_blind _, fun _ _ _ => ⟨rfl, trivial⟩⟩ rfl hl.1 rfl (Nat.le_of_ble_eq_true rfl) d_M_ruleFor_41 ⟨Nat.zero_le _, Nat.zero_le _⟩) (fun r_10 e_10 => ?_)
        obtain rfl : nI (9 * i + j) = r_10 := (e_10.trans (prM_nat hi hj)).symm
        refine lv_iadd hx hb d_M_ruleFor_44 ?_
        refine lv_topi (fun v_11 e_11 => ?_)
        obtain rfl : v_11 = nI ((81 * n2) + (9 * i + j)) := by rw [e_11]; exact nI_add (81 * n2) (9 * i + j)
        refine ww_zald (v := (F 8) ((81 * n2) + (9 * i + j))) hx hb hK hw 1 (show w (ad 8) = some (cB g 1296 (F 8)) from hM.2.1 8 (by decide)) rfl (vp_in_nI (by omega) (by decide)) (by rw [nI_clamp (by omega)]) d_M_ruleFor_45 ?_
        refine lv_topi (fun v_12 e_12 => ?_)
        have e2_12 : v_12 = b2 (isEx (gd n2).2.2.2.2 (prI (nI (i + 1)) (nI (j + 1)))) := e_12.trans (hG2.2.2.2.2.2.2 i j hi hj)
        refine lv_if_eq (tgt := 53) hx hb d_M_ruleFor_46 (by decide) (fun c_13 => ?_) (fun c_13 => ?_)
        · have q_13 := b2_f e2_12 c_13
          refine lv_iconst (v := 0) hx hb d_M_ruleFor_53 (by decide) ?_
          refine lv_istore (lv' := [(5, .int 0), (0, .ref mo), (1, .int (nI n1)), (2, .int (nI n2)), (3, .int (nI (i + 1))), (4, .int (nI (j + 1)))]) hx hb d_M_ruleFor_54 hl (by decide) rfl (fun ls hl => ?_)
          refine lv_iload hx hb d_M_ruleFor_56 (lv_at hl 0 rfl) ?_
          refine lv_if_eq (tgt := 65) hx hb d_M_ruleFor_58 (by decide) (fun _ => ?_) (fun z => absurd z (by decide))
          refine lv_aload_n hx hb d_M_ruleFor_65 rfl (lv_at hl 1 rfl) ?_
          refine ww_get (v := .ref (ad 1)) (C := R_M) (T := F_M) (N := 22) (ci := 5) hx hb hts i_M hown hK hw hM.1 rfl 4 (by decide) (hts _ k_659) (fun _ h9 => h9) rfl d_M_ruleFor_66 ?_
          refine lv_iload_n hx hb d_M_ruleFor_69 rfl (lv_at hl 4 rfl) ?_
          refine lv_iload hx hb d_M_ruleFor_70 (lv_at hl 5 rfl) ?_
          refine wr_i (cS (As := [.int (nI (i + 1)), .int (nI (j + 1))]) (rest := [.ref (ad 1)]) 2 ⟨hx, hb, hml, hown, hts⟩ (c_M_pair l (nI (i + 1)) (nI (j + 1))) k_747 k_745 k_7 k_746 (by decide +kernel) ⟨Nat.le_of_ble_eq_true rfl, Nat.le_of_ble_eq_true rfl⟩ rfl rfl ⟨prN_blind _, fun _ _ _ => ⟨rfl, trivial⟩⟩ rfl hl.1 rfl (Nat.le_of_ble_eq_true rfl) d_M_ruleFor_72 ⟨Nat.zero_le _, Nat.zero_le _⟩) (fun r_15 e_15 => ?_)
          obtain rfl : nI (9 * i + j) = r_15 := (e_15.trans (prM_nat hi hj)).symm
          refine ww_iald (v := (F 1) (9 * i + j)) hx hb hK hw 0 (show w (ad 1) = some (cA g 162 (F 1)) from hM.2.1 1 (by decide)) rfl (vp_in_nI (by omega) (by decide)) (by rw [nI_clamp (by omega)]) d_M_ruleFor_75 ?_
          refine lv_topi (fun v_16 e_16 => ?_)
          obtain rfl : rf (prI (nI (i + 1)) (nI (j + 1))).toNatClampNeg = v_16 := (e_16.trans (hRT i j hi hj)).symm
          exact W.iret (v := (rf (prI (nI (i + 1)) (nI (j + 1))).toNatClampNeg)) hx hb hr (fun t ht hW => ⟨(rf (prI (nI (i + 1)) (nI (j + 1))).toNatClampNeg), rfl, (by unfold ruC; rw [if_neg c_1, if_neg c_2, if_neg (by rw [q_7]; decide), if_neg (by rw [q_13]; decide)]), ht⟩) t_nil d_M_ruleFor_76
        · have q_13 := b2_t e2_12 c_13
          refine lv_iconst (v := 1) hx hb d_M_ruleFor_49 (by decide) ?_
          refine lv_goto (tgt := 54) hx hb d_M_ruleFor_50 (by decide) ?_
          refine lv_istore (lv' := [(5, .int 1), (0, .ref mo), (1, .int (nI n1)), (2, .int (nI n2)), (3, .int (nI (i + 1))), (4, .int (nI (j + 1)))]) hx hb d_M_ruleFor_54 hl (by decide) rfl (fun ls hl => ?_)
          refine lv_iload hx hb d_M_ruleFor_56 (lv_at hl 0 rfl) ?_
          refine lv_if_eq (tgt := 65) hx hb d_M_ruleFor_58 (by decide) (fun z => absurd z (by decide)) (fun _ => ?_)
          refine lv_iconst (v := 0) hx hb d_M_ruleFor_61 (by decide) ?_
          refine lv_goto (tgt := 76) hx hb d_M_ruleFor_62 (by decide) ?_
          exact W.iret (v := 0) hx hb hr (fun t ht hW => ⟨0, rfl, (by unfold ruC; rw [if_neg c_1, if_neg c_2, if_neg (by rw [q_7]; decide), if_pos q_13]), ht⟩) t_nil d_M_ruleFor_76
    · refine lv_iconst (v := 0) hx hb d_M_ruleFor_9 (by decide) ?_
      exact W.iret (v := 0) hx hb hr (fun t ht hW => ⟨0, rfl, (by unfold ruC; first | rw [if_pos c_1] | rw [if_neg c_1, if_pos c_2]), ht⟩) t_nil d_M_ruleFor_10

set_option maxHeartbeats 4000000 in
set_option maxRecDepth 100000 in
theorem c_M_between (l : Launch) (g : GT) (w : Nat → Option va_E) (mo : Nat) (ad : Nat → Nat) (t0 hd : Int32) (sn gn bn : Nat) (F : Nat → Nat → Int32) (gd : Nat → GD) (rf : Nat → Int32) (q1 q2 n1 n2 : Nat) (hM : isM g w mo ad t0 sn hd gn bn F) (hRG : RG gd gn F) (hRT : RT rf F) (hk1 : q1 < 48) (hk2 : q2 < 48) (h1 : n1 < gn) (h2 : n2 < gn) (hq1 : F 14 q1 = nI n1) (hq2 : F 14 q2 = nI n2) : Met l y_M_between (.code y_M_between b_M_between 6 ((some .int)) :: GW) ({ frames := 2, cells := 0, slots := 0, locals := 46 }) (prR g [.ref mo, .int (nI q1), .int (nI q2)] w) (vp_Si (fun r => r = ruP rf (prOf gd (n1, F 15 q1)) (prOf gd (n2, F 15 q2)))) 0 0 (fun _ => False) := by
  refine Met.ofW (cc := b_M_between) (maxL := 6) (ret := (some .int)) (by decide) rfl ?_
  intro p e s m args below meth c s₁ B hml hv
  obtain ⟨rfl, hG, hw⟩ := hv
  have hx := B.exec
  have hb := B.bytes
  have hr := B.returns
  have hts : ∀ w ∈ GW, w.before _ s = true := fun w h => atoms_spec (ws := .code y_M_between b_M_between 6 ((some .int)) :: GW) B.pre w (List.mem_cons_of_mem _ h)
  have hown : s.vm.findClass "DangerTablesModel" = some m.cls := findClass_of_methodNamed B.named
  have hlocks := B.notSynchronized
  have hf := hG.here
  have hK := hf.1
  have hAB : ∀ q, gB g q → gB g q := fun _ h => h
  have hS : va_S (gB g) s.heap s.heap [] := va_S.rf
  have hl := lv_entry ([.ref mo, .int (nI q1), .int (nI q2)]) (n := 6) (Nat.le_of_ble_eq_true rfl)
  rw [lg_entry_eq]
  generalize (lg_sl ([.ref mo, .int (nI q1), .int (nI q2)]) ++ List.replicate (6 - (lg_sl ([.ref mo, .int (nI q1), .int (nI q2)])).length) Slot.unset).toArray = ls at hl ⊢
  have hl : lv_has ls 6 [(0, .ref mo), (1, .int (nI q1)), (2, .int (nI q2))] := hl
  have hgn := hRG.1
  have hG1 := hRG.2 n1 h1
  have hG2 := hRG.2 n2 h2
  refine lv_aload_n hx hb d_M_between_0 rfl (lv_at hl 0 rfl) ?_
  refine ww_get (v := .ref (ad 14)) (C := R_M) (T := F_M) (N := 22) (ci := 5) hx hb hts i_M hown hK hw hM.1 rfl 19 (by decide) (hts _ k_674) (fun _ h9 => h9) rfl d_M_between_1 ?_
  refine lv_iload_n hx hb d_M_between_4 rfl (lv_at hl 1 rfl) ?_
  refine ww_iald (v := (F 14) q1) hx hb hK hw 0 (show w (ad 14) = some (cA g 48 (F 14)) from hM.2.1 14 (by decide)) rfl (vp_in_nI (by omega) (by decide)) (by rw [nI_clamp (by omega)]) d_M_between_5 ?_
  refine lv_topi (fun v_1 e_1 => ?_)
  obtain rfl : nI n1 = v_1 := (e_1.trans hq1).symm
  refine lv_istore_n (lv' := [(3, .int (nI n1)), (0, .ref mo), (1, .int (nI q1)), (2, .int (nI q2))]) hx hb d_M_between_6 rfl hl (by decide) rfl (fun ls hl => ?_)
  refine lv_aload_n hx hb d_M_between_7 rfl (lv_at hl 1 rfl) ?_
  refine ww_get (v := .ref (ad 14)) (C := R_M) (T := F_M) (N := 22) (ci := 5) hx hb hts i_M hown hK hw hM.1 rfl 19 (by decide) (hts _ k_674) (fun _ h9 => h9) rfl d_M_between_8 ?_
  refine lv_iload_n hx hb d_M_between_11 rfl (lv_at hl 3 rfl) ?_
  refine ww_iald (v := (F 14) q2) hx hb hK hw 0 (show w (ad 14) = some (cA g 48 (F 14)) from hM.2.1 14 (by decide)) rfl (vp_in_nI (by omega) (by decide)) (by rw [nI_clamp (by omega)]) d_M_between_12 ?_
  refine lv_topi (fun v_2 e_2 => ?_)
  obtain rfl : nI n2 = v_2 := (e_2.trans hq2).symm
  refine lv_istore (lv' := [(4, .int (nI n2)), (3, .int (nI n1)), (0, .ref mo), (1, .int (nI q1)), (2, .int (nI q2))]) hx hb d_M_between_13 hl (by decide) rfl (fun ls hl => ?_)
  refine lv_aload_n hx hb d_M_between_15 rfl (lv_at hl 2 rfl) ?_
  refine lv_iload_n hx hb d_M_between_16 rfl (lv_at hl 1 rfl) ?_
  refine lv_iload hx hb d_M_between_17 (lv_at hl 0 rfl) ?_
  refine lv_aload_n hx hb d_M_between_19 rfl (lv_at hl 2 rfl) ?_
  refine ww_get (v := .ref (ad 2)) (C := R_M) (T := F_M) (N := 22) (ci := 5) hx hb hts i_M hown hK hw hM.1 rfl 6 (by decide) (hts _ k_661) (fun _ h9 => h9) rfl d_M_between_20 ?_
  refine lv_iload_n hx hb d_M_between_23 rfl (lv_at hl 1 rfl) ?_
  refine ww_iald (v := (F 2) n1) hx hb hK hw 0 (show w (ad 2) = some (cA g 16 (F 2)) from hM.2.1 2 (by decide)) rfl (vp_in_nI (by omega) (by decide)) (by rw [nI_clamp (by omega)]) d_M_between_24 ?_
  refine lv_topi (fun v_3 e_3 => ?_)
  obtain rfl : (gd n1).1 = v_3 := (e_3.trans hG1.1).symm
  refine lv_aload_n hx hb d_M_between_25 rfl (lv_at hl 2 rfl) ?_
  refine ww_get (v := .ref (ad 2)) (C := R_M) (T := F_M) (N := 22) (ci := 5) hx hb hts i_M hown hK hw hM.1 rfl 6 (by decide) (hts _ k_661) (fun _ h9 => h9) rfl d_M_between_26 ?_
  refine lv_iload hx hb d_M_between_29 (lv_at hl 0 rfl) ?_
  refine ww_iald (v := (F 2) n2) hx hb hK hw 0 (show w (ad 2) = some (cA g 16 (F 2)) from hM.2.1 2 (by decide)) rfl (vp_in_nI (by omega) (by decide)) (by rw [nI_clamp (by omega)]) d_M_between_31 ?_
  refine lv_topi (fun v_4 e_4 => ?_)
  obtain rfl : (gd n2).1 = v_4 := (e_4.trans hG2.1).symm
  refine wr_i (cV (As := [.int (nI n1), .int (nI n2), .int ((gd n1).1), .int ((gd n2).1)]) (rest := []) (C := "DangerTablesModel") 4 ⟨hx, hb, hml, hown, hts⟩ (c_M_ruleFor l g w mo ad t0 hd sn gn bn F gd rf n1 n2 (gd n1).1 (gd n2).1 hM hRG hRT h1 h2 (Or.inr hG1.2.2.2.2.1) (Or.inr hG2.2.2.2.2.1)) k_803 k_800 k_7 k_802 kp_26 (by decide +kernel) ⟨Nat.le_of_ble_eq_true rfl, Nat.le_of_ble_eq_true rfl⟩ rfl rfl ⟨prR_blind _ _ _, hw.recv hK hM.1 rfl, prR_at hG hAB hS hw⟩ rfl hl.1 rfl (Nat.le_of_ble_eq_true rfl) d_M_between_32 ⟨Nat.zero_le _, Nat.zero_le _⟩) (fun r_5 e_5 => ?_)
  refine lv_aload_n hx hb d_M_between_35 rfl (lv_at hl 2 rfl) ?_
  refine lv_iload_n hx hb d_M_between_36 rfl (lv_at hl 1 rfl) ?_
  refine lv_iload hx hb d_M_between_37 (lv_at hl 0 rfl) ?_
  refine lv_aload_n hx hb d_M_between_39 rfl (lv_at hl 2 rfl) ?_
  refine ww_get (v := .ref (ad 2)) (C := R_M) (T := F_M) (N := 22) (ci := 5) hx hb hts i_M hown hK hw hM.1 rfl 6 (by decide) (hts _ k_661) (fun _ h9 => h9) rfl d_M_between_40 ?_
  refine lv_iload_n hx hb d_M_between_43 rfl (lv_at hl 1 rfl) ?_
  refine ww_iald (v := (F 2) n1) hx hb hK hw 0 (show w (ad 2) = some (cA g 16 (F 2)) from hM.2.1 2 (by decide)) rfl (vp_in_nI (by omega) (by decide)) (by rw [nI_clamp (by omega)]) d_M_between_44 ?_
  refine lv_topi (fun v_6 e_6 => ?_)
  obtain rfl : (gd n1).1 = v_6 := (e_6.trans hG1.1).symm
  refine lv_aload_n hx hb d_M_between_45 rfl (lv_at hl 2 rfl) ?_
  refine ww_get (v := .ref (ad 3)) (C := R_M) (T := F_M) (N := 22) (ci := 5) hx hb hts i_M hown hK hw hM.1 rfl 7 (by decide) (hts _ k_662) (fun _ h9 => h9) rfl d_M_between_46 ?_
  refine lv_iload hx hb d_M_between_49 (lv_at hl 0 rfl) ?_
  refine ww_iald (v := (F 3) n2) hx hb hK hw 0 (show w (ad 3) = some (cA g 16 (F 3)) from hM.2.1 3 (by decide)) rfl (vp_in_nI (by omega) (by decide)) (by rw [nI_clamp (by omega)]) d_M_between_51 ?_
  refine lv_topi (fun v_7 e_7 => ?_)
  obtain rfl : (gd n2).2.1 = v_7 := (e_7.trans hG2.2.1).symm
  refine wr_i (cV (As := [.int (nI n1), .int (nI n2), .int ((gd n1).1), .int ((gd n2).2.1)]) (rest := [.int r_5]) (C := "DangerTablesModel") 4 ⟨hx, hb, hml, hown, hts⟩ (c_M_ruleFor l g w mo ad t0 hd sn gn bn F gd rf n1 n2 (gd n1).1 (gd n2).2.1 hM hRG hRT h1 h2 (Or.inr hG1.2.2.2.2.1) hG2.2.2.2.2.2.1) k_803 k_800 k_7 k_802 kp_26 (by decide +kernel) ⟨Nat.le_of_ble_eq_true rfl, Nat.le_of_ble_eq_true rfl⟩ rfl rfl ⟨prR_blind _ _ _, hw.recv hK hM.1 rfl, prR_at hG hAB hS hw⟩ rfl hl.1 rfl (Nat.le_of_ble_eq_true rfl) d_M_between_52 ⟨Nat.zero_le _, Nat.zero_le _⟩) (fun r_8 e_8 => ?_)
  refine wr_i (cS (As := [.int r_5, .int r_8]) (rest := []) 2 ⟨hx, hb, hml, hown, hts⟩ (c_M_greater l r_5 r_8) k_806 k_804 k_7 k_805 (by decide +kernel) ⟨Nat.le_of_ble_eq_true rfl, Nat.le_of_ble_eq_true rfl⟩ rfl rfl ⟨prN_blind _, fun _ _ _ => ⟨rfl, trivial⟩⟩ rfl hl.1 rfl (Nat.le_of_ble_eq_true rfl) d_M_between_55 ⟨Nat.zero_le _, Nat.zero_le _⟩) (fun r_9 e_9 => ?_)
  refine lv_istore (lv' := [(5, .int r_9), (4, .int (nI n2)), (3, .int (nI n1)), (0, .ref mo), (1, .int (nI q1)), (2, .int (nI q2))]) hx hb d_M_between_58 hl (by decide) rfl (fun ls hl => ?_)
  refine lv_iload hx hb d_M_between_60 (lv_at hl 0 rfl) ?_
  refine lv_aload_n hx hb d_M_between_62 rfl (lv_at hl 3 rfl) ?_
  refine lv_iload_n hx hb d_M_between_63 rfl (lv_at hl 2 rfl) ?_
  refine lv_iload hx hb d_M_between_64 (lv_at hl 1 rfl) ?_
  refine lv_aload_n hx hb d_M_between_66 rfl (lv_at hl 3 rfl) ?_
  refine ww_get (v := .ref (ad 3)) (C := R_M) (T := F_M) (N := 22) (ci := 5) hx hb hts i_M hown hK hw hM.1 rfl 7 (by decide) (hts _ k_662) (fun _ h9 => h9) rfl d_M_between_67 ?_
  refine lv_iload_n hx hb d_M_between_70 rfl (lv_at hl 2 rfl) ?_
  refine ww_iald (v := (F 3) n1) hx hb hK hw 0 (show w (ad 3) = some (cA g 16 (F 3)) from hM.2.1 3 (by decide)) rfl (vp_in_nI (by omega) (by decide)) (by rw [nI_clamp (by omega)]) d_M_between_71 ?_
  refine lv_topi (fun v_10 e_10 => ?_)
  obtain rfl : (gd n1).2.1 = v_10 := (e_10.trans hG1.2.1).symm
  refine lv_aload_n hx hb d_M_between_72 rfl (lv_at hl 3 rfl) ?_
  refine ww_get (v := .ref (ad 2)) (C := R_M) (T := F_M) (N := 22) (ci := 5) hx hb hts i_M hown hK hw hM.1 rfl 6 (by decide) (hts _ k_661) (fun _ h9 => h9) rfl d_M_between_73 ?_
  refine lv_iload hx hb d_M_between_76 (lv_at hl 1 rfl) ?_
  refine ww_iald (v := (F 2) n2) hx hb hK hw 0 (show w (ad 2) = some (cA g 16 (F 2)) from hM.2.1 2 (by decide)) rfl (vp_in_nI (by omega) (by decide)) (by rw [nI_clamp (by omega)]) d_M_between_78 ?_
  refine lv_topi (fun v_11 e_11 => ?_)
  obtain rfl : (gd n2).1 = v_11 := (e_11.trans hG2.1).symm
  refine wr_i (cV (As := [.int (nI n1), .int (nI n2), .int ((gd n1).2.1), .int ((gd n2).1)]) (rest := [.int r_9]) (C := "DangerTablesModel") 4 ⟨hx, hb, hml, hown, hts⟩ (c_M_ruleFor l g w mo ad t0 hd sn gn bn F gd rf n1 n2 (gd n1).2.1 (gd n2).1 hM hRG hRT h1 h2 hG1.2.2.2.2.2.1 (Or.inr hG2.2.2.2.2.1)) k_803 k_800 k_7 k_802 kp_26 (by decide +kernel) ⟨Nat.le_of_ble_eq_true rfl, Nat.le_of_ble_eq_true rfl⟩ rfl rfl ⟨prR_blind _ _ _, hw.recv hK hM.1 rfl, prR_at hG hAB hS hw⟩ rfl hl.1 rfl (Nat.le_of_ble_eq_true rfl) d_M_between_79 ⟨Nat.zero_le _, Nat.zero_le _⟩) (fun r_12 e_12 => ?_)
  refine lv_aload_n hx hb d_M_between_82 rfl (lv_at hl 3 rfl) ?_
  refine lv_iload_n hx hb d_M_between_83 rfl (lv_at hl 2 rfl) ?_
  refine lv_iload hx hb d_M_between_84 (lv_at hl 1 rfl) ?_
  refine lv_aload_n hx hb d_M_between_86 rfl (lv_at hl 3 rfl) ?_
  refine ww_get (v := .ref (ad 3)) (C := R_M) (T := F_M) (N := 22) (ci := 5) hx hb hts i_M hown hK hw hM.1 rfl 7 (by decide) (hts _ k_662) (fun _ h9 => h9) rfl d_M_between_87 ?_
  refine lv_iload_n hx hb d_M_between_90 rfl (lv_at hl 2 rfl) ?_
  refine ww_iald (v := (F 3) n1) hx hb hK hw 0 (show w (ad 3) = some (cA g 16 (F 3)) from hM.2.1 3 (by decide)) rfl (vp_in_nI (by omega) (by decide)) (by rw [nI_clamp (by omega)]) d_M_between_91 ?_
  refine lv_topi (fun v_13 e_13 => ?_)
  obtain rfl : (gd n1).2.1 = v_13 := (e_13.trans hG1.2.1).symm
  refine lv_aload_n hx hb d_M_between_92 rfl (lv_at hl 3 rfl) ?_
  refine ww_get (v := .ref (ad 3)) (C := R_M) (T := F_M) (N := 22) (ci := 5) hx hb hts i_M hown hK hw hM.1 rfl 7 (by decide) (hts _ k_662) (fun _ h9 => h9) rfl d_M_between_93 ?_
  refine lv_iload hx hb d_M_between_96 (lv_at hl 1 rfl) ?_
  refine ww_iald (v := (F 3) n2) hx hb hK hw 0 (show w (ad 3) = some (cA g 16 (F 3)) from hM.2.1 3 (by decide)) rfl (vp_in_nI (by omega) (by decide)) (by rw [nI_clamp (by omega)]) d_M_between_98 ?_
  refine lv_topi (fun v_14 e_14 => ?_)
  obtain rfl : (gd n2).2.1 = v_14 := (e_14.trans hG2.2.1).symm
  refine wr_i (cV (As := [.int (nI n1), .int (nI n2), .int ((gd n1).2.1), .int ((gd n2).2.1)]) (rest := [.int r_12, .int r_9]) (C := "DangerTablesModel") 4 ⟨hx, hb, hml, hown, hts⟩ (c_M_ruleFor l g w mo ad t0 hd sn gn bn F gd rf n1 n2 (gd n1).2.1 (gd n2).2.1 hM hRG hRT h1 h2 hG1.2.2.2.2.2.1 hG2.2.2.2.2.2.1) k_803 k_800 k_7 k_802 kp_26 (by decide +kernel) ⟨Nat.le_of_ble_eq_true rfl, Nat.le_of_ble_eq_true rfl⟩ rfl rfl ⟨prR_blind _ _ _, hw.recv hK hM.1 rfl, prR_at hG hAB hS hw⟩ rfl hl.1 rfl (Nat.le_of_ble_eq_true rfl) d_M_between_99 ⟨Nat.zero_le _, Nat.zero_le _⟩) (fun r_15 e_15 => ?_)
  refine wr_i (cS (As := [.int r_12, .int r_15]) (rest := [.int r_9]) 2 ⟨hx, hb, hml, hown, hts⟩ (c_M_greater l r_12 r_15) k_806 k_804 k_7 k_805 (by decide +kernel) ⟨Nat.le_of_ble_eq_true rfl, Nat.le_of_ble_eq_true rfl⟩ rfl rfl ⟨prN_blind _, fun _ _ _ => ⟨rfl, trivial⟩⟩ rfl hl.1 rfl (Nat.le_of_ble_eq_true rfl) d_M_between_102 ⟨Nat.zero_le _, Nat.zero_le _⟩) (fun r_16 e_16 => ?_)
  refine wr_i (cS (As := [.int r_9, .int r_16]) (rest := []) 2 ⟨hx, hb, hml, hown, hts⟩ (c_M_greater l r_9 r_16) k_806 k_804 k_7 k_805 (by decide +kernel) ⟨Nat.le_of_ble_eq_true rfl, Nat.le_of_ble_eq_true rfl⟩ rfl rfl ⟨prN_blind _, fun _ _ _ => ⟨rfl, trivial⟩⟩ rfl hl.1 rfl (Nat.le_of_ble_eq_true rfl) d_M_between_105 ⟨Nat.zero_le _, Nat.zero_le _⟩) (fun r_17 e_17 => ?_)
  refine lv_istore (lv' := [(5, .int r_17), (4, .int (nI n2)), (3, .int (nI n1)), (0, .ref mo), (1, .int (nI q1)), (2, .int (nI q2))]) hx hb d_M_between_108 hl (by decide) rfl (fun ls hl => ?_)
  refine lv_iload hx hb d_M_between_110 (lv_at hl 0 rfl) ?_
  refine lv_iconst (v := 1) hx hb d_M_between_112 (by decide) ?_
  refine lv_icmp_le (tgt := 136) hx hb d_M_between_113 (by decide) (fun c_18 => ?_) (fun c_18 => ?_)
  · refine lv_iload hx hb d_M_between_136 (lv_at hl 0 rfl) ?_
    exact W.iret (v := r_17) hx hb hr (fun t ht hW => ⟨r_17, rfl, (by
      have hv9 : r_17 = ruQ rf (prOf gd (n1, F 15 q1)) (prOf gd (n2, F 15 q2)) := by rw [e_17, gt_mx, e_9, gt_mx, e_16, gt_mx, ← mx_as]; unfold ruQ; rw [e_5, e_8, e_12, e_15]; rfl
      have hl1 : ∀ n q5, n < gn → isLim (F 15 q5) (F 5 n) = isLim (prOf gd (n, F 15 q5)).2.2.2.2.2.2 (prOf gd (n, F 15 q5)).2.2.1 := fun n q5 hn => by rw [(hRG.2 n hn).2.2.1]; rfl
      unfold ruP; rw [mn_1, ← hv9, if_pos c_18, ite_self, ite_self]), ht⟩) t_nil d_M_between_138
  · refine lv_aload_n hx hb d_M_between_116 rfl (lv_at hl 3 rfl) ?_
    refine lv_iload_n hx hb d_M_between_117 rfl (lv_at hl 4 rfl) ?_
    refine wr_i (cV (As := [.int (nI q1)]) (rest := []) (C := "DangerTablesModel") 1 ⟨hx, hb, hml, hown, hts⟩ (c_M_isLimited l g w mo ad t0 hd sn gn bn F q1 n1 hM hk1 (by omega) hq1) k_810 k_807 k_7 k_809 kp_27 (by decide +kernel) ⟨Nat.le_of_ble_eq_true rfl, Nat.le_of_ble_eq_true rfl⟩ rfl rfl ⟨prR_blind _ _ _, hw.recv hK hM.1 rfl, prR_at hG hAB hS hw⟩ rfl hl.1 rfl (Nat.le_of_ble_eq_true rfl) d_M_between_118 ⟨Nat.zero_le _, Nat.zero_le _⟩) (fun r_19 e_19 => ?_)
    refine lv_if_ne (tgt := 132) hx hb d_M_between_121 (by decide) (fun c_20 => ?_) (fun c_20 => ?_)
    · have q_20 := b2_t e_19 c_20
      refine lv_iconst (v := 1) hx hb d_M_between_132 (by decide) ?_
      refine lv_goto (tgt := 138) hx hb d_M_between_133 (by decide) ?_
      exact W.iret (v := 1) hx hb hr (fun t ht hW => ⟨1, rfl, (by
      have hv9 : r_17 = ruQ rf (prOf gd (n1, F 15 q1)) (prOf gd (n2, F 15 q2)) := by rw [e_17, gt_mx, e_9, gt_mx, e_16, gt_mx, ← mx_as]; unfold ruQ; rw [e_5, e_8, e_12, e_15]; rfl
      have hl1 : ∀ n q5, n < gn → isLim (F 15 q5) (F 5 n) = isLim (prOf gd (n, F 15 q5)).2.2.2.2.2.2 (prOf gd (n, F 15 q5)).2.2.1 := fun n q5 hn => by rw [(hRG.2 n hn).2.2.1]; rfl
      unfold ruP; rw [mn_1, ← hv9, if_neg c_18, if_pos (by rw [← hl1 n1 q1 h1]; exact q_20)]), ht⟩) t_nil d_M_between_138
    · have q_20 := b2_f e_19 c_20
      refine lv_aload_n hx hb d_M_between_124 rfl (lv_at hl 3 rfl) ?_
      refine lv_iload_n hx hb d_M_between_125 rfl (lv_at hl 5 rfl) ?_
      refine wr_i (cV (As := [.int (nI q2)]) (rest := []) (C := "DangerTablesModel") 1 ⟨hx, hb, hml, hown, hts⟩ (c_M_isLimited l g w mo ad t0 hd sn gn bn F q2 n2 hM hk2 (by omega) hq2) k_810 k_807 k_7 k_809 kp_27 (by decide +kernel) ⟨Nat.le_of_ble_eq_true rfl, Nat.le_of_ble_eq_true rfl⟩ rfl rfl ⟨prR_blind _ _ _, hw.recv hK hM.1 rfl, prR_at hG hAB hS hw⟩ rfl hl.1 rfl (Nat.le_of_ble_eq_true rfl) d_M_between_126 ⟨Nat.zero_le _, Nat.zero_le _⟩) (fun r_21 e_21 => ?_)
      refine lv_if_eq (tgt := 136) hx hb d_M_between_129 (by decide) (fun c_22 => ?_) (fun c_22 => ?_)
      · have q_22 := b2_f e_21 c_22
        refine lv_iload hx hb d_M_between_136 (lv_at hl 0 rfl) ?_
        exact W.iret (v := r_17) hx hb hr (fun t ht hW => ⟨r_17, rfl, (by
      have hv9 : r_17 = ruQ rf (prOf gd (n1, F 15 q1)) (prOf gd (n2, F 15 q2)) := by rw [e_17, gt_mx, e_9, gt_mx, e_16, gt_mx, ← mx_as]; unfold ruQ; rw [e_5, e_8, e_12, e_15]; rfl
      have hl1 : ∀ n q5, n < gn → isLim (F 15 q5) (F 5 n) = isLim (prOf gd (n, F 15 q5)).2.2.2.2.2.2 (prOf gd (n, F 15 q5)).2.2.1 := fun n q5 hn => by rw [(hRG.2 n hn).2.2.1]; rfl
      unfold ruP; rw [mn_1, ← hv9, if_neg (by rw [← hl1 n1 q1 h1, q_20]; decide), if_neg (by rw [← hl1 n2 q2 h2, q_22]; decide)]), ht⟩) t_nil d_M_between_138
      · have q_22 := b2_t e_21 c_22
        refine lv_iconst (v := 1) hx hb d_M_between_132 (by decide) ?_
        refine lv_goto (tgt := 138) hx hb d_M_between_133 (by decide) ?_
        exact W.iret (v := 1) hx hb hr (fun t ht hW => ⟨1, rfl, (by
      have hv9 : r_17 = ruQ rf (prOf gd (n1, F 15 q1)) (prOf gd (n2, F 15 q2)) := by rw [e_17, gt_mx, e_9, gt_mx, e_16, gt_mx, ← mx_as]; unfold ruQ; rw [e_5, e_8, e_12, e_15]; rfl
      have hl1 : ∀ n q5, n < gn → isLim (F 15 q5) (F 5 n) = isLim (prOf gd (n, F 15 q5)).2.2.2.2.2.2 (prOf gd (n, F 15 q5)).2.2.1 := fun n q5 hn => by rw [(hRG.2 n hn).2.2.1]; rfl
      unfold ruP; rw [mn_1, ← hv9, if_neg c_18, if_neg (by rw [← hl1 n1 q1 h1, q_20]; decide), if_pos (by rw [← hl1 n2 q2 h2]; exact q_22)]), ht⟩) t_nil d_M_between_138

