/-! ARRAYLIST: its constructor, add -/
abbrev qQ (g : GT) (sz : Nat) (w : Nat → Option va_E) (P : (Nat → Option va_E) → Nat → Prop) : Array Value → State → Outcome → State → Prop := va_Qr (S := Nat → Option va_E) (fun _ => True) (fun w1 ra t => P w1 ra ∧ ww g.1 vwCl (gA w sz) w1 t.heap) (gA w sz)
section WR
variable {p : Program} {l : Launch} {e : Env} {R : Room} {s : State} {m : MethodId} {args : Array Value} {below : List Frame} {meth : Method} {c : Code} {H : Heap} {locs : List Loc} {cells slots : Nat} {Q : State → Prop}
variable {pc : Nat} {ls : Array Slot} {rest st0 : List Value} {A : Nat → Prop} {w : Nat → Option va_E} {g : GT} {mc ms : Nat} {a : Array Value}
theorem ww_r {P : (Nat → Option va_E) → Nat → Prop} (hr : va_Run p l e R s m args below meth c H locs cells slots mc ms (F0 m pc ls st0) rest (qQ g H.size w P a) (gA w H.size)) (hw : ww g.1 vwCl A w H) (hS : va_S A s.heap H locs) (hA : ∀ q, s.heap.size ≤ q → A q)
    (kk : ∀ (w1 : Nat → Option va_E) (ra : Nat) (H1 : Heap) (locs1 : List Loc), P w1 ra → ww g.1 vwCl A w1 H1 → va_S A s.heap H1 locs1 → H.size ≤ H1.size → (∀ q : Nat, q < H.size → ¬ gA w H.size q → H1[q]? = H[q]?) → ww g.1 vwCl (gA w H.size) w1 H1 → W p l e R s m args below meth c H1 locs1 (cells + mc) (slots + ms) Q (F0 m (pc + 3) ls (.ref ra :: rest))) : W p l e R s m args below meth c H locs cells slots Q (F0 m pc ls st0) := by
  have hAA := gA_sub hw hS hA
  refine va_callr hr hS (fun q _ h => hAA q h) hAA (fun w1 ra t H1 locs1 ht hvm hp hB hz hk hS1 => ?_)
  obtain ⟨h1, h2⟩ := hB
  rw [ht] at h2
  exact kk w1 ra H1 locs1 h1 (h2.weaken hAA) hS1 hz hk h2
end WR
/-- what a list may hold here: boxes, goods, parts -/
def isO (w : Nat → Option va_E) (y : Nat) : Prop := ∃ (ci : Nat) (vs : List Value), w y = some (.inr (ci, vs)) ∧ (ci = 1 ∨ ci = 2 ∨ ci = 3)
theorem isO_any {g : GT} {w : Nat → Option va_E} {A : Nat → Prop} {s : State} {H : Heap} {y : Nat} (hf : gf g s) (hw : ww g.1 vwCl A w H) (h : isO w y) : va_Any "java/lang/Object" s H y := by
  obtain ⟨ci, vs, h1, h2⟩ := h
  have key : ∀ (C : String) (r : vw_C), vwCl[ci]? = some r → r.1 = C → va_Nw (.castable C "java/lang/Object") s → va_Any "java/lang/Object" s H y := by
    intro C r hc hC hn
    refine va_rAny hf.1 (hw.one h1).1 (q0 := 0) rfl hc (fun comp c0 f1 f2 => ?_)
    obtain ⟨c3, t3, w1, w2, w3⟩ := Cond.castable_spec (args := #[]) (o := none) (idx := []) (first := s) hn
    rw [← hC] at w1
    cases Option.some.inj (w1.symm.trans f2)
    cases Option.some.inj (w2.symm.trans f1)
    exact w3
  rcases h2 with rfl | rfl | rfl
  · exact key "DangerTables$Box" _ rfl rfl (hf.2.1 _ x_882)
  · exact key "DangerTables$Good" _ rfl rfl (hf.2.1 _ x_881)
  · exact key "DangerTables$Part" _ rfl rfl (hf.2.1 _ x_883)
theorem obj_cls {g : GT} {w : Nat → Option va_E} {A : Nat → Prop} {s : State} {H : Heap} {a n : Nat} {f : Nat → Option Nat} (hf : gf g s) (hw : ww g.1 vwCl A w H) (h : w a = some (cO g n f)) : ∃ cell : Cell, H[a]? = some cell ∧ cell.vm.isStatics = false ∧ s.vm.findClass "[Ljava/lang/Object;" = some cell.cls := by
  have h1 := (hw.one h).1 0 _ rfl
  obtain ⟨kA, comp, -, -, -, h4⟩ := (hf.1.2 3 _ rfl).2
  exact ⟨_, h1, rfl, h4⟩
set_option maxHeartbeats 4000000 in
set_option maxRecDepth 100000 in
theorem c_AC_init (l : Launch) (g : GT) (sz : Nat) (w : Nat → Option va_E) (a : Nat) : Met l y_AC_init (.code y_AC_init b_AC_init 1 (none) :: GW) ({ frames := 1, cells := 0, slots := 0, locals := 13 }) (prW g sz [.ref a] w) (qV g sz w (fun w1 => w1 = w)) 0 0 (gA w sz) := by
  refine Met.ofW (cc := b_AC_init) (maxL := 1) (ret := none) (by decide) rfl ?_
  intro p e s m args below meth c s₁ B hml hv
  obtain ⟨rfl, hsz, hG, hw0⟩ := hv
  have hx := B.exec
  have hb := B.bytes
  have hr := B.returns
  have hts : ∀ w ∈ GW, w.before _ s = true := fun w h => atoms_spec (ws := .code y_AC_init b_AC_init 1 (none) :: GW) B.pre w (List.mem_cons_of_mem _ h)
  have hown : s.vm.findClass "java/util/AbstractCollection" = some m.cls := findClass_of_methodNamed B.named
  have hlocks := B.notSynchronized
  have hf := hG.here
  have hK := hf.1
  subst hsz
  have hw := hw0.self s.heap.size
  have hAB : ∀ q, gA w s.heap.size q → gB g q := fun q h => h.elim (fun z => z.elim (fun _ he => hw0.inA he)) (fun h => Nat.le_trans hG.1 h)
  have hA : ∀ q, s.heap.size ≤ q → gA w s.heap.size q := fun q h => Or.inr h
  have hS : va_S (gA w s.heap.size) s.heap s.heap [] := va_S.rf
  have hin : meth.name = "<init>" := (name_of_methodNamed B.named B.method).1
  have hl := lv_entry ([.ref a]) (n := 1) (Nat.le_of_ble_eq_true rfl)
  rw [lg_entry_eq]
  generalize (lg_sl ([.ref a]) ++ List.replicate (1 - (lg_sl ([.ref a])).length) Slot.unset).toArray = ls at hl ⊢
  have hl : lv_has ls 1 [(0, .ref a)] := hl
  refine lv_aload_n hx hb d_AC_init_0 rfl (lv_at hl 0 rfl) ?_
  refine W.objInit hx hb hown (hts _ k_62) (hts _ k_28) (hts _ k_29) rfl (by rw [hml]; exact hl.1) rfl d_AC_init_1 (Nat.le_of_ble_eq_true rfl) (Nat.le_of_ble_eq_true rfl) ?_
  refine W.eq (g2 := F0 m 4 ls []) rfl ?_
  exact W.vret hx hb hr (fun t ht hW => ⟨⟨w, rfl, rfl, ww_t ht hw⟩, hS.F ht⟩) hS.2.2 d_AC_init_4

set_option maxHeartbeats 4000000 in
set_option maxRecDepth 100000 in
theorem c_AB_init (l : Launch) (g : GT) (sz : Nat) (w : Nat → Option va_E) (a : Nat) (he : w a = some (.inr (6, [.int 0, .null, .int 0]))) : Met l y_AB_init (.code y_AB_init b_AB_init 1 (none) :: GW) ({ frames := 2, cells := 0, slots := 0, locals := 33 }) (prW g sz [.ref a] w) (qV g sz w (fun w1 => w1 = va_up w a (some (.inr (6, [.int 0, .null, .int 0]))))) 0 0 (gA w sz) := by
  refine Met.ofW (cc := b_AB_init) (maxL := 1) (ret := none) (by decide) rfl ?_
  intro p e s m args below meth c s₁ B hml hv
  obtain ⟨rfl, hsz, hG, hw0⟩ := hv
  have hx := B.exec
  have hb := B.bytes
  have hr := B.returns
  have hts : ∀ w ∈ GW, w.before _ s = true := fun w h => atoms_spec (ws := .code y_AB_init b_AB_init 1 (none) :: GW) B.pre w (List.mem_cons_of_mem _ h)
  have hown : s.vm.findClass "java/util/AbstractList" = some m.cls := findClass_of_methodNamed B.named
  have hlocks := B.notSynchronized
  have hf := hG.here
  have hK := hf.1
  subst hsz
  have hw := hw0.self s.heap.size
  have hAB : ∀ q, gA w s.heap.size q → gB g q := fun q h => h.elim (fun z => z.elim (fun _ he => hw0.inA he)) (fun h => Nat.le_trans hG.1 h)
  have hA : ∀ q, s.heap.size ≤ q → gA w s.heap.size q := fun q h => Or.inr h
  have hS : va_S (gA w s.heap.size) s.heap s.heap [] := va_S.rf
  have hin : meth.name = "<init>" := (name_of_methodNamed B.named B.method).1
  have hl := lv_entry ([.ref a]) (n := 1) (Nat.le_of_ble_eq_true rfl)
  rw [lg_entry_eq]
  generalize (lg_sl ([.ref a]) ++ List.replicate (1 - (lg_sl ([.ref a])).length) Slot.unset).toArray = ls at hl ⊢
  have hl : lv_has ls 1 [(0, .ref a)] := hl
  refine lv_aload_n hx hb d_AB_init_0 rfl (lv_at hl 0 rfl) ?_
  refine ww_v (cI (As := []) (rest := []) 0 ⟨hx, hb, hml, hown, hts⟩ (c_AC_init l g s.heap.size w a) k_61 k_59 k_4 k_60 rfl (by decide +kernel) ⟨Nat.le_of_ble_eq_true rfl, Nat.le_of_ble_eq_true rfl⟩ rfl rfl ⟨prW_blind _ _ _ _, prW_at hG hAB hS hw⟩ rfl hl.1 rfl (Nat.le_of_ble_eq_true rfl) d_AB_init_1 ⟨Nat.le_of_ble_eq_true rfl, Nat.le_of_ble_eq_true rfl⟩) hw hS hA (fun w_1 H locs e_1 hw hS hz_1 hk_1 hg_1 => ?_)
  have ew_1 := e_1
  have h1_a : w_1 a = some (.inr (6, [.int 0, .null, .int 0])) := by rw [e_1]; exact he
  refine lv_aload_n hx hb d_AB_init_4 rfl (lv_at hl 0 rfl) ?_
  refine lv_iconst (v := 0) hx hb d_AB_init_5 (by decide) ?_
  refine ww_put (v := .int 0) (ty := .int) (C := R_AL) (T := F_AL) (N := 3) (ci := 6) (fs' := [.int 0, .null, .int 0]) hx hb hts i_AL ft_AL ft_AL_ok fn_AL hown hK hw hS h1_a rfl 0 (by decide) (hts _ k_67) (fun _ h9 => h9) rfl (by decide +kernel) rfl rfl (Nat.le_of_ble_eq_true rfl) rfl d_AB_init_6 (fun H locs hw hS => ?_)
  obtain ⟨w_2, ew_2⟩ : ∃ zz9 : Nat → Option va_E, zz9 = va_up w_1 a (some (.inr (6, [.int 0, .null, .int 0]))) := ⟨_, rfl⟩
  rw [← ew_2] at hw
  have h2_a : w_2 a = some (.inr (6, [.int 0, .null, .int 0])) := by rw [ew_2]; exact va_up_self _ _ _
  exact W.vret hx hb hr (fun t ht hW => ⟨⟨w_2, rfl, (by rw [ew_2, e_1]), ww_t ht hw⟩, hS.F ht⟩) hS.2.2 d_AB_init_9

set_option maxHeartbeats 4000000 in
set_option maxRecDepth 100000 in
theorem c_AL_init (l : Launch) (g : GT) (sz : Nat) (w : Nat → Option va_E) (a : Nat) (he : w a = some (.inr (6, [.int 0, .null, .int 0]))) : Met l y_AL_init (.code y_AL_init b_AL_init 1 (none) :: GW) ({ frames := 3, cells := 0, slots := 0, locals := 53 }) (prW g sz [.ref a] w) (qV g sz w (fun w1 => w1 = va_up w a (some (cL 0 (g.2.2 1) 0)))) 0 0 (gA w sz) := by
  refine Met.ofW (cc := b_AL_init) (maxL := 1) (ret := none) (by decide) rfl ?_
  intro p e s m args below meth c s₁ B hml hv
  obtain ⟨rfl, hsz, hG, hw0⟩ := hv
  have hx := B.exec
  have hb := B.bytes
  have hr := B.returns
  have hts : ∀ w ∈ GW, w.before _ s = true := fun w h => atoms_spec (ws := .code y_AL_init b_AL_init 1 (none) :: GW) B.pre w (List.mem_cons_of_mem _ h)
  have hown : s.vm.findClass "java/util/ArrayList" = some m.cls := findClass_of_methodNamed B.named
  have hlocks := B.notSynchronized
  have hf := hG.here
  have hK := hf.1
  subst hsz
  have hw := hw0.self s.heap.size
  have hAB : ∀ q, gA w s.heap.size q → gB g q := fun q h => h.elim (fun z => z.elim (fun _ he => hw0.inA he)) (fun h => Nat.le_trans hG.1 h)
  have hA : ∀ q, s.heap.size ≤ q → gA w s.heap.size q := fun q h => Or.inr h
  have hS : va_S (gA w s.heap.size) s.heap s.heap [] := va_S.rf
  have hin : meth.name = "<init>" := (name_of_methodNamed B.named B.method).1
  have hl := lv_entry ([.ref a]) (n := 1) (Nat.le_of_ble_eq_true rfl)
  rw [lg_entry_eq]
  generalize (lg_sl ([.ref a]) ++ List.replicate (1 - (lg_sl ([.ref a])).length) Slot.unset).toArray = ls at hl ⊢
  have hl : lv_has ls 1 [(0, .ref a)] := hl
  refine lv_aload_n hx hb d_AL_init_0 rfl (lv_at hl 0 rfl) ?_
  refine ww_v (cI (As := []) (rest := []) 0 ⟨hx, hb, hml, hown, hts⟩ (c_AB_init l g s.heap.size w a he) k_58 k_56 k_5 k_57 rfl (by decide +kernel) ⟨Nat.le_of_ble_eq_true rfl, Nat.le_of_ble_eq_true rfl⟩ rfl rfl ⟨prW_blind _ _ _ _, prW_at hG hAB hS hw⟩ rfl hl.1 rfl (Nat.le_of_ble_eq_true rfl) d_AL_init_1 ⟨Nat.le_of_ble_eq_true rfl, Nat.le_of_ble_eq_true rfl⟩) hw hS hA (fun w_1 H locs e_1 hw hS hz_1 hk_1 hg_1 => ?_)
  have ew_1 := e_1
  have h1_a : w_1 a = some (.inr (6, [.int 0, .null, .int 0])) := by rw [e_1]; exact va_up_self _ _ _
  refine lv_aload_n hx hb d_AL_init_4 rfl (lv_at hl 0 rfl) ?_
  refine va_gets (v := .ref (g.2.2 1)) hx hb (hf.2.2.2.2.2.2.2.1.1.narrow hAB) hS hown (hts _ k_63) (fun _ h9 => h9) d_AL_init_5 ?_
  refine ww_put (v := .ref (g.2.2 1)) (ty := .array (.object "java/lang/Object")) (C := R_AL) (T := F_AL) (N := 3) (ci := 6) (fs' := [.int 0, .ref (g.2.2 1), .int 0]) hx hb hts i_AL ft_AL ft_AL_ok fn_AL hown hK hw hS h1_a rfl 1 (by decide) (hts _ k_65) (fun _ h9 => h9) rfl (by decide +kernel) rfl rfl (Nat.le_of_ble_eq_true rfl) rfl d_AL_init_8 (fun H locs hw hS => ?_)
  obtain ⟨w_2, ew_2⟩ : ∃ zz9 : Nat → Option va_E, zz9 = va_up w_1 a (some (.inr (6, [.int 0, .ref (g.2.2 1), .int 0]))) := ⟨_, rfl⟩
  rw [← ew_2] at hw
  have h2_a : w_2 a = some (.inr (6, [.int 0, .ref (g.2.2 1), .int 0])) := by rw [ew_2]; exact va_up_self _ _ _
  exact W.vret hx hb hr (fun t ht hW => ⟨⟨w_2, rfl, (by rw [ew_2, e_1, bx_uu]), ww_t ht hw⟩, hS.F ht⟩) hS.2.2 d_AL_init_11

theorem mx_nI {a b : Nat} (ha : a < 2 ^ 31) (hb : b < 2 ^ 31) : (if nI a < nI b then nI b else nI a) = nI (max a b) := by
  by_cases h : a < b
  · rw [if_pos ((nI_ltI ha hb).mpr h), Nat.max_eq_right (by omega)]
  · rw [if_neg (fun z => h ((nI_ltI ha hb).mp z)), Nat.max_eq_left (by omega)]
theorem mn_nI {a b : Nat} (ha : a < 2 ^ 31) (hb : b < 2 ^ 31) : (if nI b < nI a then nI b else nI a) = nI (min a b) := by
  by_cases h : b < a
  · rw [if_pos ((nI_ltI hb ha).mpr h), Nat.min_eq_right (by omega)]
  · rw [if_neg (fun z => h ((nI_ltI hb ha).mp z)), Nat.min_eq_left (by omega)]
set_option maxHeartbeats 4000000 in
set_option maxRecDepth 100000 in
theorem c_AS_newLength (l : Launch) (n u v : Nat) (hn : n < 1000) (hu : u < 1000) (hv : v < 1000) (hp : 0 < n) : Met l y_AS_newLength (.code y_AS_newLength b_AS_newLength 4 ((some .int)) :: GW) ({ frames := 1, cells := 0, slots := 0, locals := 16 }) (prN [.int (nI n), .int (nI u), .int (nI v)]) (vp_Si (fun r => r = nI (n + max u v))) 0 0 (fun _ => False) := by
  refine Met.ofW (cc := b_AS_newLength) (maxL := 4) (ret := (some .int)) (by decide) rfl ?_
  intro p e s m args below meth c s₁ B hml hv
  obtain ⟨rfl, -⟩ := hv
  have hx := B.exec
  have hb := B.bytes
  have hr := B.returns
  have hts : ∀ w ∈ GW, w.before _ s = true := fun w h => atoms_spec (ws := .code y_AS_newLength b_AS_newLength 4 ((some .int)) :: GW) B.pre w (List.mem_cons_of_mem _ h)
  have hown : s.vm.findClass "jdk/internal/util/ArraysSupport" = some m.cls := findClass_of_methodNamed B.named
  have hlocks := B.notSynchronized
  have hl := lv_entry ([.int (nI n), .int (nI u), .int (nI v)]) (n := 4) (Nat.le_of_ble_eq_true rfl)
  rw [lg_entry_eq]
  generalize (lg_sl ([.int (nI n), .int (nI u), .int (nI v)]) ++ List.replicate (4 - (lg_sl ([.int (nI n), .int (nI u), .int (nI v)])).length) Slot.unset).toArray = ls at hl ⊢
  have hl : lv_has ls 4 [(0, .int (nI n)), (1, .int (nI u)), (2, .int (nI v))] := hl
  refine lv_iload_n hx hb d_AS_newLength_0 rfl (lv_at hl 0 rfl) ?_
  refine lv_iload_n hx hb d_AS_newLength_1 rfl (lv_at hl 1 rfl) ?_
  refine lv_iload_n hx hb d_AS_newLength_2 rfl (lv_at hl 2 rfl) ?_
  refine va_mmax hx hb (hml.trans hl.1.symm) hown (hts _ k_362) (hts _ k_363) (hts _ k_16) (hts _ k_364) (Nat.le_of_ble_eq_true rfl) (Nat.le_of_ble_eq_true rfl) (Nat.zero_le _) (Nat.zero_le _) d_AS_newLength_3 ?_
  refine lv_topi (fun v_1 e_1 => ?_)
  refine lv_iadd hx hb d_AS_newLength_6 ?_
  refine lv_topi (fun v_2 e_2 => ?_)
  obtain rfl : v_2 = nI (n + max u v) := by rw [e_2, e_1, mx_nI (by omega) (by omega)]; exact nI_add _ _
  refine lv_istore_n (lv' := [(3, .int (nI (n + max u v))), (0, .int (nI n)), (1, .int (nI u)), (2, .int (nI v))]) hx hb d_AS_newLength_7 rfl hl (by decide) rfl (fun ls hl => ?_)
  refine lv_iconst (v := 0) hx hb d_AS_newLength_8 (by decide) ?_
  refine lv_iload_n hx hb d_AS_newLength_9 rfl (lv_at hl 0 rfl) ?_
  refine lv_icmp_ge (tgt := 21) hx hb d_AS_newLength_10 (by decide) (fun c_3 => ?_) (fun c_3 => ?_)
  · exact absurd ((nI_leI (by omega) (b := 0) (by decide)).mp c_3) (by omega)
  · refine lv_iload_n hx hb d_AS_newLength_13 rfl (lv_at hl 0 rfl) ?_
    refine lv_ldc (v := 2147483639) hx hb hown (hts _ k_365) d_AS_newLength_14 ?_
    refine lv_icmp_gt (tgt := 21) hx hb d_AS_newLength_16 (by decide) (fun c_4 => ?_) (fun c_4 => ?_)
    · exact absurd ((nI_ltI (a := 2147483639) (by decide) (by omega)).mp c_4) (by omega)
    · refine lv_iload_n hx hb d_AS_newLength_19 rfl (lv_at hl 0 rfl) ?_
      exact W.iret (v := (nI (n + max u v))) hx hb hr (fun t ht hW => ⟨(nI (n + max u v)), rfl, rfl, ht⟩) t_nil d_AS_newLength_20

