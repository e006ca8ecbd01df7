/-! THE CLAIM OUT OF ONE WALK OF THE LAW'S BODY. Your part is whole_start (and what it stands on); all else here is the same for every law, but numbers. -/
def R_law : String := "DangerTablesLaw"
def lw_P (b : Addr) (xs : List Int32) (args : Array Value) (s : State) : Prop := args = #[.ref b] ∧ s.IntsAt b xs ∧ xs.length ≤ 3584 ∧ (Jvm.Cond.and given_1 narrow_1).before args s = true
def lw_Q (_ : Array Value) (s : State) (o : Outcome) (t : State) : Prop := o = .returned (some (.int 1)) ∧ Framed s o t [] 601024 7293034
def lw_Z (below : List Frame) (a : Array Value) (s : State) : State → Prop := fun t => ∃ o, t.status = .running ∧ Ended t below o ∧ lw_Q a s o t
/-- the law's own end, with 1 on the stack, nothing written that was there before, its room as the claim has it -/
theorem lw_ret {p : Program} {l : Launch} {e : Env} {s : State} {m : MethodId} {below : List Frame} {meth : Method} {c : Code} {b : Nat} (hx : p.tables.exec = Jvm.exec) (hb : c.code = code) (hr : meth.sig.returnType = ret) (hlocks : meth.locks = false) {pc : Nat} {H : Heap} {ls : Array Slot} (hdg : decode code pc = .ok (.ireturn, 1)) : W p l e room_1 s m #[Value.ref b] below meth c H [] 601024 7293034 (lw_Z below #[Value.ref b] s) (F0 m pc ls [.int 1]) := by
  intro T hT X
  obtain ⟨fs, hret, hrun, hended, hW, hframe⟩ := X.leave (v := some (.int 1)) (hlocks := hlocks) (fun h => by rw [hr] at h; cases h)
  have hmeth' : T.vm.method? m = some meth := X.method'
  refine ⟨T.setFrames fs, ?_, .returned (some (.int 1)), hrun, hended, rfl, ⟨_, rfl⟩, hW, hframe⟩
  jvm_step X.here [X.here.top, hx, hb, hdg, hmeth', hr, ret, narrow_b1]
  (try refine ⟨rfl, ?_⟩); (try refine ⟨rfl, ?_⟩)
  first | (intro acts; rw [hret _ acts rfl rfl rfl]) | rw [hret _ _ rfl rfl rfl]
  exact Steps.refl _
/-- what holds at the law's entry: the machine, the code, the tables' words (any of lw_tbl by 'hts w (by decide +kernel)'), the script of L ints xs at the cell b, what the Statement gives of the start (any of its parts by flat_of_before) -/
def lw_At (p : Program) (s : State) (m : MethodId) (meth : Method) (c : Code) (b L : Nat) (xs : Nat → Int32) : Prop :=
  p.tables.exec = Jvm.exec ∧ c.code = code ∧ meth.sig.returnType = ret ∧ c.maxLocals = 7 ∧ s.vm.findClass R_law = some m.cls ∧ (∀ w ∈ lw_tbl, w.before #[Value.ref b] s = true) ∧ va_X b L xs s s.heap ∧ b < s.heap.size ∧ meth.locks = false ∧ (Jvm.Cond.and given_1 narrow_1).before #[Value.ref b] s = true
/-! THE START: what the Statement gives, as the methods want it -/
theorem aoa_all {t : FieldType} {U : State} (h : va_AOA t U) : ∃ (comp c : ClassId) (k : Class), U.vm.findClass (FieldType.array t).toString = some comp ∧ (U.vm.classes.findIdx? fun (x : Class) => match x.kind with | .array component _ => component == comp | _ => false) = some c ∧ U.vm.classes[c]? = some k ∧ k.kind = .array comp (.array t) ∧ U.vm.findClass ("[" ++ (FieldType.array t).toString) = some c := by
  unfold va_AOA Cond.before at h
  simp only [Cond.holds, Cond.value, beq_iff_eq] at h
  cases hc : U.vm.findClass (FieldType.array t).toString with
  | none => simp [hc] at h
  | some comp =>
    simp only [hc, Option.bind_some, Option.bind_eq_some_iff, Option.map_eq_some_iff] at h
    obtain ⟨c, hi, k, hk, hb⟩ := h
    obtain ⟨hlt, hp, -⟩ := Array.findIdx?_eq_some_iff_getElem.mp hi
    have hkk : U.vm.classes[c] = k := (Array.getElem?_eq_some_iff.mp hk).2
    rw [hkk] at hp
    cases hkind : k.kind with
    | array component ty =>
      rw [hkind] at hb hp
      simp at hb hp
      exact ⟨comp, c, k, rfl, hi, hk, by rw [hkind, hp, hb.1], hb.2⟩
    | _ => rw [hkind] at hb; simp at hb
theorem va_AOA.moved {t : FieldType} {u U : State} (hvm : u.vm.Alike U.vm) (h : va_AOA t u) : va_AOA t U := by
  obtain ⟨comp, c, k, h1, h2, h3, h4, h5⟩ := aoa_all h
  obtain ⟨k', hk', he⟩ := hvm.2.2 _ _ h3
  have hi : (U.vm.classes.findIdx? fun (x : Class) => match x.kind with | .array component _ => component == comp | _ => false) = some c := by
    have e1 := va_idx_bare U.vm comp
    have e2 := va_idx_bare u.vm comp
    have e3 : U.vm.bare = u.vm.bare := by first | exact hvm.bare_eq | exact hvm.bare_eq.symm
    rw [e3] at e1
    exact e1.symm.trans (e2.trans h2)
  have hkind : k'.kind = .array comp (.array t) := by rw [he]; exact h4
  have f1 : U.vm.findClass (FieldType.array t).toString = some comp := by rw [hvm.findClass]; exact h1
  have f2 : U.vm.findClass ("[" ++ (FieldType.array t).toString) = some c := by rw [hvm.findClass]; exact h5
  unfold va_AOA Cond.before Cond.holds
  simp only [Cond.value]
  rw [f1, Option.bind_some]
  refine (congrArg (fun o : Option Nat => (o.bind (fun c => (U.vm.classes[c]?).map fun (k : Class) => match k.kind with | .array _ ty => decide (ty = FieldType.array t) && decide (U.vm.findClass ("[" ++ (FieldType.array t).toString) = some c) | _ => false) == some true)) hi).trans ?_
  simp [hk', hkind, f2]
theorem eqt {args : Array Value} {s : State} {tm : Term} {z : Int32} (h : (Cond.eq tm (.int z)).before args s = true) : tm.eval args s none [] s = some (.int z) := by
  cases hv : tm.eval args s none [] s with
  | none => simp [Cond.before, Cond.holds, Cond.value, hv] at h
  | some w =>
    have hz : (Term.int z).eval args s none [] s = some (.int z) := rfl
    simp only [Cond.before, Cond.holds, Cond.value, hv, hz] at h
    cases w <;> simp_all
theorem arr_prim {args : Array Value} {s : State} {ty : FieldType} (h : (Cond.arrayClass ty).before args s = true) (hn : ∀ C, ty ≠ .object C) : ∃ c : ClassId, ArrOfT s c ty ∧ va_RA s c ty := by
  obtain ⟨c, k, comp, h1, h2, h3⟩ := Cond.arrayClass_spec h
  refine ⟨c, fun n z => ⟨fun k h => (by cases h), k, h2, comp, h3⟩, ?_⟩
  cases ty <;> first | exact h1 | exact absurd rfl (hn _)

theorem em_len : Cond.eq (.length (.static "java/util/ArrayList" "DEFAULTCAPACITY_EMPTY_ELEMENTDATA" "[Ljava/lang/Object;")) (.int 0) ∈ flatC (Jvm.Cond.and given_1 narrow_1) := by decide +kernel
theorem em_arr : Cond.arrayOf (.static "java/util/ArrayList" "DEFAULTCAPACITY_EMPTY_ELEMENTDATA" "[Ljava/lang/Object;") (.object "java/lang/Object") ∈ flatC (Jvm.Cond.and given_1 narrow_1) := by decide +kernel
theorem un_ref : Cond.isRef (.static "java/lang/Throwable" "UNASSIGNED_STACK" "[Ljava/lang/StackTraceElement;") ∈ flatC (Jvm.Cond.and given_1 narrow_1) := by decide +kernel
theorem su_ref : Cond.isRef (.static "java/lang/Throwable" "SUPPRESSED_SENTINEL" "Ljava/util/List;") ∈ flatC (Jvm.Cond.and given_1 narrow_1) := by decide +kernel
theorem mi_ref : Cond.isRef (.mirror "[Ljava/lang/Object;") ∈ flatC (Jvm.Cond.and given_1 narrow_1) := by decide +kernel
theorem nc_ref : Cond.not (.castable "java/lang/IllegalStateException" "java/lang/IllegalArgumentException") ∈ flatC (Jvm.Cond.and given_1 narrow_1) := by decide +kernel
theorem ex_66 : Cond.exactly (.string "DangerTables" 66) "java/lang/String" ∈ flatC (Jvm.Cond.and given_1 narrow_1) := by decide +kernel
theorem sr_66 : Cond.stringRef "DangerTables" 66 "no such class" ∈ lw_tbl := List.mem_of_getElem? (i := 292) (by decide +kernel)
theorem ex_79 : Cond.exactly (.string "DangerTables" 79) "java/lang/String" ∈ flatC (Jvm.Cond.and given_1 narrow_1) := by decide +kernel
theorem sr_79 : Cond.stringRef "DangerTables" 79 "no such class or side class" ∈ lw_tbl := List.mem_of_getElem? (i := 330) (by decide +kernel)
theorem ex_81 : Cond.exactly (.string "DangerTables" 81) "java/lang/String" ∈ flatC (Jvm.Cond.and given_1 narrow_1) := by decide +kernel
theorem sr_81 : Cond.stringRef "DangerTables" 81 "no such group or limit" ∈ lw_tbl := List.mem_of_getElem? (i := 331) (by decide +kernel)
theorem ex_88 : Cond.exactly (.string "DangerTables" 88) "java/lang/String" ∈ flatC (Jvm.Cond.and given_1 narrow_1) := by decide +kernel
theorem sr_88 : Cond.stringRef "DangerTables" 88 "no room for one more good" ∈ lw_tbl := List.mem_of_getElem? (i := 341) (by decide +kernel)
theorem ex_117 : Cond.exactly (.string "DangerTables" 117) "java/lang/String" ∈ flatC (Jvm.Cond.and given_1 narrow_1) := by decide +kernel
theorem sr_117 : Cond.stringRef "DangerTables" 117 "no such good or amount" ∈ lw_tbl := List.mem_of_getElem? (i := 441) (by decide +kernel)
theorem ex_119 : Cond.exactly (.string "DangerTables" 119) "java/lang/String" ∈ flatC (Jvm.Cond.and given_1 narrow_1) := by decide +kernel
theorem sr_119 : Cond.stringRef "DangerTables" 119 "no room for one more box" ∈ lw_tbl := List.mem_of_getElem? (i := 442) (by decide +kernel)
theorem ex_130 : Cond.exactly (.string "DangerTables" 130) "java/lang/String" ∈ flatC (Jvm.Cond.and given_1 narrow_1) := by decide +kernel
theorem sr_130 : Cond.stringRef "DangerTables" 130 "no such box, good or amount" ∈ lw_tbl := List.mem_of_getElem? (i := 503) (by decide +kernel)
theorem ex_135 : Cond.exactly (.string "DangerTables" 135) "java/lang/String" ∈ flatC (Jvm.Cond.and given_1 narrow_1) := by decide +kernel
theorem sr_135 : Cond.stringRef "DangerTables" 135 "the box has that good" ∈ lw_tbl := List.mem_of_getElem? (i := 510) (by decide +kernel)
theorem ex_144 : Cond.exactly (.string "DangerTables" 144) "java/lang/String" ∈ flatC (Jvm.Cond.and given_1 narrow_1) := by decide +kernel
theorem sr_144 : Cond.stringRef "DangerTables" 144 "the box lies somewhere or is full" ∈ lw_tbl := List.mem_of_getElem? (i := 515) (by decide +kernel)
theorem ex_149 : Cond.exactly (.string "DangerTables" 149) "java/lang/String" ∈ flatC (Jvm.Cond.and given_1 narrow_1) := by decide +kernel
theorem sr_149 : Cond.stringRef "DangerTables" 149 "no such two boxes" ∈ lw_tbl := List.mem_of_getElem? (i := 527) (by decide +kernel)
theorem ex_155 : Cond.exactly (.string "DangerTables" 155) "java/lang/String" ∈ flatC (Jvm.Cond.and given_1 narrow_1) := by decide +kernel
theorem sr_155 : Cond.stringRef "DangerTables" 155 "no such number of cells" ∈ lw_tbl := List.mem_of_getElem? (i := 555) (by decide +kernel)
theorem ex_164 : Cond.exactly (.string "DangerTables" 164) "java/lang/String" ∈ flatC (Jvm.Cond.and given_1 narrow_1) := by decide +kernel
theorem sr_164 : Cond.stringRef "DangerTables" 164 "no such zone or class" ∈ lw_tbl := List.mem_of_getElem? (i := 566) (by decide +kernel)
theorem ex_172 : Cond.exactly (.string "DangerTables" 172) "java/lang/String" ∈ flatC (Jvm.Cond.and given_1 narrow_1) := by decide +kernel
theorem sr_172 : Cond.stringRef "DangerTables" 172 "no such zone, box or slot" ∈ lw_tbl := List.mem_of_getElem? (i := 589) (by decide +kernel)
theorem ex_174 : Cond.exactly (.string "DangerTables" 174) "java/lang/String" ∈ flatC (Jvm.Cond.and given_1 narrow_1) := by decide +kernel
theorem sr_174 : Cond.stringRef "DangerTables" 174 "the box lies somewhere" ∈ lw_tbl := List.mem_of_getElem? (i := 590) (by decide +kernel)
theorem ex_184 : Cond.exactly (.string "DangerTables" 184) "java/lang/String" ∈ flatC (Jvm.Cond.and given_1 narrow_1) := by decide +kernel
theorem sr_184 : Cond.stringRef "DangerTables" 184 "no such box" ∈ lw_tbl := List.mem_of_getElem? (i := 640) (by decide +kernel)
theorem ex_198 : Cond.exactly (.string "DangerTables" 198) "java/lang/String" ∈ flatC (Jvm.Cond.and given_1 narrow_1) := by decide +kernel
theorem sr_198 : Cond.stringRef "DangerTables" 198 "no such box or what" ∈ lw_tbl := List.mem_of_getElem? (i := 665) (by decide +kernel)
theorem str_at {b : Nat} {s : State} (hts : ∀ w ∈ lw_tbl, w.before #[Value.ref b] s = true) (hs : ∀ c ∈ flatC (Jvm.Cond.and given_1 narrow_1), c.before #[Value.ref b] s = true) : ∀ q ∈ strL, ∃ sa : Nat, vk_R "DangerTables" q.1 q.2 sa s := by
  have key : ∀ (k : Nat) (tx : String), Cond.stringRef "DangerTables" k tx ∈ lw_tbl → Cond.exactly (.string "DangerTables" k) "java/lang/String" ∈ flatC (Jvm.Cond.and given_1 narrow_1) → ∃ sa : Nat, vk_R "DangerTables" k tx sa s := by
    intro k tx h1 h2
    obtain ⟨a, c, cell, k2, ha, -⟩ := Cond.exactly_spec (hs _ h2)
    exact ⟨a, vk_R.of (hts _ h1) ha⟩
  exact List.forall_mem_cons.mpr ⟨key _ _ sr_66 ex_66, List.forall_mem_cons.mpr ⟨key _ _ sr_79 ex_79, List.forall_mem_cons.mpr ⟨key _ _ sr_81 ex_81, List.forall_mem_cons.mpr ⟨key _ _ sr_88 ex_88, List.forall_mem_cons.mpr ⟨key _ _ sr_117 ex_117, List.forall_mem_cons.mpr ⟨key _ _ sr_119 ex_119, List.forall_mem_cons.mpr ⟨key _ _ sr_130 ex_130, List.forall_mem_cons.mpr ⟨key _ _ sr_135 ex_135, List.forall_mem_cons.mpr ⟨key _ _ sr_144 ex_144, List.forall_mem_cons.mpr ⟨key _ _ sr_149 ex_149, List.forall_mem_cons.mpr ⟨key _ _ sr_155 ex_155, List.forall_mem_cons.mpr ⟨key _ _ sr_164 ex_164, List.forall_mem_cons.mpr ⟨key _ _ sr_172 ex_172, List.forall_mem_cons.mpr ⟨key _ _ sr_174 ex_174, List.forall_mem_cons.mpr ⟨key _ _ sr_184 ex_184, List.forall_mem_cons.mpr ⟨key _ _ sr_198 ex_198, fun _ h => absurd h List.not_mem_nil⟩⟩⟩⟩⟩⟩⟩⟩⟩⟩⟩⟩⟩⟩⟩⟩
set_option maxRecDepth 100000 in
theorem gx_start {b : Nat} {s : State} (hts : ∀ w ∈ lw_tbl, w.before #[Value.ref b] s = true) (hgv : (Jvm.Cond.and given_1 narrow_1).before #[Value.ref b] s = true) : ∃ g : GT, gx g s ∧ g.2.2 0 = s.heap.size := by
  have hs := flat_of_before _ hgv
  have hg : ∀ w ∈ GW, w.before #[Value.ref b] s = true := fun w h => hts w (List.mem_filter.mp h).1
  obtain ⟨c0, iS0, hKn0⟩ := u_known (C := R_T) (T := F_T) (N := 6) (n := 6) hg i_T (hg _ k_23)
  obtain ⟨c1, iS1, hKn1⟩ := u_known (C := R_X) (T := F_X) (N := 5) (n := 5) hg i_X (hg _ k_410)
  obtain ⟨c2, iS2, hKn2⟩ := u_known (C := R_G) (T := F_G) (N := 5) (n := 5) hg i_G (hg _ k_315)
  obtain ⟨c3, iS3, hKn3⟩ := u_known (C := R_P) (T := F_P) (N := 3) (n := 3) hg i_P (hg _ k_443)
  obtain ⟨c4, iS4, hKn4⟩ := u_known (C := R_U) (T := F_U) (N := 3) (n := 3) hg i_U (hg _ k_31)
  obtain ⟨c5, iS5, hKn5⟩ := u_known (C := R_M) (T := F_M) (N := 22) (n := 22) hg i_M (hg _ k_649)
  obtain ⟨c6, iS6, hKn6⟩ := u_known (C := R_AL) (T := F_AL) (N := 3) (n := 3) hg i_AL (hg _ k_52)
  obtain ⟨a0, hA0, hB0⟩ := arr_prim (hg _ k_47) (fun C h => by cases h)
  obtain ⟨a1, hA1, hB1⟩ := arr_prim (hg _ k_722) (fun C h => by cases h)
  obtain ⟨a2, hA2, hB2⟩ := arr_prim (hg _ k_870) (fun C h => by cases h)
  have hAO : va_AO "java/lang/Object" s := va_AO.of (hts _ (List.mem_of_getElem? (i := 423) (by decide +kernel)))
  have h78 : (Cond.arrayOver (.array .int)).before #[Value.ref b] s = true := (hts _ (List.mem_of_getElem? (i := 111) (by decide +kernel)))
  have hAOA : va_AOA .int s := h78
  obtain ⟨cp3, a3, k3, e31, e32, e33, e34, e35⟩ := Cond.arrayOver_spec hAO
  obtain ⟨cp4, a4, k4, e41, e42, e43, e44, e45⟩ := aoa_all hAOA
  obtain ⟨mi, hmi⟩ := va_Mi.of (hs _ mi_ref)
  have hlow : ∀ a : Nat, a < s.heap.size → ¬ (fun q : Nat => s.heap.size ≤ q) a := fun a h z => absurd h (Nat.not_lt.mpr z)
  obtain ⟨t1, ht1, hT1⟩ := va_Tof (N := 0) (f := fun _ => .null) (A := fun q => s.heap.size ≤ q) (by decide) (hs _ em_arr) (eqt (hs _ em_len)) (fun j hj => absurd hj (Nat.not_lt_zero _)) hlow
  have hZ1 := va_Zof (A := fun q => s.heap.size ≤ q) (hts _ (List.mem_of_getElem? (i := 97) (by decide +kernel))) (hg _ k_6) ht1 hlow
  have hU1 := vx_Zqof (A := fun q => s.heap.size ≤ q) (hts _ (List.mem_of_getElem? (i := 278) (by decide +kernel))) (hg _ k_9) (hs _ un_ref) hlow
  have hU2 := vx_Zqof (A := fun q => s.heap.size ≤ q) (hts _ (List.mem_of_getElem? (i := 280) (by decide +kernel))) (hg _ k_9) (hs _ su_ref) hlow
  have hstr := str_at hts hs
  have hnc : ∀ q ∈ ncL, va_Nc q.1 q.2 s := List.forall_mem_cons.mpr ⟨va_Nc.of (hs _ nc_ref), fun _ h => absurd h List.not_mem_nil⟩
  have hXW : ∀ c ∈ XW, va_Nw c s := fun c h => va_Nw.of (xk_on (List.mem_filter.mp h).2) (hts c (List.mem_filter.mp h).1)
  refine ⟨((fun k => match k with | 0 => c0 | 1 => c1 | 2 => c2 | 3 => c3 | 4 => c4 | 5 => c5 | _ => c6, fun k => match k with | 0 => iS0 | 1 => iS1 | 2 => iS2 | 3 => iS3 | 4 => iS4 | 5 => iS5 | _ => iS6), (fun k => match k with | 0 => a0 | 1 => a1 | 2 => a2 | 3 => a3 | _ => a4), fun k => match k with | 0 => s.heap.size | 1 => t1 | _ => mi), ⟨Nat.le_refl _, fun V hW hV => ?_⟩, rfl⟩
  have hvm := hW.alike
  have hkeep : ∀ a : Nat, a < s.heap.size → ¬ (fun q : Nat => s.heap.size ≤ q) a → V.heap[a]? = s.heap[a]? := fun a h _ => hV a h
  refine ⟨va_K.moved hvm ⟨fun k q hq => ?_, fun k q hq => ?_⟩, fun c h => xk_warm (List.mem_filter.mp h).2 hW (hXW c h), va_AO.moved hvm hAO, va_AOA.moved hvm hAOA, fun q hq => ?_, fun q hq => va_Nc.moved hvm (hnc q hq), va_Mi.moved hvm hmi, ⟨(hZ1.kept hkeep).moved hvm, (hT1.kept hkeep).moved hvm⟩, (hU1.kept hkeep).moved hvm, (hU2.kept hkeep).moved hvm⟩
  · match k, hq with
    | 0, hq => cases hq; exact hKn0
    | 1, hq => cases hq; exact hKn1
    | 2, hq => cases hq; exact hKn2
    | 3, hq => cases hq; exact hKn3
    | 4, hq => cases hq; exact hKn4
    | 5, hq => cases hq; exact hKn5
    | 6, hq => cases hq; exact hKn6
    | k + 7, hq => simp [vwCl] at hq
  · match k, hq with
    | 0, hq => cases hq; exact ⟨hA0, hB0⟩
    | 1, hq => cases hq; exact ⟨hA1, hB1⟩
    | 2, hq => cases hq; exact ⟨hA2, hB2⟩
    | 3, hq => cases hq; exact ⟨fun n z => ⟨(fun k h => by cases h), k3, e33, cp3, e34⟩, k3, cp3, e33, e34, e31, e35⟩
    | 4, hq => cases hq; exact ⟨fun n z => ⟨(fun k h => by cases h), k4, e43, cp4, e44⟩, e45⟩
    | k + 5, hq => simp [gT] at hq
  · obtain ⟨sa, h⟩ := hstr q hq
    exact ⟨sa, h.warm hW⟩
