/-! THE FACTS OF THE START that every method may use: g is ((classes, fields), array classes, addresses): address 0 the base, 1 the empty array of lists, 4 the mirror of Object[] -/
abbrev GT : Type := va_G × (Nat → ClassId) × (Nat → Nat)
def gB (g : GT) : Nat → Prop := fun q => g.2.2 0 ≤ q
abbrev gT (g : GT) : List (ClassId × FieldType) := [(g.2.1 0, .int), (g.2.1 1, .boolean), (g.2.1 2, .long), (g.2.1 3, .object "java/lang/Object"), (g.2.1 4, .array .int)]
def xk : Cond → Bool
  | .castable .. => true
  | .declares _ => true
  | .fieldLinkNest .. => true
  | .methodLinkNest .. => true
  | _ => false
def XW : List Cond := lw_tbl.filter xk
theorem XW_at {i : Nat} {c : Cond} (h : lw_tbl[i]? = some c) (hg : xk c = true) : c ∈ XW := List.mem_filter.mpr ⟨List.mem_of_getElem? h, hg⟩
theorem xk_warm {c : Cond} (h : xk c = true) {s U : State} (hW : s.WarmedH U.vm) (hw : va_Nw c s) : va_Nw c U := by
  cases c <;> first
    | exact va_Nw.warmC hW hw
    | exact va_Nw.warmD hW hw
    | exact va_Nw.warmF hW hw
    | exact va_Nw.warmM hW hw
    | (simp [xk] at h)
def strL : List (Nat × String) := [(66, "no such class"), (79, "no such class or side class"), (81, "no such group or limit"), (88, "no room for one more good"), (117, "no such good or amount"), (119, "no room for one more box"), (130, "no such box, good or amount"), (135, "the box has that good"), (144, "the box lies somewhere or is full"), (149, "no such two boxes"), (155, "no such number of cells"), (164, "no such zone or class"), (172, "no such zone, box or slot"), (174, "the box lies somewhere"), (184, "no such box"), (198, "no such box or what")]
def ncL : List (String × String) := [("java/lang/IllegalStateException", "java/lang/IllegalArgumentException")]
def gf (g : GT) (V : State) : Prop :=
  va_K g.1 vwCl (gT g) V ∧ (∀ c ∈ XW, va_Nw c V) ∧ va_AO "java/lang/Object" V ∧ va_AOA .int V ∧ (∀ q ∈ strL, ∃ sa : Nat, vk_R "DangerTables" q.1 q.2 sa V) ∧ (∀ q ∈ ncL, va_Nc q.1 q.2 V) ∧ va_Mi "[Ljava/lang/Object;" (g.2.2 4) V ∧
  (va_Z "java/util/ArrayList" "DEFAULTCAPACITY_EMPTY_ELEMENTDATA" "[Ljava/lang/Object;" (.ref (g.2.2 1)) (gB g) V V.heap ∧ va_T (.object "java/lang/Object") (g.2.2 1) 0 (fun _ => .null) (gB g) V V.heap) ∧
  vx_Zq Bundle.tN "UNASSIGNED_STACK" Bundle.steD (gB g) V V.heap ∧ vx_Zq Bundle.tN "SUPPRESSED_SENTINEL" Bundle.listD (gB g) V V.heap
def gx (g : GT) (U : State) : Prop := g.2.2 0 ≤ U.heap.size ∧ ∀ V : State, U.WarmedH V.vm → (∀ q : Nat, q < g.2.2 0 → V.heap[q]? = U.heap[q]?) → gf g V
theorem gx.here {g : GT} {U : State} (h : gx g U) : gf g U := h.2 U (State.WarmedH.refl U) (fun _ _ => rfl)
theorem gx.moved {g : GT} {s U : State} {A : Nat → Prop} {H : Heap} {locs : List Loc} (h : gx g s) (hA : ∀ q, A q → gB g q) (hS : va_S A s.heap H locs) (hU : U.heap = H) (hW : s.WarmedH U.vm) : gx g U := by
  refine ⟨by rw [hU]; exact Nat.le_trans h.1 hS.1, fun V hV hq => h.2 V (State.WarmedH.trans hW hV) (fun q hlt => ?_)⟩
  rw [hq q hlt, hU]
  exact hS.2.1 q (Nat.lt_of_lt_of_le hlt h.1) (fun z => absurd (hA q z) (Nat.not_le.mpr hlt))
theorem gx.calling {g : GT} {U : State} {f : JFrame} {mk : MethodId} {a : Array Value} (h : gx g U) : gx g (U.calling f mk a) :=
  ⟨h.1, fun V hV hq => h.2 V hV hq⟩
