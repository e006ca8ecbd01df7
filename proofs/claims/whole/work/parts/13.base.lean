/-! small words: truth as a number, the fields of the classes among the good words -/
def b2 (b : Bool) : Int32 := if b = true then 1 else 0
theorem b2_f {r : Int32} {b : Bool} (e : r = b2 b) (c : r = 0) : b = false := by
  cases b
  · rfl
  · rw [e] at c; exact absurd c (by decide)
theorem b2_t {r : Int32} {b : Bool} (e : r = b2 b) (c : ¬ r = 0) : b = true := by
  cases b
  · rw [e] at c; exact absurd rfl c
  · rfl
theorem b2_n {r : Int32} {b : Bool} (e : r = b2 b) : narrow .boolean (.int r) = .int r := by
  subst e
  cases b <;> rfl
theorem i_T : ∀ w ∈ u_ws R_T F_T 6, w ∈ GW := by
  rw [show u_ws R_T F_T 6 = [Cond.laysFinal "DangerTables" "DangerTables" "text" "LDangerTables$RuleText;", Cond.laysFinal "DangerTables" "DangerTables" "rules" "[I", Cond.lays "DangerTables" "DangerTables" "tableRead" "Z", Cond.laysFinal "DangerTables" "DangerTables" "goods" "Ljava/util/ArrayList;", Cond.laysFinal "DangerTables" "DangerTables" "boxes" "Ljava/util/ArrayList;", Cond.laysFinal "DangerTables" "DangerTables" "zoneMost" "[[I"] from rfl]
  exact List.forall_mem_cons.mpr ⟨k_86, List.forall_mem_cons.mpr ⟨k_88, List.forall_mem_cons.mpr ⟨k_90, List.forall_mem_cons.mpr ⟨k_92, List.forall_mem_cons.mpr ⟨k_94, List.forall_mem_cons.mpr ⟨k_96, fun _ h => absurd h List.not_mem_nil⟩⟩⟩⟩⟩⟩
theorem i_X : ∀ w ∈ u_ws R_X F_X 5, w ∈ GW := by
  rw [show u_ws R_X F_X 5 = [Cond.laysFinal "DangerTables$Box" "DangerTables$Box" "parts" "Ljava/util/ArrayList;", Cond.lays "DangerTables$Box" "DangerTables$Box" "zone" "I", Cond.lays "DangerTables$Box" "DangerTables$Box" "x" "I", Cond.lays "DangerTables$Box" "DangerTables$Box" "y" "I", Cond.lays "DangerTables$Box" "DangerTables$Box" "told" "I"] from rfl]
  exact List.forall_mem_cons.mpr ⟨k_427, List.forall_mem_cons.mpr ⟨k_429, List.forall_mem_cons.mpr ⟨k_431, List.forall_mem_cons.mpr ⟨k_433, List.forall_mem_cons.mpr ⟨k_435, fun _ h => absurd h List.not_mem_nil⟩⟩⟩⟩⟩
theorem i_G : ∀ w ∈ u_ws R_G F_G 5, w ∈ GW := by
  rw [show u_ws R_G F_G 5 = [Cond.laysFinal "DangerTables$Good" "DangerTables$Good" "cls" "I", Cond.laysFinal "DangerTables$Good" "DangerTables$Good" "side" "I", Cond.laysFinal "DangerTables$Good" "DangerTables$Good" "limit" "I", Cond.laysFinal "DangerTables$Good" "DangerTables$Good" "fields" "I", Cond.lays "DangerTables$Good" "DangerTables$Good" "exemptPairs" "J"] from rfl]
  exact List.forall_mem_cons.mpr ⟨k_332, List.forall_mem_cons.mpr ⟨k_334, List.forall_mem_cons.mpr ⟨k_336, List.forall_mem_cons.mpr ⟨k_338, List.forall_mem_cons.mpr ⟨k_340, fun _ h => absurd h List.not_mem_nil⟩⟩⟩⟩⟩
theorem i_P : ∀ w ∈ u_ws R_P F_P 3, w ∈ GW := by
  rw [show u_ws R_P F_P 3 = [Cond.laysFinal "DangerTables$Part" "DangerTables$Part" "good" "LDangerTables$Good;", Cond.laysFinal "DangerTables$Part" "DangerTables$Part" "number" "I", Cond.laysFinal "DangerTables$Part" "DangerTables$Part" "amount" "I"] from rfl]
  exact List.forall_mem_cons.mpr ⟨k_455, List.forall_mem_cons.mpr ⟨k_457, List.forall_mem_cons.mpr ⟨k_459, fun _ h => absurd h List.not_mem_nil⟩⟩⟩
theorem i_U : ∀ w ∈ u_ws R_U F_U 3, w ∈ GW := by
  rw [show u_ws R_U F_U 3 = [Cond.laysFinal "DangerTables$RuleText" "DangerTables$RuleText" "signs" "[I", Cond.lays "DangerTables$RuleText" "DangerTables$RuleText" "length" "I", Cond.laysFinal "DangerTables$RuleText" "DangerTables$RuleText" "found" "[I"] from rfl]
  exact List.forall_mem_cons.mpr ⟨k_40, List.forall_mem_cons.mpr ⟨k_42, List.forall_mem_cons.mpr ⟨k_44, fun _ h => absurd h List.not_mem_nil⟩⟩⟩
theorem i_M : ∀ w ∈ u_ws R_M F_M 22, w ∈ GW := by
  rw [show u_ws R_M F_M 22 = [Cond.lays "DangerTablesModel" "DangerTablesModel" "thrown" "I", Cond.laysFinal "DangerTablesModel" "DangerTablesModel" "text" "[I", Cond.lays "DangerTablesModel" "DangerTablesModel" "signs" "I", Cond.lays "DangerTablesModel" "DangerTablesModel" "hasTable" "Z", Cond.laysFinal "DangerTablesModel" "DangerTablesModel" "rules" "[I", Cond.lays "DangerTablesModel" "DangerTablesModel" "goods" "I", Cond.laysFinal "DangerTablesModel" "DangerTablesModel" "cls" "[I", Cond.laysFinal "DangerTablesModel" "DangerTablesModel" "sideCls" "[I", Cond.laysFinal "DangerTablesModel" "DangerTablesModel" "group" "[I", Cond.laysFinal "DangerTablesModel" "DangerTablesModel" "limit" "[I", Cond.laysFinal "DangerTablesModel" "DangerTablesModel" "marine" "[Z", Cond.laysFinal "DangerTablesModel" "DangerTablesModel" "temperature" "[Z", Cond.laysFinal "DangerTablesModel" "DangerTablesModel" "exempt" "[Z", Cond.lays "DangerTablesModel" "DangerTablesModel" "boxes" "I", Cond.laysFinal "DangerTablesModel" "DangerTablesModel" "many" "[I", Cond.laysFinal "DangerTablesModel" "DangerTablesModel" "zoneOf" "[I", Cond.laysFinal "DangerTablesModel" "DangerTablesModel" "xOf" "[I", Cond.laysFinal "DangerTablesModel" "DangerTablesModel" "yOf" "[I", Cond.laysFinal "DangerTablesModel" "DangerTablesModel" "fields" "[I", Cond.laysFinal "DangerTablesModel" "DangerTablesModel" "goodOf" "[I", Cond.laysFinal "DangerTablesModel" "DangerTablesModel" "amountOf" "[I", Cond.laysFinal "DangerTablesModel" "DangerTablesModel" "most" "[I"] from rfl]
  exact List.forall_mem_cons.mpr ⟨k_677, List.forall_mem_cons.mpr ⟨k_679, List.forall_mem_cons.mpr ⟨k_681, List.forall_mem_cons.mpr ⟨k_683, List.forall_mem_cons.mpr ⟨k_685, List.forall_mem_cons.mpr ⟨k_687, List.forall_mem_cons.mpr ⟨k_689, List.forall_mem_cons.mpr ⟨k_691, List.forall_mem_cons.mpr ⟨k_693, List.forall_mem_cons.mpr ⟨k_695, List.forall_mem_cons.mpr ⟨k_697, List.forall_mem_cons.mpr ⟨k_699, List.forall_mem_cons.mpr ⟨k_701, List.forall_mem_cons.mpr ⟨k_703, List.forall_mem_cons.mpr ⟨k_705, List.forall_mem_cons.mpr ⟨k_707, List.forall_mem_cons.mpr ⟨k_709, List.forall_mem_cons.mpr ⟨k_711, List.forall_mem_cons.mpr ⟨k_713, List.forall_mem_cons.mpr ⟨k_715, List.forall_mem_cons.mpr ⟨k_717, List.forall_mem_cons.mpr ⟨k_719, fun _ h => absurd h List.not_mem_nil⟩⟩⟩⟩⟩⟩⟩⟩⟩⟩⟩⟩⟩⟩⟩⟩⟩⟩⟩⟩⟩⟩
theorem i_AL : ∀ w ∈ u_ws R_AL F_AL 3, w ∈ GW := by
  rw [show u_ws R_AL F_AL 3 = [Cond.lays "java/util/ArrayList" "java/util/AbstractList" "modCount" "I", Cond.lays "java/util/ArrayList" "java/util/ArrayList" "elementData" "[Ljava/lang/Object;", Cond.lays "java/util/ArrayList" "java/util/ArrayList" "size" "I"] from rfl]
  exact List.forall_mem_cons.mpr ⟨k_74, List.forall_mem_cons.mpr ⟨k_70, List.forall_mem_cons.mpr ⟨k_72, fun _ h => absurd h List.not_mem_nil⟩⟩⟩
theorem x_38 : (Jvm.Cond.fieldLinkNest "DangerTables" (216 : Nat) "DangerTables$RuleText" "length" "I" "DangerTables") ∈ XW := XW_at (i := 71) (by decide +kernel) rfl
theorem x_124 : (Jvm.Cond.methodLinkNest "DangerTables$RuleText" (41 : Nat) ({ cls := "DangerTables", name := "isClass", desc := "(I)Z" } : Jvm.MethodName) "DangerTables") ∈ XW := XW_at (i := 157) (by decide +kernel) rfl
theorem x_127 : (Jvm.Cond.methodLinkNest "DangerTables$RuleText" (45 : Nat) ({ cls := "DangerTables", name := "pairNumber", desc := "(II)I" } : Jvm.MethodName) "DangerTables") ∈ XW := XW_at (i := 160) (by decide +kernel) rfl
theorem x_220 : (Jvm.Cond.castable "java/lang/IllegalArgumentException" "java/lang/IllegalArgumentException") ∈ XW := XW_at (i := 253) (by decide +kernel) rfl
theorem x_221 : (Jvm.Cond.declares ({ cls := "java/lang/RuntimeException", name := "<init>", desc := "()V" } : Jvm.MethodName)) ∈ XW := XW_at (i := 254) (by decide +kernel) rfl
theorem x_222 : (Jvm.Cond.declares ({ cls := "java/lang/RuntimeException", name := "<init>", desc := "(Ljava/lang/String;)V" } : Jvm.MethodName)) ∈ XW := XW_at (i := 255) (by decide +kernel) rfl
theorem x_223 : (Jvm.Cond.declares ({ cls := "java/lang/Exception", name := "<init>", desc := "()V" } : Jvm.MethodName)) ∈ XW := XW_at (i := 256) (by decide +kernel) rfl
theorem x_224 : (Jvm.Cond.declares ({ cls := "java/lang/Exception", name := "<init>", desc := "(Ljava/lang/String;)V" } : Jvm.MethodName)) ∈ XW := XW_at (i := 257) (by decide +kernel) rfl
theorem x_225 : (Jvm.Cond.declares ({ cls := "java/lang/Throwable", name := "<init>", desc := "()V" } : Jvm.MethodName)) ∈ XW := XW_at (i := 258) (by decide +kernel) rfl
theorem x_226 : (Jvm.Cond.declares ({ cls := "java/lang/Throwable", name := "<init>", desc := "(Ljava/lang/String;)V" } : Jvm.MethodName)) ∈ XW := XW_at (i := 259) (by decide +kernel) rfl
theorem x_301 : (Jvm.Cond.castable "java/lang/IllegalStateException" "java/lang/IllegalStateException") ∈ XW := XW_at (i := 334) (by decide +kernel) rfl
theorem x_324 : (Jvm.Cond.fieldLinkNest "DangerTables" (240 : Nat) "DangerTables$Good" "cls" "I" "DangerTables") ∈ XW := XW_at (i := 357) (by decide +kernel) rfl
theorem x_326 : (Jvm.Cond.fieldLinkNest "DangerTables" (247 : Nat) "DangerTables$Good" "side" "I" "DangerTables") ∈ XW := XW_at (i := 359) (by decide +kernel) rfl
theorem x_328 : (Jvm.Cond.fieldLinkNest "DangerTables$Part" (22 : Nat) "DangerTables$Good" "limit" "I" "DangerTables") ∈ XW := XW_at (i := 361) (by decide +kernel) rfl
theorem x_330 : (Jvm.Cond.fieldLinkNest "DangerTables$Part" (31 : Nat) "DangerTables$Good" "fields" "I" "DangerTables") ∈ XW := XW_at (i := 363) (by decide +kernel) rfl
theorem x_418 : (Jvm.Cond.fieldLinkNest "DangerTables" (222 : Nat) "DangerTables$Box" "parts" "Ljava/util/ArrayList;" "DangerTables") ∈ XW := XW_at (i := 451) (by decide +kernel) rfl
theorem x_420 : (Jvm.Cond.fieldLinkNest "DangerTables" (186 : Nat) "DangerTables$Box" "zone" "I" "DangerTables") ∈ XW := XW_at (i := 453) (by decide +kernel) rfl
theorem x_422 : (Jvm.Cond.fieldLinkNest "DangerTables" (201 : Nat) "DangerTables$Box" "x" "I" "DangerTables") ∈ XW := XW_at (i := 455) (by decide +kernel) rfl
theorem x_424 : (Jvm.Cond.fieldLinkNest "DangerTables" (204 : Nat) "DangerTables$Box" "y" "I" "DangerTables") ∈ XW := XW_at (i := 457) (by decide +kernel) rfl
theorem x_426 : (Jvm.Cond.fieldLinkNest "DangerTables" (213 : Nat) "DangerTables$Box" "told" "I" "DangerTables") ∈ XW := XW_at (i := 459) (by decide +kernel) rfl
theorem x_449 : (Jvm.Cond.fieldLinkNest "DangerTables$Box" (57 : Nat) "DangerTables$Part" "good" "LDangerTables$Good;" "DangerTables") ∈ XW := XW_at (i := 482) (by decide +kernel) rfl
theorem x_450 : (Jvm.Cond.fieldLinkNest "DangerTables" (236 : Nat) "DangerTables$Part" "good" "LDangerTables$Good;" "DangerTables") ∈ XW := XW_at (i := 483) (by decide +kernel) rfl
theorem x_452 : (Jvm.Cond.fieldLinkNest "DangerTables$Box" (45 : Nat) "DangerTables$Part" "number" "I" "DangerTables") ∈ XW := XW_at (i := 485) (by decide +kernel) rfl
theorem x_454 : (Jvm.Cond.fieldLinkNest "DangerTables$Box" (54 : Nat) "DangerTables$Part" "amount" "I" "DangerTables") ∈ XW := XW_at (i := 487) (by decide +kernel) rfl
theorem x_625 : (Jvm.Cond.castable "java/lang/IndexOutOfBoundsException" "java/lang/IndexOutOfBoundsException") ∈ XW := XW_at (i := 658) (by decide +kernel) rfl
theorem x_872 : (Jvm.Cond.castable "DangerTables$Good" "DangerTables$Good") ∈ XW := XW_at (i := 905) (by decide +kernel) rfl
theorem x_873 : (Jvm.Cond.castable "DangerTables$Box" "DangerTables$Box") ∈ XW := XW_at (i := 906) (by decide +kernel) rfl
theorem x_874 : (Jvm.Cond.castable "DangerTables$Part" "DangerTables$Part") ∈ XW := XW_at (i := 907) (by decide +kernel) rfl
theorem x_877 : (Jvm.Cond.declares ({ cls := "java/lang/Object", name := "getClass", desc := "()Ljava/lang/Class;" } : Jvm.MethodName)) ∈ XW := XW_at (i := 910) (by decide +kernel) rfl
theorem x_878 : (Jvm.Cond.castable "DangerTables" "java/lang/Object") ∈ XW := XW_at (i := 911) (by decide +kernel) rfl
theorem x_879 : (Jvm.Cond.castable "DangerTables$RuleText" "java/lang/Object") ∈ XW := XW_at (i := 912) (by decide +kernel) rfl
theorem x_880 : (Jvm.Cond.castable "DangerTablesModel" "java/lang/Object") ∈ XW := XW_at (i := 913) (by decide +kernel) rfl
theorem x_881 : (Jvm.Cond.castable "DangerTables$Good" "java/lang/Object") ∈ XW := XW_at (i := 914) (by decide +kernel) rfl
theorem x_882 : (Jvm.Cond.castable "DangerTables$Box" "java/lang/Object") ∈ XW := XW_at (i := 915) (by decide +kernel) rfl
theorem x_883 : (Jvm.Cond.castable "DangerTables$Part" "java/lang/Object") ∈ XW := XW_at (i := 916) (by decide +kernel) rfl
theorem x_884 : (Jvm.Cond.castable "java/lang/String" "java/lang/Object") ∈ XW := XW_at (i := 917) (by decide +kernel) rfl
