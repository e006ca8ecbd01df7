section
-- ===== PART A: goes FIRST, ahead of the names: the tables' words, and 'selects' of the private methods out of them =====
/-- a private method of a class that the tables say can be made, by its rows of tables_1 -/
def lw_okq (q : MethodName × Nat) : Prop := (q.1.cls ≠ "java/lang/invoke/MethodHandle" ∧ q.1.cls ≠ "java/lang/invoke/VarHandle") ∧ Cond.instantiable q.1.cls q.2 ∈ tables_1 ∧ Cond.privateMethod q.1 ∈ tables_1 ∧ Cond.instanceMethod q.1 ∈ tables_1
theorem lw_p0 : lw_okq (⟨"DangerTables$RuleText", "firstWrongPlaceOfRow", "(I)I"⟩, 3) := ⟨⟨by decide +kernel, by decide +kernel⟩, List.mem_of_getElem? (i := 31) (by decide +kernel), List.mem_of_getElem? (i := 117) (by decide +kernel), List.mem_of_getElem? (i := 118) (by decide +kernel)⟩
theorem lw_p1 : lw_okq (⟨"DangerTables$RuleText", "digitAt", "(I)I"⟩, 3) := ⟨⟨by decide +kernel, by decide +kernel⟩, List.mem_of_getElem? (i := 31) (by decide +kernel), List.mem_of_getElem? (i := 121) (by decide +kernel), List.mem_of_getElem? (i := 122) (by decide +kernel)⟩
theorem lw_p2 : lw_okq (⟨"DangerTables", "isGood", "(I)Z"⟩, 6) := ⟨⟨by decide +kernel, by decide +kernel⟩, List.mem_of_getElem? (i := 23) (by decide +kernel), List.mem_of_getElem? (i := 146) (by decide +kernel), List.mem_of_getElem? (i := 147) (by decide +kernel)⟩
theorem lw_p3 : lw_okq (⟨"DangerTables", "isBox", "(I)Z"⟩, 6) := ⟨⟨by decide +kernel, by decide +kernel⟩, List.mem_of_getElem? (i := 23) (by decide +kernel), List.mem_of_getElem? (i := 190) (by decide +kernel), List.mem_of_getElem? (i := 191) (by decide +kernel)⟩
theorem lw_p4 : lw_okq (⟨"DangerTables", "lyingCount", "()I"⟩, 6) := ⟨⟨by decide +kernel, by decide +kernel⟩, List.mem_of_getElem? (i := 23) (by decide +kernel), List.mem_of_getElem? (i := 203) (by decide +kernel), List.mem_of_getElem? (i := 204) (by decide +kernel)⟩
theorem lw_p5 : lw_okq (⟨"java/lang/Throwable", "fillInStackTrace", "(I)Ljava/lang/Throwable;"⟩, 6) := ⟨⟨by decide +kernel, by decide +kernel⟩, List.mem_of_getElem? (i := 257) (by decide +kernel), List.mem_of_getElem? (i := 255) (by decide +kernel), List.mem_of_getElem? (i := 256) (by decide +kernel)⟩
theorem lw_p6 : lw_okq (⟨"java/util/ArrayList", "add", "(Ljava/lang/Object;[Ljava/lang/Object;I)V"⟩, 3) := ⟨⟨by decide +kernel, by decide +kernel⟩, List.mem_of_getElem? (i := 52) (by decide +kernel), List.mem_of_getElem? (i := 348) (by decide +kernel), List.mem_of_getElem? (i := 349) (by decide +kernel)⟩
theorem lw_p7 : lw_okq (⟨"java/util/ArrayList", "grow", "()[Ljava/lang/Object;"⟩, 3) := ⟨⟨by decide +kernel, by decide +kernel⟩, List.mem_of_getElem? (i := 52) (by decide +kernel), List.mem_of_getElem? (i := 352) (by decide +kernel), List.mem_of_getElem? (i := 353) (by decide +kernel)⟩
theorem lw_p8 : lw_okq (⟨"java/util/ArrayList", "grow", "(I)[Ljava/lang/Object;"⟩, 3) := ⟨⟨by decide +kernel, by decide +kernel⟩, List.mem_of_getElem? (i := 52) (by decide +kernel), List.mem_of_getElem? (i := 356) (by decide +kernel), List.mem_of_getElem? (i := 357) (by decide +kernel)⟩
theorem lw_p9 : lw_okq (⟨"DangerTables", "areTwoBoxes", "(II)Z"⟩, 6) := ⟨⟨by decide +kernel, by decide +kernel⟩, List.mem_of_getElem? (i := 23) (by decide +kernel), List.mem_of_getElem? (i := 491) (by decide +kernel), List.mem_of_getElem? (i := 492) (by decide +kernel)⟩
theorem lw_p10 : lw_okq (⟨"DangerTables", "ruleOfBoxes", "(LDangerTables$Box;LDangerTables$Box;)I"⟩, 6) := ⟨⟨by decide +kernel, by decide +kernel⟩, List.mem_of_getElem? (i := 23) (by decide +kernel), List.mem_of_getElem? (i := 496) (by decide +kernel), List.mem_of_getElem? (i := 497) (by decide +kernel)⟩
theorem lw_p11 : lw_okq (⟨"DangerTables", "ruleOfParts", "(LDangerTables$Part;LDangerTables$Part;)I"⟩, 6) := ⟨⟨by decide +kernel, by decide +kernel⟩, List.mem_of_getElem? (i := 23) (by decide +kernel), List.mem_of_getElem? (i := 501) (by decide +kernel), List.mem_of_getElem? (i := 502) (by decide +kernel)⟩
theorem lw_p12 : lw_okq (⟨"DangerTables", "ruleOfClasses", "(LDangerTables$Good;ILDangerTables$Good;I)I"⟩, 6) := ⟨⟨by decide +kernel, by decide +kernel⟩, List.mem_of_getElem? (i := 23) (by decide +kernel), List.mem_of_getElem? (i := 505) (by decide +kernel), List.mem_of_getElem? (i := 506) (by decide +kernel)⟩
theorem lw_p13 : lw_okq (⟨"DangerTables", "kilogramsInZone", "(II)I"⟩, 6) := ⟨⟨by decide +kernel, by decide +kernel⟩, List.mem_of_getElem? (i := 23) (by decide +kernel), List.mem_of_getElem? (i := 534) (by decide +kernel), List.mem_of_getElem? (i := 535) (by decide +kernel)⟩
theorem lw_p14 : lw_okq (⟨"DangerTables", "firstBar", "(LDangerTables$Box;III)I"⟩, 6) := ⟨⟨by decide +kernel, by decide +kernel⟩, List.mem_of_getElem? (i := 23) (by decide +kernel), List.mem_of_getElem? (i := 558) (by decide +kernel), List.mem_of_getElem? (i := 559) (by decide +kernel)⟩
theorem lw_p15 : lw_okq (⟨"DangerTables", "isTaken", "(III)Z"⟩, 6) := ⟨⟨by decide +kernel, by decide +kernel⟩, List.mem_of_getElem? (i := 23) (by decide +kernel), List.mem_of_getElem? (i := 571) (by decide +kernel), List.mem_of_getElem? (i := 572) (by decide +kernel)⟩
def lw_privs_1 : List (MethodName × Nat) := [(⟨"DangerTables$RuleText", "firstWrongPlaceOfRow", "(I)I"⟩, 3), (⟨"DangerTables$RuleText", "digitAt", "(I)I"⟩, 3), (⟨"DangerTables", "isGood", "(I)Z"⟩, 6), (⟨"DangerTables", "isBox", "(I)Z"⟩, 6), (⟨"DangerTables", "lyingCount", "()I"⟩, 6), (⟨"java/lang/Throwable", "fillInStackTrace", "(I)Ljava/lang/Throwable;"⟩, 6), (⟨"java/util/ArrayList", "add", "(Ljava/lang/Object;[Ljava/lang/Object;I)V"⟩, 3), (⟨"java/util/ArrayList", "grow", "()[Ljava/lang/Object;"⟩, 3), (⟨"java/util/ArrayList", "grow", "(I)[Ljava/lang/Object;"⟩, 3), (⟨"DangerTables", "areTwoBoxes", "(II)Z"⟩, 6), (⟨"DangerTables", "ruleOfBoxes", "(LDangerTables$Box;LDangerTables$Box;)I"⟩, 6), (⟨"DangerTables", "ruleOfParts", "(LDangerTables$Part;LDangerTables$Part;)I"⟩, 6), (⟨"DangerTables", "ruleOfClasses", "(LDangerTables$Good;ILDangerTables$Good;I)I"⟩, 6), (⟨"DangerTables", "kilogramsInZone", "(II)I"⟩, 6), (⟨"DangerTables", "firstBar", "(LDangerTables$Box;III)I"⟩, 6), (⟨"DangerTables", "isTaken", "(III)Z"⟩, 6)]
theorem lw_r1 : ∀ q ∈ lw_privs_1, lw_okq q := List.forall_mem_cons.mpr ⟨lw_p0, List.forall_mem_cons.mpr ⟨lw_p1, List.forall_mem_cons.mpr ⟨lw_p2, List.forall_mem_cons.mpr ⟨lw_p3, List.forall_mem_cons.mpr ⟨lw_p4, List.forall_mem_cons.mpr ⟨lw_p5, List.forall_mem_cons.mpr ⟨lw_p6, List.forall_mem_cons.mpr ⟨lw_p7, List.forall_mem_cons.mpr ⟨lw_p8, List.forall_mem_cons.mpr ⟨lw_p9, List.forall_mem_cons.mpr ⟨lw_p10, List.forall_mem_cons.mpr ⟨lw_p11, List.forall_mem_cons.mpr ⟨lw_p12, List.forall_mem_cons.mpr ⟨lw_p13, List.forall_mem_cons.mpr ⟨lw_p14, List.forall_mem_cons.mpr ⟨lw_p15, fun _ h => absurd h List.not_mem_nil⟩⟩⟩⟩⟩⟩⟩⟩⟩⟩⟩⟩⟩⟩⟩⟩
theorem lw_p16 : lw_okq (⟨"DangerTables", "leastPassedClass", "(LDangerTables$Box;I)I"⟩, 6) := ⟨⟨by decide +kernel, by decide +kernel⟩, List.mem_of_getElem? (i := 23) (by decide +kernel), List.mem_of_getElem? (i := 575) (by decide +kernel), List.mem_of_getElem? (i := 576) (by decide +kernel)⟩
theorem lw_p17 : lw_okq (⟨"DangerTables", "leastTooNear", "(LDangerTables$Box;III)I"⟩, 6) := ⟨⟨by decide +kernel, by decide +kernel⟩, List.mem_of_getElem? (i := 23) (by decide +kernel), List.mem_of_getElem? (i := 579) (by decide +kernel), List.mem_of_getElem? (i := 580) (by decide +kernel)⟩
theorem lw_p18 : lw_okq (⟨"DangerTablesModel", "stands", "(I)Z"⟩, 22) := ⟨⟨by decide +kernel, by decide +kernel⟩, List.mem_of_getElem? (i := 647) (by decide +kernel), List.mem_of_getElem? (i := 737) (by decide +kernel), List.mem_of_getElem? (i := 738) (by decide +kernel)⟩
theorem lw_p19 : lw_okq (⟨"DangerTablesModel", "refuse", "(I)I"⟩, 22) := ⟨⟨by decide +kernel, by decide +kernel⟩, List.mem_of_getElem? (i := 647) (by decide +kernel), List.mem_of_getElem? (i := 755) (by decide +kernel), List.mem_of_getElem? (i := 756) (by decide +kernel)⟩
theorem lw_p20 : lw_okq (⟨"DangerTablesModel", "isGood", "(I)Z"⟩, 22) := ⟨⟨by decide +kernel, by decide +kernel⟩, List.mem_of_getElem? (i := 647) (by decide +kernel), List.mem_of_getElem? (i := 763) (by decide +kernel), List.mem_of_getElem? (i := 764) (by decide +kernel)⟩
theorem lw_p21 : lw_okq (⟨"DangerTablesModel", "adds", "(III)V"⟩, 22) := ⟨⟨by decide +kernel, by decide +kernel⟩, List.mem_of_getElem? (i := 647) (by decide +kernel), List.mem_of_getElem? (i := 771) (by decide +kernel), List.mem_of_getElem? (i := 772) (by decide +kernel)⟩
theorem lw_p22 : lw_okq (⟨"DangerTablesModel", "isBox", "(I)Z"⟩, 22) := ⟨⟨by decide +kernel, by decide +kernel⟩, List.mem_of_getElem? (i := 647) (by decide +kernel), List.mem_of_getElem? (i := 779) (by decide +kernel), List.mem_of_getElem? (i := 780) (by decide +kernel)⟩
theorem lw_p23 : lw_okq (⟨"DangerTablesModel", "has", "(II)Z"⟩, 22) := ⟨⟨by decide +kernel, by decide +kernel⟩, List.mem_of_getElem? (i := 647) (by decide +kernel), List.mem_of_getElem? (i := 783) (by decide +kernel), List.mem_of_getElem? (i := 784) (by decide +kernel)⟩
theorem lw_p24 : lw_okq (⟨"DangerTablesModel", "strictest", "(II)I"⟩, 22) := ⟨⟨by decide +kernel, by decide +kernel⟩, List.mem_of_getElem? (i := 647) (by decide +kernel), List.mem_of_getElem? (i := 791) (by decide +kernel), List.mem_of_getElem? (i := 792) (by decide +kernel)⟩
theorem lw_p25 : lw_okq (⟨"DangerTablesModel", "between", "(II)I"⟩, 22) := ⟨⟨by decide +kernel, by decide +kernel⟩, List.mem_of_getElem? (i := 647) (by decide +kernel), List.mem_of_getElem? (i := 795) (by decide +kernel), List.mem_of_getElem? (i := 796) (by decide +kernel)⟩
theorem lw_p26 : lw_okq (⟨"DangerTablesModel", "ruleFor", "(IIII)I"⟩, 22) := ⟨⟨by decide +kernel, by decide +kernel⟩, List.mem_of_getElem? (i := 647) (by decide +kernel), List.mem_of_getElem? (i := 799) (by decide +kernel), List.mem_of_getElem? (i := 800) (by decide +kernel)⟩
theorem lw_p27 : lw_okq (⟨"DangerTablesModel", "isLimited", "(I)Z"⟩, 22) := ⟨⟨by decide +kernel, by decide +kernel⟩, List.mem_of_getElem? (i := 647) (by decide +kernel), List.mem_of_getElem? (i := 806) (by decide +kernel), List.mem_of_getElem? (i := 807) (by decide +kernel)⟩
theorem lw_p28 : lw_okq (⟨"DangerTablesModel", "inZone", "(II)I"⟩, 22) := ⟨⟨by decide +kernel, by decide +kernel⟩, List.mem_of_getElem? (i := 647) (by decide +kernel), List.mem_of_getElem? (i := 822) (by decide +kernel), List.mem_of_getElem? (i := 823) (by decide +kernel)⟩
theorem lw_p29 : lw_okq (⟨"DangerTablesModel", "inBox", "(II)I"⟩, 22) := ⟨⟨by decide +kernel, by decide +kernel⟩, List.mem_of_getElem? (i := 647) (by decide +kernel), List.mem_of_getElem? (i := 826) (by decide +kernel), List.mem_of_getElem? (i := 827) (by decide +kernel)⟩
theorem lw_p30 : lw_okq (⟨"DangerTablesModel", "bars", "(IIII)I"⟩, 22) := ⟨⟨by decide +kernel, by decide +kernel⟩, List.mem_of_getElem? (i := 647) (by decide +kernel), List.mem_of_getElem? (i := 834) (by decide +kernel), List.mem_of_getElem? (i := 835) (by decide +kernel)⟩
theorem lw_p31 : lw_okq (⟨"DangerTablesModel", "wanted", "(I)I"⟩, 22) := ⟨⟨by decide +kernel, by decide +kernel⟩, List.mem_of_getElem? (i := 647) (by decide +kernel), List.mem_of_getElem? (i := 838) (by decide +kernel), List.mem_of_getElem? (i := 839) (by decide +kernel)⟩
def lw_privs_2 : List (MethodName × Nat) := [(⟨"DangerTables", "leastPassedClass", "(LDangerTables$Box;I)I"⟩, 6), (⟨"DangerTables", "leastTooNear", "(LDangerTables$Box;III)I"⟩, 6), (⟨"DangerTablesModel", "stands", "(I)Z"⟩, 22), (⟨"DangerTablesModel", "refuse", "(I)I"⟩, 22), (⟨"DangerTablesModel", "isGood", "(I)Z"⟩, 22), (⟨"DangerTablesModel", "adds", "(III)V"⟩, 22), (⟨"DangerTablesModel", "isBox", "(I)Z"⟩, 22), (⟨"DangerTablesModel", "has", "(II)Z"⟩, 22), (⟨"DangerTablesModel", "strictest", "(II)I"⟩, 22), (⟨"DangerTablesModel", "between", "(II)I"⟩, 22), (⟨"DangerTablesModel", "ruleFor", "(IIII)I"⟩, 22), (⟨"DangerTablesModel", "isLimited", "(I)Z"⟩, 22), (⟨"DangerTablesModel", "inZone", "(II)I"⟩, 22), (⟨"DangerTablesModel", "inBox", "(II)I"⟩, 22), (⟨"DangerTablesModel", "bars", "(IIII)I"⟩, 22), (⟨"DangerTablesModel", "wanted", "(I)I"⟩, 22)]
theorem lw_r2 : ∀ q ∈ lw_privs_2, lw_okq q := List.forall_mem_cons.mpr ⟨lw_p16, List.forall_mem_cons.mpr ⟨lw_p17, List.forall_mem_cons.mpr ⟨lw_p18, List.forall_mem_cons.mpr ⟨lw_p19, List.forall_mem_cons.mpr ⟨lw_p20, List.forall_mem_cons.mpr ⟨lw_p21, List.forall_mem_cons.mpr ⟨lw_p22, List.forall_mem_cons.mpr ⟨lw_p23, List.forall_mem_cons.mpr ⟨lw_p24, List.forall_mem_cons.mpr ⟨lw_p25, List.forall_mem_cons.mpr ⟨lw_p26, List.forall_mem_cons.mpr ⟨lw_p27, List.forall_mem_cons.mpr ⟨lw_p28, List.forall_mem_cons.mpr ⟨lw_p29, List.forall_mem_cons.mpr ⟨lw_p30, List.forall_mem_cons.mpr ⟨lw_p31, fun _ h => absurd h List.not_mem_nil⟩⟩⟩⟩⟩⟩⟩⟩⟩⟩⟩⟩⟩⟩⟩⟩
theorem lw_p32 : lw_okq (⟨"DangerTablesModel", "isNear", "(IIII)Z"⟩, 22) := ⟨⟨by decide +kernel, by decide +kernel⟩, List.mem_of_getElem? (i := 647) (by decide +kernel), List.mem_of_getElem? (i := 842) (by decide +kernel), List.mem_of_getElem? (i := 843) (by decide +kernel)⟩
def lw_privs_3 : List (MethodName × Nat) := [(⟨"DangerTablesModel", "isNear", "(IIII)Z"⟩, 22)]
theorem lw_r3 : ∀ q ∈ lw_privs_3, lw_okq q := List.forall_mem_cons.mpr ⟨lw_p32, fun _ h => absurd h List.not_mem_nil⟩
def lw_privs : List (MethodName × Nat) := lw_privs_1 ++ (lw_privs_2 ++ (lw_privs_3))
def lw_tbl : List Cond := k2_sels lw_privs ++ tables_1
theorem lw_privs_ok : ∀ q ∈ lw_privs, lw_okq q := by
  show ∀ q ∈ lw_privs_1 ++ (lw_privs_2 ++ (lw_privs_3)), lw_okq q
  exact List.forall_mem_append.mpr ⟨lw_r1, List.forall_mem_append.mpr ⟨lw_r2, lw_r3⟩⟩
end
section
/-! the rows that the printed names begin with (claim/NAMES.whole.lean.txt), with the two that they lack ahead -/
def va_AOA (t : FieldType) (U : State) : Prop := (Cond.arrayOver (.array t)).before #[] U = true
theorem va_AOA.use {t : FieldType} {A : Array Value} {U : State} (h : va_AOA t U) : (Cond.arrayOver (.array t)).before A U = true := h
/-! ===== BEGIN words of one list among another's, by their places ===== -/
theorem goodIn_r {big : List Cond} (ws : List Cond) (ps : List Nat) (hp : ws = ps.filterMap (fun i => big[i]?)) (h : ws.all goodWord = true) : GoodIn big ws := by
  intro w hw
  have h1 := List.all_eq_true.mp h w hw
  rw [hp] at hw
  obtain ⟨i, -, hi⟩ := List.mem_filterMap.mp hw
  have hm : w ∈ big := by first | exact List.mem_of_getElem? hi | exact List.getElem?_mem hi
  exact ⟨hm, good_of_word h1⟩
theorem goodIn_app {big a b : List Cond} (ha : GoodIn big a) (hb : GoodIn big b) : GoodIn big (a ++ b) := fun w h => (List.mem_append.mp h).elim (ha w) (hb w)
theorem goodIn_ca {big a b : List Cond} {c : Cond} (ha : GoodIn big (c :: a)) (hb : GoodIn big b) : GoodIn big (c :: (a ++ b)) := fun w h => (List.mem_cons.mp h).elim (fun e => ha w (List.mem_cons.mpr (Or.inl e))) (fun h => (List.mem_append.mp h).elim (fun h => ha w (List.mem_cons.mpr (Or.inr h))) (hb w))
theorem goodIn_sub {big ws : List Cond} (hm : ∀ w ∈ ws, w ∈ big) (h : ws.all goodWord = true) : GoodIn big ws := fun w hw => ⟨hm w hw, good_of_word (List.all_eq_true.mp h w hw)⟩
/-! ===== END ===== -/

/-! ===== BEGIN new T[n][m]: the outer array a place, the inner ones among the pooled ===== -/
/-- f, but v at every address of l -/
def vr_up {α : Type} (f : Nat → α) (l : List Nat) (v : α) : Nat → α := fun a => if a ∈ l then v else f a
theorem vr_up_in {α : Type} {f : Nat → α} {l : List Nat} {v : α} {a : Nat} (h : a ∈ l) : vr_up f l v a = v := if_pos h
theorem vr_up_ne {α : Type} {f : Nat → α} {l : List Nat} {v : α} {a : Nat} (h : a ∉ l) : vr_up f l v a = f a := if_neg h
theorem vr_rows {L l : List Nat} {f : Nat → va_E} {e : va_E} (h : ∀ a, a ∈ l → a ∉ L) : va_pl L f ++ l.map (fun a => (a, e)) = va_pl (L ++ l) (vr_up f l e) := by
  unfold va_pl
  rw [List.map_append]
  congr 1
  · apply List.map_congr_left
    intro a ha
    rw [vr_up_ne (fun q => h a q ha)]
  · apply List.map_congr_left
    intro a ha
    rw [vr_up_in ha]
theorem vr_lay {X rows : va_W} {x : Nat × va_E} {pl : va_W} {D : va_G} {cl : List vw_C} {H : Heap} (hP : va_P D cl (((X ++ pl) ++ [x]) ++ rows) H) : va_P D cl ((X ++ [x]) ++ (pl ++ rows)) H := by
  rw [List.append_assoc (X ++ pl)] at hP
  have h := va_P.swap hP
  rw [← List.append_assoc X] at h
  have h2 := va_P.swap h
  rw [List.append_assoc (X ++ [x])] at h2
  exact h2
theorem vr_layD {X rows : va_W} {x : Nat × va_E} {pl : va_W} {A : Nat → Prop} (hD : va_D A (((X ++ pl) ++ [x]) ++ rows)) : va_D A ((X ++ [x]) ++ (pl ++ rows)) := by
  rw [List.append_assoc (X ++ pl)] at hD
  have h := va_D.swap hD
  rw [← List.append_assoc X] at h
  have h2 := va_D.swap h
  rw [List.append_assoc (X ++ [x])] at h2
  exact h2
theorem vr_outer (c : ClassId) (N h0 : Nat) : ∀ i : Nat, Jvm.Free.Multi.outerC c N h0 i = arrV c N (fun j => va_rf (if j < i then some (h0 + 1 + j) else none))
  | 0 => by
    show ({ cls := c, slots := Array.replicate N .null, vm := .none } : Cell) = _
    rw [arrV_new]
    refine congrArg (arrV c N) (funext fun j => ?_)
    simp [va_rf]
  | i + 1 => by
    show (Jvm.Free.Multi.outerC c N h0 i).setSlot i (.ref (h0 + 1 + i)) = _
    rw [vr_outer c N h0 i, arrV_store]
    refine congrArg (arrV c N) (funext fun j => ?_)
    by_cases e : j = i
    · subst e
      simp [updV, va_rf]
    · by_cases h : j < i
      · simp [updV, e, h, Nat.lt_succ_of_lt h]
      · simp [updV, e, h, show ¬ j < i + 1 by omega]
section VGM
variable {p : Program} {l : Launch} {e : Env} {R : Room} {s : State} {m : MethodId} {args : Array Value} {below : List Frame} {meth : Method} {c : Code} {H : Heap} {locs : List Loc} {cells slots : Nat} {Q : State → Prop}
variable {cc : ByteArray} {pc : Nat} {ls : Array Slot} {rest : List Value} {D : va_G} {cl : List vw_C} {A : Nat → Prop} {a : Nat} {tys : List (ClassId × FieldType)} {ws : va_W} {H0 : Heap}
theorem va_mna {X : va_W} {L : List Nat} {f : Nat → va_E} {cc : ByteArray} (hexec : p.tables.exec = Jvm.exec) (hb : c.code = cc) {own : String} {index : Nat} {ty : FieldType} {cy : ClassId} (hown : s.vm.findClass own = some m.cls) (hclink : (Cond.classLink own index ("[" ++ (FieldType.array ty).toString)).before args s = true) (hover : va_AOA ty s) (harr : (Cond.arrayClass ty).before args s = true) (hcy : s.vm.findClass (FieldType.array ty).toString = some cy)
    (hK : va_K D cl tys s) (hP : va_P D cl (X ++ va_pl L f) H) (hD : va_D A (X ++ va_pl L f)) (hS : va_S A H0 H locs) (hA : ∀ q, H0.size ≤ q → A q) {n k : Int32} {N' K' : Nat} {z : vp_A} (hn : ¬ n < 0) (hk : ¬ k < 0) (hN : n.toNatClampNeg = N') (hM : k.toNatClampNeg = K')
    (hb1 : N' * 4 ≤ 536870912) (hb2 : K' * componentBytes ty ≤ 536870912) (hb3 : K' ≤ 536870912) (hdf : fits ty (defaultValue ty) = true) (hdd : (defaultValue ty).isDefault = true) (hcells : cells + (1 + N') ≤ R.cells) (hslots : slots + (N' + N' * K') ≤ R.slots) (hz : ∀ c : ClassId, Jvm.Free.Multi.innerC c K' (defaultValue ty) = vp_cell c z) (hdg : decode cc pc = .ok (.multianewarray index 2, 4))
    (kk : ∀ (q : Nat) (r : Nat → Nat) (cA : ClassId) (H1 : Heap), (∀ i j : Nat, i < N' → j < N' → r i = r j → i = j) → (∀ i : Nat, i < N' → r i ∉ L) → va_K D cl (tys ++ [(cA, .array ty)]) s →
      va_P D cl ((X ++ [(q, .inl (cA, N', .inr (.inr (.inr (.inr (fun i => if i < N' then some (r i) else none))))))]) ++ va_pl (L ++ (List.range N').map r) (vr_up f ((List.range N').map r) (.inl (cy, z)))) H1 → va_D A ((X ++ [(q, .inl (cA, N', .inr (.inr (.inr (.inr (fun i => if i < N' then some (r i) else none))))))]) ++ va_pl (L ++ (List.range N').map r) (vr_up f ((List.range N').map r) (.inl (cy, z)))) → va_S A H0 H1 locs →
      W p l e R s m args below meth c H1 locs (cells + 1 + N') (slots + N' + N' * K') Q (F0 m (pc + 4) ls (.ref q :: rest))) : W p l e R s m args below meth c H locs cells slots Q (F0 m pc ls (.int k :: .int n :: rest)) := by
  subst hN
  subst hM
  intro T hT Xs
  obtain ⟨vm₁, cA, comp, -, fA, fC, hO, -, X', step⟩ := Xs.multianewarray2F hexec hown hclink (va_AOA.use hover) harr (g := F0 m pc ls (.int k :: .int n :: rest)) rfl (by rw [hb]; exact hdg) rfl hn hk hb1 hb2 hb3 hdf hdd hcells hslots
  have ec : some cy = some comp := hcy.symm.trans fC
  cases ec
  generalize hF : Jvm.Free.Multi.fill (T.setVm vm₁) cA cy n.toNatClampNeg k.toNatClampNeg (defaultValue ty) n.toNatClampNeg = F at X' step
  have hTh : (T.setVm vm₁).heap = H := hT
  obtain ⟨f1, f2, -, -⟩ := Jvm.Free.Multi.fill_facts (T.setVm vm₁) cA cy n.toNatClampNeg k.toNatClampNeg (defaultValue ty) n.toNatClampNeg
  rw [hF, hTh] at f1 f2
  have hold : ∀ x : Nat, x < H.size → F.heap[x]? = H[x]? := fun x hx => by
    have := Jvm.Free.Multi.fill_old (T.setVm vm₁) cA cy n.toNatClampNeg k.toNatClampNeg (defaultValue ty) (a := x) (by rw [hTh]; exact hx) n.toNatClampNeg
    rw [hF, hTh] at this
    exact this
  have hrow : ∀ j : Nat, j < n.toNatClampNeg → F.heap[H.size + 1 + j]? = some (vp_cell cy z) := fun j hj => by
    have := Jvm.Free.Multi.fill_inner (T.setVm vm₁) cA cy n.toNatClampNeg k.toNatClampNeg (defaultValue ty) n.toNatClampNeg j hj
    rw [hF, hTh, hz] at this
    exact this
  have hout : Jvm.Free.Multi.outerC cA n.toNatClampNeg H.size n.toNatClampNeg = vp_cell cA (n.toNatClampNeg, .inr (.inr (.inr (.inr (fun i => if i < n.toNatClampNeg then some (H.size + 1 + i) else none))))) := by
    rw [vp_cell_q]
    exact vr_outer cA n.toNatClampNeg H.size n.toNatClampNeg
  rw [hout] at f2
  have hlt : ∀ a, a ∈ L → a < H.size := fun a ha => by
    obtain ⟨k9, hk9⟩ := va_pl_get (X := X) (f := f) ha
    exact (hP k9 _ hk9).lt
  have hnl : ∀ i : Nat, i < n.toNatClampNeg → H.size + 1 + i ∉ L := fun i _ h => by
    have := hlt _ h
    omega
  have hnm : ∀ a, a ∈ (List.range n.toNatClampNeg).map (fun i => H.size + 1 + i) → a ∉ L := fun a ha h => by
    obtain ⟨i, -, rfl⟩ := List.mem_map.mp ha
    have := hlt _ h
    omega
  have hP0 : va_P D cl (X ++ va_pl L f) F.heap := hP.kept (fun k9 x hx => hold x.1 ((hP k9 x hx).lt))
  have hP1 : va_P D cl ((X ++ va_pl L f) ++ [(H.size, .inl (cA, n.toNatClampNeg, .inr (.inr (.inr (.inr (fun i => if i < n.toNatClampNeg then some (H.size + 1 + i) else none))))))]) F.heap := hP0.app (fun k9 x hx => by
    have h0 : k9 < 1 := (List.getElem?_eq_some_iff.mp hx).1
    rw [show k9 = 0 by omega] at hx
    cases hx
    exact f2)
  have hP2 : va_P D cl (((X ++ va_pl L f) ++ [(H.size, .inl (cA, n.toNatClampNeg, .inr (.inr (.inr (.inr (fun i => if i < n.toNatClampNeg then some (H.size + 1 + i) else none))))))]) ++ ((List.range n.toNatClampNeg).map (fun i => H.size + 1 + i)).map (fun a => (a, .inl (cy, z)))) F.heap := hP1.app (fun k9 x hx => by
    obtain ⟨a, ha, rfl⟩ := List.mem_map.mp (List.mem_of_getElem? hx)
    obtain ⟨i, hi, rfl⟩ := List.mem_map.mp ha
    exact hrow i (List.mem_range.mp hi))
  have hD2 : va_D A (((X ++ va_pl L f) ++ [(H.size, .inl (cA, n.toNatClampNeg, .inr (.inr (.inr (.inr (fun i => if i < n.toNatClampNeg then some (H.size + 1 + i) else none))))))]) ++ ((List.range n.toNatClampNeg).map (fun i => H.size + 1 + i)).map (fun a => (a, .inl (cy, z)))) := by
    have hD1 := hD.push (e := .inl (cA, n.toNatClampNeg, .inr (.inr (.inr (.inr (fun i => if i < n.toNatClampNeg then some (H.size + 1 + i) else none)))))) hP rfl (hA _ hS.1)
    generalize hW1 : (X ++ va_pl L f) ++ [(H.size, .inl (cA, n.toNatClampNeg, .inr (.inr (.inr (.inr (fun i => if i < n.toNatClampNeg then some (H.size + 1 + i) else none))))))] = W1 at hD1 hP1 ⊢
    have hle : ∀ (k9 : Nat) (x : Nat × va_E), W1[k9]? = some x → x.1 ≤ H.size := fun k9 x hx => by
      rw [← hW1] at hx
      by_cases hl : k9 < (X ++ va_pl L f).length
      · rw [List.getElem?_append_left hl] at hx
        exact Nat.le_of_lt ((hP k9 x hx).lt)
      · rw [List.getElem?_append_right (by omega)] at hx
        have h0 : k9 - (X ++ va_pl L f).length < 1 := (List.getElem?_eq_some_iff.mp hx).1
        rw [show k9 - (X ++ va_pl L f).length = 0 by omega] at hx
        cases hx
        exact Nat.le_refl _
    have hr : ∀ (k9 : Nat) (x : Nat × va_E), (((List.range n.toNatClampNeg).map (fun i => H.size + 1 + i)).map (fun a => ((a, .inl (cy, z)) : Nat × va_E)))[k9]? = some x → x.1 = H.size + 1 + k9 := fun k9 x hx => by
      rw [List.getElem?_map, List.getElem?_map] at hx
      by_cases h9 : k9 < n.toNatClampNeg
      · rw [List.getElem?_range h9] at hx
        cases hx
        rfl
      · have hn0 : (List.range n.toNatClampNeg)[k9]? = none := List.getElem?_eq_none (by rw [List.length_range]; omega)
        rw [hn0] at hx
        cases hx
    refine ⟨fun i j x y hi hj hxy => ?_, fun k9 x hx => ?_⟩
    · by_cases h1 : i < W1.length <;> by_cases h2 : j < W1.length
      · rw [List.getElem?_append_left h1] at hi
        rw [List.getElem?_append_left h2] at hj
        exact hD1.1 i j x y hi hj hxy
      · rw [List.getElem?_append_left h1] at hi
        rw [List.getElem?_append_right (by omega)] at hj
        have := hle _ _ hi
        have := hr _ _ hj
        omega
      · rw [List.getElem?_append_right (by omega)] at hi
        rw [List.getElem?_append_left h2] at hj
        have := hle _ _ hj
        have := hr _ _ hi
        omega
      · rw [List.getElem?_append_right (by omega)] at hi hj
        have := hr _ _ hi
        have := hr _ _ hj
        omega
    · by_cases h1 : k9 < W1.length
      · rw [List.getElem?_append_left h1] at hx
        exact hD1.2 k9 x hx
      · rw [List.getElem?_append_right (by omega)] at hx
        have := hr _ _ hx
        exact hA _ (by have := hS.1; omega)
  have hAr : ArrOfT s cA (.array ty) := fun N9 z9 => by
    obtain ⟨-, k9, hk9, cm9, hkk9⟩ := (hO 0 0 0).1
    exact ⟨(fun q hq => by cases hq), k9, hk9, cm9, hkk9⟩
  have hK2 : va_K D cl (tys ++ [(cA, .array ty)]) s := ⟨hK.1, fun k9 x hx => by
    by_cases hl : k9 < tys.length
    · rw [List.getElem?_append_left hl] at hx
      exact hK.2 k9 x hx
    · rw [List.getElem?_append_right (by omega)] at hx
      have h0 : k9 - tys.length < 1 := (List.getElem?_eq_some_iff.mp hx).1
      rw [show k9 - tys.length = 0 by omega] at hx
      cases hx
      exact ⟨hAr, fA⟩⟩
  obtain ⟨t, a1, b1⟩ := kk H.size (fun i => H.size + 1 + i) cA F.heap (fun i j _ _ h => by have h9 : H.size + 1 + i = H.size + 1 + j := h; omega) hnl hK2 (by rw [← vr_rows hnm]; exact vr_lay hP2) (by rw [← vr_rows hnm]; exact vr_layD hD2) ⟨by rw [f1]; have := hS.1; omega, fun x h1 h2 => (hold x (Nat.lt_of_lt_of_le h1 hS.1)).trans (hS.2.1 x h1 h2), hS.2.2⟩ F rfl X'
  refine ⟨t, step t ?_, b1⟩
  have e : T.heap.size = H.size := by rw [hT]
  rw [e]
  exact a1
end VGM
/-! ===== END ===== -/

/-! ===== BEGIN exceptions that leave a method, and their catching by the caller (launches without stack traces) ===== -/
section VXA
/-! The laws vx_back, vx_callV, vx_callS, vx_callSW, vx_throw0, vx_throwS follow proofs of the library, with one case more: JvmDerived/Free/Laws.lean (Back.of_free), Shelf42/LK1.lean (callV, callS), Shelf/KitTraced.lean (throwNew0V, throwNewS). -/
/-- where a method has thrown q: the class by its name, the cell, what was written, the world -/
def vx_T (XC : String → State → State → Prop) (st : State) (q : Addr) (t : State) (mc ms : Nat) (free : Addr → Prop) : Prop :=
  ∃ (E : String) (ce : Cell) (L : List Loc), XC E st t ∧ t.heap[q]? = some ce ∧ ce.vm = .none ∧ st.vm.findClass E = some ce.cls ∧ st.WarmedH t.vm ∧ st.sameButNew ({ t with vm := st.vm } : State) L mc ms ∧ ∀ z ∈ L, free z.base
def vx_Q (Qc : Array Value → State → Outcome → State → Prop) (XC : String → State → State → Prop) (mc ms : Nat) (free : Addr → Prop) : Array Value → State → Outcome → State → Prop := fun a st o t =>
  (Qc a st o t ∧ ∃ L, FrameEnd st o t L mc ms ∧ ∀ q ∈ L, free q.base) ∨ ∃ q, o = .threw q ∧ vx_T XC st q t mc ms free
/-- a callee that returns or throws -/
def vx_Met (l : Launch) (y : MethodName) (ws : List Cond) (rm : Room) (Pc : Array Value → State → Prop) (Qc : Array Value → State → Outcome → State → Prop) (XC : String → State → State → Prop) (mc ms : Nat) (free : Addr → Prop) : Prop :=
  MetFree l y (headSpec ws rm) Pc (fun _ _ _ _ _ => True) (vx_Q Qc XC mc ms free)
def vx_Post (XC : String → State → State → Prop) (mc ms : Nat) (free : Addr → Prop) : Pt → Array Value → Addr → Pt → Prop := fun A a q B =>
  ∃ (g : JFrame) (mk : MethodId) (t : State) (L : List Loc) (E : String) (ce : Cell), B.U.heap = t.heap ∧ B.U.vm = t.vm ∧ XC E (A.U.calling g mk a) t ∧ t.heap[q]? = some ce ∧ ce.vm = .none ∧ A.U.vm.findClass E = some ce.cls ∧ B.locs = A.locs ++ L ∧ (∀ z ∈ L, free z.base) ∧ B.cells = A.cells + mc ∧ B.slots = A.slots + ms
def vx_Back (l : Launch) (R : Room) (p : Program) (e : Env) (below : List Frame) (s : State) (sargs : Array Value) (y : MethodName) (len W9 : Nat)
    (Pre : Pt → Array Value → Prop) (Post : Pt → Array Value → Option Value → Pt → Prop) (PostX : Pt → Array Value → Addr → Pt → Prop) : Prop :=
  ∀ (m : MethodId) (meth : Method) (c : Code) (A : Pt) (g : JFrame) (ig : Instr) (mk : MethodId) (a : Array Value),
    Stand p l e R s m sargs below meth c A.U A.locs A.cells A.slots → g.method = m → g.locals.size = c.maxLocals → decode c.code g.pc = .ok (ig, len) →
    2 * g.monitorRoom + (g.stack.map fun v => v.category).sum ≤ W9 → A.U.methodNamed? y = some mk → Pre A a →
    (∃ (v : Option Value) (B : Pt), Stand p l e R s m sargs below meth c B.U B.locs B.cells B.slots ∧ Post A a v B ∧
      Steps p.tables e below (doInvoke e (A.U.setTop g) [] mk a).1 (B.U.setTop { g with pc := g.pc + len, stack := v.toList ++ g.stack })) ∨
    (∃ (q : Addr) (B : Pt), Stand p l e R s m sargs below meth c B.U B.locs B.cells B.slots ∧ PostX A a q B ∧
      Steps p.tables e below (doInvoke e (A.U.setTop g) [] mk a).1 ((B.U.setTop g).pushFrame (.throwing q)))
section Payer
variable {l : Launch} {R : Room} {p : Program} {e : Env} {below : List Frame} {s : State} {sargs : Array Value} {y : MethodName} {len W9 : Nat}
theorem vx_back {ws : List Cond} {rm : Room} {Pc : Array Value → State → Prop} {Qc : Array Value → State → Outcome → State → Prop} {XC : String → State → State → Prop} {mc ms : Nat} {free : Addr → Prop} {bytes : ByteArray} {maxL : Nat} {ret : Option FieldType}
    (hM : vx_Met l y ws rm Pc Qc XC mc ms free) (hblind : FrameBlind Pc) (hrc : rm.cells = mc) (hrs : rm.slots = ms)
    (hframes : rm.frames + 1 ≤ R.frames) (hlocals : W9 + (maxL + 11) + rm.locals ≤ R.locals)
    (hws : ∀ w ∈ ws, ∀ a' U, s.WarmedH U.vm → w.before a' U = true) (hcode : Cond.code y bytes maxL ret ∈ ws) (hinit : ∀ a' U, s.WarmedH U.vm → (Cond.initialized y.cls).before a' U = true) :
    vx_Back l R p e below s sargs y len W9 (PreOf R mc ms Pc) (PostOf Qc mc ms free) (vx_Post XC mc ms free) := by
  intro m meth c A g ig mk a X hg hsize hdg hW hn hp
  have h1 : (headSpec ws rm).pre.before a A.U = true := atoms_intro fun w hw => hws w hw _ _ X.warmed
  have h2 : (Cond.code y bytes maxL ret).before a A.U = true := hws _ hcode _ _ X.warmed
  have h3 : (Cond.initialized y.cls).before a A.U = true := hinit _ _ X.warmed
  have h4 : A.cells + (headSpec ws rm).room.cells ≤ R.cells := by rw [show (headSpec ws rm).room.cells = mc from hrc]; exact hp.1
  have h5 : A.slots + (headSpec ws rm).room.slots ≤ R.slots := by rw [show (headSpec ws rm).room.slots = ms from hrs]; exact hp.2.1
  have hPc : Pc a (A.U.calling g mk a) := hblind _ _ _ _ hp.2.2
  obtain ⟨U, Ls, c0, s0⟩ := A
  dsimp only [Pt.U, Pt.locs, Pt.cells, Pt.slots] at h1 h2 h3 h4 h5 X hn hPc ⊢
  obtain ⟨methY, cY, hmY, hcY, -, hlY, -, -, -, -⟩ := Cond.code_spec hn h2
  obtain ⟨kY, hkY, -⟩ := className_of_methodNamed hn
  have hinitY : kY.init = .initialized := Cond.initialized_spec (findClass_of_methodNamed hn) hkY h3
  have h : At U g.method c below := by rw [hg]; exact X.here
  have hlocals9 : W9 + (maxL + 11) + (headSpec ws rm).room.locals ≤ R.locals := hlocals
  have happ : (headSpec ws rm).appliesLoose y e.platform (U.calling g mk a) = true :=
    Spec.appliesLoose_calling (g := g) h hdg hn hkY hinitY
      (X.room_calling (g := g) (R' := (headSpec ws rm).room) hsize hmY hcY hframes (by rw [hlY]; omega) h4 h5) h1
  obtain ⟨mid, hmid⟩ := h.above
  have hfr : (U.setTop g).frames = (.java g :: mid) ++ below := by rw [State.frames_setTop' g h.top, hmid]; rfl
  obtain ⟨o, s₂, hsteps, -, hend, hq⟩ := Steps.callFree hM p X.admits X.cas X.clock (acts := []) hfr happ hPc trivial
  have hq' : vx_Q Qc XC mc ms free a (U.calling g mk a) o s₂ := hq
  rw [State.frames_setTop' g h.top] at hend
  obtain ⟨g₀, hg0⟩ := Option.isSome_iff_exists.mp h.top
  obtain ⟨r, hr⟩ := State.topJava?_eq_some.mp hg0
  have hr' : (({ U with heap := s₂.heap, slotsUsed := s₂.slotsUsed } : State).setVm s₂.vm).frames = .java g₀ :: r := hr
  rcases hq' with ⟨hqc, L, hfe, hL⟩ | ⟨q, rfl, E, ce, L, hx, hce, hcv, hcl, hW₂, hsm, hL⟩
  · obtain ⟨⟨v, rfl⟩, hW₂, e2, q2, q3, q4, q5, q6⟩ := id hfe
    have e3 : s₂ = ({ (U.calling g mk a).setFrames s₂.frames with heap := s₂.heap, slotsUsed := s₂.slotsUsed } : State).setVm s₂.vm := by
      have : s₂ = ({ s₂ with vm := (U.calling g mk a).vm } : State).setVm s₂.vm := rfl
      rw [e2] at this
      exact this
    obtain ⟨c₂, i₂, len₂, hc₂, hd₂, hf₂⟩ := hend
    have hW' : U.WarmedH s₂.vm := hW₂
    have hcc : c₂ = c := by
      have h1 : s₂.code? g.method = U.code? g.method := by
        rw [State.code?_eq, State.code?_eq, hW'.alike.method?]
      exact Option.some.inj (hc₂.symm.trans (h1.trans h.code))
    subst hcc
    have hlen : len₂ = len := by rw [hdg] at hd₂; cases hd₂; rfl
    subst hlen
    have hs₂ : s₂ = (({ U with heap := s₂.heap, slotsUsed := s₂.slotsUsed } : State).setVm s₂.vm).setTop { g with pc := g.pc + len₂, stack := v.toList ++ g.stack } := by
      refine e3.trans ?_
      rw [hf₂, State.calling_eq h.top, State.setFrames_setFrames, State.setTop_of_frames _ hr', hr]
      rfl
    have hsame : U.sameButNew ({ U with heap := s₂.heap, slotsUsed := s₂.slotsUsed } : State) L mc ms := by
      refine ⟨?_, q2, q3, q4, q5, q6⟩
      obtain ⟨t, ht, -⟩ := State.frames_cons hr
      show ({ U with heap := s₂.heap, slotsUsed := s₂.slotsUsed } : State) = { U.setFrames U.frames with heap := s₂.heap, slotsUsed := s₂.slotsUsed }
      rw [State.setFrames_self ht]
    subst hg
    refine Or.inl ⟨v, ⟨(({ U with heap := s₂.heap, slotsUsed := s₂.slotsUsed } : State).setVm s₂.vm), Ls ++ L, c0 + mc, s0 + ms⟩,
      ⟨X.admits, X.cas, X.clock, X.frames, X.room, X.hears, X.method, X.code, (X.here.setHeapUsed s₂.heap s₂.slotsUsed).setVm hW'.alike, X.tail, State.WarmedH.trans X.warmed hW', X.limits, X.bytes, X.same.trans (hsame.setVm s.vm)⟩,
      ⟨g, mk, s₂, L, rfl, rfl, hqc, rfl, hL, rfl, rfl⟩, ?_⟩
    show Steps p.tables e below _ ((({ U with heap := s₂.heap, slotsUsed := s₂.slotsUsed } : State).setVm s₂.vm).setTop { g with pc := g.pc + len₂, stack := v.toList ++ g.stack })
    rw [← hs₂]
    exact hsteps
  · obtain ⟨e2, q2, q3, q4, q5, q6⟩ := id hsm
    have e3 : s₂ = ({ (U.calling g mk a).setFrames s₂.frames with heap := s₂.heap, slotsUsed := s₂.slotsUsed } : State).setVm s₂.vm := by
      have : s₂ = ({ s₂ with vm := (U.calling g mk a).vm } : State).setVm s₂.vm := rfl
      rw [e2] at this
      exact this
    have hf₂ : s₂.frames = .throwing q :: .java g :: U.frames.tail := hend
    have hW' : U.WarmedH s₂.vm := hW₂
    have hs₂ : s₂ = ((({ U with heap := s₂.heap, slotsUsed := s₂.slotsUsed } : State).setVm s₂.vm).setTop g).pushFrame (.throwing q) := by
      refine e3.trans ?_
      rw [hf₂, State.calling_eq h.top, State.setFrames_setFrames, State.pushFrame, State.frames_setTop _ hr', State.setTop_of_frames _ hr', State.setFrames_setFrames, hr]
      rfl
    have hsame : U.sameButNew ({ U with heap := s₂.heap, slotsUsed := s₂.slotsUsed } : State) L mc ms := by
      refine ⟨?_, q2, q3, q4, q5, q6⟩
      obtain ⟨t, ht, -⟩ := State.frames_cons hr
      show ({ U with heap := s₂.heap, slotsUsed := s₂.slotsUsed } : State) = { U.setFrames U.frames with heap := s₂.heap, slotsUsed := s₂.slotsUsed }
      rw [State.setFrames_self ht]
    subst hg
    refine Or.inr ⟨q, ⟨(({ U with heap := s₂.heap, slotsUsed := s₂.slotsUsed } : State).setVm s₂.vm), Ls ++ L, c0 + mc, s0 + ms⟩,
      ⟨X.admits, X.cas, X.clock, X.frames, X.room, X.hears, X.method, X.code, (X.here.setHeapUsed s₂.heap s₂.slotsUsed).setVm hW'.alike, X.tail, State.WarmedH.trans X.warmed hW', X.limits, X.bytes, X.same.trans (hsame.setVm s.vm)⟩,
      ⟨g, mk, s₂, L, E, ce, rfl, rfl, hx, hce, hcv, hcl, rfl, hL, rfl, rfl⟩, ?_⟩
    show Steps p.tables e below _ (((({ U with heap := s₂.heap, slotsUsed := s₂.slotsUsed } : State).setVm s₂.vm).setTop g).pushFrame (.throwing q))
    rw [← hs₂]
    exact hsteps
end Payer
section Calls
variable {p : Program} {l : Launch} {e : Env} {R : Room} {s : State} {m : MethodId} {args : Array Value} {below : List Frame} {meth : Method} {c : Code} {T : State} {locs : List Loc} {cells slots : Nat}
theorem vx_callV (X : Stand p l e R s m args below meth c T locs cells slots) (hexec : p.tables.exec = Jvm.exec) {own C : String} {index : Nat} {y : MethodName} {bytes : ByteArray} {maxL : Nat} {ret : Option FieldType}
    (hown : s.vm.findClass own = some m.cls) (hlink : (Cond.methodLink own index y).before args s = true) (hinst : (Cond.instanceMethod y).before args s = true) (hsel : (Cond.selects C y y).before args s = true)
    (hcode : (Cond.code y bytes maxL ret).before args s = true) (hy : y.cls ≠ "java/lang/invoke/MethodHandle" ∧ y.cls ≠ "java/lang/invoke/VarHandle")
    {W9 : Nat} {Pre : Pt → Array Value → Prop} {Post : Pt → Array Value → Option Value → Pt → Prop} {PostX : Pt → Array Value → Addr → Pt → Prop} (hK : vx_Back l R p e below s args y 3 W9 Pre Post PostX)
    {b : Addr} {cellB : Cell} (hcell : T.heap[b]? = some cellB) (hobj : cellB.vm.isStatics = false) (hcls : s.vm.findClass C = some cellB.cls)
    {g : JFrame} (hg : g.method = m) (hsize : g.locals.size = c.maxLocals) {argsL rest : List Value} (hlen : ∀ sig, parseMethodDescriptor y.desc = some sig → argsL.length = sig.parameters.length)
    (hstack : g.stack = argsL.reverse ++ .ref b :: rest) (hW : 2 * g.monitorRoom + (rest.map fun v => v.category).sum ≤ W9) (hdg : decode c.code g.pc = .ok (.invokevirtual index, 3))
    (hpre : ∀ vm₁, s.WarmedH vm₁ → Pre ⟨T.setVm vm₁, locs, cells, slots⟩ (Value.ref b :: argsL).toArray) :
    (∃ (v : Option Value) (vm₁ : Vm) (B : Pt), s.WarmedH vm₁ ∧ Stand p l e R s m args below meth c B.U B.locs B.cells B.slots ∧ Post ⟨T.setVm vm₁, locs, cells, slots⟩ (Value.ref b :: argsL).toArray v B ∧
      ∀ target, Steps p.tables e below (B.U.setTop { g with pc := g.pc + 3, stack := v.toList ++ rest }) target → Steps p.tables e below (T.setTop g) target) ∨
    (∃ (q : Addr) (vm₁ : Vm) (B : Pt), s.WarmedH vm₁ ∧ Stand p l e R s m args below meth c B.U B.locs B.cells B.slots ∧ PostX ⟨T.setVm vm₁, locs, cells, slots⟩ (Value.ref b :: argsL).toArray q B ∧
      Steps p.tables e below (T.setTop g) ((B.U.setTop { g with stack := rest }).pushFrame (.throwing q))) := by
  obtain ⟨mk, methM, hnamed, hmethM, hstM, habM⟩ := Cond.instanceMethod_spec hinst
  obtain ⟨methM', cM, hmethM', -, -, -, -, -, -, hsigM⟩ := Cond.code_spec hnamed hcode
  cases hmethM.symm.trans hmethM'
  obtain ⟨c2, r2, m2, q1, q2, q3, q4, kP, hkP, hkPi⟩ := Cond.selects_spec hsel
  cases hcls.symm.trans q1
  cases (State.methodFound?_of_named hnamed hy).symm.trans q2
  cases hnamed.symm.trans q3
  have hselP : selectMethod e.platform s.vm cellB.cls mk = .method mk := by rw [Launch.admits_selectMethod X.admits]; exact q4
  obtain ⟨vm₁, X₁, hstep₁⟩ := X.invokevirtual hexec hown hlink hnamed hmethM hstM hkP hkPi hy (a := b) (cell := cellB) hcell
    (fun z h => by rw [h] at hobj; cases hobj) hselP hmethM habM hkP hkPi (g := g) hg (argsL := argsL) (rest := rest) (hlen _ hsigM) hstack hdg
  rcases hK m meth c ⟨T.setVm vm₁, locs, cells, slots⟩ { g with stack := rest } (.invokevirtual index) mk (Value.ref b :: argsL).toArray X₁ hg hsize hdg hW (X₁.named hnamed) (hpre vm₁ X₁.warmed) with ⟨v, B, X', hpost, hsteps⟩ | ⟨q, B, X', hpost, hsteps⟩
  · exact Or.inl ⟨v, vm₁, B, X₁.warmed, X', hpost, fun target h => hstep₁ _ fun acts => by rw [doInvoke_state]; exact hsteps.trans h⟩
  · exact Or.inr ⟨q, vm₁, B, X₁.warmed, X', hpost, hstep₁ _ fun acts => by rw [doInvoke_state]; exact hsteps⟩
theorem vx_callS (X : Stand p l e R s m args below meth c T locs cells slots) (hexec : p.tables.exec = Jvm.exec) {own : String} {index : Nat} {y : MethodName} {bytes : ByteArray} {maxL : Nat} {ret : Option FieldType}
    (hown : s.vm.findClass own = some m.cls) (hlink : (Cond.methodLink own index y).before args s = true) (hstat : (Cond.static y).before args s = true) (hinit : (Cond.initialized y.cls).before args s = true)
    (hcode : (Cond.code y bytes maxL ret).before args s = true) (hy : y.cls ≠ "java/lang/invoke/MethodHandle" ∧ y.cls ≠ "java/lang/invoke/VarHandle")
    {W9 : Nat} {Pre : Pt → Array Value → Prop} {Post : Pt → Array Value → Option Value → Pt → Prop} {PostX : Pt → Array Value → Addr → Pt → Prop} (hK : vx_Back l R p e below s args y 3 W9 Pre Post PostX)
    {g : JFrame} (hg : g.method = m) (hsize : g.locals.size = c.maxLocals) {argsL rest : List Value} (hlen : ∀ sig, parseMethodDescriptor y.desc = some sig → argsL.length = sig.parameters.length)
    (hstack : g.stack = argsL.reverse ++ rest) (hW : 2 * g.monitorRoom + (rest.map fun v => v.category).sum ≤ W9) (hdg : decode c.code g.pc = .ok (.invokestatic index, 3))
    (hpre : ∀ vm₁, s.WarmedH vm₁ → Pre ⟨T.setVm vm₁, locs, cells, slots⟩ argsL.toArray) :
    (∃ (v : Option Value) (vm₁ : Vm) (B : Pt), s.WarmedH vm₁ ∧ Stand p l e R s m args below meth c B.U B.locs B.cells B.slots ∧ Post ⟨T.setVm vm₁, locs, cells, slots⟩ argsL.toArray v B ∧
      ∀ target, Steps p.tables e below (B.U.setTop { g with pc := g.pc + 3, stack := v.toList ++ rest }) target → Steps p.tables e below (T.setTop g) target) ∨
    (∃ (q : Addr) (vm₁ : Vm) (B : Pt), s.WarmedH vm₁ ∧ Stand p l e R s m args below meth c B.U B.locs B.cells B.slots ∧ PostX ⟨T.setVm vm₁, locs, cells, slots⟩ argsL.toArray q B ∧
      Steps p.tables e below (T.setTop g) ((B.U.setTop { g with stack := rest }).pushFrame (.throwing q))) := by
  obtain ⟨mk, hnamed⟩ := Cond.code_named hcode
  obtain ⟨methM, cM, hmethM, -, -, -, -, -, -, hsigM⟩ := Cond.code_spec hnamed hcode
  have hstatic : methM.isStatic = true := Cond.static_spec hnamed hmethM hstat
  obtain ⟨kP, hkP, -⟩ := className_of_methodNamed hnamed
  have hinitP : kP.init = .initialized := Cond.initialized_spec (findClass_of_methodNamed hnamed) hkP hinit
  obtain ⟨vm₁, X₁, hstep₁⟩ := X.invokestatic hexec hown hlink hnamed hmethM hstatic hkP hinitP hy (g := g) hg (argsL := argsL) (rest := rest) (hlen _ hsigM) hstack hdg
  rcases hK m meth c ⟨T.setVm vm₁, locs, cells, slots⟩ { g with stack := rest } (.invokestatic index) mk argsL.toArray X₁ hg hsize hdg hW (X₁.named hnamed) (hpre vm₁ X₁.warmed) with ⟨v, B, X', hpost, hsteps⟩ | ⟨q, B, X', hpost, hsteps⟩
  · exact Or.inl ⟨v, vm₁, B, X₁.warmed, X', hpost, fun target h => hstep₁ _ fun acts => by rw [doInvoke_state]; exact hsteps.trans h⟩
  · exact Or.inr ⟨q, vm₁, B, X₁.warmed, X', hpost, hstep₁ _ fun acts => by rw [doInvoke_state]; exact hsteps⟩
end Calls
theorem vx_cls {s : State} {T : State} {vm₁ : Vm} {E : String} {k : ClassId} (hW : s.WarmedH vm₁) (h : (T.setVm vm₁).vm.findClass E = some k) : s.vm.findClass E = some k := by
  have h1 : vm₁.findClass E = some k := h
  rw [hW.alike.findClass] at h1
  exact h1
/-- the method's frame g, with q thrown over it -/
def vx_W (p : Program) (l : Launch) (e : Env) (R : Room) (s : State) (m : MethodId) (args : Array Value) (below : List Frame) (meth : Method) (c : Code) (H : Heap) (locs : List Loc) (cells slots : Nat) (Q : State → Prop) (g : JFrame) (q : Addr) : Prop :=
  ∀ T : State, T.heap = H → Stand p l e R s m args below meth c T locs cells slots → ∃ t, Steps p.tables e below ((T.setTop g).pushFrame (.throwing q)) t ∧ Q t
def vx_Run (p : Program) (l : Launch) (e : Env) (R : Room) (s : State) (m : MethodId) (args : Array Value) (below : List Frame) (meth : Method) (c : Code) (H : Heap) (locs : List Loc) (cells slots mc ms : Nat) (g : JFrame) (rest : List Value) (Qa : State → Outcome → State → Prop) (XC : String → State → State → Prop) (free : Addr → Prop) : Prop :=
  ∀ T : State, T.heap = H → Stand p l e R s m args below meth c T locs cells slots →
    (∃ (v : Option Value) (st₀ t T' : State) (L : List Loc), st₀.heap = H ∧ Stand p l e R s m args below meth c T' (locs ++ L) (cells + mc) (slots + ms) ∧ (∀ q ∈ L, free q.base) ∧ T'.heap = t.heap ∧ T'.vm = t.vm ∧ Qa st₀ (.returned v) t ∧
      Goes p e below T g T' { g with pc := g.pc + 3, stack := v.toList ++ rest }) ∨
    (∃ (q : Addr) (st₀ t T' : State) (L : List Loc) (E : String) (ce : Cell), st₀.heap = H ∧ Stand p l e R s m args below meth c T' (locs ++ L) (cells + mc) (slots + ms) ∧ (∀ z ∈ L, free z.base) ∧ T'.heap = t.heap ∧ T'.vm = t.vm ∧ XC E st₀ t ∧ t.heap[q]? = some ce ∧ ce.vm = .none ∧ s.vm.findClass E = some ce.cls ∧
      Steps p.tables e below (T.setTop g) ((T'.setTop { g with stack := rest }).pushFrame (.throwing q)))
def vx_X {S : Type} (px : S → Prop) (B : String → S → State → Prop) (A : Nat → Prop) : String → State → State → Prop := fun E st t => ∃ u : S, px u ∧ B E u t ∧ va_F A st t
section Runs
variable {p : Program} {l : Launch} {e : Env} {R : Room} {s : State} {m : MethodId} {args : Array Value} {below : List Frame} {meth : Method} {c : Code} {H : Heap} {locs : List Loc} {cells slots : Nat}
variable {y : MethodName} {bytes cc : ByteArray} {maxL nL mc ms n index : Nat} {ret : Option FieldType} {ws : List Cond} {rm : Room} {Pc : Array Value → State → Prop} {Qc : Array Value → State → Outcome → State → Prop} {XC : String → State → State → Prop} {free : Addr → Prop} {Ts : List Cond} {own C : String} {b : Addr} {As rest : List Value} {g : JFrame}
theorem vx_callBack (cb : CallB R s args own index y bytes maxL ret ws rm mc ms n) (hM : vx_Met l y ws rm Pc Qc XC mc ms free) (hbl : FrameBlind Pc) : vx_Back l R p e below s args y 3 8 (PreOf R mc ms Pc) (PostOf Qc mc ms free) (vx_Post XC mc ms free) := by
  obtain ⟨hrc, hrs, hfr, hlo, hws, hcw, -, hini, -⟩ := cb
  exact vx_back (bytes := bytes) (maxL := maxL) (ret := ret) hM hbl hrc hrs hfr hlo hws hcw (fun a' U hW => word_at hW (Or.inl (by first | rfl | simp [Cond.onTables, Cond.keeps, Cond.steady])) hini)
theorem vx_runV (S : CallFix p m c cc nL s args Ts own) (hM : vx_Met l y ws rm Pc Qc XC mc ms free) (cw : CallW R s args own C index y bytes maxL ret ws rm mc ms n) (hp : PreV s H C b Pc As)
    (hg : g.method = m) (hn : As.length = n) (hsize : g.locals.size = nL) (hstack : g.stack = As.reverse ++ .ref b :: rest) (hW : 2 * g.monitorRoom + (rest.map fun v => v.category).sum ≤ 8) (hdg : decode cc g.pc = .ok (.invokevirtual index, 3)) (hf : cells + mc ≤ R.cells ∧ slots + ms ≤ R.slots) :
    vx_Run p l e R s m args below meth c H locs cells slots mc ms g rest (Qc (Value.ref b :: As).toArray) XC free := by
  have hK : vx_Back l R p e below s args y 3 8 (PreOf R mc ms Pc) (PostOf Qc mc ms free) (vx_Post XC mc ms free) := vx_callBack cw.1 hM hp.1
  obtain ⟨⟨-, -, -, -, -, -, hcode, -, hy, hlen, hl⟩, hin, hse⟩ := cw
  obtain ⟨hx, hb, hml, ho, -⟩ := S
  obtain ⟨-, ⟨cellB, hcB, hoB, hclB⟩, hPc⟩ := hp
  intro T hT X
  rcases vx_callV X hx (C := C) (bytes := bytes) (maxL := maxL) (ret := ret) ho hl hin hse hcode hy hK (by rw [hT]; exact hcB) hoB hclB hg (hsize.trans hml.symm) (argsL := As) (rest := rest) (fun sig h => hn.trans (hlen sig h)) hstack hW (by rw [hb]; exact hdg)
    (fun vm₁ hW₁ => ⟨hf.1, hf.2, hPc (T.setVm vm₁) hT hW₁⟩) with ⟨v, vm₁, ⟨U', l2, c2, s2⟩, hW₁, X', ⟨g', mk, t, L, e1, e2, hq, h1, hL, h2, h3⟩, st⟩ | ⟨q, vm₁, ⟨U', l2, c2, s2⟩, hW₁, X', ⟨g', mk, t, L, E, ce, e1, e2, hq, hce, hcv, hcl, h1, hL, h2, h3⟩, st⟩
  · dsimp only [Pt.U, Pt.locs, Pt.cells, Pt.slots] at X' e1 e2 h1 h2 h3 st
    subst h1; subst h2; subst h3
    exact Or.inl ⟨v, (T.setVm vm₁).calling g' mk (Value.ref b :: As).toArray, t, U', L, hT, X', hL, e1, e2, hq, st⟩
  · dsimp only [Pt.U, Pt.locs, Pt.cells, Pt.slots] at X' e1 e2 h1 h2 h3 st hcl
    subst h1; subst h2; subst h3
    exact Or.inr ⟨q, (T.setVm vm₁).calling g' mk (Value.ref b :: As).toArray, t, U', L, E, ce, hT, X', hL, e1, e2, hq, hce, hcv, vx_cls hW₁ hcl, st⟩
theorem vx_runS (S : CallFix p m c cc nL s args Ts own) (hM : vx_Met l y ws rm Pc Qc XC mc ms free) (cw : CallB R s args own index y bytes maxL ret ws rm mc ms n ∧ (Cond.static y).before args s = true) (hp : PreS s H Pc As)
    (hg : g.method = m) (hn : As.length = n) (hsize : g.locals.size = nL) (hstack : g.stack = As.reverse ++ rest) (hW : 2 * g.monitorRoom + (rest.map fun v => v.category).sum ≤ 8) (hdg : decode cc g.pc = .ok (.invokestatic index, 3)) (hf : cells + mc ≤ R.cells ∧ slots + ms ≤ R.slots) :
    vx_Run p l e R s m args below meth c H locs cells slots mc ms g rest (Qc As.toArray) XC free := by
  have hK : vx_Back l R p e below s args y 3 8 (PreOf R mc ms Pc) (PostOf Qc mc ms free) (vx_Post XC mc ms free) := vx_callBack cw.1 hM hp.1
  obtain ⟨⟨-, -, -, -, -, -, hcode, hini, hy, hlen, hl⟩, hstt⟩ := cw
  obtain ⟨hx, hb, hml, ho, -⟩ := S
  intro T hT X
  rcases vx_callS X hx (bytes := bytes) (maxL := maxL) (ret := ret) ho hl hstt hini hcode hy hK hg (hsize.trans hml.symm) (argsL := As) (rest := rest) (fun sig h => hn.trans (hlen sig h)) hstack hW (by rw [hb]; exact hdg)
    (fun vm₁ hW₁ => ⟨hf.1, hf.2, hp.2 (T.setVm vm₁) hT hW₁⟩) with ⟨v, vm₁, ⟨U', l2, c2, s2⟩, hW₁, X', ⟨g', mk, t, L, e1, e2, hq, h1, hL, h2, h3⟩, st⟩ | ⟨q, vm₁, ⟨U', l2, c2, s2⟩, hW₁, X', ⟨g', mk, t, L, E, ce, e1, e2, hq, hce, hcv, hcl, h1, hL, h2, h3⟩, st⟩
  · dsimp only [Pt.U, Pt.locs, Pt.cells, Pt.slots] at X' e1 e2 h1 h2 h3 st
    subst h1; subst h2; subst h3
    exact Or.inl ⟨v, (T.setVm vm₁).calling g' mk As.toArray, t, U', L, hT, X', hL, e1, e2, hq, st⟩
  · dsimp only [Pt.U, Pt.locs, Pt.cells, Pt.slots] at X' e1 e2 h1 h2 h3 st hcl
    subst h1; subst h2; subst h3
    exact Or.inr ⟨q, (T.setVm vm₁).calling g' mk As.toArray, t, U', L, E, ce, hT, X', hL, e1, e2, hq, hce, hcv, vx_cls hW₁ hcl, st⟩
end Runs
section Rows
variable {p : Program} {l : Launch} {e : Env} {R : Room} {s : State} {m : MethodId} {args : Array Value} {below : List Frame} {meth : Method} {c : Code} {H : Heap} {locs : List Loc} {cells slots : Nat} {Q : State → Prop}
variable {mc ms : Nat} {free : Addr → Prop} {A0 A1 : Nat → Prop} {H0 : Heap} {a : Array Value} {pc : Nat} {ls : Array Slot} {st0 rest : List Value}
theorem vx_keep {st₀ t T' : State} {L : List Loc} (h0 : st₀.heap = H) (e1 : T'.heap = t.heap) (hS : va_S A0 H0 H locs) (hA : ∀ q, q < H.size → A1 q → A0 q) (hf : ∀ q, free q → A0 q) (hL : ∀ q ∈ L, free q.base) (hF : va_F A1 st₀ t) :
    H.size ≤ T'.heap.size ∧ (∀ q : Nat, q < H.size → ¬ A1 q → T'.heap[q]? = H[q]?) ∧ va_S A0 H0 T'.heap (locs ++ L) := by
  obtain ⟨hz, hk⟩ := hF
  rw [h0] at hz hk
  exact ⟨by rw [e1]; exact hz, fun q h1 h2 => by rw [e1]; exact hk q h1 h2,
    ⟨Nat.le_trans hS.1 (by rw [e1]; exact hz), fun q h1 h2 => by rw [e1, hk q (Nat.lt_of_lt_of_le h1 hS.1) (fun z => h2 (hA q (Nat.lt_of_lt_of_le h1 hS.1) z))]; exact hS.2.1 q h1 h2, fun q hq => by
      rcases List.mem_append.mp hq with h | h
      · exact hS.2.2 q h
      · exact hf _ (hL q h)⟩⟩
theorem vx_calli {S SX : Type} {post : Int32 → S → Prop} {px : SX → Prop} {B : S → State → Prop} {BX : String → SX → State → Prop} {AX : Nat → Prop} (hr : vx_Run p l e R s m args below meth c H locs cells slots mc ms (F0 m pc ls st0) rest (va_Qi post B A1 a) (vx_X px BX AX) free) (hS : va_S A0 H0 H locs) (hA : ∀ q, q < H.size → A1 q → A0 q) (hf : ∀ q, free q → A0 q) (hAX : ∀ q, q < H.size → AX q → A0 q)
    (kx : ∀ (E : String) (ce : Cell) (q9 : Addr) (u : SX) (t : State) (H1 : Heap) (locs1 : List Loc), t.heap = H1 → s.vm.Alike t.vm → px u → BX E u t → H.size ≤ H1.size → (∀ q : Nat, q < H.size → ¬ AX q → H1[q]? = H[q]?) → va_S A0 H0 H1 locs1 → H1[q9]? = some ce → ce.vm = .none → s.vm.findClass E = some ce.cls → vx_W p l e R s m args below meth c H1 locs1 (cells + mc) (slots + ms) Q (F0 m pc ls rest) q9)
    (kk : ∀ (r : Int32) (u : S) (t : State) (H1 : Heap) (locs1 : List Loc), t.heap = H1 → s.vm.Alike t.vm → post r u → B u t → H.size ≤ H1.size → (∀ q : Nat, q < H.size → ¬ A1 q → H1[q]? = H[q]?) → va_S A0 H0 H1 locs1 → W p l e R s m args below meth c H1 locs1 (cells + mc) (slots + ms) Q (F0 m (pc + 3) ls (.int r :: rest))) : W p l e R s m args below meth c H locs cells slots Q (F0 m pc ls st0) := by
  intro T hT X
  rcases hr T hT X with ⟨v, st₀, t, T', L, h0, X', hL, e1, e2, ⟨⟨r, u, hv, hp, hb⟩, hF⟩, st⟩ | ⟨q, st₀, t, T', L, E, ce, h0, X', hL, e1, e2, ⟨u, hp, hb, hF⟩, hce, hcv, hcl, st⟩
  · cases hv
    obtain ⟨k1, k2, k3⟩ := vx_keep h0 e1 hS hA hf hL hF
    obtain ⟨t2, a1, b1⟩ := kk r u t T'.heap (locs ++ L) e1.symm (by rw [← e2]; exact X'.warmed.alike) hp hb k1 k2 k3 T' rfl X'
    exact ⟨t2, st t2 a1, b1⟩
  · obtain ⟨k1, k2, k3⟩ := vx_keep h0 e1 hS hAX hf hL hF
    obtain ⟨t2, a1, b1⟩ := kx E ce q u t T'.heap (locs ++ L) e1.symm (by rw [← e2]; exact X'.warmed.alike) hp hb k1 k2 k3 (by rw [e1]; exact hce) hcv hcl T' rfl X'
    exact ⟨t2, st.trans a1, b1⟩
theorem vx_calll {S SX : Type} {post : Int64 → S → Prop} {px : SX → Prop} {B : S → State → Prop} {BX : String → SX → State → Prop} {AX : Nat → Prop} (hr : vx_Run p l e R s m args below meth c H locs cells slots mc ms (F0 m pc ls st0) rest (va_Ql post B A1 a) (vx_X px BX AX) free) (hS : va_S A0 H0 H locs) (hA : ∀ q, q < H.size → A1 q → A0 q) (hf : ∀ q, free q → A0 q) (hAX : ∀ q, q < H.size → AX q → A0 q)
    (kx : ∀ (E : String) (ce : Cell) (q9 : Addr) (u : SX) (t : State) (H1 : Heap) (locs1 : List Loc), t.heap = H1 → s.vm.Alike t.vm → px u → BX E u t → H.size ≤ H1.size → (∀ q : Nat, q < H.size → ¬ AX q → H1[q]? = H[q]?) → va_S A0 H0 H1 locs1 → H1[q9]? = some ce → ce.vm = .none → s.vm.findClass E = some ce.cls → vx_W p l e R s m args below meth c H1 locs1 (cells + mc) (slots + ms) Q (F0 m pc ls rest) q9)
    (kk : ∀ (r : Int64) (u : S) (t : State) (H1 : Heap) (locs1 : List Loc), t.heap = H1 → s.vm.Alike t.vm → post r u → B u t → H.size ≤ H1.size → (∀ q : Nat, q < H.size → ¬ A1 q → H1[q]? = H[q]?) → va_S A0 H0 H1 locs1 → W p l e R s m args below meth c H1 locs1 (cells + mc) (slots + ms) Q (F0 m (pc + 3) ls (.long r :: rest))) : W p l e R s m args below meth c H locs cells slots Q (F0 m pc ls st0) := by
  intro T hT X
  rcases hr T hT X with ⟨v, st₀, t, T', L, h0, X', hL, e1, e2, ⟨⟨r, u, hv, hp, hb⟩, hF⟩, st⟩ | ⟨q, st₀, t, T', L, E, ce, h0, X', hL, e1, e2, ⟨u, hp, hb, hF⟩, hce, hcv, hcl, st⟩
  · cases hv
    obtain ⟨k1, k2, k3⟩ := vx_keep h0 e1 hS hA hf hL hF
    obtain ⟨t2, a1, b1⟩ := kk r u t T'.heap (locs ++ L) e1.symm (by rw [← e2]; exact X'.warmed.alike) hp hb k1 k2 k3 T' rfl X'
    exact ⟨t2, st t2 a1, b1⟩
  · obtain ⟨k1, k2, k3⟩ := vx_keep h0 e1 hS hAX hf hL hF
    obtain ⟨t2, a1, b1⟩ := kx E ce q u t T'.heap (locs ++ L) e1.symm (by rw [← e2]; exact X'.warmed.alike) hp hb k1 k2 k3 (by rw [e1]; exact hce) hcv hcl T' rfl X'
    exact ⟨t2, st.trans a1, b1⟩
theorem vx_callf {S SX : Type} {post : UInt32 → S → Prop} {px : SX → Prop} {B : S → State → Prop} {BX : String → SX → State → Prop} {AX : Nat → Prop} (hr : vx_Run p l e R s m args below meth c H locs cells slots mc ms (F0 m pc ls st0) rest (va_Qf post B A1 a) (vx_X px BX AX) free) (hS : va_S A0 H0 H locs) (hA : ∀ q, q < H.size → A1 q → A0 q) (hf : ∀ q, free q → A0 q) (hAX : ∀ q, q < H.size → AX q → A0 q)
    (kx : ∀ (E : String) (ce : Cell) (q9 : Addr) (u : SX) (t : State) (H1 : Heap) (locs1 : List Loc), t.heap = H1 → s.vm.Alike t.vm → px u → BX E u t → H.size ≤ H1.size → (∀ q : Nat, q < H.size → ¬ AX q → H1[q]? = H[q]?) → va_S A0 H0 H1 locs1 → H1[q9]? = some ce → ce.vm = .none → s.vm.findClass E = some ce.cls → vx_W p l e R s m args below meth c H1 locs1 (cells + mc) (slots + ms) Q (F0 m pc ls rest) q9)
    (kk : ∀ (r : UInt32) (u : S) (t : State) (H1 : Heap) (locs1 : List Loc), t.heap = H1 → s.vm.Alike t.vm → post r u → B u t → H.size ≤ H1.size → (∀ q : Nat, q < H.size → ¬ A1 q → H1[q]? = H[q]?) → va_S A0 H0 H1 locs1 → W p l e R s m args below meth c H1 locs1 (cells + mc) (slots + ms) Q (F0 m (pc + 3) ls (.float r :: rest))) : W p l e R s m args below meth c H locs cells slots Q (F0 m pc ls st0) := by
  intro T hT X
  rcases hr T hT X with ⟨v, st₀, t, T', L, h0, X', hL, e1, e2, ⟨⟨r, u, hv, hp, hb⟩, hF⟩, st⟩ | ⟨q, st₀, t, T', L, E, ce, h0, X', hL, e1, e2, ⟨u, hp, hb, hF⟩, hce, hcv, hcl, st⟩
  · cases hv
    obtain ⟨k1, k2, k3⟩ := vx_keep h0 e1 hS hA hf hL hF
    obtain ⟨t2, a1, b1⟩ := kk r u t T'.heap (locs ++ L) e1.symm (by rw [← e2]; exact X'.warmed.alike) hp hb k1 k2 k3 T' rfl X'
    exact ⟨t2, st t2 a1, b1⟩
  · obtain ⟨k1, k2, k3⟩ := vx_keep h0 e1 hS hAX hf hL hF
    obtain ⟨t2, a1, b1⟩ := kx E ce q u t T'.heap (locs ++ L) e1.symm (by rw [← e2]; exact X'.warmed.alike) hp hb k1 k2 k3 (by rw [e1]; exact hce) hcv hcl T' rfl X'
    exact ⟨t2, st.trans a1, b1⟩
theorem vx_calld {S SX : Type} {post : UInt64 → S → Prop} {px : SX → Prop} {B : S → State → Prop} {BX : String → SX → State → Prop} {AX : Nat → Prop} (hr : vx_Run p l e R s m args below meth c H locs cells slots mc ms (F0 m pc ls st0) rest (va_Qd post B A1 a) (vx_X px BX AX) free) (hS : va_S A0 H0 H locs) (hA : ∀ q, q < H.size → A1 q → A0 q) (hf : ∀ q, free q → A0 q) (hAX : ∀ q, q < H.size → AX q → A0 q)
    (kx : ∀ (E : String) (ce : Cell) (q9 : Addr) (u : SX) (t : State) (H1 : Heap) (locs1 : List Loc), t.heap = H1 → s.vm.Alike t.vm → px u → BX E u t → H.size ≤ H1.size → (∀ q : Nat, q < H.size → ¬ AX q → H1[q]? = H[q]?) → va_S A0 H0 H1 locs1 → H1[q9]? = some ce → ce.vm = .none → s.vm.findClass E = some ce.cls → vx_W p l e R s m args below meth c H1 locs1 (cells + mc) (slots + ms) Q (F0 m pc ls rest) q9)
    (kk : ∀ (r : UInt64) (u : S) (t : State) (H1 : Heap) (locs1 : List Loc), t.heap = H1 → s.vm.Alike t.vm → post r u → B u t → H.size ≤ H1.size → (∀ q : Nat, q < H.size → ¬ A1 q → H1[q]? = H[q]?) → va_S A0 H0 H1 locs1 → W p l e R s m args below meth c H1 locs1 (cells + mc) (slots + ms) Q (F0 m (pc + 3) ls (.double r :: rest))) : W p l e R s m args below meth c H locs cells slots Q (F0 m pc ls st0) := by
  intro T hT X
  rcases hr T hT X with ⟨v, st₀, t, T', L, h0, X', hL, e1, e2, ⟨⟨r, u, hv, hp, hb⟩, hF⟩, st⟩ | ⟨q, st₀, t, T', L, E, ce, h0, X', hL, e1, e2, ⟨u, hp, hb, hF⟩, hce, hcv, hcl, st⟩
  · cases hv
    obtain ⟨k1, k2, k3⟩ := vx_keep h0 e1 hS hA hf hL hF
    obtain ⟨t2, a1, b1⟩ := kk r u t T'.heap (locs ++ L) e1.symm (by rw [← e2]; exact X'.warmed.alike) hp hb k1 k2 k3 T' rfl X'
    exact ⟨t2, st t2 a1, b1⟩
  · obtain ⟨k1, k2, k3⟩ := vx_keep h0 e1 hS hAX hf hL hF
    obtain ⟨t2, a1, b1⟩ := kx E ce q u t T'.heap (locs ++ L) e1.symm (by rw [← e2]; exact X'.warmed.alike) hp hb k1 k2 k3 (by rw [e1]; exact hce) hcv hcl T' rfl X'
    exact ⟨t2, st.trans a1, b1⟩
theorem vx_callv {S SX : Type} {post : S → Prop} {px : SX → Prop} {B : S → State → Prop} {BX : String → SX → State → Prop} {AX : Nat → Prop} (hr : vx_Run p l e R s m args below meth c H locs cells slots mc ms (F0 m pc ls st0) rest (va_Qv post B A1 a) (vx_X px BX AX) free) (hS : va_S A0 H0 H locs) (hA : ∀ q, q < H.size → A1 q → A0 q) (hf : ∀ q, free q → A0 q) (hAX : ∀ q, q < H.size → AX q → A0 q)
    (kx : ∀ (E : String) (ce : Cell) (q9 : Addr) (u : SX) (t : State) (H1 : Heap) (locs1 : List Loc), t.heap = H1 → s.vm.Alike t.vm → px u → BX E u t → H.size ≤ H1.size → (∀ q : Nat, q < H.size → ¬ AX q → H1[q]? = H[q]?) → va_S A0 H0 H1 locs1 → H1[q9]? = some ce → ce.vm = .none → s.vm.findClass E = some ce.cls → vx_W p l e R s m args below meth c H1 locs1 (cells + mc) (slots + ms) Q (F0 m pc ls rest) q9)
    (kk : ∀ (u : S) (t : State) (H1 : Heap) (locs1 : List Loc), t.heap = H1 → s.vm.Alike t.vm → post u → B u t → H.size ≤ H1.size → (∀ q : Nat, q < H.size → ¬ A1 q → H1[q]? = H[q]?) → va_S A0 H0 H1 locs1 → W p l e R s m args below meth c H1 locs1 (cells + mc) (slots + ms) Q (F0 m (pc + 3) ls (rest))) : W p l e R s m args below meth c H locs cells slots Q (F0 m pc ls st0) := by
  intro T hT X
  rcases hr T hT X with ⟨v, st₀, t, T', L, h0, X', hL, e1, e2, ⟨⟨u, hv, hp, hb⟩, hF⟩, st⟩ | ⟨q, st₀, t, T', L, E, ce, h0, X', hL, e1, e2, ⟨u, hp, hb, hF⟩, hce, hcv, hcl, st⟩
  · cases hv
    obtain ⟨k1, k2, k3⟩ := vx_keep h0 e1 hS hA hf hL hF
    obtain ⟨t2, a1, b1⟩ := kk u t T'.heap (locs ++ L) e1.symm (by rw [← e2]; exact X'.warmed.alike) hp hb k1 k2 k3 T' rfl X'
    exact ⟨t2, st t2 a1, b1⟩
  · obtain ⟨k1, k2, k3⟩ := vx_keep h0 e1 hS hAX hf hL hF
    obtain ⟨t2, a1, b1⟩ := kx E ce q u t T'.heap (locs ++ L) e1.symm (by rw [← e2]; exact X'.warmed.alike) hp hb k1 k2 k3 (by rw [e1]; exact hce) hcv hcl T' rfl X'
    exact ⟨t2, st.trans a1, b1⟩
/-- caught by the row x of this method's table; the rows ahead don't take it -/
theorem vx_catch {own name : String} {E : String} {ce : Cell} {q : Addr} (hown : s.vm.findClass own = some m.cls) (pre : List ExceptionTableEntry) (x : ExceptionTableEntry) (suf : List ExceptionTableEntry) (hsplit : c.exceptionTable.toList = pre ++ x :: suf)
    (hpass : ∀ z ∈ pre, covers z pc = false ∨ (z.catchType ≠ 0 ∧ ∃ nm : String, (Cond.classLink own z.catchType nm).before args s = true ∧ va_Nc E nm s)) (hx : covers x pc = true) (h0 : x.catchType ≠ 0)
    (hlink : (Cond.classLink own x.catchType name).before args s = true) (hcast : (Cond.castable E name).before args s = true) (hcell : H[q]? = some ce) (hv : ce.vm = .none) (hcl : s.vm.findClass E = some ce.cls)
    (kk : W p l e R s m args below meth c H locs cells slots Q (F0 m x.handlerPc ls [.ref q])) : vx_W p l e R s m args below meth c H locs cells slots Q (F0 m pc ls rest) q := by
  intro T hT X
  have hpl : e.platform.magicAccessors = ({} : Platform).magicAccessors := by rw [X.admits.platform]
  obtain ⟨c3, c4, hc3, hc4, hasg⟩ := Cond.castable_spec hcast
  cases Option.some.inj (hc3.symm.trans hcl)
  obtain ⟨c5, hc5, hcl5⟩ := Cond.classLink_spec hown hlink e.platform hpl
  cases Option.some.inj (hc4.symm.trans hc5)
  obtain ⟨vm', X', st⟩ := X.thenCaughtThrough q (g := F0 m pc ls rest) rfl (Steps.refl _) (by rw [hT]; exact hcell) (by rw [hv]; rfl) (by obtain ⟨k9, h9, -⟩ := Vm.findClass_spec hcl; exact ⟨k9, h9⟩) pre x suf hsplit
    (fun z hz => by
      rcases hpass z hz with h | ⟨hz0, nm, hl1, hn1⟩
      · exact Or.inl h
      · obtain ⟨c6, hc6, hcl6⟩ := Cond.classLink_spec hown hl1 e.platform hpl
        obtain ⟨a8, b8, h1, h2, h3⟩ := hn1
        cases Option.some.inj (h1.symm.trans hcl)
        cases Option.some.inj (h2.symm.trans hc6)
        exact Or.inr ⟨hz0, _, hcl6, h3⟩) hx (Or.inr ⟨h0, c4, hcl5, hasg⟩)
  obtain ⟨t, a1, b1⟩ := kk (T.setVm vm') hT X'
  exact ⟨t, st.trans a1, b1⟩
end Rows
section Ends
variable {p : Program} {l : Launch} {e : Env} {R : Room} {s : State} {m : MethodId} {args : Array Value} {below : List Frame} {meth : Method} {c : Code} {H : Heap} {locs : List Loc} {cells slots : Nat} {Q : State → Prop}
variable {mc ms : Nat} {free : Addr → Prop} {A0 A1 : Nat → Prop} {H0 : Heap} {a : Array Value} {ls : Array Slot} {st0 rest : List Value}
variable {Qc : Array Value → State → Outcome → State → Prop} {XC : String → State → State → Prop}
/-- what a body that may throw owes at its end -/
def vx_MQ (below : List Frame) (Qc : Array Value → State → Outcome → State → Prop) (XC : String → State → State → Prop) (a : Array Value) (s : State) (mc ms : Nat) (free : Addr → Prop) : State → Prop := fun t =>
  ∃ o, t.status = .running ∧ Ended t below o ∧ vx_Q Qc XC mc ms free a s o t
theorem vx_ret {g : JFrame} {mc ms : Nat} (k : W p l e R s m args below meth c H locs cells slots (MQ below Qc args s mc ms free) g) : W p l e R s m args below meth c H locs cells slots (vx_MQ below Qc XC args s mc ms free) g := by
  intro T hT X
  obtain ⟨t, a1, o, b1, b2, b3, b4⟩ := k T hT X
  exact ⟨t, a1, o, b1, b2, Or.inl ⟨b3, b4⟩⟩
/-- not caught here: it goes on to the caller -/
theorem vx_widen {g : JFrame} {q : Addr} {k n : Nat} (h1 : cells ≤ k) (h2 : slots ≤ n) (kk : vx_W p l e R s m args below meth c H locs k n Q g q) : vx_W p l e R s m args below meth c H locs cells slots Q g q := fun T hT X => kk T hT (stand_widen X h1 h2)
theorem vx_out {pc : Nat} {E : String} {ce : Cell} {q : Addr} {mc ms : Nat} (hout : ∀ x ∈ c.exceptionTable.toList, covers x pc = false) (hlocks : meth.locks = false) (hcell : H[q]? = some ce) (hv : ce.vm = .none) (hcl : s.vm.findClass E = some ce.cls)
    (hx : ∀ t : State, t.heap = H → s.vm.Alike t.vm → XC E s t) (hf : ∀ z ∈ locs, free z.base) (hc : cells ≤ mc) (hs : slots ≤ ms) :
    vx_W p l e R s m args below meth c H locs cells slots (vx_MQ below Qc XC args s mc ms free) (F0 m pc ls rest) q := by
  intro T hT X
  obtain ⟨st1, hrun, hend, hW, hsm⟩ := X.leaveThrown q (g := F0 m pc ls rest) rfl rfl rfl hout hlocks
  have hcell9 : (T.setFrames (.throwing q :: below)).heap[q]? = some ce := by
    show T.heap[q]? = some ce
    rw [hT]; exact hcell
  exact ⟨_, st1, .threw q, hrun, hend, Or.inr ⟨q, rfl, E, ce, locs, hx _ hT hW.alike, hcell9, hv, hcl, hW, hsm.mono hc hs, hf⟩⟩
theorem vx_frame {U : State} {k n : Nat} (h : s.sameButNew ({ U with vm := s.vm } : State) locs k n) : s.heap.size ≤ U.heap.size ∧ ∀ q : Nat, q < s.heap.size → (∀ z ∈ locs, z.base ≠ q) → U.heap[q]? = s.heap[q]? := by
  obtain ⟨-, h2, -, -, -, h6⟩ := h
  refine ⟨h2, fun q hq hz => ?_⟩
  obtain ⟨c9, e1, e2, e3, e4⟩ := h6 q _ (Array.getElem?_eq_getElem hq)
  have hs : c9.slots = (s.heap[q]).slots := Array.ext_getElem? fun i => e4 i fun hm => hz _ hm rfl
  have h9 : c9 = s.heap[q] := by
    rw [hs] at e2
    exact e2
  have e5 : U.heap[q]? = some c9 := e1
  rw [e5, h9, Array.getElem?_eq_getElem hq]
/-- the words of a throw but the four that speak of the heap -/
def vx_no (w : Cond) : Bool := decide (w ≠ .isRef (.static Bundle.tN "UNASSIGNED_STACK" Bundle.steD)) && decide (w ≠ .isRef (.static Bundle.tN "SUPPRESSED_SENTINEL" Bundle.listD)) && decide (w ≠ .laysStatic Bundle.tN "UNASSIGNED_STACK" Bundle.steD) && decide (w ≠ .laysStatic Bundle.tN "SUPPRESSED_SENTINEL" Bundle.listD)
def vx_at0 (own : String) (ic : Nat) (X : String) (names : List String) : List Cond := (Bundle.ownAtoms0 own ic X names).filter vx_no
def vx_atS (own : String) (ic : Nat) (X : String) (names : List String) : List Cond := (Bundle.ownAtoms own ic X names).filter vx_no
/-- a word that the tables alone decide, or a good one -/
def vx_ot (w : Cond) : Bool := w.onTables || goodWord w
theorem vx_ot_at {args a' : Array Value} {s U : State} {w : Cond} (hW : s.WarmedH U.vm) (hvm : s.vm = U.vm) (hg : vx_ot w = true) (h : w.before args s = true) : w.before a' U = true := by
  simp only [vx_ot, Bool.or_eq_true] at hg
  rcases hg with hg | hg
  · exact va_tabs hg hvm h
  · exact word_at hW (good_of_word hg) h
/-- a list's words: the good ones out of the method's own list, the others by premises of their own -/
theorem vx_hat {args : Array Value} {s : State} {L B : List Cond} (h1 : ∀ w ∈ L.filter goodWord, w.before args s = true) (h2 : ∀ w ∈ L.filter (fun w => !goodWord w), w ∈ B) (h3 : ∀ w ∈ B, w.before args s = true) : ∀ w ∈ L, w.before args s = true := by
  intro w hw
  by_cases g : goodWord w = true
  · exact h1 w (List.mem_filter.mpr ⟨hw, g⟩)
  · refine h3 w (h2 w (List.mem_filter.mpr ⟨hw, ?_⟩))
    show (!goodWord w) = true
    cases hgw : goodWord w
    · rfl
    · exact absurd hgw g
theorem vx_c {args : Array Value} {s : State} {w : Cond} {B : List Cond} (h : w.before args s = true) (t : ∀ w ∈ B, w.before args s = true) : ∀ w' ∈ w :: B, w'.before args s = true := fun w' h' => (List.mem_cons.mp h').elim (fun e => by rw [e]; exact h) (t w')
theorem vx_n {args : Array Value} {s : State} : ∀ w ∈ ([] : List Cond), w.before args s = true := fun _ h => nomatch h
theorem vx_own {args : Array Value} {s : State} {L : List Cond} (h1 : ∀ w ∈ L.filter vx_no, w.before args s = true)
    (hU : (Cond.isRef (.static Bundle.tN "UNASSIGNED_STACK" Bundle.steD)).before args s = true) (hN : (Cond.isRef (.static Bundle.tN "SUPPRESSED_SENTINEL" Bundle.listD)).before args s = true)
    (lU : (Cond.laysStatic Bundle.tN "UNASSIGNED_STACK" Bundle.steD).before args s = true) (lN : (Cond.laysStatic Bundle.tN "SUPPRESSED_SENTINEL" Bundle.listD).before args s = true) : ∀ w ∈ L, w.before args s = true := by
  intro w hw
  by_cases e1 : w = .isRef (.static Bundle.tN "UNASSIGNED_STACK" Bundle.steD)
  · rw [e1]; exact hU
  · by_cases e2 : w = .isRef (.static Bundle.tN "SUPPRESSED_SENTINEL" Bundle.listD)
    · rw [e2]; exact hN
    · by_cases e3 : w = .laysStatic Bundle.tN "UNASSIGNED_STACK" Bundle.steD
      · rw [e3]; exact lU
      · by_cases e4 : w = .laysStatic Bundle.tN "SUPPRESSED_SENTINEL" Bundle.listD
        · rw [e4]; exact lN
        · exact h1 w (List.mem_filter.mpr ⟨hw, by unfold vx_no; rw [decide_eq_true e1, decide_eq_true e2, decide_eq_true e3, decide_eq_true e4]; rfl⟩)
/-- where a static field lies, its class's statics cell in H -/
def vx_L (C n d : String) (A : Nat → Prop) (U : State) (H : Heap) : Prop := ∃ (c : ClassId) (k : Class) (i : Nat) (f : Field) (a : Nat) (cell : Cell), U.vm.findClass C = some c ∧ U.fieldFound? C n d = some (c, k, i, f) ∧ f.isStatic = true ∧ k.statics = some a ∧ H[a]? = some cell ∧ cell.vm.isStatics = true ∧ cell.cls = c ∧ f.slot < cell.slots.size ∧ k.staticTypes[f.slot]? = some f.type ∧ ¬ A a
theorem vx_L.moved {C n d : String} {A : Nat → Prop} {u U : State} {H : Heap} (hvm : u.vm.Alike U.vm) (h : vx_L C n d A u H) : vx_L C n d A U H := by
  obtain ⟨c, k, i, f, a, cell, h1, h2, h3, h4, h5, h6, h7, h8, h9, h10⟩ := h
  obtain ⟨k', hi', he⟩ := State.fieldFound?_setVm hvm h2
  exact ⟨c, k', i, f, a, cell, by rw [hvm.findClass]; exact h1, hi', h3, by rw [he]; exact h4, h5, h6, h7, h8, by rw [he]; exact h9, h10⟩
theorem vx_L.kept {C n d : String} {A : Nat → Prop} {U : State} {H H1 : Heap} (h : vx_L C n d A U H) (hq : ∀ a : Nat, a < H.size → ¬ A a → H1[a]? = H[a]?) : vx_L C n d A U H1 := by
  obtain ⟨c, k, i, f, a, cell, h1, h2, h3, h4, h5, h6, h7, h8, h9, h10⟩ := h
  exact ⟨c, k, i, f, a, cell, h1, h2, h3, h4, by rw [hq a (Array.getElem?_eq_some_iff.mp h5).1 h10]; exact h5, h6, h7, h8, h9, h10⟩
theorem vx_L.narrow {C n d : String} {A B : Nat → Prop} {U : State} {H : Heap} (h : vx_L C n d A U H) (hAB : ∀ q, B q → A q) : vx_L C n d B U H := by
  obtain ⟨c, k, i, f, a, cell, h1, h2, h3, h4, h5, h6, h7, h8, h9, h10⟩ := h
  exact ⟨c, k, i, f, a, cell, h1, h2, h3, h4, h5, h6, h7, h8, h9, fun z => h10 (hAB _ z)⟩
theorem vx_L.word {C n d : String} {A : Nat → Prop} {s : State} {args : Array Value} (h : vx_L C n d A s s.heap) : (Cond.laysStatic C n d).before args s = true := by
  obtain ⟨c, k, i, f, a, cell, h1, h2, h3, h4, h5, h6, h7, h8, h9, -⟩ := h
  show (Cond.laysStatic C n d).holds args s none s [] = true
  exact Cond.laysStatic_of h1 h2 h3 h4 h5 h6 h7 h8 h9
/-- .. and what it holds: null or some reference -/
def vx_Zq (C n d : String) (A : Nat → Prop) (U : State) (H : Heap) : Prop := va_Zq C n d A U H ∧ vx_L C n d A U H
theorem vx_Zq.moved {C n d : String} {A : Nat → Prop} {u U : State} {H : Heap} (hvm : u.vm.Alike U.vm) (h : vx_Zq C n d A u H) : vx_Zq C n d A U H := ⟨va_Zq.moved hvm h.1, vx_L.moved hvm h.2⟩
theorem vx_Zq.kept {C n d : String} {A : Nat → Prop} {U : State} {H H1 : Heap} (h : vx_Zq C n d A U H) (hq : ∀ a : Nat, a < H.size → ¬ A a → H1[a]? = H[a]?) : vx_Zq C n d A U H1 := ⟨va_Zq.kept h.1 hq, vx_L.kept h.2 hq⟩
theorem vx_Zq.narrow {C n d : String} {A B : Nat → Prop} {U : State} {H : Heap} (h : vx_Zq C n d A U H) (hAB : ∀ q, B q → A q) : vx_Zq C n d B U H := ⟨va_Zq.narrow h.1 hAB, vx_L.narrow h.2 hAB⟩
theorem vx_Zqof {args : Array Value} {s : State} {C n d : String} {A : Nat → Prop} (hl : (Cond.laysStatic C n d).before args s = true) (hini : (Cond.initialized C).before args s = true) (h : (Cond.isRef (.static C n d)).before args s = true) (hA : ∀ a : Nat, a < s.heap.size → ¬ A a) : vx_Zq C n d A s s.heap := by
  refine ⟨va_Zqof hl hini h hA, ?_⟩
  obtain ⟨c, k, i, f, a, cell, h1, h2, h3, h4, h5, h6, h7, h8, h9⟩ := Cond.laysStatic_spec hl
  exact ⟨c, k, i, f, a, cell, h1, h2, h3, h4, h5, h6, h7, h8, h9, hA a (Array.getElem?_eq_some_iff.mp h5).1⟩
theorem vx_isRef {C n d : String} {v : Value} {A : Nat → Prop} {s : State} {args : Array Value} (h : va_Z C n d v A s s.heap) (hv : v.isRef = true) : (Cond.isRef (.static C n d)).before args s = true := by
  obtain ⟨cf, kf, fi, f, a, cell, h1, h2, h3, h4, h5, h6, h7, -⟩ := h
  have he : (Term.static C n d).eval args s none [] s = some v := by
    simp [Term.eval, State.fieldNamed?, h1, h2, h4, h5, h6, h7]
  simp only [Cond.before, Cond.holds, Cond.value, he]
  cases v <;> simp_all [Value.isRef]
theorem vx_isRefq {C n d : String} {A : Nat → Prop} {s : State} {args : Array Value} (h : va_Zq C n d A s s.heap) : (Cond.isRef (.static C n d)).before args s = true := by
  rcases h with h | ⟨t, h⟩
  · exact vx_isRef h rfl
  · exact vx_isRef h rfl
/-- the same frame, seen from here: as if the method were called anew in this heap -/
theorem vx_rebase {T : State} (X : Stand p l e R s m args below meth c T locs cells slots) {R' : Room} (hf : R'.frames ≤ R.frames) (hl : R'.locals ≤ R.locals) (hc : cells + R'.cells ≤ R.cells) (hs : slots + R'.slots ≤ R.slots) :
    Stand p l e R' ((T.setVm s.vm).setFrames (.invoking m args :: below)) m args below meth c T [] 0 0 := by
  have htop : (T.setVm s.vm).topJava?.isSome := X.here.top
  have hF : ((T.setVm s.vm).setFrames (.invoking m args :: below)).frames = .invoking m args :: below := State.frames_setFrames _ (State.cur_lt_of_top htop)
  obtain ⟨g₀, hg0⟩ := Option.isSome_iff_exists.mp htop
  obtain ⟨r, hr⟩ := State.topJava?_eq_some.mp hg0
  have hl9 : e.platform.stackLimits (T.setVm s.vm).me = e.platform.stackLimits s.me := X.limits
  have hb9 : (T.setVm s.vm).me.stackBytes = s.me.stackBytes := X.bytes
  refine ⟨X.admits, X.cas, X.clock, hF, ?_, X.hears, X.method, X.code, X.here, X.tail, X.warmed, ?_, ?_, ?_⟩
  · have h := X.room
    have hU : ((T.setVm s.vm).setFrames (.invoking m args :: below)).localsInUse = s.localsInUse := by
      rw [State.localsInUse_invoking hF (meth := meth) (c := c) X.method X.code, State.localsInUse_invoking X.frames X.method X.code]
    simp only [State.hasRoom, Bool.and_eq_true, decide_eq_true_eq] at h ⊢
    obtain ⟨⟨⟨⟨h1, h2, h3, h4, h5, h6⟩, h7⟩, h8⟩, h9⟩ := h
    rw [X.frames, List.length_cons] at h2 h3
    have q1 := X.heapSize
    have q2 := X.used
    simp only [hF, hU, List.length_cons, State.stackLimits_setFrames, State.stackBytes_setFrames, hl9, hb9]
    refine ⟨⟨⟨⟨by omega, by omega, by omega, by omega, by omega, h6⟩, ?_⟩, ?_⟩, X.book⟩
    · show T.heap.size + R'.cells ≤ e.platform.maxCells
      omega
    · show T.slotsUsed + R'.slots ≤ e.platform.maxSlots
      omega
  · rw [State.stackLimits_setFrames]; rfl
  · rw [State.stackBytes_setFrames]; rfl
  · refine ⟨?_, Nat.le_refl _, Nat.le_refl _, ?_, ?_, fun a c9 h9 => ⟨c9, h9, rfl, rfl, fun _ _ => rfl⟩⟩
    · obtain ⟨t, ht, -⟩ := State.frames_cons hr
      show T.setVm s.vm = { ((T.setVm s.vm).setFrames (.invoking m args :: below)).setFrames (T.setVm s.vm).frames with heap := T.heap, slotsUsed := T.slotsUsed }
      rw [State.setFrames_setFrames, State.setFrames_self ht]
      rfl
    · show T.slotsUsed = T.slotsUsed + ((T.heap.toList.drop T.heap.size).map (·.slots.size)).sum
      rw [List.drop_eq_nil_of_le (Nat.le_of_eq Array.length_toList)]
      rfl
    · show ((T.heap.toList.drop T.heap.size).map (·.slots.size)).sum ≤ 0
      rw [List.drop_eq_nil_of_le (Nat.le_of_eq Array.length_toList)]
      exact Nat.le_refl _
/-- 'throw new E()': new; dup; invokespecial; athrow -/
theorem vx_throw0 {cc : ByteArray} {pc : Nat} (hexec : p.tables.exec = Jvm.exec) (hb : c.code = cc) (hl : l.stackTraces = false) {own cls : String} {names : List String} {ik ic mc ms : Nat} {A : Nat → Prop}
    (hown : s.vm.findClass own = some m.cls) (hcls : Bundle.fit cls = true) (hnames : ∀ n ∈ names, Bundle.fit n = true)
    (hk : (Cond.classLink own ik cls).before args s = true) (hini : (Cond.initialized cls).before args s = true) (hat : ∀ w ∈ vx_at0 own ic cls names, w.before args s = true)
    (hgood : ∀ w ∈ Cond.classLink own ik cls :: Cond.initialized cls :: vx_at0 own ic cls names, vx_ot w = true)
    (hU : vx_Zq Bundle.tN "UNASSIGNED_STACK" Bundle.steD A s s.heap) (hN : vx_Zq Bundle.tN "SUPPRESSED_SENTINEL" Bundle.listD A s s.heap) (hS : va_S A s.heap H locs) (hsize : ls.size = c.maxLocals)
    (d0 : decode cc pc = .ok (.new ik, 3)) (d3 : decode cc (pc + 3) = .ok (.dup, 1)) (d4 : decode cc (pc + 4) = .ok (.invokespecial ic, 3)) (d7 : decode cc (pc + 7) = .ok (.athrow, 1))
    (hout : ∀ x ∈ c.exceptionTable.toList, covers x (pc + 7) = false)
    (hRframes : names.length + 3 < R.frames) (hRlocals : (rest.map fun v => v.category).sum + (13 * (names.length + 1) + 42) ≤ R.locals) (hRcells : cells + 1 ≤ R.cells) (hRslots : slots + 6 ≤ R.slots) (hlocks : meth.locks = false)
    (hx : ∀ t : State, s.vm.Alike t.vm → H.size ≤ t.heap.size → (∀ q : Nat, q < H.size → t.heap[q]? = H[q]?) → XC cls s t)
    (hf : ∀ z ∈ locs, free z.base) (hc : cells + 1 ≤ mc) (hs : slots + 6 ≤ ms) :
    W p l e R s m args below meth c H locs cells slots (vx_MQ below Qc XC args s mc ms free) (F0 m pc ls rest) := by
  intro T hT X
  have htr : e.platform.stackTraces = false := (show e.platform.stackTraces = l.stackTraces by rw [X.admits.platform]).trans hl
  have Y := vx_rebase X (R' := { frames := R.frames, locals := R.locals, cells := 1, slots := 6 }) (Nat.le_refl _) (Nat.le_refl _) hRcells hRslots
  obtain ⟨s', hA⟩ : ∃ z, z = (T.setVm s.vm).setFrames (.invoking m args :: below) := ⟨_, rfl⟩
  rw [← hA] at Y
  have hvm : s'.vm = s.vm := by rw [hA]; rfl
  have hhp : s'.heap = H := by rw [hA]; exact hT
  have hW0 : s.WarmedH s'.vm := by rw [hvm]; exact State.WarmedH.refl s
  have hat' : ∀ w ∈ vx_at0 own ic cls names, w.before args s' = true := fun w hw => vx_ot_at hW0 hvm.symm (hgood w (List.mem_cons_of_mem _ (List.mem_cons_of_mem _ hw))) (hat w hw)
  have hk' : (Cond.classLink own ik cls).before args s' = true := vx_ot_at hW0 hvm.symm (hgood _ List.mem_cons_self) hk
  have hini' : (Cond.initialized cls).before args s' = true := vx_ot_at hW0 hvm.symm (hgood _ (List.mem_cons_of_mem _ List.mem_cons_self)) hini
  have hU' : vx_Zq Bundle.tN "UNASSIGNED_STACK" Bundle.steD A s' s'.heap := by rw [hhp]; exact vx_Zq.moved hW0.alike (hU.kept hS.2.1)
  have hN' : vx_Zq Bundle.tN "SUPPRESSED_SENTINEL" Bundle.listD A s' s'.heap := by rw [hhp]; exact vx_Zq.moved hW0.alike (hN.kept hS.2.1)
  have h : ∀ w ∈ Bundle.ownAtoms0 own ic cls names, w.before args s' = true := vx_own hat' (vx_isRefq hU'.1) (vx_isRefq hN'.1) hU'.2.word hN'.2.word
  have hown' : s'.vm.findClass own = some m.cls := by rw [hvm]; exact hown
  have hins : (Cond.instantiable cls 6).before args s' = true := h _ (by simp [Bundle.ownAtoms0])
  obtain ⟨vm₁, cX, kX, hfX, hkX, -, -, X₁, st1⟩ := Y.newCold hexec (own := own) (C := cls) (index := ik) (n := 6) hown' hk' hins hini'
    (g := F0 m pc ls rest) rfl (by rw [hb]; exact d0) (Nat.le_refl _) (Nat.le_refl _)
  generalize hT1 : (T.setVm vm₁).pushCell { cls := cX, slots := kX.instanceTypes.map defaultValue, vm := .none } = T1 at X₁ st1
  have hcat : (Value.ref T.heap.size).category = 1 := rfl
  have hcellA : T1.heap[T.heap.size]? = some (freshCell cX kX) := by rw [← hT1]; exact State.heap_pushCell_size _ _
  have d3' : decode c.code (pc + 3) = .ok (.dup, 1) := by rw [hb]; exact d3
  obtain ⟨U, hsteps, hrun, hend, hW, hsame, ce, hce, hO⟩ := X₁.ctorThrow0 hexec htr (own := own) (cls := cls) (names := names) (ic := ic) hown' hcls hnames h (fun x hx => nomatch hx) hfX hkX hcellA (by rw [hhp, hT]; exact Nat.le_refl _)
    (g := { method := m, pc := pc + 4, locals := ls, stack := .ref T.heap.size :: .ref T.heap.size :: rest, locked := none }) rfl hsize rfl rfl (rest := rest) rfl
    (by rw [hb]; exact d4) (by rw [hb]; exact d7) hout hRframes (by simp only [List.map_cons, List.sum_cons, hcat]; omega) hlocks
  obtain ⟨f1, f2⟩ := vx_frame hsame
  rw [hhp] at f1 f2
  have hWs : s.WarmedH U.vm := State.WarmedH.trans hW0 hW
  have hcl : s.vm.findClass cls = some ce.cls := by
    have h9 := hO.cls
    rw [hvm] at h9
    exact h9
  have hall : s.sameButNew ({ U with vm := s.vm } : State) locs mc ms := by
    subst hA
    obtain ⟨e1, e2⟩ := hsame
    rw [State.setFrames_setFrames] at e1
    have h2 : (T.setVm s.vm).sameButNew ({ U with vm := s.vm } : State) [] (0 + 1) (0 + 6) := ⟨e1, e2⟩
    have h3 := X.same.trans h2
    rw [List.append_nil] at h3
    exact h3.mono hc hs
  refine ⟨U, ?_, .threw T.heap.size, hrun, hend, Or.inr ⟨T.heap.size, rfl, cls, ce, locs, hx U hWs.alike f1 (fun q hq => f2 q hq (fun z hz => nomatch hz)), hce, hO.vm, hcl, hWs, hall, hf⟩⟩
  refine st1 _ ?_
  show Steps p.tables e below (T1.setTop { method := m, pc := pc + 3, locals := ls, stack := .ref T.heap.size :: rest, locked := none }) _
  jvm_step X₁.here [X₁.here.top, hexec, d3', Value.category]
  exact hsteps
/-- 'throw new E("text")': new; dup; ldc; invokespecial; athrow -/
theorem vx_throwS {cc : ByteArray} {pc : Nat} (hexec : p.tables.exec = Jvm.exec) (hb : c.code = cc) (hl : l.stackTraces = false) {own cls text : String} {names : List String} {ik is ic mc ms sa : Nat} {A : Nat → Prop}
    (hown : s.vm.findClass own = some m.cls) (hcls : Bundle.fit cls = true) (hnames : ∀ n ∈ names, Bundle.fit n = true)
    (hk : (Cond.classLink own ik cls).before args s = true) (hini : (Cond.initialized cls).before args s = true) (hstr : vk_R own is text sa s) (hat : ∀ w ∈ vx_atS own ic cls names, w.before args s = true)
    (hgood : ∀ w ∈ Cond.classLink own ik cls :: Cond.initialized cls :: vx_atS own ic cls names, vx_ot w = true)
    (hU : vx_Zq Bundle.tN "UNASSIGNED_STACK" Bundle.steD A s s.heap) (hN : vx_Zq Bundle.tN "SUPPRESSED_SENTINEL" Bundle.listD A s s.heap) (hS : va_S A s.heap H locs) (hsize : ls.size = c.maxLocals)
    (d0 : decode cc pc = .ok (.new ik, 3)) (d3 : decode cc (pc + 3) = .ok (.dup, 1)) (d4 : decode cc (pc + 4) = .ok (.ldc is, 2)) (d6 : decode cc (pc + 6) = .ok (.invokespecial ic, 3)) (d9 : decode cc (pc + 9) = .ok (.athrow, 1))
    (hout : ∀ x ∈ c.exceptionTable.toList, covers x (pc + 9) = false)
    (hRframes : names.length + 3 < R.frames) (hRlocals : (rest.map fun v => v.category).sum + (13 * (names.length + 1) + 43) ≤ R.locals) (hRcells : cells + 1 ≤ R.cells) (hRslots : slots + 6 ≤ R.slots) (hlocks : meth.locks = false)
    (hx : ∀ t : State, s.vm.Alike t.vm → H.size ≤ t.heap.size → (∀ q : Nat, q < H.size → t.heap[q]? = H[q]?) → XC cls s t)
    (hf : ∀ z ∈ locs, free z.base) (hc : cells + 1 ≤ mc) (hs : slots + 6 ≤ ms) :
    W p l e R s m args below meth c H locs cells slots (vx_MQ below Qc XC args s mc ms free) (F0 m pc ls rest) := by
  intro T hT X
  have htr : e.platform.stackTraces = false := (show e.platform.stackTraces = l.stackTraces by rw [X.admits.platform]).trans hl
  have Y := vx_rebase X (R' := { frames := R.frames, locals := R.locals, cells := 1, slots := 6 }) (Nat.le_refl _) (Nat.le_refl _) hRcells hRslots
  obtain ⟨s', hA⟩ : ∃ z, z = (T.setVm s.vm).setFrames (.invoking m args :: below) := ⟨_, rfl⟩
  rw [← hA] at Y
  have hvm : s'.vm = s.vm := by rw [hA]; rfl
  have hhp : s'.heap = H := by rw [hA]; exact hT
  have hW0 : s.WarmedH s'.vm := by rw [hvm]; exact State.WarmedH.refl s
  have hat' : ∀ w ∈ vx_atS own ic cls names, w.before args s' = true := fun w hw => vx_ot_at hW0 hvm.symm (hgood w (List.mem_cons_of_mem _ (List.mem_cons_of_mem _ hw))) (hat w hw)
  have hk' : (Cond.classLink own ik cls).before args s' = true := vx_ot_at hW0 hvm.symm (hgood _ List.mem_cons_self) hk
  have hini' : (Cond.initialized cls).before args s' = true := vx_ot_at hW0 hvm.symm (hgood _ (List.mem_cons_of_mem _ List.mem_cons_self)) hini
  have hU' : vx_Zq Bundle.tN "UNASSIGNED_STACK" Bundle.steD A s' s'.heap := by rw [hhp]; exact vx_Zq.moved hW0.alike (hU.kept hS.2.1)
  have hN' : vx_Zq Bundle.tN "SUPPRESSED_SENTINEL" Bundle.listD A s' s'.heap := by rw [hhp]; exact vx_Zq.moved hW0.alike (hN.kept hS.2.1)
  have h : ∀ w ∈ Bundle.ownAtoms own ic cls names, w.before args s' = true := vx_own hat' (vx_isRefq hU'.1) (vx_isRefq hN'.1) hU'.2.word hN'.2.word
  have hown' : s'.vm.findClass own = some m.cls := by rw [hvm]; exact hown
  have hins : (Cond.instantiable cls 6).before args s' = true := h _ (by simp [Bundle.ownAtoms])
  obtain ⟨vm₁, cX, kX, hfX, hkX, -, -, X₁, st1⟩ := Y.newCold hexec (own := own) (C := cls) (index := ik) (n := 6) hown' hk' hins hini'
    (g := F0 m pc ls rest) rfl (by rw [hb]; exact d0) (Nat.le_refl _) (Nat.le_refl _)
  generalize hT1 : (T.setVm vm₁).pushCell { cls := cX, slots := kX.instanceTypes.map defaultValue, vm := .none } = T1 at X₁ st1
  have hcat : (Value.ref T.heap.size).category = 1 := rfl
  have hcellA : T1.heap[T.heap.size]? = some (freshCell cX kX) := by rw [← hT1]; exact State.heap_pushCell_size _ _
  have d3' : decode c.code (pc + 3) = .ok (.dup, 1) := by rw [hb]; exact d3
  have d4' : decode c.code (pc + 4) = .ok (.ldc is, 2) := by rw [hb]; exact d4
  have hstr' : vk_R own is text sa s' := vk_R.warm hW0 hstr
  obtain ⟨U, hsteps, hrun, hend, hW, hsame, ce, hce, hO⟩ := X₁.ctorThrowS hexec htr (own := own) (cls := cls) (names := names) (ic := ic) hown' hcls hnames h (fun x hx => nomatch hx) hfX hkX hcellA (by rw [hhp, hT]; exact Nat.le_refl _) (msg := .ref sa) rfl
    (g := { method := m, pc := pc + 6, locals := ls, stack := .ref sa :: .ref T.heap.size :: .ref T.heap.size :: rest, locked := none }) rfl hsize rfl rfl (rest := rest) rfl
    (by rw [hb]; exact d6) (by rw [hb]; exact d9) hout hRframes (by simp only [List.map_cons, List.sum_cons, hcat]; omega) hlocks
  obtain ⟨f1, f2⟩ := vx_frame hsame
  rw [hhp] at f1 f2
  have hWs : s.WarmedH U.vm := State.WarmedH.trans hW0 hW
  have hcl : s.vm.findClass cls = some ce.cls := by
    have h9 := hO.cls
    rw [hvm] at h9
    exact h9
  have hall : s.sameButNew ({ U with vm := s.vm } : State) locs mc ms := by
    subst hA
    obtain ⟨e1, e2⟩ := hsame
    rw [State.setFrames_setFrames] at e1
    have h2 : (T.setVm s.vm).sameButNew ({ U with vm := s.vm } : State) [] (0 + 1) (0 + 6) := ⟨e1, e2⟩
    have h3 := X.same.trans h2
    rw [List.append_nil] at h3
    exact h3.mono hc hs
  refine ⟨U, ?_, .threw T.heap.size, hrun, hend, Or.inr ⟨T.heap.size, rfl, cls, ce, locs, hx U hWs.alike f1 (fun q hq => f2 q hq (fun z hz => nomatch hz)), hce, hO.vm, hcl, hWs, hall, hf⟩⟩
  refine st1 _ ?_
  show Steps p.tables e below (T1.setTop { method := m, pc := pc + 3, locals := ls, stack := .ref T.heap.size :: rest, locked := none }) _
  jvm_step X₁.here [X₁.here.top, hexec, d3', Value.category]
  exact X₁.ldcString hexec (own := own) (text := text) (index := is) (a := sa) hown' hstr'.1 hstr'.2
    (g := { method := m, pc := pc + 4, locals := ls, stack := .ref T.heap.size :: .ref T.heap.size :: rest, locked := none }) rfl d4' _ hsteps
/-- 'throw new E("text")', the text by a wide index -/
theorem vx_throwSW {cc : ByteArray} {pc : Nat} (hexec : p.tables.exec = Jvm.exec) (hb : c.code = cc) (hl : l.stackTraces = false) {own cls text : String} {names : List String} {ik is ic mc ms sa : Nat} {A : Nat → Prop}
    (hown : s.vm.findClass own = some m.cls) (hcls : Bundle.fit cls = true) (hnames : ∀ n ∈ names, Bundle.fit n = true)
    (hk : (Cond.classLink own ik cls).before args s = true) (hini : (Cond.initialized cls).before args s = true) (hstr : vk_R own is text sa s) (hat : ∀ w ∈ vx_atS own ic cls names, w.before args s = true)
    (hgood : ∀ w ∈ Cond.classLink own ik cls :: Cond.initialized cls :: vx_atS own ic cls names, vx_ot w = true)
    (hU : vx_Zq Bundle.tN "UNASSIGNED_STACK" Bundle.steD A s s.heap) (hN : vx_Zq Bundle.tN "SUPPRESSED_SENTINEL" Bundle.listD A s s.heap) (hS : va_S A s.heap H locs) (hsize : ls.size = c.maxLocals)
    (d0 : decode cc pc = .ok (.new ik, 3)) (d3 : decode cc (pc + 3) = .ok (.dup, 1)) (d4 : decode cc (pc + 4) = .ok (.ldc_w is, 3)) (d7 : decode cc (pc + 7) = .ok (.invokespecial ic, 3)) (d10 : decode cc (pc + 10) = .ok (.athrow, 1))
    (hout : ∀ x ∈ c.exceptionTable.toList, covers x (pc + 10) = false)
    (hRframes : names.length + 3 < R.frames) (hRlocals : (rest.map fun v => v.category).sum + (13 * (names.length + 1) + 43) ≤ R.locals) (hRcells : cells + 1 ≤ R.cells) (hRslots : slots + 6 ≤ R.slots) (hlocks : meth.locks = false)
    (hx : ∀ t : State, s.vm.Alike t.vm → H.size ≤ t.heap.size → (∀ q : Nat, q < H.size → t.heap[q]? = H[q]?) → XC cls s t)
    (hf : ∀ z ∈ locs, free z.base) (hc : cells + 1 ≤ mc) (hs : slots + 6 ≤ ms) :
    W p l e R s m args below meth c H locs cells slots (vx_MQ below Qc XC args s mc ms free) (F0 m pc ls rest) := by
  intro T hT X
  have htr : e.platform.stackTraces = false := (show e.platform.stackTraces = l.stackTraces by rw [X.admits.platform]).trans hl
  have Y := vx_rebase X (R' := { frames := R.frames, locals := R.locals, cells := 1, slots := 6 }) (Nat.le_refl _) (Nat.le_refl _) hRcells hRslots
  obtain ⟨s', hA⟩ : ∃ z, z = (T.setVm s.vm).setFrames (.invoking m args :: below) := ⟨_, rfl⟩
  rw [← hA] at Y
  have hvm : s'.vm = s.vm := by rw [hA]; rfl
  have hhp : s'.heap = H := by rw [hA]; exact hT
  have hW0 : s.WarmedH s'.vm := by rw [hvm]; exact State.WarmedH.refl s
  have hat' : ∀ w ∈ vx_atS own ic cls names, w.before args s' = true := fun w hw => vx_ot_at hW0 hvm.symm (hgood w (List.mem_cons_of_mem _ (List.mem_cons_of_mem _ hw))) (hat w hw)
  have hk' : (Cond.classLink own ik cls).before args s' = true := vx_ot_at hW0 hvm.symm (hgood _ List.mem_cons_self) hk
  have hini' : (Cond.initialized cls).before args s' = true := vx_ot_at hW0 hvm.symm (hgood _ (List.mem_cons_of_mem _ List.mem_cons_self)) hini
  have hU' : vx_Zq Bundle.tN "UNASSIGNED_STACK" Bundle.steD A s' s'.heap := by rw [hhp]; exact vx_Zq.moved hW0.alike (hU.kept hS.2.1)
  have hN' : vx_Zq Bundle.tN "SUPPRESSED_SENTINEL" Bundle.listD A s' s'.heap := by rw [hhp]; exact vx_Zq.moved hW0.alike (hN.kept hS.2.1)
  have h : ∀ w ∈ Bundle.ownAtoms own ic cls names, w.before args s' = true := vx_own hat' (vx_isRefq hU'.1) (vx_isRefq hN'.1) hU'.2.word hN'.2.word
  have hown' : s'.vm.findClass own = some m.cls := by rw [hvm]; exact hown
  have hins : (Cond.instantiable cls 6).before args s' = true := h _ (by simp [Bundle.ownAtoms])
  obtain ⟨vm₁, cX, kX, hfX, hkX, -, -, X₁, st1⟩ := Y.newCold hexec (own := own) (C := cls) (index := ik) (n := 6) hown' hk' hins hini'
    (g := F0 m pc ls rest) rfl (by rw [hb]; exact d0) (Nat.le_refl _) (Nat.le_refl _)
  generalize hT1 : (T.setVm vm₁).pushCell { cls := cX, slots := kX.instanceTypes.map defaultValue, vm := .none } = T1 at X₁ st1
  have hcat : (Value.ref T.heap.size).category = 1 := rfl
  have hcellA : T1.heap[T.heap.size]? = some (freshCell cX kX) := by rw [← hT1]; exact State.heap_pushCell_size _ _
  have d3' : decode c.code (pc + 3) = .ok (.dup, 1) := by rw [hb]; exact d3
  have d4' : decode c.code (pc + 4) = .ok (.ldc_w is, 3) := by rw [hb]; exact d4
  have hstr' : vk_R own is text sa s' := vk_R.warm hW0 hstr
  obtain ⟨U, hsteps, hrun, hend, hW, hsame, ce, hce, hO⟩ := X₁.ctorThrowS hexec htr (own := own) (cls := cls) (names := names) (ic := ic) hown' hcls hnames h (fun x hx => nomatch hx) hfX hkX hcellA (by rw [hhp, hT]; exact Nat.le_refl _) (msg := .ref sa) rfl
    (g := { method := m, pc := pc + 7, locals := ls, stack := .ref sa :: .ref T.heap.size :: .ref T.heap.size :: rest, locked := none }) rfl hsize rfl rfl (rest := rest) rfl
    (by rw [hb]; exact d7) (by rw [hb]; exact d10) hout hRframes (by simp only [List.map_cons, List.sum_cons, hcat]; omega) hlocks
  obtain ⟨f1, f2⟩ := vx_frame hsame
  rw [hhp] at f1 f2
  have hWs : s.WarmedH U.vm := State.WarmedH.trans hW0 hW
  have hcl : s.vm.findClass cls = some ce.cls := by
    have h9 := hO.cls
    rw [hvm] at h9
    exact h9
  have hall : s.sameButNew ({ U with vm := s.vm } : State) locs mc ms := by
    subst hA
    obtain ⟨e1, e2⟩ := hsame
    rw [State.setFrames_setFrames] at e1
    have h2 : (T.setVm s.vm).sameButNew ({ U with vm := s.vm } : State) [] (0 + 1) (0 + 6) := ⟨e1, e2⟩
    have h3 := X.same.trans h2
    rw [List.append_nil] at h3
    exact h3.mono hc hs
  refine ⟨U, ?_, .threw T.heap.size, hrun, hend, Or.inr ⟨T.heap.size, rfl, cls, ce, locs, hx U hWs.alike f1 (fun q hq => f2 q hq (fun z hz => nomatch hz)), hce, hO.vm, hcl, hWs, hall, hf⟩⟩
  refine st1 _ ?_
  show Steps p.tables e below (T1.setTop { method := m, pc := pc + 3, locals := ls, stack := .ref T.heap.size :: rest, locked := none }) _
  jvm_step X₁.here [X₁.here.top, hexec, d3', Value.category]
  exact X₁.ldcStringW hexec (own := own) (text := text) (index := is) (a := sa) hown' hstr'.1 hstr'.2
    (g := { method := m, pc := pc + 4, locals := ls, stack := .ref T.heap.size :: .ref T.heap.size :: rest, locked := none }) rfl d4' _ hsteps
end Ends
section Bodies
variable {l : Launch}
theorem vx_ofW {y : MethodName} {ws ws' : List Cond} {rm : Room} {Pc : Array Value → State → Prop} {Qc : Array Value → State → Outcome → State → Prop} {XC : String → State → State → Prop} {mc ms : Nat} {free : Addr → Prop} {cc : ByteArray} {maxL : Nat} {ret : Option FieldType}
    (hy : plainName y.cls = true) (hw : ws = Cond.code y cc maxL ret :: ws')
    (body : ∀ p e s m args below meth c s₁, BodyLoose p l y (headSpec ws rm) cc maxL ret e s m args below meth c s₁ → c.maxLocals = maxL → (∀ x ∈ c.exceptionTable.toList, False) → Pc args s →
      W p l e (headSpec ws rm).room s m args below meth c s.heap [] 0 0 (vx_MQ below Qc XC args s mc ms free) (entryFrame m args maxL)) : vx_Met l y ws rm Pc Qc XC mc ms free := by
  refine MetFree.of_bodyS (code := cc) (maxLocals := maxL) (ret := ret) hy ?_ ?_
  · intro args s m h hn
    obtain ⟨meth, c, h1, h2, h3, h4, h5, h6, -, -⟩ := Cond.code_spec hn (atoms_spec (ws := ws) h _ (by rw [hw]; exact List.mem_cons_self))
    exact ⟨meth, c, h1, h2, h3, h4, h5, h6⟩
  · intro p e s m args below meth c s₁ B hml hP _
    have hh0 : s₁.heap = s.heap := by rw [B.state]; rfl
    have ht : ∀ x ∈ c.exceptionTable.toList, False := by
      obtain ⟨meth9, c9, h1, h2, -, -, -, -, h7, -⟩ := Cond.code_spec B.named (atoms_spec (ws := ws) B.pre _ (by rw [hw]; exact List.mem_cons_self))
      cases Option.some.inj (h1.symm.trans B.method)
      cases Option.some.inj (h2.symm.trans (Stand.of_body B).code)
      intro x hx
      rw [Array.isEmpty_iff.mp h7] at hx
      cases hx
    obtain ⟨t, a1, o, b1, b2, b3⟩ := body p e s m args below meth c s₁ B hml ht hP s₁ hh0 (Stand.of_body B)
    exact ⟨t, o, a1, b1, b2, b3⟩
/-- the table of a body with handlers -/
theorem vx_table {p : Program} {x y : MethodName} {S : Spec} {cc bytes : ByteArray} {maxL maxL' : Nat} {ret ret' : Option FieldType} {e : Env} {s s₁ : State} {m : MethodId} {args : Array Value} {below : List Frame} {meth : Method} {c : Code} {hh : List (Nat × Nat × Nat × Nat)}
    (B : BodyLoose p l y S cc maxL ret e s m args below meth c s₁) (h : (Cond.codeWith y bytes maxL' ret' hh).before args s = true) : c.exceptionTable.toList = tableOf hh := by
  obtain ⟨m9, meth9, c9, hn9, h1, h2, -, -, h6, -⟩ := Cond.codeWith_spec h
  cases Option.some.inj (hn9.symm.trans B.named)
  cases Option.some.inj (h1.symm.trans B.method)
  cases Option.some.inj (h2.symm.trans (Stand.of_body B).code)
  rw [← h6, table_eq]
end Bodies
end VXA
/-! ===== END ===== -/
/-! ===== BEGIN a static call of a method with an exception table ===== -/
section VXS
variable {p : Program} {l : Launch} {e : Env} {R : Room} {s : State} {m : MethodId} {args : Array Value} {below : List Frame} {meth : Method} {c : Code} {T : State} {H : Heap} {locs : List Loc} {cells slots : Nat}
abbrev vx_CSW (R : Room) (s : State) (args : Array Value) (own : String) (index : Nat) (y : MethodName) (bytes : ByteArray) (maxL : Nat) (ret : Option FieldType) (hh : List (Nat × Nat × Nat × Nat)) (ws : List Cond) (rm : Room) (mc ms n : Nat) : Prop :=
  (rm.cells = mc ∧ rm.slots = ms ∧ rm.frames + 1 ≤ R.frames ∧ 8 + (maxL + 11) + rm.locals ≤ R.locals ∧ (∀ w ∈ ws, ∀ (a' : Array Value) (U : State), s.WarmedH U.vm → w.before a' U = true) ∧ Cond.codeWith y bytes maxL ret hh ∈ ws) ∧
  (Cond.codeWith y bytes maxL ret hh).before args s = true ∧ (Cond.initialized y.cls).before args s = true ∧ (y.cls ≠ "java/lang/invoke/MethodHandle" ∧ y.cls ≠ "java/lang/invoke/VarHandle") ∧
  (∀ sig, parseMethodDescriptor y.desc = some sig → n = sig.parameters.length) ∧ (Cond.methodLink own index y).before args s = true ∧ (Cond.static y).before args s = true
theorem vx_cwSW {own : String} {index maxL mc ms : Nat} {y : MethodName} {bytes : ByteArray} {ret : Option FieldType} {hh : List (Nat × Nat × Nat × Nat)} {Ts ws ws' : List Cond} {rm : Room} (n : Nat) (ht : ∀ w ∈ Ts, w.before args s = true) (hT : GoodIn Ts (va_wsS own index y ws)) (hw : ws = Cond.codeWith y bytes maxL ret hh :: ws') (hrc : rm.cells = mc) (hrs : rm.slots = ms)
    (hd : y.cls ≠ "java/lang/invoke/MethodHandle" ∧ y.cls ≠ "java/lang/invoke/VarHandle" ∧ (parseMethodDescriptor y.desc).map (fun d => d.parameters.length) = some n) (hR : rm.frames + 1 ≤ R.frames ∧ 8 + (maxL + 11) + rm.locals ≤ R.locals) :
    vx_CSW R s args own index y bytes maxL ret hh ws rm mc ms n := by
  have ok : ∀ w ∈ va_wsS own index y ws, w.before args s = true := fun w h => ht w (hT w h).1
  have hG : GoodIn Ts ws := fun w h => hT w (by unfold va_wsS; exact List.mem_append_right _ h)
  have hc : Cond.codeWith y bytes maxL ret hh ∈ ws := by rw [hw]; exact List.mem_cons_self
  refine ⟨⟨hrc, hrs, hR.1, hR.2, pay_in ht hG, hc⟩, ht _ (hG _ hc).1, ok _ (by simp [va_wsS]), ⟨hd.1, hd.2.1⟩, fun sig h => ?_, ok _ (by simp [va_wsS]), ok _ (by simp [va_wsS])⟩
  have h2 := hd.2.2
  rw [h] at h2
  exact (Option.some.inj h2).symm
theorem vx_callSW (X : Stand p l e R s m args below meth c T locs cells slots) (hexec : p.tables.exec = Jvm.exec) {own : String} {index : Nat} {y : MethodName} {bytes : ByteArray} {maxL : Nat} {ret : Option FieldType} {hh : List (Nat × Nat × Nat × Nat)}
    (hown : s.vm.findClass own = some m.cls) (hlink : (Cond.methodLink own index y).before args s = true) (hstat : (Cond.static y).before args s = true) (hinit : (Cond.initialized y.cls).before args s = true)
    (hcode : (Cond.codeWith y bytes maxL ret hh).before args s = true) (hy : y.cls ≠ "java/lang/invoke/MethodHandle" ∧ y.cls ≠ "java/lang/invoke/VarHandle")
    {W9 : Nat} {Pre : Pt → Array Value → Prop} {Post : Pt → Array Value → Option Value → Pt → Prop} (hK : Back l R p e below s args y 3 W9 Pre Post)
    {g : JFrame} (hg : g.method = m) (hsize : g.locals.size = c.maxLocals) {argsL rest : List Value} (hlen : ∀ sig, parseMethodDescriptor y.desc = some sig → argsL.length = sig.parameters.length)
    (hstack : g.stack = argsL.reverse ++ rest) (hW : 2 * g.monitorRoom + (rest.map fun v => v.category).sum ≤ W9) (hdg : decode c.code g.pc = .ok (.invokestatic index, 3))
    (hpre : ∀ vm₁, s.WarmedH vm₁ → Pre ⟨T.setVm vm₁, locs, cells, slots⟩ argsL.toArray) :
    ∃ (v : Option Value) (vm₁ : Vm) (B : Pt), s.WarmedH vm₁ ∧ Stand p l e R s m args below meth c B.U B.locs B.cells B.slots ∧ Post ⟨T.setVm vm₁, locs, cells, slots⟩ argsL.toArray v B ∧
      ∀ target, Steps p.tables e below (B.U.setTop { g with pc := g.pc + 3, stack := v.toList ++ rest }) target → Steps p.tables e below (T.setTop g) target := by
  obtain ⟨mk, methM, cM, hnamed, hmethM, -, -, -, -, -, -, hsigM⟩ := Cond.codeWith_spec hcode
  have hstatic : methM.isStatic = true := Cond.static_spec hnamed hmethM hstat
  obtain ⟨kP, hkP, -⟩ := className_of_methodNamed hnamed
  have hinitP : kP.init = .initialized := Cond.initialized_spec (findClass_of_methodNamed hnamed) hkP hinit
  obtain ⟨vm₁, X₁, hstep₁⟩ := X.invokestatic hexec hown hlink hnamed hmethM hstatic hkP hinitP hy (g := g) hg (argsL := argsL) (rest := rest) (hlen _ hsigM) hstack hdg
  obtain ⟨v, B, X', hpost, hsteps⟩ := hK m meth c ⟨T.setVm vm₁, locs, cells, slots⟩ { g with stack := rest } (.invokestatic index) mk argsL.toArray X₁ hg hsize hdg hW (X₁.named hnamed) (hpre vm₁ X₁.warmed)
  exact ⟨v, vm₁, B, X₁.warmed, X', hpost, fun target h => hstep₁ _ fun acts => by rw [doInvoke_state]; exact hsteps.trans h⟩
theorem vx_runSW {y : MethodName} {bytes cc : ByteArray} {maxL nL mc ms n index : Nat} {ret : Option FieldType} {hh : List (Nat × Nat × Nat × Nat)} {ws : List Cond} {rm : Room} {Pc : Array Value → State → Prop} {Qc : Array Value → State → Outcome → State → Prop} {free : Addr → Prop} {Ts : List Cond} {own : String} {As rest : List Value} {g : JFrame}
    (S : CallFix p m c cc nL s args Ts own) (hM : Met l y ws rm Pc Qc mc ms free) (cw : vx_CSW R s args own index y bytes maxL ret hh ws rm mc ms n) (hp : PreS s H Pc As)
    (hg : g.method = m) (hn : As.length = n) (hsize : g.locals.size = nL) (hstack : g.stack = As.reverse ++ rest) (hW : 2 * g.monitorRoom + (rest.map fun v => v.category).sum ≤ 8) (hdg : decode cc g.pc = .ok (.invokestatic index, 3)) (hf : cells + mc ≤ R.cells ∧ slots + ms ≤ R.slots) :
    va_Run p l e R s m args below meth c H locs cells slots mc ms g rest (Qc As.toArray) (free) := by
  obtain ⟨⟨hrc, hrs, hfr, hlo, hws, hcw⟩, hcode, hini, hy, hlen, hl, hstt⟩ := cw
  have hK : Back l R p e below s args y 3 8 (PreOf R mc ms Pc) (PostOf Qc mc ms free) := va_backW (hh := hh) (bytes := bytes) (maxL := maxL) (ret := ret) hM hp.1 hrc hrs hfr hlo hws hcw (fun a' U hW => word_at hW (Or.inl (by first | rfl | simp [Cond.onTables, Cond.keeps, Cond.steady])) hini)
  obtain ⟨hx, hb, hml, ho, -⟩ := S
  intro T hT X
  obtain ⟨v, vm₁, ⟨U', l2, c2, s2⟩, hW₁, X', ⟨g', mk, t, L, e1, e2, hq, h1, hL, h2, h3⟩, st⟩ := vx_callSW X hx (hh := hh) (bytes := bytes) (maxL := maxL) (ret := ret) ho hl hstt hini hcode hy hK hg (hsize.trans hml.symm) (argsL := As) (rest := rest) (fun sig h => hn.trans (hlen sig h)) hstack hW (by rw [hb]; exact hdg)
    (fun vm₁ hW₁ => ⟨hf.1, hf.2, hp.2 (T.setVm vm₁) hT hW₁⟩)
  dsimp only [Pt.U, Pt.locs, Pt.cells, Pt.slots] at X' e1 e2 h1 h2 h3 st
  subst h1; subst h2; subst h3
  exact ⟨v, (T.setVm vm₁).calling g' mk As.toArray, t, U', L, hT, X', hL, e1, e2, hq, st⟩
/-- not caught here, past rows that name other classes: it goes on to the caller -/
theorem vx_outP {p : Program} {l : Launch} {e : Env} {R : Room} {s : State} {m : MethodId} {args : Array Value} {below : List Frame} {meth : Method} {c : Code} {H : Heap} {locs : List Loc} {cells slots : Nat} {free : Addr → Prop} {ls : Array Slot} {rest : List Value} {Qc : Array Value → State → Outcome → State → Prop} {XC : String → State → State → Prop}
    {pc : Nat} {own E : String} {ce : Cell} {q : Addr} {mc ms : Nat} (hown : s.vm.findClass own = some m.cls) (hlocks : meth.locks = false)
    (hpass : ∀ z ∈ c.exceptionTable.toList, covers z pc = false ∨ (z.catchType ≠ 0 ∧ ∃ nm : String, (Cond.classLink own z.catchType nm).before args s = true ∧ va_Nc E nm s)) (hcell : H[q]? = some ce) (hv : ce.vm = .none) (hcl : s.vm.findClass E = some ce.cls)
    (hx : ∀ t : State, t.heap = H → s.vm.Alike t.vm → XC E s t) (hf : ∀ z ∈ locs, free z.base) (hc : cells ≤ mc) (hs : slots ≤ ms) :
    vx_W p l e R s m args below meth c H locs cells slots (vx_MQ below Qc XC args s mc ms free) (F0 m pc ls rest) q := by
  intro T hT X
  have hpl : e.platform.magicAccessors = ({} : Platform).magicAccessors := by rw [X.admits.platform]
  obtain ⟨vm', hW', X', st⟩ := X.outThrough hlocks q (g := F0 m pc ls rest) rfl rfl rfl (cell := ce) (by rw [hT]; exact hcell) (by rw [hv]; rfl)
    (by obtain ⟨k9, h9, -⟩ := Vm.findClass_spec hcl; exact ⟨k9, h9⟩) (fun z hz => by
      rcases hpass z hz with h | ⟨hz0, nm, hl1, hn1⟩
      · exact Or.inl h
      · obtain ⟨c6, hc6, hcl6⟩ := Cond.classLink_spec hown hl1 e.platform hpl
        obtain ⟨a8, b8, h1, h2, h3⟩ := hn1
        cases Option.some.inj (h1.symm.trans hcl)
        cases Option.some.inj (h2.symm.trans hc6)
        exact Or.inr ⟨hz0, _, hcl6, h3⟩)
  obtain ⟨g₀, hfr⟩ := X'.frames_eq
  have hcell9 : ((T.setVm vm').setFrames (.throwing q :: below)).heap[q]? = some ce := by
    show T.heap[q]? = some ce
    rw [hT]; exact hcell
  have hend : Ended ((T.setVm vm').setFrames (.throwing q :: below)) below (.threw q) := State.frames_setFrames _ (State.cur_lt_of_frames hfr)
  refine ⟨(T.setVm vm').setFrames (.throwing q :: below), ?_, .threw q, X'.here.running, hend, Or.inr ⟨q, rfl, E, ce, locs, hx _ hT (X'.ends _).1.alike, hcell9, hv, hcl, (X'.ends _).1, (X'.ends _).2.mono hc hs, hf⟩⟩
  rw [X.pushThrowing_eq]
  exact st
/-- a thing of a world lies in the heap -/
theorem vx_lt {D : va_G} {cl : List vw_C} {ws : va_W} {H1 : Heap} (h : va_P D cl ws H1) {k : Nat} {q : Nat × va_E} (hk : ws[k]? = some q) : q.1 < H1.size := (h k q hk).lt
end VXS
/-! ===== END ===== -/
/-! ===== BEGIN methods with a table of their own: called by a name, returning or throwing ===== -/
section VXH
/-! vx_backW, vx_callVX, vx_callSX, vx_callVW, vx_runVW, vx_runVX, vx_runSX, vx_ofWH follow the same proofs as their sisters above (Free/Laws.lean, Shelf42/LK1.lean); vx_outP calls Shelf42/NT130.lean (outThrough). -/
section
variable {l : Launch} {R : Room} {p : Program} {e : Env} {below : List Frame} {s : State} {sargs : Array Value} {y : MethodName} {len W9 : Nat}
theorem vx_backW {ws : List Cond} {rm : Room} {Pc : Array Value → State → Prop} {Qc : Array Value → State → Outcome → State → Prop} {XC : String → State → State → Prop} {mc ms : Nat} {free : Addr → Prop} {bytes : ByteArray} {maxL : Nat} {ret : Option FieldType} {hh : List (Nat × Nat × Nat × Nat)}
    (hM : vx_Met l y ws rm Pc Qc XC mc ms free) (hblind : FrameBlind Pc) (hrc : rm.cells = mc) (hrs : rm.slots = ms)
    (hframes : rm.frames + 1 ≤ R.frames) (hlocals : W9 + (maxL + 11) + rm.locals ≤ R.locals)
    (hws : ∀ w ∈ ws, ∀ a' U, s.WarmedH U.vm → w.before a' U = true) (hcode : Cond.codeWith y bytes maxL ret hh ∈ ws) (hinit : ∀ a' U, s.WarmedH U.vm → (Cond.initialized y.cls).before a' U = true) :
    vx_Back l R p e below s sargs y len W9 (PreOf R mc ms Pc) (PostOf Qc mc ms free) (vx_Post XC mc ms free) := by
  intro m meth c A g ig mk a X hg hsize hdg hW hn hp
  have h1 : (headSpec ws rm).pre.before a A.U = true := atoms_intro fun w hw => hws w hw _ _ X.warmed
  have h2 : (Cond.codeWith y bytes maxL ret hh).before a A.U = true := hws _ hcode _ _ X.warmed
  have h3 : (Cond.initialized y.cls).before a A.U = true := hinit _ _ X.warmed
  have h4 : A.cells + (headSpec ws rm).room.cells ≤ R.cells := by rw [show (headSpec ws rm).room.cells = mc from hrc]; exact hp.1
  have h5 : A.slots + (headSpec ws rm).room.slots ≤ R.slots := by rw [show (headSpec ws rm).room.slots = ms from hrs]; exact hp.2.1
  have hPc : Pc a (A.U.calling g mk a) := hblind _ _ _ _ hp.2.2
  obtain ⟨U, Ls, c0, s0⟩ := A
  dsimp only [Pt.U, Pt.locs, Pt.cells, Pt.slots] at h1 h2 h3 h4 h5 X hn hPc ⊢
  obtain ⟨m9, methY, cY, hn9, hmY, hcY, -, hlY, -⟩ := Cond.codeWith_spec h2
  cases Option.some.inj (hn9.symm.trans hn)
  obtain ⟨kY, hkY, -⟩ := className_of_methodNamed hn
  have hinitY : kY.init = .initialized := Cond.initialized_spec (findClass_of_methodNamed hn) hkY h3
  have h : At U g.method c below := by rw [hg]; exact X.here
  have hlocals9 : W9 + (maxL + 11) + (headSpec ws rm).room.locals ≤ R.locals := hlocals
  have happ : (headSpec ws rm).appliesLoose y e.platform (U.calling g mk a) = true :=
    Spec.appliesLoose_calling (g := g) h hdg hn hkY hinitY
      (X.room_calling (g := g) (R' := (headSpec ws rm).room) hsize hmY hcY hframes (by rw [hlY]; omega) h4 h5) h1
  obtain ⟨mid, hmid⟩ := h.above
  have hfr : (U.setTop g).frames = (.java g :: mid) ++ below := by rw [State.frames_setTop' g h.top, hmid]; rfl
  obtain ⟨o, s₂, hsteps, -, hend, hq⟩ := Steps.callFree hM p X.admits X.cas X.clock (acts := []) hfr happ hPc trivial
  have hq' : vx_Q Qc XC mc ms free a (U.calling g mk a) o s₂ := hq
  rw [State.frames_setTop' g h.top] at hend
  obtain ⟨g₀, hg0⟩ := Option.isSome_iff_exists.mp h.top
  obtain ⟨r, hr⟩ := State.topJava?_eq_some.mp hg0
  have hr' : (({ U with heap := s₂.heap, slotsUsed := s₂.slotsUsed } : State).setVm s₂.vm).frames = .java g₀ :: r := hr
  rcases hq' with ⟨hqc, L, hfe, hL⟩ | ⟨q, rfl, E, ce, L, hx, hce, hcv, hcl, hW₂, hsm, hL⟩
  · obtain ⟨⟨v, rfl⟩, hW₂, e2, q2, q3, q4, q5, q6⟩ := id hfe
    have e3 : s₂ = ({ (U.calling g mk a).setFrames s₂.frames with heap := s₂.heap, slotsUsed := s₂.slotsUsed } : State).setVm s₂.vm := by
      have : s₂ = ({ s₂ with vm := (U.calling g mk a).vm } : State).setVm s₂.vm := rfl
      rw [e2] at this
      exact this
    obtain ⟨c₂, i₂, len₂, hc₂, hd₂, hf₂⟩ := hend
    have hW' : U.WarmedH s₂.vm := hW₂
    have hcc : c₂ = c := by
      have h1 : s₂.code? g.method = U.code? g.method := by
        rw [State.code?_eq, State.code?_eq, hW'.alike.method?]
      exact Option.some.inj (hc₂.symm.trans (h1.trans h.code))
    subst hcc
    have hlen : len₂ = len := by rw [hdg] at hd₂; cases hd₂; rfl
    subst hlen
    have hs₂ : s₂ = (({ U with heap := s₂.heap, slotsUsed := s₂.slotsUsed } : State).setVm s₂.vm).setTop { g with pc := g.pc + len₂, stack := v.toList ++ g.stack } := by
      refine e3.trans ?_
      rw [hf₂, State.calling_eq h.top, State.setFrames_setFrames, State.setTop_of_frames _ hr', hr]
      rfl
    have hsame : U.sameButNew ({ U with heap := s₂.heap, slotsUsed := s₂.slotsUsed } : State) L mc ms := by
      refine ⟨?_, q2, q3, q4, q5, q6⟩
      obtain ⟨t, ht, -⟩ := State.frames_cons hr
      show ({ U with heap := s₂.heap, slotsUsed := s₂.slotsUsed } : State) = { U.setFrames U.frames with heap := s₂.heap, slotsUsed := s₂.slotsUsed }
      rw [State.setFrames_self ht]
    subst hg
    refine Or.inl ⟨v, ⟨(({ U with heap := s₂.heap, slotsUsed := s₂.slotsUsed } : State).setVm s₂.vm), Ls ++ L, c0 + mc, s0 + ms⟩,
      ⟨X.admits, X.cas, X.clock, X.frames, X.room, X.hears, X.method, X.code, (X.here.setHeapUsed s₂.heap s₂.slotsUsed).setVm hW'.alike, X.tail, State.WarmedH.trans X.warmed hW', X.limits, X.bytes, X.same.trans (hsame.setVm s.vm)⟩,
      ⟨g, mk, s₂, L, rfl, rfl, hqc, rfl, hL, rfl, rfl⟩, ?_⟩
    show Steps p.tables e below _ ((({ U with heap := s₂.heap, slotsUsed := s₂.slotsUsed } : State).setVm s₂.vm).setTop { g with pc := g.pc + len₂, stack := v.toList ++ g.stack })
    rw [← hs₂]
    exact hsteps
  · obtain ⟨e2, q2, q3, q4, q5, q6⟩ := id hsm
    have e3 : s₂ = ({ (U.calling g mk a).setFrames s₂.frames with heap := s₂.heap, slotsUsed := s₂.slotsUsed } : State).setVm s₂.vm := by
      have : s₂ = ({ s₂ with vm := (U.calling g mk a).vm } : State).setVm s₂.vm := rfl
      rw [e2] at this
      exact this
    have hf₂ : s₂.frames = .throwing q :: .java g :: U.frames.tail := hend
    have hW' : U.WarmedH s₂.vm := hW₂
    have hs₂ : s₂ = ((({ U with heap := s₂.heap, slotsUsed := s₂.slotsUsed } : State).setVm s₂.vm).setTop g).pushFrame (.throwing q) := by
      refine e3.trans ?_
      rw [hf₂, State.calling_eq h.top, State.setFrames_setFrames, State.pushFrame, State.frames_setTop _ hr', State.setTop_of_frames _ hr', State.setFrames_setFrames, hr]
      rfl
    have hsame : U.sameButNew ({ U with heap := s₂.heap, slotsUsed := s₂.slotsUsed } : State) L mc ms := by
      refine ⟨?_, q2, q3, q4, q5, q6⟩
      obtain ⟨t, ht, -⟩ := State.frames_cons hr
      show ({ U with heap := s₂.heap, slotsUsed := s₂.slotsUsed } : State) = { U.setFrames U.frames with heap := s₂.heap, slotsUsed := s₂.slotsUsed }
      rw [State.setFrames_self ht]
    subst hg
    refine Or.inr ⟨q, ⟨(({ U with heap := s₂.heap, slotsUsed := s₂.slotsUsed } : State).setVm s₂.vm), Ls ++ L, c0 + mc, s0 + ms⟩,
      ⟨X.admits, X.cas, X.clock, X.frames, X.room, X.hears, X.method, X.code, (X.here.setHeapUsed s₂.heap s₂.slotsUsed).setVm hW'.alike, X.tail, State.WarmedH.trans X.warmed hW', X.limits, X.bytes, X.same.trans (hsame.setVm s.vm)⟩,
      ⟨g, mk, s₂, L, E, ce, rfl, rfl, hx, hce, hcv, hcl, rfl, hL, rfl, rfl⟩, ?_⟩
    show Steps p.tables e below _ (((({ U with heap := s₂.heap, slotsUsed := s₂.slotsUsed } : State).setVm s₂.vm).setTop g).pushFrame (.throwing q))
    rw [← hs₂]
    exact hsteps
end
variable {p : Program} {l : Launch} {e : Env} {R : Room} {s : State} {m : MethodId} {args : Array Value} {below : List Frame} {meth : Method} {c : Code} {T : State} {H : Heap} {locs : List Loc} {cells slots : Nat}
theorem vx_callVX (X : Stand p l e R s m args below meth c T locs cells slots) (hexec : p.tables.exec = Jvm.exec) {own C : String} {index : Nat} {y : MethodName} {bytes : ByteArray} {maxL : Nat} {ret : Option FieldType} {hh : List (Nat × Nat × Nat × Nat)}
    (hown : s.vm.findClass own = some m.cls) (hlink : (Cond.methodLink own index y).before args s = true) (hinst : (Cond.instanceMethod y).before args s = true) (hsel : (Cond.selects C y y).before args s = true)
    (hcode : (Cond.codeWith y bytes maxL ret hh).before args s = true) (hy : y.cls ≠ "java/lang/invoke/MethodHandle" ∧ y.cls ≠ "java/lang/invoke/VarHandle")
    {W9 : Nat} {Pre : Pt → Array Value → Prop} {Post : Pt → Array Value → Option Value → Pt → Prop} {PostX : Pt → Array Value → Addr → Pt → Prop} (hK : vx_Back l R p e below s args y 3 W9 Pre Post PostX)
    {b : Addr} {cellB : Cell} (hcell : T.heap[b]? = some cellB) (hobj : cellB.vm.isStatics = false) (hcls : s.vm.findClass C = some cellB.cls)
    {g : JFrame} (hg : g.method = m) (hsize : g.locals.size = c.maxLocals) {argsL rest : List Value} (hlen : ∀ sig, parseMethodDescriptor y.desc = some sig → argsL.length = sig.parameters.length)
    (hstack : g.stack = argsL.reverse ++ .ref b :: rest) (hW : 2 * g.monitorRoom + (rest.map fun v => v.category).sum ≤ W9) (hdg : decode c.code g.pc = .ok (.invokevirtual index, 3))
    (hpre : ∀ vm₁, s.WarmedH vm₁ → Pre ⟨T.setVm vm₁, locs, cells, slots⟩ (Value.ref b :: argsL).toArray) :
    (∃ (v : Option Value) (vm₁ : Vm) (B : Pt), s.WarmedH vm₁ ∧ Stand p l e R s m args below meth c B.U B.locs B.cells B.slots ∧ Post ⟨T.setVm vm₁, locs, cells, slots⟩ (Value.ref b :: argsL).toArray v B ∧
      ∀ target, Steps p.tables e below (B.U.setTop { g with pc := g.pc + 3, stack := v.toList ++ rest }) target → Steps p.tables e below (T.setTop g) target) ∨
    (∃ (q : Addr) (vm₁ : Vm) (B : Pt), s.WarmedH vm₁ ∧ Stand p l e R s m args below meth c B.U B.locs B.cells B.slots ∧ PostX ⟨T.setVm vm₁, locs, cells, slots⟩ (Value.ref b :: argsL).toArray q B ∧
      Steps p.tables e below (T.setTop g) ((B.U.setTop { g with stack := rest }).pushFrame (.throwing q))) := by
  obtain ⟨mk, methM, hnamed, hmethM, hstM, habM⟩ := Cond.instanceMethod_spec hinst
  obtain ⟨m8, methM', cM, hn8, hmethM', -, -, -, -, -, -, hsigM⟩ := Cond.codeWith_spec hcode
  cases Option.some.inj (hn8.symm.trans hnamed)
  cases hmethM.symm.trans hmethM'
  obtain ⟨c2, r2, m2, q1, q2, q3, q4, kP, hkP, hkPi⟩ := Cond.selects_spec hsel
  cases hcls.symm.trans q1
  cases (State.methodFound?_of_named hnamed hy).symm.trans q2
  cases hnamed.symm.trans q3
  have hselP : selectMethod e.platform s.vm cellB.cls mk = .method mk := by rw [Launch.admits_selectMethod X.admits]; exact q4
  obtain ⟨vm₁, X₁, hstep₁⟩ := X.invokevirtual hexec hown hlink hnamed hmethM hstM hkP hkPi hy (a := b) (cell := cellB) hcell
    (fun z h => by rw [h] at hobj; cases hobj) hselP hmethM habM hkP hkPi (g := g) hg (argsL := argsL) (rest := rest) (hlen _ hsigM) hstack hdg
  rcases hK m meth c ⟨T.setVm vm₁, locs, cells, slots⟩ { g with stack := rest } (.invokevirtual index) mk (Value.ref b :: argsL).toArray X₁ hg hsize hdg hW (X₁.named hnamed) (hpre vm₁ X₁.warmed) with ⟨v, B, X', hpost, hsteps⟩ | ⟨q, B, X', hpost, hsteps⟩
  · exact Or.inl ⟨v, vm₁, B, X₁.warmed, X', hpost, fun target h => hstep₁ _ fun acts => by rw [doInvoke_state]; exact hsteps.trans h⟩
  · exact Or.inr ⟨q, vm₁, B, X₁.warmed, X', hpost, hstep₁ _ fun acts => by rw [doInvoke_state]; exact hsteps⟩
theorem vx_callSX (X : Stand p l e R s m args below meth c T locs cells slots) (hexec : p.tables.exec = Jvm.exec) {own : String} {index : Nat} {y : MethodName} {bytes : ByteArray} {maxL : Nat} {ret : Option FieldType} {hh : List (Nat × Nat × Nat × Nat)}
    (hown : s.vm.findClass own = some m.cls) (hlink : (Cond.methodLink own index y).before args s = true) (hstat : (Cond.static y).before args s = true) (hinit : (Cond.initialized y.cls).before args s = true)
    (hcode : (Cond.codeWith y bytes maxL ret hh).before args s = true) (hy : y.cls ≠ "java/lang/invoke/MethodHandle" ∧ y.cls ≠ "java/lang/invoke/VarHandle")
    {W9 : Nat} {Pre : Pt → Array Value → Prop} {Post : Pt → Array Value → Option Value → Pt → Prop} {PostX : Pt → Array Value → Addr → Pt → Prop} (hK : vx_Back l R p e below s args y 3 W9 Pre Post PostX)
    {g : JFrame} (hg : g.method = m) (hsize : g.locals.size = c.maxLocals) {argsL rest : List Value} (hlen : ∀ sig, parseMethodDescriptor y.desc = some sig → argsL.length = sig.parameters.length)
    (hstack : g.stack = argsL.reverse ++ rest) (hW : 2 * g.monitorRoom + (rest.map fun v => v.category).sum ≤ W9) (hdg : decode c.code g.pc = .ok (.invokestatic index, 3))
    (hpre : ∀ vm₁, s.WarmedH vm₁ → Pre ⟨T.setVm vm₁, locs, cells, slots⟩ argsL.toArray) :
    (∃ (v : Option Value) (vm₁ : Vm) (B : Pt), s.WarmedH vm₁ ∧ Stand p l e R s m args below meth c B.U B.locs B.cells B.slots ∧ Post ⟨T.setVm vm₁, locs, cells, slots⟩ argsL.toArray v B ∧
      ∀ target, Steps p.tables e below (B.U.setTop { g with pc := g.pc + 3, stack := v.toList ++ rest }) target → Steps p.tables e below (T.setTop g) target) ∨
    (∃ (q : Addr) (vm₁ : Vm) (B : Pt), s.WarmedH vm₁ ∧ Stand p l e R s m args below meth c B.U B.locs B.cells B.slots ∧ PostX ⟨T.setVm vm₁, locs, cells, slots⟩ argsL.toArray q B ∧
      Steps p.tables e below (T.setTop g) ((B.U.setTop { g with stack := rest }).pushFrame (.throwing q))) := by
  obtain ⟨mk, methM, cM, hnamed, hmethM, -, -, -, -, -, -, hsigM⟩ := Cond.codeWith_spec hcode
  have hstatic : methM.isStatic = true := Cond.static_spec hnamed hmethM hstat
  obtain ⟨kP, hkP, -⟩ := className_of_methodNamed hnamed
  have hinitP : kP.init = .initialized := Cond.initialized_spec (findClass_of_methodNamed hnamed) hkP hinit
  obtain ⟨vm₁, X₁, hstep₁⟩ := X.invokestatic hexec hown hlink hnamed hmethM hstatic hkP hinitP hy (g := g) hg (argsL := argsL) (rest := rest) (hlen _ hsigM) hstack hdg
  rcases hK m meth c ⟨T.setVm vm₁, locs, cells, slots⟩ { g with stack := rest } (.invokestatic index) mk argsL.toArray X₁ hg hsize hdg hW (X₁.named hnamed) (hpre vm₁ X₁.warmed) with ⟨v, B, X', hpost, hsteps⟩ | ⟨q, B, X', hpost, hsteps⟩
  · exact Or.inl ⟨v, vm₁, B, X₁.warmed, X', hpost, fun target h => hstep₁ _ fun acts => by rw [doInvoke_state]; exact hsteps.trans h⟩
  · exact Or.inr ⟨q, vm₁, B, X₁.warmed, X', hpost, hstep₁ _ fun acts => by rw [doInvoke_state]; exact hsteps⟩
theorem vx_callVW (X : Stand p l e R s m args below meth c T locs cells slots) (hexec : p.tables.exec = Jvm.exec) {own C : String} {index : Nat} {y : MethodName} {bytes : ByteArray} {maxL : Nat} {ret : Option FieldType} {hh : List (Nat × Nat × Nat × Nat)}
    (hown : s.vm.findClass own = some m.cls) (hlink : (Cond.methodLink own index y).before args s = true) (hinst : (Cond.instanceMethod y).before args s = true) (hsel : (Cond.selects C y y).before args s = true)
    (hcode : (Cond.codeWith y bytes maxL ret hh).before args s = true) (hy : y.cls ≠ "java/lang/invoke/MethodHandle" ∧ y.cls ≠ "java/lang/invoke/VarHandle")
    {W9 : Nat} {Pre : Pt → Array Value → Prop} {Post : Pt → Array Value → Option Value → Pt → Prop} (hK : Back l R p e below s args y 3 W9 Pre Post)
    {b : Addr} {cellB : Cell} (hcell : T.heap[b]? = some cellB) (hobj : cellB.vm.isStatics = false) (hcls : s.vm.findClass C = some cellB.cls)
    {g : JFrame} (hg : g.method = m) (hsize : g.locals.size = c.maxLocals) {argsL rest : List Value} (hlen : ∀ sig, parseMethodDescriptor y.desc = some sig → argsL.length = sig.parameters.length)
    (hstack : g.stack = argsL.reverse ++ .ref b :: rest) (hW : 2 * g.monitorRoom + (rest.map fun v => v.category).sum ≤ W9) (hdg : decode c.code g.pc = .ok (.invokevirtual index, 3))
    (hpre : ∀ vm₁, s.WarmedH vm₁ → Pre ⟨T.setVm vm₁, locs, cells, slots⟩ (Value.ref b :: argsL).toArray) :
    ∃ (v : Option Value) (vm₁ : Vm) (B : Pt), s.WarmedH vm₁ ∧ Stand p l e R s m args below meth c B.U B.locs B.cells B.slots ∧ Post ⟨T.setVm vm₁, locs, cells, slots⟩ (Value.ref b :: argsL).toArray v B ∧
      ∀ target, Steps p.tables e below (B.U.setTop { g with pc := g.pc + 3, stack := v.toList ++ rest }) target → Steps p.tables e below (T.setTop g) target := by
  obtain ⟨mk, methM, hnamed, hmethM, hstM, habM⟩ := Cond.instanceMethod_spec hinst
  obtain ⟨m8, methM', cM, hn8, hmethM', -, -, -, -, -, -, hsigM⟩ := Cond.codeWith_spec hcode
  cases Option.some.inj (hn8.symm.trans hnamed)
  cases hmethM.symm.trans hmethM'
  obtain ⟨c2, r2, m2, q1, q2, q3, q4, kP, hkP, hkPi⟩ := Cond.selects_spec hsel
  cases hcls.symm.trans q1
  cases (State.methodFound?_of_named hnamed hy).symm.trans q2
  cases hnamed.symm.trans q3
  have hselP : selectMethod e.platform s.vm cellB.cls mk = .method mk := by rw [Launch.admits_selectMethod X.admits]; exact q4
  obtain ⟨vm₁, X₁, hstep₁⟩ := X.invokevirtual hexec hown hlink hnamed hmethM hstM hkP hkPi hy (a := b) (cell := cellB) hcell
    (fun z h => by rw [h] at hobj; cases hobj) hselP hmethM habM hkP hkPi (g := g) hg (argsL := argsL) (rest := rest) (hlen _ hsigM) hstack hdg
  obtain ⟨v, B, X', hpost, hsteps⟩ := hK m meth c ⟨T.setVm vm₁, locs, cells, slots⟩ { g with stack := rest } (.invokevirtual index) mk (Value.ref b :: argsL).toArray X₁ hg hsize hdg hW (X₁.named hnamed) (hpre vm₁ X₁.warmed)
  exact ⟨v, vm₁, B, X₁.warmed, X', hpost, fun target h => hstep₁ _ fun acts => by rw [doInvoke_state]; exact hsteps.trans h⟩
abbrev vx_CVW (R : Room) (s : State) (args : Array Value) (own C : String) (index : Nat) (y : MethodName) (bytes : ByteArray) (maxL : Nat) (ret : Option FieldType) (hh : List (Nat × Nat × Nat × Nat)) (ws : List Cond) (rm : Room) (mc ms n : Nat) : Prop :=
  (rm.cells = mc ∧ rm.slots = ms ∧ rm.frames + 1 ≤ R.frames ∧ 8 + (maxL + 11) + rm.locals ≤ R.locals ∧ (∀ w ∈ ws, ∀ (a' : Array Value) (U : State), s.WarmedH U.vm → w.before a' U = true) ∧ Cond.codeWith y bytes maxL ret hh ∈ ws) ∧
  (Cond.codeWith y bytes maxL ret hh).before args s = true ∧ (Cond.initialized y.cls).before args s = true ∧ (y.cls ≠ "java/lang/invoke/MethodHandle" ∧ y.cls ≠ "java/lang/invoke/VarHandle") ∧
  (∀ sig, parseMethodDescriptor y.desc = some sig → n = sig.parameters.length) ∧ (Cond.methodLink own index y).before args s = true ∧ (Cond.instanceMethod y).before args s = true ∧ (Cond.selects C y y).before args s = true
theorem vx_cwVW {own C : String} {index maxL mc ms : Nat} {y : MethodName} {bytes : ByteArray} {ret : Option FieldType} {hh : List (Nat × Nat × Nat × Nat)} {Ts ws ws' : List Cond} {rm : Room} (n : Nat) (ht : ∀ w ∈ Ts, w.before args s = true) (hT : GoodIn Ts (wsV own index C y ws)) (hw : ws = Cond.codeWith y bytes maxL ret hh :: ws') (hrc : rm.cells = mc) (hrs : rm.slots = ms)
    (hd : y.cls = C ∧ y.cls ≠ "java/lang/invoke/MethodHandle" ∧ y.cls ≠ "java/lang/invoke/VarHandle" ∧ (parseMethodDescriptor y.desc).map (fun d => d.parameters.length) = some n) (hR : rm.frames + 1 ≤ R.frames ∧ 8 + (maxL + 11) + rm.locals ≤ R.locals) :
    vx_CVW R s args own C index y bytes maxL ret hh ws rm mc ms n := by
  obtain ⟨hC, hd⟩ := hd
  subst hC
  have ok : ∀ w ∈ wsV own index y.cls y ws, w.before args s = true := fun w h => ht w (hT w h).1
  have hG : GoodIn Ts ws := fun w h => hT w (by unfold wsV; exact List.mem_append_right _ h)
  have hc : Cond.codeWith y bytes maxL ret hh ∈ ws := by rw [hw]; exact List.mem_cons_self
  refine ⟨⟨hrc, hrs, hR.1, hR.2, pay_in ht hG, hc⟩, ht _ (hG _ hc).1, ok _ (by simp [wsV]), ⟨hd.1, hd.2.1⟩, fun sig h => ?_, ok _ (by simp [wsV]), ok _ (by simp [wsV]), ok _ (by simp [wsV])⟩
  have h2 := hd.2.2
  rw [h] at h2
  exact (Option.some.inj h2).symm
theorem vx_runVW {y : MethodName} {bytes cc : ByteArray} {maxL nL mc ms n index : Nat} {ret : Option FieldType} {hh : List (Nat × Nat × Nat × Nat)} {ws : List Cond} {rm : Room} {Pc : Array Value → State → Prop} {Qc : Array Value → State → Outcome → State → Prop} {free : Addr → Prop} {Ts : List Cond} {own C : String} {b : Addr} {As rest : List Value} {g : JFrame}
    (S : CallFix p m c cc nL s args Ts own) (hM : Met l y ws rm Pc Qc mc ms free) (cw : vx_CVW R s args own C index y bytes maxL ret hh ws rm mc ms n) (hp : PreV s H C b Pc As)
    (hg : g.method = m) (hn : As.length = n) (hsize : g.locals.size = nL) (hstack : g.stack = As.reverse ++ .ref b :: rest) (hW : 2 * g.monitorRoom + (rest.map fun v => v.category).sum ≤ 8) (hdg : decode cc g.pc = .ok (.invokevirtual index, 3)) (hf : cells + mc ≤ R.cells ∧ slots + ms ≤ R.slots) :
    va_Run p l e R s m args below meth c H locs cells slots mc ms g rest (Qc (Value.ref b :: As).toArray) free := by
  obtain ⟨⟨hrc, hrs, hfr, hlo, hws, hcw⟩, hcode, hini, hy, hlen, hl, hin, hse⟩ := cw
  have hK : Back l R p e below s args y 3 8 (PreOf R mc ms Pc) (PostOf Qc mc ms free) := va_backW (hh := hh) (bytes := bytes) (maxL := maxL) (ret := ret) hM hp.1 hrc hrs hfr hlo hws hcw (fun a' U hW => word_at hW (Or.inl (by first | rfl | simp [Cond.onTables, Cond.keeps, Cond.steady])) hini)
  obtain ⟨hx, hb, hml, ho, -⟩ := S
  obtain ⟨-, ⟨cellB, hcB, hoB, hclB⟩, hPc⟩ := hp
  intro T hT X
  obtain ⟨v, vm₁, ⟨U', l2, c2, s2⟩, hW₁, X', ⟨g', mk, t, L, e1, e2, hq, h1, hL, h2, h3⟩, st⟩ := vx_callVW X hx (C := C) (hh := hh) (bytes := bytes) (maxL := maxL) (ret := ret) ho hl hin hse hcode hy hK (by rw [hT]; exact hcB) hoB hclB hg (hsize.trans hml.symm) (argsL := As) (rest := rest) (fun sig h => hn.trans (hlen sig h)) hstack hW (by rw [hb]; exact hdg)
    (fun vm₁ hW₁ => ⟨hf.1, hf.2, hPc (T.setVm vm₁) hT hW₁⟩)
  dsimp only [Pt.U, Pt.locs, Pt.cells, Pt.slots] at X' e1 e2 h1 h2 h3 st
  subst h1; subst h2; subst h3
  exact ⟨v, (T.setVm vm₁).calling g' mk (Value.ref b :: As).toArray, t, U', L, hT, X', hL, e1, e2, hq, st⟩
section
variable {y : MethodName} {bytes cc : ByteArray} {maxL nL mc ms n index : Nat} {ret : Option FieldType} {ws : List Cond} {rm : Room} {Pc : Array Value → State → Prop} {Qc : Array Value → State → Outcome → State → Prop} {XC : String → State → State → Prop} {free : Addr → Prop} {Ts : List Cond} {own C : String} {b : Addr} {As rest : List Value} {g : JFrame}
theorem vx_runVX {hh : List (Nat × Nat × Nat × Nat)} (S : CallFix p m c cc nL s args Ts own) (hM : vx_Met l y ws rm Pc Qc XC mc ms free) (cw : vx_CVW R s args own C index y bytes maxL ret hh ws rm mc ms n) (hp : PreV s H C b Pc As)
    (hg : g.method = m) (hn : As.length = n) (hsize : g.locals.size = nL) (hstack : g.stack = As.reverse ++ .ref b :: rest) (hW : 2 * g.monitorRoom + (rest.map fun v => v.category).sum ≤ 8) (hdg : decode cc g.pc = .ok (.invokevirtual index, 3)) (hf : cells + mc ≤ R.cells ∧ slots + ms ≤ R.slots) :
    vx_Run p l e R s m args below meth c H locs cells slots mc ms g rest (Qc (Value.ref b :: As).toArray) XC free := by
  obtain ⟨⟨hrc, hrs, hfr, hlo, hws, hcw⟩, hcode, hini, hy, hlen, hl, hin, hse⟩ := cw
  have hK : vx_Back l R p e below s args y 3 8 (PreOf R mc ms Pc) (PostOf Qc mc ms free) (vx_Post XC mc ms free) := vx_backW (hh := hh) (bytes := bytes) (maxL := maxL) (ret := ret) hM hp.1 hrc hrs hfr hlo hws hcw (fun a' U hW => word_at hW (Or.inl (by first | rfl | simp [Cond.onTables, Cond.keeps, Cond.steady])) hini)
  obtain ⟨hx, hb, hml, ho, -⟩ := S
  obtain ⟨-, ⟨cellB, hcB, hoB, hclB⟩, hPc⟩ := hp
  intro T hT X
  rcases vx_callVX X hx (C := C) (hh := hh) (bytes := bytes) (maxL := maxL) (ret := ret) ho hl hin hse hcode hy hK (by rw [hT]; exact hcB) hoB hclB hg (hsize.trans hml.symm) (argsL := As) (rest := rest) (fun sig h => hn.trans (hlen sig h)) hstack hW (by rw [hb]; exact hdg)
    (fun vm₁ hW₁ => ⟨hf.1, hf.2, hPc (T.setVm vm₁) hT hW₁⟩) with ⟨v, vm₁, ⟨U', l2, c2, s2⟩, hW₁, X', ⟨g', mk, t, L, e1, e2, hq, h1, hL, h2, h3⟩, st⟩ | ⟨q, vm₁, ⟨U', l2, c2, s2⟩, hW₁, X', ⟨g', mk, t, L, E, ce, e1, e2, hq, hce, hcv, hcl, h1, hL, h2, h3⟩, st⟩
  · dsimp only [Pt.U, Pt.locs, Pt.cells, Pt.slots] at X' e1 e2 h1 h2 h3 st
    subst h1; subst h2; subst h3
    exact Or.inl ⟨v, (T.setVm vm₁).calling g' mk (Value.ref b :: As).toArray, t, U', L, hT, X', hL, e1, e2, hq, st⟩
  · dsimp only [Pt.U, Pt.locs, Pt.cells, Pt.slots] at X' e1 e2 h1 h2 h3 st hcl
    subst h1; subst h2; subst h3
    exact Or.inr ⟨q, (T.setVm vm₁).calling g' mk (Value.ref b :: As).toArray, t, U', L, E, ce, hT, X', hL, e1, e2, hq, hce, hcv, vx_cls hW₁ hcl, st⟩
theorem vx_runSX {hh : List (Nat × Nat × Nat × Nat)} (S : CallFix p m c cc nL s args Ts own) (hM : vx_Met l y ws rm Pc Qc XC mc ms free) (cw : vx_CSW R s args own index y bytes maxL ret hh ws rm mc ms n) (hp : PreS s H Pc As)
    (hg : g.method = m) (hn : As.length = n) (hsize : g.locals.size = nL) (hstack : g.stack = As.reverse ++ rest) (hW : 2 * g.monitorRoom + (rest.map fun v => v.category).sum ≤ 8) (hdg : decode cc g.pc = .ok (.invokestatic index, 3)) (hf : cells + mc ≤ R.cells ∧ slots + ms ≤ R.slots) :
    vx_Run p l e R s m args below meth c H locs cells slots mc ms g rest (Qc As.toArray) XC free := by
  obtain ⟨⟨hrc, hrs, hfr, hlo, hws, hcw⟩, hcode, hini, hy, hlen, hl, hstt⟩ := cw
  have hK : vx_Back l R p e below s args y 3 8 (PreOf R mc ms Pc) (PostOf Qc mc ms free) (vx_Post XC mc ms free) := vx_backW (hh := hh) (bytes := bytes) (maxL := maxL) (ret := ret) hM hp.1 hrc hrs hfr hlo hws hcw (fun a' U hW => word_at hW (Or.inl (by first | rfl | simp [Cond.onTables, Cond.keeps, Cond.steady])) hini)
  obtain ⟨hx, hb, hml, ho, -⟩ := S
  intro T hT X
  rcases vx_callSX X hx (hh := hh) (bytes := bytes) (maxL := maxL) (ret := ret) ho hl hstt hini hcode hy hK hg (hsize.trans hml.symm) (argsL := As) (rest := rest) (fun sig h => hn.trans (hlen sig h)) hstack hW (by rw [hb]; exact hdg)
    (fun vm₁ hW₁ => ⟨hf.1, hf.2, hp.2 (T.setVm vm₁) hT hW₁⟩) with ⟨v, vm₁, ⟨U', l2, c2, s2⟩, hW₁, X', ⟨g', mk, t, L, e1, e2, hq, h1, hL, h2, h3⟩, st⟩ | ⟨q, vm₁, ⟨U', l2, c2, s2⟩, hW₁, X', ⟨g', mk, t, L, E, ce, e1, e2, hq, hce, hcv, hcl, h1, hL, h2, h3⟩, st⟩
  · dsimp only [Pt.U, Pt.locs, Pt.cells, Pt.slots] at X' e1 e2 h1 h2 h3 st
    subst h1; subst h2; subst h3
    exact Or.inl ⟨v, (T.setVm vm₁).calling g' mk As.toArray, t, U', L, hT, X', hL, e1, e2, hq, st⟩
  · dsimp only [Pt.U, Pt.locs, Pt.cells, Pt.slots] at X' e1 e2 h1 h2 h3 st hcl
    subst h1; subst h2; subst h3
    exact Or.inr ⟨q, (T.setVm vm₁).calling g' mk As.toArray, t, U', L, E, ce, hT, X', hL, e1, e2, hq, hce, hcv, vx_cls hW₁ hcl, st⟩
end
end VXH
theorem vx_ofWH {l : Launch} {y : MethodName} {ws ws' : List Cond} {rm : Room} {Pc : Array Value → State → Prop} {Qc : Array Value → State → Outcome → State → Prop} {XC : String → State → State → Prop} {mc ms : Nat} {free : Addr → Prop} {cc : ByteArray} {maxL : Nat} {ret : Option FieldType} {hh : List (Nat × Nat × Nat × Nat)}
    (hy : plainName y.cls = true) (hw : ws = Cond.codeWith y cc maxL ret hh :: ws')
    (body : ∀ p e s m args below meth c s₁, BodyLoose p l y (headSpec ws rm) cc maxL ret e s m args below meth c s₁ → c.maxLocals = maxL → Pc args s →
      W p l e (headSpec ws rm).room s m args below meth c s.heap [] 0 0 (vx_MQ below Qc XC args s mc ms free) (entryFrame m args maxL)) : vx_Met l y ws rm Pc Qc XC mc ms free := by
  refine MetFree.of_bodyS (code := cc) (maxLocals := maxL) (ret := ret) hy ?_ ?_
  · intro args s m h hn
    obtain ⟨m9, meth, c, hn9, h1, h2, h3, h4, -, h5, h6, -⟩ := Cond.codeWith_spec (atoms_spec (ws := ws) h _ (by rw [hw]; exact List.mem_cons_self))
    cases hn.symm.trans hn9
    exact ⟨meth, c, h1, h2, h3, h4, h5, h6⟩
  · intro p e s m args below meth c s₁ B hml hP _
    have hh0 : s₁.heap = s.heap := by rw [B.state]; rfl
    obtain ⟨t, a1, o, b1, b2, b3⟩ := body p e s m args below meth c s₁ B hml hP s₁ hh0 (Stand.of_body B)
    exact ⟨t, o, a1, b1, b2, b3⟩
/-! ===== END ===== -/
end
section
/-! NAMES, written by wip/whole/prog/gen_names.py: classes, fields, methods, the good words of the tables and their places -/
def R_T : String := "DangerTables"
def R_X : String := "DangerTables$Box"
def R_G : String := "DangerTables$Good"
def R_P : String := "DangerTables$Part"
def R_U : String := "DangerTables$RuleText"
def R_M : String := "DangerTablesModel"
def R_L : String := "DangerTablesLaw"
def R_AL : String := "java/util/ArrayList"
def R_AB : String := "java/util/AbstractList"
def R_AC : String := "java/util/AbstractCollection"
def R_AR : String := "java/util/Arrays"
def R_OB : String := "java/util/Objects"
def R_PC : String := "jdk/internal/util/Preconditions"
def R_AS : String := "jdk/internal/util/ArraysSupport"
def F_T : u_T := fun k => match k with
  | 0 => ("DangerTables", "text", "LDangerTables$RuleText;", true)
  | 1 => ("DangerTables", "rules", "[I", true)
  | 2 => ("DangerTables", "tableRead", "Z", false)
  | 3 => ("DangerTables", "goods", "Ljava/util/ArrayList;", true)
  | 4 => ("DangerTables", "boxes", "Ljava/util/ArrayList;", true)
  | _ => ("DangerTables", "zoneMost", "[[I", true)
def ft_T : Nat → FieldType := fun k => match k with
  | 0 => .object "DangerTables$RuleText"
  | 1 => .array .int
  | 2 => .boolean
  | 3 => .object "java/util/ArrayList"
  | 4 => .object "java/util/ArrayList"
  | _ => .array (.array .int)
theorem fn_T : ∀ a, a < 6 → ∀ b, b < 6 → a ≠ b → (F_T a).2.1 ≠ (F_T b).2.1 := by decide +kernel
theorem ft_T_ok : ∀ k, k < 6 → parseFieldDescriptor (F_T k).2.2.1 = some (ft_T k) := by decide +kernel
def F_X : u_T := fun k => match k with
  | 0 => ("DangerTables$Box", "parts", "Ljava/util/ArrayList;", true)
  | 1 => ("DangerTables$Box", "zone", "I", false)
  | 2 => ("DangerTables$Box", "x", "I", false)
  | 3 => ("DangerTables$Box", "y", "I", false)
  | _ => ("DangerTables$Box", "told", "I", false)
def ft_X : Nat → FieldType := fun k => match k with
  | 0 => .object "java/util/ArrayList"
  | 1 => .int
  | 2 => .int
  | 3 => .int
  | _ => .int
theorem fn_X : ∀ a, a < 5 → ∀ b, b < 5 → a ≠ b → (F_X a).2.1 ≠ (F_X b).2.1 := by decide +kernel
theorem ft_X_ok : ∀ k, k < 5 → parseFieldDescriptor (F_X k).2.2.1 = some (ft_X k) := by decide +kernel
def F_G : u_T := fun k => match k with
  | 0 => ("DangerTables$Good", "cls", "I", true)
  | 1 => ("DangerTables$Good", "side", "I", true)
  | 2 => ("DangerTables$Good", "limit", "I", true)
  | 3 => ("DangerTables$Good", "fields", "I", true)
  | _ => ("DangerTables$Good", "exemptPairs", "J", false)
def ft_G : Nat → FieldType := fun k => match k with
  | 0 => .int
  | 1 => .int
  | 2 => .int
  | 3 => .int
  | _ => .long
theorem fn_G : ∀ a, a < 5 → ∀ b, b < 5 → a ≠ b → (F_G a).2.1 ≠ (F_G b).2.1 := by decide +kernel
theorem ft_G_ok : ∀ k, k < 5 → parseFieldDescriptor (F_G k).2.2.1 = some (ft_G k) := by decide +kernel
def F_P : u_T := fun k => match k with
  | 0 => ("DangerTables$Part", "good", "LDangerTables$Good;", true)
  | 1 => ("DangerTables$Part", "number", "I", true)
  | _ => ("DangerTables$Part", "amount", "I", true)
def ft_P : Nat → FieldType := fun k => match k with
  | 0 => .object "DangerTables$Good"
  | 1 => .int
  | _ => .int
theorem fn_P : ∀ a, a < 3 → ∀ b, b < 3 → a ≠ b → (F_P a).2.1 ≠ (F_P b).2.1 := by decide +kernel
theorem ft_P_ok : ∀ k, k < 3 → parseFieldDescriptor (F_P k).2.2.1 = some (ft_P k) := by decide +kernel
def F_U : u_T := fun k => match k with
  | 0 => ("DangerTables$RuleText", "signs", "[I", true)
  | 1 => ("DangerTables$RuleText", "length", "I", false)
  | _ => ("DangerTables$RuleText", "found", "[I", true)
def ft_U : Nat → FieldType := fun k => match k with
  | 0 => .array .int
  | 1 => .int
  | _ => .array .int
theorem fn_U : ∀ a, a < 3 → ∀ b, b < 3 → a ≠ b → (F_U a).2.1 ≠ (F_U b).2.1 := by decide +kernel
theorem ft_U_ok : ∀ k, k < 3 → parseFieldDescriptor (F_U k).2.2.1 = some (ft_U k) := by decide +kernel
def F_M : u_T := fun k => match k with
  | 0 => ("DangerTablesModel", "thrown", "I", false)
  | 1 => ("DangerTablesModel", "text", "[I", true)
  | 2 => ("DangerTablesModel", "signs", "I", false)
  | 3 => ("DangerTablesModel", "hasTable", "Z", false)
  | 4 => ("DangerTablesModel", "rules", "[I", true)
  | 5 => ("DangerTablesModel", "goods", "I", false)
  | 6 => ("DangerTablesModel", "cls", "[I", true)
  | 7 => ("DangerTablesModel", "sideCls", "[I", true)
  | 8 => ("DangerTablesModel", "group", "[I", true)
  | 9 => ("DangerTablesModel", "limit", "[I", true)
  | 10 => ("DangerTablesModel", "marine", "[Z", true)
  | 11 => ("DangerTablesModel", "temperature", "[Z", true)
  | 12 => ("DangerTablesModel", "exempt", "[Z", true)
  | 13 => ("DangerTablesModel", "boxes", "I", false)
  | 14 => ("DangerTablesModel", "many", "[I", true)
  | 15 => ("DangerTablesModel", "zoneOf", "[I", true)
  | 16 => ("DangerTablesModel", "xOf", "[I", true)
  | 17 => ("DangerTablesModel", "yOf", "[I", true)
  | 18 => ("DangerTablesModel", "fields", "[I", true)
  | 19 => ("DangerTablesModel", "goodOf", "[I", true)
  | 20 => ("DangerTablesModel", "amountOf", "[I", true)
  | _ => ("DangerTablesModel", "most", "[I", true)
def ft_M : Nat → FieldType := fun k => match k with
  | 0 => .int
  | 1 => .array .int
  | 2 => .int
  | 3 => .boolean
  | 4 => .array .int
  | 5 => .int
  | 6 => .array .int
  | 7 => .array .int
  | 8 => .array .int
  | 9 => .array .int
  | 10 => .array .boolean
  | 11 => .array .boolean
  | 12 => .array .boolean
  | 13 => .int
  | 14 => .array .int
  | 15 => .array .int
  | 16 => .array .int
  | 17 => .array .int
  | 18 => .array .int
  | 19 => .array .int
  | 20 => .array .int
  | _ => .array .int
theorem fn_M : ∀ a, a < 22 → ∀ b, b < 22 → a ≠ b → (F_M a).2.1 ≠ (F_M b).2.1 := by decide +kernel
theorem ft_M_ok : ∀ k, k < 22 → parseFieldDescriptor (F_M k).2.2.1 = some (ft_M k) := by decide +kernel
def F_AL : u_T := fun k => match k with
  | 0 => ("java/util/AbstractList", "modCount", "I", false)
  | 1 => ("java/util/ArrayList", "elementData", "[Ljava/lang/Object;", false)
  | _ => ("java/util/ArrayList", "size", "I", false)
def ft_AL : Nat → FieldType := fun k => match k with
  | 0 => .int
  | 1 => .array (.object "java/lang/Object")
  | _ => .int
theorem fn_AL : ∀ a, a < 3 → ∀ b, b < 3 → a ≠ b → (F_AL a).2.1 ≠ (F_AL b).2.1 := by decide +kernel
theorem ft_AL_ok : ∀ k, k < 3 → parseFieldDescriptor (F_AL k).2.2.1 = some (ft_AL k) := by decide +kernel
abbrev vwCl : List vw_C := [(R_T, F_T, 6), (R_X, F_X, 5), (R_G, F_G, 5), (R_P, F_P, 3), (R_U, F_U, 3), (R_M, F_M, 22), (R_AL, F_AL, 3)]
abbrev b_T_init : ByteArray := prog_1_method_1_code
def y_T_init : MethodName := ⟨"DangerTables", "<init>", "()V"⟩
abbrev b_U_init : ByteArray := prog_5_method_1_code
def y_U_init : MethodName := ⟨"DangerTables$RuleText", "<init>", "()V"⟩
abbrev b_AR_fill : ByteArray := prog_23_method_103_code
def y_AR_fill : MethodName := ⟨"java/util/Arrays", "fill", "([II)V"⟩
abbrev b_AL_init : ByteArray := prog_22_method_2_code
def y_AL_init : MethodName := ⟨"java/util/ArrayList", "<init>", "()V"⟩
abbrev b_AB_init : ByteArray := prog_21_method_1_code
def y_AB_init : MethodName := ⟨"java/util/AbstractList", "<init>", "()V"⟩
abbrev b_AC_init : ByteArray := prog_20_method_1_code
def y_AC_init : MethodName := ⟨"java/util/AbstractCollection", "<init>", "()V"⟩
abbrev b_T_sign : ByteArray := prog_1_method_2_code
def y_T_sign : MethodName := ⟨"DangerTables", "sign", "(I)Z"⟩
abbrev b_U_append : ByteArray := prog_5_method_2_code
def y_U_append : MethodName := ⟨"DangerTables$RuleText", "append", "(I)Z"⟩
abbrev b_T_read : ByteArray := prog_1_method_3_code
def y_T_read : MethodName := ⟨"DangerTables", "read", "()I"⟩
abbrev b_U_firstWrongPlace : ByteArray := prog_5_method_5_code
def y_U_firstWrongPlace : MethodName := ⟨"DangerTables$RuleText", "firstWrongPlace", "()I"⟩
abbrev b_U_firstWrongPlaceOfRow : ByteArray := prog_5_method_6_code
def y_U_firstWrongPlaceOfRow : MethodName := ⟨"DangerTables$RuleText", "firstWrongPlaceOfRow", "(I)I"⟩
abbrev b_U_digitAt : ByteArray := prog_5_method_7_code
def y_U_digitAt : MethodName := ⟨"DangerTables$RuleText", "digitAt", "(I)I"⟩
abbrev b_T_isClass : ByteArray := prog_1_method_19_code
def y_T_isClass : MethodName := ⟨"DangerTables", "isClass", "(I)Z"⟩
abbrev b_T_pairNumber : ByteArray := prog_1_method_27_code
def y_T_pairNumber : MethodName := ⟨"DangerTables", "pairNumber", "(II)I"⟩
abbrev b_U_drop : ByteArray := prog_5_method_3_code
def y_U_drop : MethodName := ⟨"DangerTables$RuleText", "drop", "()V"⟩
abbrev b_U_copyRulesTo : ByteArray := prog_5_method_4_code
def y_U_copyRulesTo : MethodName := ⟨"DangerTables$RuleText", "copyRulesTo", "([I)V"⟩
abbrev b_T_exempt : ByteArray := prog_1_method_6_code
def y_T_exempt : MethodName := ⟨"DangerTables", "exempt", "(III)Z"⟩
abbrev b_T_isGood : ByteArray := prog_1_method_24_code
def y_T_isGood : MethodName := ⟨"DangerTables", "isGood", "(I)Z"⟩
abbrev b_AL_size : ByteArray := prog_22_method_8_code
def y_AL_size : MethodName := ⟨"java/util/ArrayList", "size", "()I"⟩
abbrev b_AL_get : ByteArray := prog_22_method_20_code
def y_AL_get : MethodName := ⟨"java/util/ArrayList", "get", "(I)Ljava/lang/Object;"⟩
abbrev b_OB_checkIndex : ByteArray := prog_26_method_17_code
def y_OB_checkIndex : MethodName := ⟨"java/util/Objects", "checkIndex", "(II)I"⟩
abbrev b_PC_checkIndex : ByteArray := prog_30_method_11_code
def y_PC_checkIndex : MethodName := ⟨"jdk/internal/util/Preconditions", "checkIndex", "(IILjava/util/function/BiFunction;)I"⟩
abbrev b_AL_elementData : ByteArray := prog_22_method_18_code
def y_AL_elementData : MethodName := ⟨"java/util/ArrayList", "elementData", "(I)Ljava/lang/Object;"⟩
abbrev b_G_addExemption : ByteArray := prog_3_method_4_code
def y_G_addExemption : MethodName := ⟨"DangerTables$Good", "addExemption", "(I)Z"⟩
abbrev b_G_isExempt : ByteArray := prog_3_method_3_code
def y_G_isExempt : MethodName := ⟨"DangerTables$Good", "isExempt", "(I)Z"⟩
abbrev b_T_most : ByteArray := prog_1_method_11_code
def y_T_most : MethodName := ⟨"DangerTables", "most", "(III)Z"⟩
abbrev b_T_isZone : ByteArray := prog_1_method_22_code
def y_T_isZone : MethodName := ⟨"DangerTables", "isZone", "(I)Z"⟩
abbrev b_T_paper : ByteArray := prog_1_method_15_code
def y_T_paper : MethodName := ⟨"DangerTables", "paper", "(II)Z"⟩
abbrev b_T_isBox : ByteArray := prog_1_method_25_code
def y_T_isBox : MethodName := ⟨"DangerTables", "isBox", "(I)Z"⟩
abbrev b_X_tell : ByteArray := prog_2_method_11_code
def y_X_tell : MethodName := ⟨"DangerTables$Box", "tell", "(I)Z"⟩
abbrev b_T_count : ByteArray := prog_1_method_18_code
def y_T_count : MethodName := ⟨"DangerTables", "count", "(I)I"⟩
abbrev b_T_lyingCount : ByteArray := prog_1_method_33_code
def y_T_lyingCount : MethodName := ⟨"DangerTables", "lyingCount", "()I"⟩
abbrev b_X_lies : ByteArray := prog_2_method_5_code
def y_X_lies : MethodName := ⟨"DangerTables$Box", "lies", "()Z"⟩
abbrev b_L_rule : ByteArray := method_3_code
def y_L_rule : MethodName := ⟨"DangerTablesLaw", "rule", "(LDangerTables;II[J)I"⟩
abbrev b_T_rule : ByteArray := prog_1_method_4_code
def y_T_rule : MethodName := ⟨"DangerTables", "rule", "(II)I"⟩
abbrev b_L_good : ByteArray := method_4_code
def y_L_good : MethodName := ⟨"DangerTablesLaw", "good", "(LDangerTables;IIIIZZ[J)I"⟩
abbrev b_T_good : ByteArray := prog_1_method_5_code
def y_T_good : MethodName := ⟨"DangerTables", "good", "(IIIIZZ)I"⟩
abbrev b_T_isSide : ByteArray := prog_1_method_20_code
def y_T_isSide : MethodName := ⟨"DangerTables", "isSide", "(II)Z"⟩
abbrev b_T_fieldsOf : ByteArray := prog_1_method_28_code
def y_T_fieldsOf : MethodName := ⟨"DangerTables", "fieldsOf", "(IZZ)I"⟩
abbrev b_G_init : ByteArray := prog_3_method_1_code
def y_G_init : MethodName := ⟨"DangerTables$Good", "<init>", "(IIII)V"⟩
abbrev b_AL_add : ByteArray := prog_22_method_25_code
def y_AL_add : MethodName := ⟨"java/util/ArrayList", "add", "(Ljava/lang/Object;)Z"⟩
abbrev b_AL_add2 : ByteArray := prog_22_method_24_code
def y_AL_add2 : MethodName := ⟨"java/util/ArrayList", "add", "(Ljava/lang/Object;[Ljava/lang/Object;I)V"⟩
abbrev b_AL_grow : ByteArray := prog_22_method_7_code
def y_AL_grow : MethodName := ⟨"java/util/ArrayList", "grow", "()[Ljava/lang/Object;"⟩
abbrev b_AL_grow2 : ByteArray := prog_22_method_6_code
def y_AL_grow2 : MethodName := ⟨"java/util/ArrayList", "grow", "(I)[Ljava/lang/Object;"⟩
abbrev b_AS_newLength : ByteArray := prog_29_method_27_code
def y_AS_newLength : MethodName := ⟨"jdk/internal/util/ArraysSupport", "newLength", "(III)I"⟩
abbrev b_AS_hugeLength : ByteArray := prog_29_method_28_code
def y_AS_hugeLength : MethodName := ⟨"jdk/internal/util/ArraysSupport", "hugeLength", "(II)I"⟩
abbrev b_AR_copyOf : ByteArray := prog_23_method_119_code
def y_AR_copyOf : MethodName := ⟨"java/util/Arrays", "copyOf", "([Ljava/lang/Object;I)[Ljava/lang/Object;"⟩
abbrev b_AR_copyOf2 : ByteArray := prog_23_method_120_code
def y_AR_copyOf2 : MethodName := ⟨"java/util/Arrays", "copyOf", "([Ljava/lang/Object;ILjava/lang/Class;)[Ljava/lang/Object;"⟩
abbrev b_L_box : ByteArray := method_5_code
def y_L_box : MethodName := ⟨"DangerTablesLaw", "box", "(LDangerTables;II[J)I"⟩
abbrev b_T_box : ByteArray := prog_1_method_7_code
def y_T_box : MethodName := ⟨"DangerTables", "box", "(II)I"⟩
abbrev b_T_isAmount : ByteArray := prog_1_method_21_code
def y_T_isAmount : MethodName := ⟨"DangerTables", "isAmount", "(I)Z"⟩
abbrev b_X_init : ByteArray := prog_2_method_1_code
def y_X_init : MethodName := ⟨"DangerTables$Box", "<init>", "()V"⟩
abbrev b_X_fill : ByteArray := prog_2_method_2_code
def y_X_fill : MethodName := ⟨"DangerTables$Box", "fill", "(LDangerTables$Good;II)V"⟩
abbrev b_P_init : ByteArray := prog_4_method_1_code
def y_P_init : MethodName := ⟨"DangerTables$Part", "<init>", "(LDangerTables$Good;II)V"⟩
abbrev b_L_also : ByteArray := method_6_code
def y_L_also : MethodName := ⟨"DangerTablesLaw", "also", "(LDangerTables;III[J)I"⟩
abbrev b_T_also : ByteArray := prog_1_method_8_code
def y_T_also : MethodName := ⟨"DangerTables", "also", "(III)I"⟩
abbrev b_X_holds : ByteArray := prog_2_method_4_code
def y_X_holds : MethodName := ⟨"DangerTables$Box", "holds", "(I)Z"⟩
abbrev b_X_partCount : ByteArray := prog_2_method_3_code
def y_X_partCount : MethodName := ⟨"DangerTables$Box", "partCount", "()I"⟩
abbrev b_L_apart : ByteArray := method_7_code
def y_L_apart : MethodName := ⟨"DangerTablesLaw", "apart", "(LDangerTables;II[J)I"⟩
abbrev b_T_apart : ByteArray := prog_1_method_9_code
def y_T_apart : MethodName := ⟨"DangerTables", "apart", "(II)I"⟩
abbrev b_T_areTwoBoxes : ByteArray := prog_1_method_26_code
def y_T_areTwoBoxes : MethodName := ⟨"DangerTables", "areTwoBoxes", "(II)Z"⟩
abbrev b_T_ruleOfBoxes : ByteArray := prog_1_method_29_code
def y_T_ruleOfBoxes : MethodName := ⟨"DangerTables", "ruleOfBoxes", "(LDangerTables$Box;LDangerTables$Box;)I"⟩
abbrev b_T_ruleOfParts : ByteArray := prog_1_method_30_code
def y_T_ruleOfParts : MethodName := ⟨"DangerTables", "ruleOfParts", "(LDangerTables$Part;LDangerTables$Part;)I"⟩
abbrev b_T_ruleOfClasses : ByteArray := prog_1_method_31_code
def y_T_ruleOfClasses : MethodName := ⟨"DangerTables", "ruleOfClasses", "(LDangerTables$Good;ILDangerTables$Good;I)I"⟩
abbrev b_P_isLimited : ByteArray := prog_4_method_2_code
def y_P_isLimited : MethodName := ⟨"DangerTables$Part", "isLimited", "()Z"⟩
abbrev b_L_ship : ByteArray := method_8_code
def y_L_ship : MethodName := ⟨"DangerTablesLaw", "ship", "(LDangerTables;III[J)I"⟩
abbrev b_T_ship : ByteArray := prog_1_method_10_code
def y_T_ship : MethodName := ⟨"DangerTables", "ship", "(III)Z"⟩
abbrev b_L_zone : ByteArray := method_9_code
def y_L_zone : MethodName := ⟨"DangerTablesLaw", "zone", "(LDangerTables;II[J)I"⟩
abbrev b_T_zone : ByteArray := prog_1_method_12_code
def y_T_zone : MethodName := ⟨"DangerTables", "zone", "(II)I"⟩
abbrev b_T_kilogramsInZone : ByteArray := prog_1_method_32_code
def y_T_kilogramsInZone : MethodName := ⟨"DangerTables", "kilogramsInZone", "(II)I"⟩
abbrev b_X_kilogramsOf : ByteArray := prog_2_method_9_code
def y_X_kilogramsOf : MethodName := ⟨"DangerTables$Box", "kilogramsOf", "(I)I"⟩
abbrev b_G_hasClass : ByteArray := prog_3_method_2_code
def y_G_hasClass : MethodName := ⟨"DangerTables$Good", "hasClass", "(I)Z"⟩
abbrev b_L_put : ByteArray := method_10_code
def y_L_put : MethodName := ⟨"DangerTablesLaw", "put", "(LDangerTables;IIII[J)I"⟩
abbrev b_T_put : ByteArray := prog_1_method_13_code
def y_T_put : MethodName := ⟨"DangerTables", "put", "(IIII)I"⟩
abbrev b_T_isSlot : ByteArray := prog_1_method_23_code
def y_T_isSlot : MethodName := ⟨"DangerTables", "isSlot", "(II)Z"⟩
abbrev b_T_firstBar : ByteArray := prog_1_method_34_code
def y_T_firstBar : MethodName := ⟨"DangerTables", "firstBar", "(LDangerTables$Box;III)I"⟩
abbrev b_X_untoldFields : ByteArray := prog_2_method_12_code
def y_X_untoldFields : MethodName := ⟨"DangerTables$Box", "untoldFields", "()I"⟩
abbrev b_P_wantedFields : ByteArray := prog_4_method_3_code
def y_P_wantedFields : MethodName := ⟨"DangerTables$Part", "wantedFields", "()I"⟩
abbrev b_T_isTaken : ByteArray := prog_1_method_35_code
def y_T_isTaken : MethodName := ⟨"DangerTables", "isTaken", "(III)Z"⟩
abbrev b_T_leastPassedClass : ByteArray := prog_1_method_36_code
def y_T_leastPassedClass : MethodName := ⟨"DangerTables", "leastPassedClass", "(LDangerTables$Box;I)I"⟩
abbrev b_T_leastTooNear : ByteArray := prog_1_method_37_code
def y_T_leastTooNear : MethodName := ⟨"DangerTables", "leastTooNear", "(LDangerTables$Box;III)I"⟩
abbrev b_X_distanceTo : ByteArray := prog_2_method_7_code
def y_X_distanceTo : MethodName := ⟨"DangerTables$Box", "distanceTo", "(II)I"⟩
abbrev b_T_isTooNear : ByteArray := prog_1_method_38_code
def y_T_isTooNear : MethodName := ⟨"DangerTables", "isTooNear", "(II)Z"⟩
abbrev b_X_lay : ByteArray := prog_2_method_6_code
def y_X_lay : MethodName := ⟨"DangerTables$Box", "lay", "(III)V"⟩
abbrev b_L_take : ByteArray := method_11_code
def y_L_take : MethodName := ⟨"DangerTablesLaw", "take", "(LDangerTables;I[J)I"⟩
abbrev b_T_take : ByteArray := prog_1_method_14_code
def y_T_take : MethodName := ⟨"DangerTables", "take", "(I)I"⟩
abbrev b_L_missing : ByteArray := method_12_code
def y_L_missing : MethodName := ⟨"DangerTablesLaw", "missing", "(LDangerTables;I[J)I"⟩
abbrev b_T_missing : ByteArray := prog_1_method_16_code
def y_T_missing : MethodName := ⟨"DangerTables", "missing", "(I)I"⟩
abbrev b_L_look : ByteArray := method_13_code
def y_L_look : MethodName := ⟨"DangerTablesLaw", "look", "(LDangerTables;II[J)I"⟩
abbrev b_T_look : ByteArray := prog_1_method_17_code
def y_T_look : MethodName := ⟨"DangerTables", "look", "(II)I"⟩
abbrev b_X_kilograms : ByteArray := prog_2_method_8_code
def y_X_kilograms : MethodName := ⟨"DangerTables$Box", "kilograms", "()I"⟩
abbrev b_X_limitedCount : ByteArray := prog_2_method_10_code
def y_X_limitedCount : MethodName := ⟨"DangerTables$Box", "limitedCount", "()I"⟩
abbrev b_M_init : ByteArray := prog_7_method_1_code
def y_M_init : MethodName := ⟨"DangerTablesModel", "<init>", "()V"⟩
abbrev b_M_thrown : ByteArray := prog_7_method_2_code
def y_M_thrown : MethodName := ⟨"DangerTablesModel", "thrown", "()I"⟩
abbrev b_M_sign : ByteArray := prog_7_method_9_code
def y_M_sign : MethodName := ⟨"DangerTablesModel", "sign", "(I)Z"⟩
abbrev b_M_in : ByteArray := prog_7_method_4_code
def y_M_in : MethodName := ⟨"DangerTablesModel", "in", "(III)Z"⟩
abbrev b_M_read : ByteArray := prog_7_method_11_code
def y_M_read : MethodName := ⟨"DangerTablesModel", "read", "()I"⟩
abbrev b_M_stands : ByteArray := prog_7_method_10_code
def y_M_stands : MethodName := ⟨"DangerTablesModel", "stands", "(I)Z"⟩
abbrev b_M_isClass : ByteArray := prog_7_method_5_code
def y_M_isClass : MethodName := ⟨"DangerTablesModel", "isClass", "(I)Z"⟩
abbrev b_M_pair : ByteArray := prog_7_method_8_code
def y_M_pair : MethodName := ⟨"DangerTablesModel", "pair", "(II)I"⟩
abbrev b_M_rule : ByteArray := prog_7_method_12_code
def y_M_rule : MethodName := ⟨"DangerTablesModel", "rule", "(II)I"⟩
abbrev b_M_good : ByteArray := prog_7_method_13_code
def y_M_good : MethodName := ⟨"DangerTablesModel", "good", "(IIIIZZ)I"⟩
abbrev b_M_refuse : ByteArray := prog_7_method_3_code
def y_M_refuse : MethodName := ⟨"DangerTablesModel", "refuse", "(I)I"⟩
abbrev b_M_exempt : ByteArray := prog_7_method_14_code
def y_M_exempt : MethodName := ⟨"DangerTablesModel", "exempt", "(III)Z"⟩
abbrev b_M_isGood : ByteArray := prog_7_method_6_code
def y_M_isGood : MethodName := ⟨"DangerTablesModel", "isGood", "(I)Z"⟩
abbrev b_M_box : ByteArray := prog_7_method_16_code
def y_M_box : MethodName := ⟨"DangerTablesModel", "box", "(II)I"⟩
abbrev b_M_adds : ByteArray := prog_7_method_15_code
def y_M_adds : MethodName := ⟨"DangerTablesModel", "adds", "(III)V"⟩
abbrev b_M_also : ByteArray := prog_7_method_18_code
def y_M_also : MethodName := ⟨"DangerTablesModel", "also", "(III)I"⟩
abbrev b_M_isBox : ByteArray := prog_7_method_7_code
def y_M_isBox : MethodName := ⟨"DangerTablesModel", "isBox", "(I)Z"⟩
abbrev b_M_has : ByteArray := prog_7_method_17_code
def y_M_has : MethodName := ⟨"DangerTablesModel", "has", "(II)Z"⟩
abbrev b_M_apart : ByteArray := prog_7_method_24_code
def y_M_apart : MethodName := ⟨"DangerTablesModel", "apart", "(II)I"⟩
abbrev b_M_strictest : ByteArray := prog_7_method_23_code
def y_M_strictest : MethodName := ⟨"DangerTablesModel", "strictest", "(II)I"⟩
abbrev b_M_between : ByteArray := prog_7_method_22_code
def y_M_between : MethodName := ⟨"DangerTablesModel", "between", "(II)I"⟩
abbrev b_M_ruleFor : ByteArray := prog_7_method_20_code
def y_M_ruleFor : MethodName := ⟨"DangerTablesModel", "ruleFor", "(IIII)I"⟩
abbrev b_M_greater : ByteArray := prog_7_method_21_code
def y_M_greater : MethodName := ⟨"DangerTablesModel", "greater", "(II)I"⟩
abbrev b_M_isLimited : ByteArray := prog_7_method_19_code
def y_M_isLimited : MethodName := ⟨"DangerTablesModel", "isLimited", "(I)Z"⟩
abbrev b_M_ship : ByteArray := prog_7_method_25_code
def y_M_ship : MethodName := ⟨"DangerTablesModel", "ship", "(III)Z"⟩
abbrev b_M_most : ByteArray := prog_7_method_26_code
def y_M_most : MethodName := ⟨"DangerTablesModel", "most", "(III)Z"⟩
abbrev b_M_zone : ByteArray := prog_7_method_29_code
def y_M_zone : MethodName := ⟨"DangerTablesModel", "zone", "(II)I"⟩
abbrev b_M_inZone : ByteArray := prog_7_method_28_code
def y_M_inZone : MethodName := ⟨"DangerTablesModel", "inZone", "(II)I"⟩
abbrev b_M_inBox : ByteArray := prog_7_method_27_code
def y_M_inBox : MethodName := ⟨"DangerTablesModel", "inBox", "(II)I"⟩
abbrev b_M_put : ByteArray := prog_7_method_34_code
def y_M_put : MethodName := ⟨"DangerTablesModel", "put", "(IIII)I"⟩
abbrev b_M_bars : ByteArray := prog_7_method_33_code
def y_M_bars : MethodName := ⟨"DangerTablesModel", "bars", "(IIII)I"⟩
abbrev b_M_wanted : ByteArray := prog_7_method_30_code
def y_M_wanted : MethodName := ⟨"DangerTablesModel", "wanted", "(I)I"⟩
abbrev b_M_isNear : ByteArray := prog_7_method_32_code
def y_M_isNear : MethodName := ⟨"DangerTablesModel", "isNear", "(IIII)Z"⟩
abbrev b_M_far : ByteArray := prog_7_method_31_code
def y_M_far : MethodName := ⟨"DangerTablesModel", "far", "(I)I"⟩
abbrev b_M_take : ByteArray := prog_7_method_35_code
def y_M_take : MethodName := ⟨"DangerTablesModel", "take", "(I)I"⟩
abbrev b_M_paper : ByteArray := prog_7_method_36_code
def y_M_paper : MethodName := ⟨"DangerTablesModel", "paper", "(II)Z"⟩
abbrev b_M_missing : ByteArray := prog_7_method_37_code
def y_M_missing : MethodName := ⟨"DangerTablesModel", "missing", "(I)I"⟩
abbrev b_M_look : ByteArray := prog_7_method_38_code
def y_M_look : MethodName := ⟨"DangerTablesModel", "look", "(II)I"⟩
abbrev b_M_count : ByteArray := prog_7_method_39_code
def y_M_count : MethodName := ⟨"DangerTablesModel", "count", "(I)I"⟩
/-- the words of the tables that every state keeps -/
def GW : List Cond := lw_tbl.filter goodWord
theorem GW_at {i : Nat} {c : Cond} (h : lw_tbl[i]? = some c) (hg : goodWord c = true) : c ∈ GW := List.mem_filter.mpr ⟨List.mem_of_getElem? h, hg⟩
theorem GW_good {c : Cond} (h : c ∈ GW) : (c.onTables && c.keeps) = true ∨ ∃ ty, c = .arrayClass ty := good_of_word (List.mem_filter.mp h).2
end
section
/-! the good words, each by its place in lw_tbl -/
theorem kp_0 : Cond.selects "DangerTables$RuleText" ⟨"DangerTables$RuleText", "firstWrongPlaceOfRow", "(I)I"⟩ ⟨"DangerTables$RuleText", "firstWrongPlaceOfRow", "(I)I"⟩ ∈ GW := GW_at (i := 0) (by decide +kernel) (by decide +kernel)
theorem kp_1 : Cond.selects "DangerTables$RuleText" ⟨"DangerTables$RuleText", "digitAt", "(I)I"⟩ ⟨"DangerTables$RuleText", "digitAt", "(I)I"⟩ ∈ GW := GW_at (i := 1) (by decide +kernel) (by decide +kernel)
theorem kp_2 : Cond.selects "DangerTables" ⟨"DangerTables", "isGood", "(I)Z"⟩ ⟨"DangerTables", "isGood", "(I)Z"⟩ ∈ GW := GW_at (i := 2) (by decide +kernel) (by decide +kernel)
theorem kp_3 : Cond.selects "DangerTables" ⟨"DangerTables", "isBox", "(I)Z"⟩ ⟨"DangerTables", "isBox", "(I)Z"⟩ ∈ GW := GW_at (i := 3) (by decide +kernel) (by decide +kernel)
theorem kp_4 : Cond.selects "DangerTables" ⟨"DangerTables", "lyingCount", "()I"⟩ ⟨"DangerTables", "lyingCount", "()I"⟩ ∈ GW := GW_at (i := 4) (by decide +kernel) (by decide +kernel)
theorem kp_5 : Cond.selects "java/lang/Throwable" ⟨"java/lang/Throwable", "fillInStackTrace", "(I)Ljava/lang/Throwable;"⟩ ⟨"java/lang/Throwable", "fillInStackTrace", "(I)Ljava/lang/Throwable;"⟩ ∈ GW := GW_at (i := 5) (by decide +kernel) (by decide +kernel)
theorem kp_6 : Cond.selects "java/util/ArrayList" ⟨"java/util/ArrayList", "add", "(Ljava/lang/Object;[Ljava/lang/Object;I)V"⟩ ⟨"java/util/ArrayList", "add", "(Ljava/lang/Object;[Ljava/lang/Object;I)V"⟩ ∈ GW := GW_at (i := 6) (by decide +kernel) (by decide +kernel)
theorem kp_7 : Cond.selects "java/util/ArrayList" ⟨"java/util/ArrayList", "grow", "()[Ljava/lang/Object;"⟩ ⟨"java/util/ArrayList", "grow", "()[Ljava/lang/Object;"⟩ ∈ GW := GW_at (i := 7) (by decide +kernel) (by decide +kernel)
theorem kp_8 : Cond.selects "java/util/ArrayList" ⟨"java/util/ArrayList", "grow", "(I)[Ljava/lang/Object;"⟩ ⟨"java/util/ArrayList", "grow", "(I)[Ljava/lang/Object;"⟩ ∈ GW := GW_at (i := 8) (by decide +kernel) (by decide +kernel)
theorem kp_9 : Cond.selects "DangerTables" ⟨"DangerTables", "areTwoBoxes", "(II)Z"⟩ ⟨"DangerTables", "areTwoBoxes", "(II)Z"⟩ ∈ GW := GW_at (i := 9) (by decide +kernel) (by decide +kernel)
theorem kp_10 : Cond.selects "DangerTables" ⟨"DangerTables", "ruleOfBoxes", "(LDangerTables$Box;LDangerTables$Box;)I"⟩ ⟨"DangerTables", "ruleOfBoxes", "(LDangerTables$Box;LDangerTables$Box;)I"⟩ ∈ GW := GW_at (i := 10) (by decide +kernel) (by decide +kernel)
theorem kp_11 : Cond.selects "DangerTables" ⟨"DangerTables", "ruleOfParts", "(LDangerTables$Part;LDangerTables$Part;)I"⟩ ⟨"DangerTables", "ruleOfParts", "(LDangerTables$Part;LDangerTables$Part;)I"⟩ ∈ GW := GW_at (i := 11) (by decide +kernel) (by decide +kernel)
theorem kp_12 : Cond.selects "DangerTables" ⟨"DangerTables", "ruleOfClasses", "(LDangerTables$Good;ILDangerTables$Good;I)I"⟩ ⟨"DangerTables", "ruleOfClasses", "(LDangerTables$Good;ILDangerTables$Good;I)I"⟩ ∈ GW := GW_at (i := 12) (by decide +kernel) (by decide +kernel)
theorem kp_13 : Cond.selects "DangerTables" ⟨"DangerTables", "kilogramsInZone", "(II)I"⟩ ⟨"DangerTables", "kilogramsInZone", "(II)I"⟩ ∈ GW := GW_at (i := 13) (by decide +kernel) (by decide +kernel)
theorem kp_14 : Cond.selects "DangerTables" ⟨"DangerTables", "firstBar", "(LDangerTables$Box;III)I"⟩ ⟨"DangerTables", "firstBar", "(LDangerTables$Box;III)I"⟩ ∈ GW := GW_at (i := 14) (by decide +kernel) (by decide +kernel)
theorem kp_15 : Cond.selects "DangerTables" ⟨"DangerTables", "isTaken", "(III)Z"⟩ ⟨"DangerTables", "isTaken", "(III)Z"⟩ ∈ GW := GW_at (i := 15) (by decide +kernel) (by decide +kernel)
theorem kp_16 : Cond.selects "DangerTables" ⟨"DangerTables", "leastPassedClass", "(LDangerTables$Box;I)I"⟩ ⟨"DangerTables", "leastPassedClass", "(LDangerTables$Box;I)I"⟩ ∈ GW := GW_at (i := 16) (by decide +kernel) (by decide +kernel)
theorem kp_17 : Cond.selects "DangerTables" ⟨"DangerTables", "leastTooNear", "(LDangerTables$Box;III)I"⟩ ⟨"DangerTables", "leastTooNear", "(LDangerTables$Box;III)I"⟩ ∈ GW := GW_at (i := 17) (by decide +kernel) (by decide +kernel)
theorem kp_18 : Cond.selects "DangerTablesModel" ⟨"DangerTablesModel", "stands", "(I)Z"⟩ ⟨"DangerTablesModel", "stands", "(I)Z"⟩ ∈ GW := GW_at (i := 18) (by decide +kernel) (by decide +kernel)
theorem kp_19 : Cond.selects "DangerTablesModel" ⟨"DangerTablesModel", "refuse", "(I)I"⟩ ⟨"DangerTablesModel", "refuse", "(I)I"⟩ ∈ GW := GW_at (i := 19) (by decide +kernel) (by decide +kernel)
theorem kp_20 : Cond.selects "DangerTablesModel" ⟨"DangerTablesModel", "isGood", "(I)Z"⟩ ⟨"DangerTablesModel", "isGood", "(I)Z"⟩ ∈ GW := GW_at (i := 20) (by decide +kernel) (by decide +kernel)
theorem kp_21 : Cond.selects "DangerTablesModel" ⟨"DangerTablesModel", "adds", "(III)V"⟩ ⟨"DangerTablesModel", "adds", "(III)V"⟩ ∈ GW := GW_at (i := 21) (by decide +kernel) (by decide +kernel)
theorem kp_22 : Cond.selects "DangerTablesModel" ⟨"DangerTablesModel", "isBox", "(I)Z"⟩ ⟨"DangerTablesModel", "isBox", "(I)Z"⟩ ∈ GW := GW_at (i := 22) (by decide +kernel) (by decide +kernel)
theorem kp_23 : Cond.selects "DangerTablesModel" ⟨"DangerTablesModel", "has", "(II)Z"⟩ ⟨"DangerTablesModel", "has", "(II)Z"⟩ ∈ GW := GW_at (i := 23) (by decide +kernel) (by decide +kernel)
theorem kp_24 : Cond.selects "DangerTablesModel" ⟨"DangerTablesModel", "strictest", "(II)I"⟩ ⟨"DangerTablesModel", "strictest", "(II)I"⟩ ∈ GW := GW_at (i := 24) (by decide +kernel) (by decide +kernel)
theorem kp_25 : Cond.selects "DangerTablesModel" ⟨"DangerTablesModel", "between", "(II)I"⟩ ⟨"DangerTablesModel", "between", "(II)I"⟩ ∈ GW := GW_at (i := 25) (by decide +kernel) (by decide +kernel)
theorem kp_26 : Cond.selects "DangerTablesModel" ⟨"DangerTablesModel", "ruleFor", "(IIII)I"⟩ ⟨"DangerTablesModel", "ruleFor", "(IIII)I"⟩ ∈ GW := GW_at (i := 26) (by decide +kernel) (by decide +kernel)
theorem kp_27 : Cond.selects "DangerTablesModel" ⟨"DangerTablesModel", "isLimited", "(I)Z"⟩ ⟨"DangerTablesModel", "isLimited", "(I)Z"⟩ ∈ GW := GW_at (i := 27) (by decide +kernel) (by decide +kernel)
theorem kp_28 : Cond.selects "DangerTablesModel" ⟨"DangerTablesModel", "inZone", "(II)I"⟩ ⟨"DangerTablesModel", "inZone", "(II)I"⟩ ∈ GW := GW_at (i := 28) (by decide +kernel) (by decide +kernel)
theorem kp_29 : Cond.selects "DangerTablesModel" ⟨"DangerTablesModel", "inBox", "(II)I"⟩ ⟨"DangerTablesModel", "inBox", "(II)I"⟩ ∈ GW := GW_at (i := 29) (by decide +kernel) (by decide +kernel)
theorem kp_30 : Cond.selects "DangerTablesModel" ⟨"DangerTablesModel", "bars", "(IIII)I"⟩ ⟨"DangerTablesModel", "bars", "(IIII)I"⟩ ∈ GW := GW_at (i := 30) (by decide +kernel) (by decide +kernel)
theorem kp_31 : Cond.selects "DangerTablesModel" ⟨"DangerTablesModel", "wanted", "(I)I"⟩ ⟨"DangerTablesModel", "wanted", "(I)I"⟩ ∈ GW := GW_at (i := 31) (by decide +kernel) (by decide +kernel)
theorem kp_32 : Cond.selects "DangerTablesModel" ⟨"DangerTablesModel", "isNear", "(IIII)Z"⟩ ⟨"DangerTablesModel", "isNear", "(IIII)Z"⟩ ∈ GW := GW_at (i := 32) (by decide +kernel) (by decide +kernel)
theorem k_0 : (Jvm.Cond.initialized "DangerTablesLaw") ∈ GW := GW_at (i := 33) (by decide +kernel) (by decide +kernel)
theorem k_1 : (Jvm.Cond.initialized "DangerTables") ∈ GW := GW_at (i := 34) (by decide +kernel) (by decide +kernel)
theorem k_2 : (Jvm.Cond.initialized "DangerTables$RuleText") ∈ GW := GW_at (i := 35) (by decide +kernel) (by decide +kernel)
theorem k_3 : (Jvm.Cond.initialized "java/util/Arrays") ∈ GW := GW_at (i := 36) (by decide +kernel) (by decide +kernel)
theorem k_4 : (Jvm.Cond.initialized "java/util/AbstractCollection") ∈ GW := GW_at (i := 37) (by decide +kernel) (by decide +kernel)
theorem k_5 : (Jvm.Cond.initialized "java/util/AbstractList") ∈ GW := GW_at (i := 38) (by decide +kernel) (by decide +kernel)
theorem k_6 : (Jvm.Cond.initialized "java/util/ArrayList") ∈ GW := GW_at (i := 39) (by decide +kernel) (by decide +kernel)
theorem k_7 : (Jvm.Cond.initialized "DangerTablesModel") ∈ GW := GW_at (i := 40) (by decide +kernel) (by decide +kernel)
theorem k_8 : (Jvm.Cond.initialized "java/lang/System") ∈ GW := GW_at (i := 41) (by decide +kernel) (by decide +kernel)
theorem k_9 : (Jvm.Cond.initialized "java/lang/Throwable") ∈ GW := GW_at (i := 42) (by decide +kernel) (by decide +kernel)
theorem k_10 : (Jvm.Cond.initialized "java/lang/Exception") ∈ GW := GW_at (i := 43) (by decide +kernel) (by decide +kernel)
theorem k_11 : (Jvm.Cond.initialized "java/lang/RuntimeException") ∈ GW := GW_at (i := 44) (by decide +kernel) (by decide +kernel)
theorem k_12 : (Jvm.Cond.initialized "java/lang/IllegalArgumentException") ∈ GW := GW_at (i := 45) (by decide +kernel) (by decide +kernel)
theorem k_13 : (Jvm.Cond.initialized "java/lang/IllegalStateException") ∈ GW := GW_at (i := 46) (by decide +kernel) (by decide +kernel)
theorem k_14 : (Jvm.Cond.initialized "DangerTables$Good") ∈ GW := GW_at (i := 47) (by decide +kernel) (by decide +kernel)
theorem k_15 : (Jvm.Cond.initialized "jdk/internal/util/ArraysSupport") ∈ GW := GW_at (i := 48) (by decide +kernel) (by decide +kernel)
theorem k_16 : (Jvm.Cond.initialized "java/lang/Math") ∈ GW := GW_at (i := 49) (by decide +kernel) (by decide +kernel)
theorem k_17 : (Jvm.Cond.initialized "java/util/Objects") ∈ GW := GW_at (i := 50) (by decide +kernel) (by decide +kernel)
theorem k_18 : (Jvm.Cond.initialized "jdk/internal/util/Preconditions") ∈ GW := GW_at (i := 51) (by decide +kernel) (by decide +kernel)
theorem k_19 : (Jvm.Cond.initialized "DangerTables$Box") ∈ GW := GW_at (i := 52) (by decide +kernel) (by decide +kernel)
theorem k_20 : (Jvm.Cond.initialized "DangerTables$Part") ∈ GW := GW_at (i := 53) (by decide +kernel) (by decide +kernel)
theorem k_21 : (Jvm.Cond.initialized "java/lang/IndexOutOfBoundsException") ∈ GW := GW_at (i := 54) (by decide +kernel) (by decide +kernel)
theorem k_22 : (Jvm.Cond.classLink "DangerTablesLaw" (8 : Nat) "DangerTables") ∈ GW := GW_at (i := 55) (by decide +kernel) (by decide +kernel)
theorem k_23 : (Jvm.Cond.instantiable "DangerTables" (6 : Nat)) ∈ GW := GW_at (i := 56) (by decide +kernel) (by decide +kernel)
theorem k_24 : (Jvm.Cond.methodLink "DangerTablesLaw" (54 : Nat) ({ cls := "DangerTables", name := "<init>", desc := "()V" } : Jvm.MethodName)) ∈ GW := GW_at (i := 57) (by decide +kernel) (by decide +kernel)
theorem k_25 : (Jvm.Cond.instanceMethod ({ cls := "DangerTables", name := "<init>", desc := "()V" } : Jvm.MethodName)) ∈ GW := GW_at (i := 58) (by decide +kernel) (by decide +kernel)
set_option maxRecDepth 100000 in
theorem k_26 : (Jvm.Cond.code ({ cls := "DangerTables", name := "<init>", desc := "()V" } : Jvm.MethodName) prog_1_method_1_code (2 : Nat) (Option.none : Option Jvm.ClassFile.FieldType)) ∈ GW := GW_at (i := 59) (by rfl) (by decide +kernel)
theorem k_27 : (Jvm.Cond.methodLink "DangerTables" (3 : Nat) ({ cls := "java/lang/Object", name := "<init>", desc := "()V" } : Jvm.MethodName)) ∈ GW := GW_at (i := 60) (by decide +kernel) (by decide +kernel)
theorem k_28 : (Jvm.Cond.instanceMethod ({ cls := "java/lang/Object", name := "<init>", desc := "()V" } : Jvm.MethodName)) ∈ GW := GW_at (i := 61) (by decide +kernel) (by decide +kernel)
set_option maxRecDepth 100000 in
theorem k_29 : (Jvm.Cond.code ({ cls := "java/lang/Object", name := "<init>", desc := "()V" } : Jvm.MethodName) object_method_1_code (1 : Nat) (Option.none : Option Jvm.ClassFile.FieldType)) ∈ GW := GW_at (i := 62) (by rfl) (by decide +kernel)
theorem k_30 : (Jvm.Cond.classLink "DangerTables" (9 : Nat) "DangerTables$RuleText") ∈ GW := GW_at (i := 63) (by decide +kernel) (by decide +kernel)
theorem k_31 : (Jvm.Cond.instantiable "DangerTables$RuleText" (3 : Nat)) ∈ GW := GW_at (i := 64) (by decide +kernel) (by decide +kernel)
theorem k_32 : (Jvm.Cond.methodLink "DangerTables" (11 : Nat) ({ cls := "DangerTables$RuleText", name := "<init>", desc := "()V" } : Jvm.MethodName)) ∈ GW := GW_at (i := 65) (by decide +kernel) (by decide +kernel)
theorem k_33 : (Jvm.Cond.instanceMethod ({ cls := "DangerTables$RuleText", name := "<init>", desc := "()V" } : Jvm.MethodName)) ∈ GW := GW_at (i := 66) (by decide +kernel) (by decide +kernel)
set_option maxRecDepth 100000 in
theorem k_34 : (Jvm.Cond.code ({ cls := "DangerTables$RuleText", name := "<init>", desc := "()V" } : Jvm.MethodName) prog_5_method_1_code (1 : Nat) (Option.none : Option Jvm.ClassFile.FieldType)) ∈ GW := GW_at (i := 67) (by rfl) (by decide +kernel)
theorem k_35 : (Jvm.Cond.methodLink "DangerTables$RuleText" (3 : Nat) ({ cls := "java/lang/Object", name := "<init>", desc := "()V" } : Jvm.MethodName)) ∈ GW := GW_at (i := 68) (by decide +kernel) (by decide +kernel)
theorem k_36 : (Jvm.Cond.fieldLink "DangerTables$RuleText" (9 : Nat) "DangerTables$RuleText" "signs" "[I") ∈ GW := GW_at (i := 69) (by decide +kernel) (by decide +kernel)
theorem k_37 : (Jvm.Cond.fieldLink "DangerTables$RuleText" (18 : Nat) "DangerTables$RuleText" "length" "I") ∈ GW := GW_at (i := 70) (by decide +kernel) (by decide +kernel)
theorem k_39 : (Jvm.Cond.fieldLink "DangerTables$RuleText" (15 : Nat) "DangerTables$RuleText" "found" "[I") ∈ GW := GW_at (i := 72) (by decide +kernel) (by decide +kernel)
theorem k_40 : (Jvm.Cond.laysFinal "DangerTables$RuleText" "DangerTables$RuleText" "signs" "[I") ∈ GW := GW_at (i := 73) (by decide +kernel) (by decide +kernel)
theorem k_42 : (Jvm.Cond.lays "DangerTables$RuleText" "DangerTables$RuleText" "length" "I") ∈ GW := GW_at (i := 75) (by decide +kernel) (by decide +kernel)
theorem k_44 : (Jvm.Cond.laysFinal "DangerTables$RuleText" "DangerTables$RuleText" "found" "[I") ∈ GW := GW_at (i := 77) (by decide +kernel) (by decide +kernel)
theorem k_47 : (Jvm.Cond.arrayClass Jvm.ClassFile.FieldType.int) ∈ GW := GW_at (i := 80) (by decide +kernel) (by decide +kernel)
theorem k_48 : (Jvm.Cond.methodLink "DangerTables" (20 : Nat) ({ cls := "java/util/Arrays", name := "fill", desc := "([II)V" } : Jvm.MethodName)) ∈ GW := GW_at (i := 81) (by decide +kernel) (by decide +kernel)
theorem k_49 : (Jvm.Cond.static ({ cls := "java/util/Arrays", name := "fill", desc := "([II)V" } : Jvm.MethodName)) ∈ GW := GW_at (i := 82) (by decide +kernel) (by decide +kernel)
set_option maxRecDepth 100000 in
theorem k_50 : (Jvm.Cond.code ({ cls := "java/util/Arrays", name := "fill", desc := "([II)V" } : Jvm.MethodName) prog_23_method_103_code (4 : Nat) (Option.none : Option Jvm.ClassFile.FieldType)) ∈ GW := GW_at (i := 83) (by rfl) (by decide +kernel)
theorem k_51 : (Jvm.Cond.classLink "DangerTables" (26 : Nat) "java/util/ArrayList") ∈ GW := GW_at (i := 84) (by decide +kernel) (by decide +kernel)
theorem k_52 : (Jvm.Cond.instantiable "java/util/ArrayList" (3 : Nat)) ∈ GW := GW_at (i := 85) (by decide +kernel) (by decide +kernel)
theorem k_53 : (Jvm.Cond.methodLink "DangerTables" (28 : Nat) ({ cls := "java/util/ArrayList", name := "<init>", desc := "()V" } : Jvm.MethodName)) ∈ GW := GW_at (i := 86) (by decide +kernel) (by decide +kernel)
theorem k_54 : (Jvm.Cond.instanceMethod ({ cls := "java/util/ArrayList", name := "<init>", desc := "()V" } : Jvm.MethodName)) ∈ GW := GW_at (i := 87) (by decide +kernel) (by decide +kernel)
set_option maxRecDepth 100000 in
theorem k_55 : (Jvm.Cond.code ({ cls := "java/util/ArrayList", name := "<init>", desc := "()V" } : Jvm.MethodName) prog_22_method_2_code (1 : Nat) (Option.none : Option Jvm.ClassFile.FieldType)) ∈ GW := GW_at (i := 88) (by rfl) (by decide +kernel)
theorem k_56 : (Jvm.Cond.methodLink "java/util/ArrayList" (1 : Nat) ({ cls := "java/util/AbstractList", name := "<init>", desc := "()V" } : Jvm.MethodName)) ∈ GW := GW_at (i := 89) (by decide +kernel) (by decide +kernel)
theorem k_57 : (Jvm.Cond.instanceMethod ({ cls := "java/util/AbstractList", name := "<init>", desc := "()V" } : Jvm.MethodName)) ∈ GW := GW_at (i := 90) (by decide +kernel) (by decide +kernel)
set_option maxRecDepth 100000 in
theorem k_58 : (Jvm.Cond.code ({ cls := "java/util/AbstractList", name := "<init>", desc := "()V" } : Jvm.MethodName) prog_21_method_1_code (1 : Nat) (Option.none : Option Jvm.ClassFile.FieldType)) ∈ GW := GW_at (i := 91) (by rfl) (by decide +kernel)
theorem k_59 : (Jvm.Cond.methodLink "java/util/AbstractList" (1 : Nat) ({ cls := "java/util/AbstractCollection", name := "<init>", desc := "()V" } : Jvm.MethodName)) ∈ GW := GW_at (i := 92) (by decide +kernel) (by decide +kernel)
theorem k_60 : (Jvm.Cond.instanceMethod ({ cls := "java/util/AbstractCollection", name := "<init>", desc := "()V" } : Jvm.MethodName)) ∈ GW := GW_at (i := 93) (by decide +kernel) (by decide +kernel)
set_option maxRecDepth 100000 in
theorem k_61 : (Jvm.Cond.code ({ cls := "java/util/AbstractCollection", name := "<init>", desc := "()V" } : Jvm.MethodName) prog_20_method_1_code (1 : Nat) (Option.none : Option Jvm.ClassFile.FieldType)) ∈ GW := GW_at (i := 94) (by rfl) (by decide +kernel)
theorem k_62 : (Jvm.Cond.methodLink "java/util/AbstractCollection" (1 : Nat) ({ cls := "java/lang/Object", name := "<init>", desc := "()V" } : Jvm.MethodName)) ∈ GW := GW_at (i := 95) (by decide +kernel) (by decide +kernel)
theorem k_63 : (Jvm.Cond.fieldLink "java/util/ArrayList" (39 : Nat) "java/util/ArrayList" "DEFAULTCAPACITY_EMPTY_ELEMENTDATA" "[Ljava/lang/Object;") ∈ GW := GW_at (i := 96) (by decide +kernel) (by decide +kernel)
theorem k_65 : (Jvm.Cond.fieldLink "java/util/ArrayList" (9 : Nat) "java/util/ArrayList" "elementData" "[Ljava/lang/Object;") ∈ GW := GW_at (i := 98) (by decide +kernel) (by decide +kernel)
theorem k_66 : (Jvm.Cond.fieldLink "java/util/ArrayList" (48 : Nat) "java/util/ArrayList" "size" "I") ∈ GW := GW_at (i := 99) (by decide +kernel) (by decide +kernel)
theorem k_67 : (Jvm.Cond.fieldLink "java/util/AbstractList" (7 : Nat) "java/util/AbstractList" "modCount" "I") ∈ GW := GW_at (i := 100) (by decide +kernel) (by decide +kernel)
theorem k_68 : (Jvm.Cond.fieldLink "java/util/ArrayList" (63 : Nat) "java/util/ArrayList" "modCount" "I") ∈ GW := GW_at (i := 101) (by decide +kernel) (by decide +kernel)
theorem k_69 : (Jvm.Cond.sameField "java/util/ArrayList" "java/util/AbstractList" "modCount" "I") ∈ GW := GW_at (i := 102) (by decide +kernel) (by decide +kernel)
theorem k_70 : (Jvm.Cond.lays "java/util/ArrayList" "java/util/ArrayList" "elementData" "[Ljava/lang/Object;") ∈ GW := GW_at (i := 103) (by decide +kernel) (by decide +kernel)
theorem k_72 : (Jvm.Cond.lays "java/util/ArrayList" "java/util/ArrayList" "size" "I") ∈ GW := GW_at (i := 105) (by decide +kernel) (by decide +kernel)
theorem k_74 : (Jvm.Cond.lays "java/util/ArrayList" "java/util/AbstractList" "modCount" "I") ∈ GW := GW_at (i := 107) (by decide +kernel) (by decide +kernel)
theorem k_77 : (Jvm.Cond.classLink "DangerTables" (36 : Nat) "[[I") ∈ GW := GW_at (i := 110) (by decide +kernel) (by decide +kernel)
theorem k_79 : (Jvm.Cond.constant "DangerTables" (41 : Nat) (100000 : Int32)) ∈ GW := GW_at (i := 112) (by decide +kernel) (by decide +kernel)
theorem k_80 : (Jvm.Cond.fieldLink "DangerTables" (12 : Nat) "DangerTables" "text" "LDangerTables$RuleText;") ∈ GW := GW_at (i := 113) (by decide +kernel) (by decide +kernel)
theorem k_81 : (Jvm.Cond.fieldLink "DangerTables" (16 : Nat) "DangerTables" "rules" "[I") ∈ GW := GW_at (i := 114) (by decide +kernel) (by decide +kernel)
theorem k_82 : (Jvm.Cond.fieldLink "DangerTables" (57 : Nat) "DangerTables" "tableRead" "Z") ∈ GW := GW_at (i := 115) (by decide +kernel) (by decide +kernel)
theorem k_83 : (Jvm.Cond.fieldLink "DangerTables" (29 : Nat) "DangerTables" "goods" "Ljava/util/ArrayList;") ∈ GW := GW_at (i := 116) (by decide +kernel) (by decide +kernel)
theorem k_84 : (Jvm.Cond.fieldLink "DangerTables" (33 : Nat) "DangerTables" "boxes" "Ljava/util/ArrayList;") ∈ GW := GW_at (i := 117) (by decide +kernel) (by decide +kernel)
theorem k_85 : (Jvm.Cond.fieldLink "DangerTables" (38 : Nat) "DangerTables" "zoneMost" "[[I") ∈ GW := GW_at (i := 118) (by decide +kernel) (by decide +kernel)
theorem k_86 : (Jvm.Cond.laysFinal "DangerTables" "DangerTables" "text" "LDangerTables$RuleText;") ∈ GW := GW_at (i := 119) (by decide +kernel) (by decide +kernel)
theorem k_88 : (Jvm.Cond.laysFinal "DangerTables" "DangerTables" "rules" "[I") ∈ GW := GW_at (i := 121) (by decide +kernel) (by decide +kernel)
theorem k_90 : (Jvm.Cond.lays "DangerTables" "DangerTables" "tableRead" "Z") ∈ GW := GW_at (i := 123) (by decide +kernel) (by decide +kernel)
theorem k_92 : (Jvm.Cond.laysFinal "DangerTables" "DangerTables" "goods" "Ljava/util/ArrayList;") ∈ GW := GW_at (i := 125) (by decide +kernel) (by decide +kernel)
theorem k_94 : (Jvm.Cond.laysFinal "DangerTables" "DangerTables" "boxes" "Ljava/util/ArrayList;") ∈ GW := GW_at (i := 127) (by decide +kernel) (by decide +kernel)
theorem k_96 : (Jvm.Cond.laysFinal "DangerTables" "DangerTables" "zoneMost" "[[I") ∈ GW := GW_at (i := 129) (by decide +kernel) (by decide +kernel)
theorem k_99 : (Jvm.Cond.methodLink "DangerTablesLaw" (58 : Nat) ({ cls := "DangerTables", name := "sign", desc := "(I)Z" } : Jvm.MethodName)) ∈ GW := GW_at (i := 132) (by decide +kernel) (by decide +kernel)
theorem k_100 : (Jvm.Cond.instanceMethod ({ cls := "DangerTables", name := "sign", desc := "(I)Z" } : Jvm.MethodName)) ∈ GW := GW_at (i := 133) (by decide +kernel) (by decide +kernel)
theorem k_101 : (Jvm.Cond.selects "DangerTables" ({ cls := "DangerTables", name := "sign", desc := "(I)Z" } : Jvm.MethodName) ({ cls := "DangerTables", name := "sign", desc := "(I)Z" } : Jvm.MethodName)) ∈ GW := GW_at (i := 134) (by decide +kernel) (by decide +kernel)
set_option maxRecDepth 100000 in
theorem k_102 : (Jvm.Cond.code ({ cls := "DangerTables", name := "sign", desc := "(I)Z" } : Jvm.MethodName) prog_1_method_2_code (2 : Nat) (Option.some Jvm.ClassFile.FieldType.boolean)) ∈ GW := GW_at (i := 135) (by rfl) (by decide +kernel)
theorem k_103 : (Jvm.Cond.methodLink "DangerTables" (42 : Nat) ({ cls := "DangerTables$RuleText", name := "append", desc := "(I)Z" } : Jvm.MethodName)) ∈ GW := GW_at (i := 136) (by decide +kernel) (by decide +kernel)
theorem k_104 : (Jvm.Cond.instanceMethod ({ cls := "DangerTables$RuleText", name := "append", desc := "(I)Z" } : Jvm.MethodName)) ∈ GW := GW_at (i := 137) (by decide +kernel) (by decide +kernel)
theorem k_105 : (Jvm.Cond.selects "DangerTables$RuleText" ({ cls := "DangerTables$RuleText", name := "append", desc := "(I)Z" } : Jvm.MethodName) ({ cls := "DangerTables$RuleText", name := "append", desc := "(I)Z" } : Jvm.MethodName)) ∈ GW := GW_at (i := 138) (by decide +kernel) (by decide +kernel)
set_option maxRecDepth 100000 in
theorem k_106 : (Jvm.Cond.code ({ cls := "DangerTables$RuleText", name := "append", desc := "(I)Z" } : Jvm.MethodName) prog_5_method_2_code (3 : Nat) (Option.some Jvm.ClassFile.FieldType.boolean)) ∈ GW := GW_at (i := 139) (by rfl) (by decide +kernel)
theorem k_107 : (Jvm.Cond.methodLink "DangerTablesLaw" (63 : Nat) ({ cls := "DangerTables", name := "read", desc := "()I" } : Jvm.MethodName)) ∈ GW := GW_at (i := 140) (by decide +kernel) (by decide +kernel)
theorem k_108 : (Jvm.Cond.instanceMethod ({ cls := "DangerTables", name := "read", desc := "()I" } : Jvm.MethodName)) ∈ GW := GW_at (i := 141) (by decide +kernel) (by decide +kernel)
theorem k_109 : (Jvm.Cond.selects "DangerTables" ({ cls := "DangerTables", name := "read", desc := "()I" } : Jvm.MethodName) ({ cls := "DangerTables", name := "read", desc := "()I" } : Jvm.MethodName)) ∈ GW := GW_at (i := 142) (by decide +kernel) (by decide +kernel)
set_option maxRecDepth 100000 in
theorem k_110 : (Jvm.Cond.code ({ cls := "DangerTables", name := "read", desc := "()I" } : Jvm.MethodName) prog_1_method_3_code (2 : Nat) (Option.some Jvm.ClassFile.FieldType.int)) ∈ GW := GW_at (i := 143) (by rfl) (by decide +kernel)
theorem k_111 : (Jvm.Cond.methodLink "DangerTables" (46 : Nat) ({ cls := "DangerTables$RuleText", name := "firstWrongPlace", desc := "()I" } : Jvm.MethodName)) ∈ GW := GW_at (i := 144) (by decide +kernel) (by decide +kernel)
theorem k_112 : (Jvm.Cond.instanceMethod ({ cls := "DangerTables$RuleText", name := "firstWrongPlace", desc := "()I" } : Jvm.MethodName)) ∈ GW := GW_at (i := 145) (by decide +kernel) (by decide +kernel)
theorem k_113 : (Jvm.Cond.selects "DangerTables$RuleText" ({ cls := "DangerTables$RuleText", name := "firstWrongPlace", desc := "()I" } : Jvm.MethodName) ({ cls := "DangerTables$RuleText", name := "firstWrongPlace", desc := "()I" } : Jvm.MethodName)) ∈ GW := GW_at (i := 146) (by decide +kernel) (by decide +kernel)
set_option maxRecDepth 100000 in
theorem k_114 : (Jvm.Cond.code ({ cls := "DangerTables$RuleText", name := "firstWrongPlace", desc := "()I" } : Jvm.MethodName) prog_5_method_5_code (3 : Nat) (Option.some Jvm.ClassFile.FieldType.int)) ∈ GW := GW_at (i := 147) (by rfl) (by decide +kernel)
theorem k_115 : (Jvm.Cond.methodLink "DangerTables$RuleText" (28 : Nat) ({ cls := "java/util/Arrays", name := "fill", desc := "([II)V" } : Jvm.MethodName)) ∈ GW := GW_at (i := 148) (by decide +kernel) (by decide +kernel)
theorem k_116 : (Jvm.Cond.methodLink "DangerTables$RuleText" (34 : Nat) ({ cls := "DangerTables$RuleText", name := "firstWrongPlaceOfRow", desc := "(I)I" } : Jvm.MethodName)) ∈ GW := GW_at (i := 149) (by decide +kernel) (by decide +kernel)
theorem k_118 : (Jvm.Cond.instanceMethod ({ cls := "DangerTables$RuleText", name := "firstWrongPlaceOfRow", desc := "(I)I" } : Jvm.MethodName)) ∈ GW := GW_at (i := 151) (by decide +kernel) (by decide +kernel)
set_option maxRecDepth 100000 in
theorem k_119 : (Jvm.Cond.code ({ cls := "DangerTables$RuleText", name := "firstWrongPlaceOfRow", desc := "(I)I" } : Jvm.MethodName) prog_5_method_6_code (5 : Nat) (Option.some Jvm.ClassFile.FieldType.int)) ∈ GW := GW_at (i := 152) (by rfl) (by decide +kernel)
theorem k_120 : (Jvm.Cond.methodLink "DangerTables$RuleText" (38 : Nat) ({ cls := "DangerTables$RuleText", name := "digitAt", desc := "(I)I" } : Jvm.MethodName)) ∈ GW := GW_at (i := 153) (by decide +kernel) (by decide +kernel)
theorem k_122 : (Jvm.Cond.instanceMethod ({ cls := "DangerTables$RuleText", name := "digitAt", desc := "(I)I" } : Jvm.MethodName)) ∈ GW := GW_at (i := 155) (by decide +kernel) (by decide +kernel)
set_option maxRecDepth 100000 in
theorem k_123 : (Jvm.Cond.code ({ cls := "DangerTables$RuleText", name := "digitAt", desc := "(I)I" } : Jvm.MethodName) prog_5_method_7_code (2 : Nat) (Option.some Jvm.ClassFile.FieldType.int)) ∈ GW := GW_at (i := 156) (by rfl) (by decide +kernel)
theorem k_125 : (Jvm.Cond.static ({ cls := "DangerTables", name := "isClass", desc := "(I)Z" } : Jvm.MethodName)) ∈ GW := GW_at (i := 158) (by decide +kernel) (by decide +kernel)
set_option maxRecDepth 100000 in
theorem k_126 : (Jvm.Cond.code ({ cls := "DangerTables", name := "isClass", desc := "(I)Z" } : Jvm.MethodName) prog_1_method_19_code (1 : Nat) (Option.some Jvm.ClassFile.FieldType.boolean)) ∈ GW := GW_at (i := 159) (by rfl) (by decide +kernel)
theorem k_128 : (Jvm.Cond.static ({ cls := "DangerTables", name := "pairNumber", desc := "(II)I" } : Jvm.MethodName)) ∈ GW := GW_at (i := 161) (by decide +kernel) (by decide +kernel)
set_option maxRecDepth 100000 in
theorem k_129 : (Jvm.Cond.code ({ cls := "DangerTables", name := "pairNumber", desc := "(II)I" } : Jvm.MethodName) prog_1_method_27_code (4 : Nat) (Option.some Jvm.ClassFile.FieldType.int)) ∈ GW := GW_at (i := 162) (by rfl) (by decide +kernel)
theorem k_130 : (Jvm.Cond.methodLink "DangerTables" (50 : Nat) ({ cls := "DangerTables$RuleText", name := "drop", desc := "()V" } : Jvm.MethodName)) ∈ GW := GW_at (i := 163) (by decide +kernel) (by decide +kernel)
theorem k_131 : (Jvm.Cond.instanceMethod ({ cls := "DangerTables$RuleText", name := "drop", desc := "()V" } : Jvm.MethodName)) ∈ GW := GW_at (i := 164) (by decide +kernel) (by decide +kernel)
theorem k_132 : (Jvm.Cond.selects "DangerTables$RuleText" ({ cls := "DangerTables$RuleText", name := "drop", desc := "()V" } : Jvm.MethodName) ({ cls := "DangerTables$RuleText", name := "drop", desc := "()V" } : Jvm.MethodName)) ∈ GW := GW_at (i := 165) (by decide +kernel) (by decide +kernel)
set_option maxRecDepth 100000 in
theorem k_133 : (Jvm.Cond.code ({ cls := "DangerTables$RuleText", name := "drop", desc := "()V" } : Jvm.MethodName) prog_5_method_3_code (1 : Nat) (Option.none : Option Jvm.ClassFile.FieldType)) ∈ GW := GW_at (i := 166) (by rfl) (by decide +kernel)
theorem k_134 : (Jvm.Cond.methodLink "DangerTables" (53 : Nat) ({ cls := "DangerTables$RuleText", name := "copyRulesTo", desc := "([I)V" } : Jvm.MethodName)) ∈ GW := GW_at (i := 167) (by decide +kernel) (by decide +kernel)
theorem k_135 : (Jvm.Cond.instanceMethod ({ cls := "DangerTables$RuleText", name := "copyRulesTo", desc := "([I)V" } : Jvm.MethodName)) ∈ GW := GW_at (i := 168) (by decide +kernel) (by decide +kernel)
theorem k_136 : (Jvm.Cond.selects "DangerTables$RuleText" ({ cls := "DangerTables$RuleText", name := "copyRulesTo", desc := "([I)V" } : Jvm.MethodName) ({ cls := "DangerTables$RuleText", name := "copyRulesTo", desc := "([I)V" } : Jvm.MethodName)) ∈ GW := GW_at (i := 169) (by decide +kernel) (by decide +kernel)
set_option maxRecDepth 100000 in
theorem k_137 : (Jvm.Cond.code ({ cls := "DangerTables$RuleText", name := "copyRulesTo", desc := "([I)V" } : Jvm.MethodName) prog_5_method_4_code (2 : Nat) (Option.none : Option Jvm.ClassFile.FieldType)) ∈ GW := GW_at (i := 170) (by rfl) (by decide +kernel)
theorem k_138 : (Jvm.Cond.methodLink "DangerTables$RuleText" (22 : Nat) ({ cls := "java/lang/System", name := "arraycopy", desc := "(Ljava/lang/Object;ILjava/lang/Object;II)V" } : Jvm.MethodName)) ∈ GW := GW_at (i := 171) (by decide +kernel) (by decide +kernel)
theorem k_139 : (Jvm.Cond.static ({ cls := "java/lang/System", name := "arraycopy", desc := "(Ljava/lang/Object;ILjava/lang/Object;II)V" } : Jvm.MethodName)) ∈ GW := GW_at (i := 172) (by decide +kernel) (by decide +kernel)
theorem k_140 : (Jvm.Cond.native ({ cls := "java/lang/System", name := "arraycopy", desc := "(Ljava/lang/Object;ILjava/lang/Object;II)V" } : Jvm.MethodName)) ∈ GW := GW_at (i := 173) (by decide +kernel) (by decide +kernel)
theorem k_141 : (Jvm.Cond.methodLink "DangerTablesLaw" (81 : Nat) ({ cls := "DangerTables", name := "exempt", desc := "(III)Z" } : Jvm.MethodName)) ∈ GW := GW_at (i := 174) (by decide +kernel) (by decide +kernel)
theorem k_142 : (Jvm.Cond.instanceMethod ({ cls := "DangerTables", name := "exempt", desc := "(III)Z" } : Jvm.MethodName)) ∈ GW := GW_at (i := 175) (by decide +kernel) (by decide +kernel)
theorem k_143 : (Jvm.Cond.selects "DangerTables" ({ cls := "DangerTables", name := "exempt", desc := "(III)Z" } : Jvm.MethodName) ({ cls := "DangerTables", name := "exempt", desc := "(III)Z" } : Jvm.MethodName)) ∈ GW := GW_at (i := 176) (by decide +kernel) (by decide +kernel)
set_option maxRecDepth 100000 in
theorem k_144 : (Jvm.Cond.code ({ cls := "DangerTables", name := "exempt", desc := "(III)Z" } : Jvm.MethodName) prog_1_method_6_code (4 : Nat) (Option.some Jvm.ClassFile.FieldType.boolean)) ∈ GW := GW_at (i := 177) (by rfl) (by decide +kernel)
theorem k_145 : (Jvm.Cond.methodLink "DangerTables" (104 : Nat) ({ cls := "DangerTables", name := "isGood", desc := "(I)Z" } : Jvm.MethodName)) ∈ GW := GW_at (i := 178) (by decide +kernel) (by decide +kernel)
theorem k_147 : (Jvm.Cond.instanceMethod ({ cls := "DangerTables", name := "isGood", desc := "(I)Z" } : Jvm.MethodName)) ∈ GW := GW_at (i := 180) (by decide +kernel) (by decide +kernel)
set_option maxRecDepth 100000 in
theorem k_148 : (Jvm.Cond.code ({ cls := "DangerTables", name := "isGood", desc := "(I)Z" } : Jvm.MethodName) prog_1_method_24_code (2 : Nat) (Option.some Jvm.ClassFile.FieldType.boolean)) ∈ GW := GW_at (i := 181) (by rfl) (by decide +kernel)
theorem k_149 : (Jvm.Cond.methodLink "DangerTables" (83 : Nat) ({ cls := "java/util/ArrayList", name := "size", desc := "()I" } : Jvm.MethodName)) ∈ GW := GW_at (i := 182) (by decide +kernel) (by decide +kernel)
theorem k_150 : (Jvm.Cond.instanceMethod ({ cls := "java/util/ArrayList", name := "size", desc := "()I" } : Jvm.MethodName)) ∈ GW := GW_at (i := 183) (by decide +kernel) (by decide +kernel)
theorem k_151 : (Jvm.Cond.selects "java/util/ArrayList" ({ cls := "java/util/ArrayList", name := "size", desc := "()I" } : Jvm.MethodName) ({ cls := "java/util/ArrayList", name := "size", desc := "()I" } : Jvm.MethodName)) ∈ GW := GW_at (i := 184) (by decide +kernel) (by decide +kernel)
set_option maxRecDepth 100000 in
theorem k_152 : (Jvm.Cond.code ({ cls := "java/util/ArrayList", name := "size", desc := "()I" } : Jvm.MethodName) prog_22_method_8_code (1 : Nat) (Option.some Jvm.ClassFile.FieldType.int)) ∈ GW := GW_at (i := 185) (by rfl) (by decide +kernel)
theorem k_153 : (Jvm.Cond.methodLink "DangerTables" (61 : Nat) ({ cls := "DangerTables", name := "isClass", desc := "(I)Z" } : Jvm.MethodName)) ∈ GW := GW_at (i := 186) (by decide +kernel) (by decide +kernel)
theorem k_154 : (Jvm.Cond.methodLink "DangerTables" (107 : Nat) ({ cls := "java/util/ArrayList", name := "get", desc := "(I)Ljava/lang/Object;" } : Jvm.MethodName)) ∈ GW := GW_at (i := 187) (by decide +kernel) (by decide +kernel)
theorem k_155 : (Jvm.Cond.instanceMethod ({ cls := "java/util/ArrayList", name := "get", desc := "(I)Ljava/lang/Object;" } : Jvm.MethodName)) ∈ GW := GW_at (i := 188) (by decide +kernel) (by decide +kernel)
theorem k_156 : (Jvm.Cond.selects "java/util/ArrayList" ({ cls := "java/util/ArrayList", name := "get", desc := "(I)Ljava/lang/Object;" } : Jvm.MethodName) ({ cls := "java/util/ArrayList", name := "get", desc := "(I)Ljava/lang/Object;" } : Jvm.MethodName)) ∈ GW := GW_at (i := 189) (by decide +kernel) (by decide +kernel)
set_option maxRecDepth 100000 in
theorem k_157 : (Jvm.Cond.code ({ cls := "java/util/ArrayList", name := "get", desc := "(I)Ljava/lang/Object;" } : Jvm.MethodName) prog_22_method_20_code (2 : Nat) (Option.some (Jvm.ClassFile.FieldType.object "java/lang/Object"))) ∈ GW := GW_at (i := 190) (by rfl) (by decide +kernel)
theorem k_158 : (Jvm.Cond.methodLink "java/util/ArrayList" (118 : Nat) ({ cls := "java/util/Objects", name := "checkIndex", desc := "(II)I" } : Jvm.MethodName)) ∈ GW := GW_at (i := 191) (by decide +kernel) (by decide +kernel)
theorem k_159 : (Jvm.Cond.static ({ cls := "java/util/Objects", name := "checkIndex", desc := "(II)I" } : Jvm.MethodName)) ∈ GW := GW_at (i := 192) (by decide +kernel) (by decide +kernel)
set_option maxRecDepth 100000 in
theorem k_160 : (Jvm.Cond.code ({ cls := "java/util/Objects", name := "checkIndex", desc := "(II)I" } : Jvm.MethodName) prog_26_method_17_code (2 : Nat) (Option.some Jvm.ClassFile.FieldType.int)) ∈ GW := GW_at (i := 193) (by rfl) (by decide +kernel)
theorem k_161 : (Jvm.Cond.methodLink "java/util/Objects" (105 : Nat) ({ cls := "jdk/internal/util/Preconditions", name := "checkIndex", desc := "(IILjava/util/function/BiFunction;)I" } : Jvm.MethodName)) ∈ GW := GW_at (i := 194) (by decide +kernel) (by decide +kernel)
theorem k_162 : (Jvm.Cond.static ({ cls := "jdk/internal/util/Preconditions", name := "checkIndex", desc := "(IILjava/util/function/BiFunction;)I" } : Jvm.MethodName)) ∈ GW := GW_at (i := 195) (by decide +kernel) (by decide +kernel)
set_option maxRecDepth 100000 in
theorem k_163 : (Jvm.Cond.code ({ cls := "jdk/internal/util/Preconditions", name := "checkIndex", desc := "(IILjava/util/function/BiFunction;)I" } : Jvm.MethodName) prog_30_method_11_code (3 : Nat) (Option.some Jvm.ClassFile.FieldType.int)) ∈ GW := GW_at (i := 196) (by rfl) (by decide +kernel)
theorem k_164 : (Jvm.Cond.methodLink "java/util/ArrayList" (123 : Nat) ({ cls := "java/util/ArrayList", name := "elementData", desc := "(I)Ljava/lang/Object;" } : Jvm.MethodName)) ∈ GW := GW_at (i := 197) (by decide +kernel) (by decide +kernel)
theorem k_165 : (Jvm.Cond.instanceMethod ({ cls := "java/util/ArrayList", name := "elementData", desc := "(I)Ljava/lang/Object;" } : Jvm.MethodName)) ∈ GW := GW_at (i := 198) (by decide +kernel) (by decide +kernel)
theorem k_166 : (Jvm.Cond.selects "java/util/ArrayList" ({ cls := "java/util/ArrayList", name := "elementData", desc := "(I)Ljava/lang/Object;" } : Jvm.MethodName) ({ cls := "java/util/ArrayList", name := "elementData", desc := "(I)Ljava/lang/Object;" } : Jvm.MethodName)) ∈ GW := GW_at (i := 199) (by decide +kernel) (by decide +kernel)
set_option maxRecDepth 100000 in
theorem k_167 : (Jvm.Cond.code ({ cls := "java/util/ArrayList", name := "elementData", desc := "(I)Ljava/lang/Object;" } : Jvm.MethodName) prog_22_method_18_code (2 : Nat) (Option.some (Jvm.ClassFile.FieldType.object "java/lang/Object"))) ∈ GW := GW_at (i := 200) (by rfl) (by decide +kernel)
theorem k_168 : (Jvm.Cond.classLink "DangerTables" (91 : Nat) "DangerTables$Good") ∈ GW := GW_at (i := 201) (by decide +kernel) (by decide +kernel)
theorem k_169 : (Jvm.Cond.methodLink "DangerTables" (71 : Nat) ({ cls := "DangerTables", name := "pairNumber", desc := "(II)I" } : Jvm.MethodName)) ∈ GW := GW_at (i := 202) (by decide +kernel) (by decide +kernel)
theorem k_170 : (Jvm.Cond.methodLink "DangerTables" (111 : Nat) ({ cls := "DangerTables$Good", name := "addExemption", desc := "(I)Z" } : Jvm.MethodName)) ∈ GW := GW_at (i := 203) (by decide +kernel) (by decide +kernel)
theorem k_171 : (Jvm.Cond.instanceMethod ({ cls := "DangerTables$Good", name := "addExemption", desc := "(I)Z" } : Jvm.MethodName)) ∈ GW := GW_at (i := 204) (by decide +kernel) (by decide +kernel)
theorem k_172 : (Jvm.Cond.selects "DangerTables$Good" ({ cls := "DangerTables$Good", name := "addExemption", desc := "(I)Z" } : Jvm.MethodName) ({ cls := "DangerTables$Good", name := "addExemption", desc := "(I)Z" } : Jvm.MethodName)) ∈ GW := GW_at (i := 205) (by decide +kernel) (by decide +kernel)
set_option maxRecDepth 100000 in
theorem k_173 : (Jvm.Cond.code ({ cls := "DangerTables$Good", name := "addExemption", desc := "(I)Z" } : Jvm.MethodName) prog_3_method_4_code (2 : Nat) (Option.some Jvm.ClassFile.FieldType.boolean)) ∈ GW := GW_at (i := 206) (by rfl) (by decide +kernel)
theorem k_174 : (Jvm.Cond.methodLink "DangerTables$Good" (26 : Nat) ({ cls := "DangerTables$Good", name := "isExempt", desc := "(I)Z" } : Jvm.MethodName)) ∈ GW := GW_at (i := 207) (by decide +kernel) (by decide +kernel)
theorem k_175 : (Jvm.Cond.instanceMethod ({ cls := "DangerTables$Good", name := "isExempt", desc := "(I)Z" } : Jvm.MethodName)) ∈ GW := GW_at (i := 208) (by decide +kernel) (by decide +kernel)
theorem k_176 : (Jvm.Cond.selects "DangerTables$Good" ({ cls := "DangerTables$Good", name := "isExempt", desc := "(I)Z" } : Jvm.MethodName) ({ cls := "DangerTables$Good", name := "isExempt", desc := "(I)Z" } : Jvm.MethodName)) ∈ GW := GW_at (i := 209) (by decide +kernel) (by decide +kernel)
set_option maxRecDepth 100000 in
theorem k_177 : (Jvm.Cond.code ({ cls := "DangerTables$Good", name := "isExempt", desc := "(I)Z" } : Jvm.MethodName) prog_3_method_3_code (2 : Nat) (Option.some Jvm.ClassFile.FieldType.boolean)) ∈ GW := GW_at (i := 210) (by rfl) (by decide +kernel)
theorem k_178 : (Jvm.Cond.methodLink "DangerTablesLaw" (98 : Nat) ({ cls := "DangerTables", name := "most", desc := "(III)Z" } : Jvm.MethodName)) ∈ GW := GW_at (i := 211) (by decide +kernel) (by decide +kernel)
theorem k_179 : (Jvm.Cond.instanceMethod ({ cls := "DangerTables", name := "most", desc := "(III)Z" } : Jvm.MethodName)) ∈ GW := GW_at (i := 212) (by decide +kernel) (by decide +kernel)
theorem k_180 : (Jvm.Cond.selects "DangerTables" ({ cls := "DangerTables", name := "most", desc := "(III)Z" } : Jvm.MethodName) ({ cls := "DangerTables", name := "most", desc := "(III)Z" } : Jvm.MethodName)) ∈ GW := GW_at (i := 213) (by decide +kernel) (by decide +kernel)
set_option maxRecDepth 100000 in
theorem k_181 : (Jvm.Cond.code ({ cls := "DangerTables", name := "most", desc := "(III)Z" } : Jvm.MethodName) prog_1_method_11_code (4 : Nat) (Option.some Jvm.ClassFile.FieldType.boolean)) ∈ GW := GW_at (i := 214) (by rfl) (by decide +kernel)
theorem k_182 : (Jvm.Cond.methodLink "DangerTables" (160 : Nat) ({ cls := "DangerTables", name := "isZone", desc := "(I)Z" } : Jvm.MethodName)) ∈ GW := GW_at (i := 215) (by decide +kernel) (by decide +kernel)
theorem k_183 : (Jvm.Cond.static ({ cls := "DangerTables", name := "isZone", desc := "(I)Z" } : Jvm.MethodName)) ∈ GW := GW_at (i := 216) (by decide +kernel) (by decide +kernel)
set_option maxRecDepth 100000 in
theorem k_184 : (Jvm.Cond.code ({ cls := "DangerTables", name := "isZone", desc := "(I)Z" } : Jvm.MethodName) prog_1_method_22_code (1 : Nat) (Option.some Jvm.ClassFile.FieldType.boolean)) ∈ GW := GW_at (i := 217) (by rfl) (by decide +kernel)
theorem k_185 : (Jvm.Cond.methodLink "DangerTablesLaw" (113 : Nat) ({ cls := "DangerTables", name := "paper", desc := "(II)Z" } : Jvm.MethodName)) ∈ GW := GW_at (i := 218) (by decide +kernel) (by decide +kernel)
theorem k_186 : (Jvm.Cond.instanceMethod ({ cls := "DangerTables", name := "paper", desc := "(II)Z" } : Jvm.MethodName)) ∈ GW := GW_at (i := 219) (by decide +kernel) (by decide +kernel)
theorem k_187 : (Jvm.Cond.selects "DangerTables" ({ cls := "DangerTables", name := "paper", desc := "(II)Z" } : Jvm.MethodName) ({ cls := "DangerTables", name := "paper", desc := "(II)Z" } : Jvm.MethodName)) ∈ GW := GW_at (i := 220) (by decide +kernel) (by decide +kernel)
set_option maxRecDepth 100000 in
theorem k_188 : (Jvm.Cond.code ({ cls := "DangerTables", name := "paper", desc := "(II)Z" } : Jvm.MethodName) prog_1_method_15_code (3 : Nat) (Option.some Jvm.ClassFile.FieldType.boolean)) ∈ GW := GW_at (i := 221) (by rfl) (by decide +kernel)
theorem k_189 : (Jvm.Cond.methodLink "DangerTables" (127 : Nat) ({ cls := "DangerTables", name := "isBox", desc := "(I)Z" } : Jvm.MethodName)) ∈ GW := GW_at (i := 222) (by decide +kernel) (by decide +kernel)
theorem k_191 : (Jvm.Cond.instanceMethod ({ cls := "DangerTables", name := "isBox", desc := "(I)Z" } : Jvm.MethodName)) ∈ GW := GW_at (i := 224) (by decide +kernel) (by decide +kernel)
set_option maxRecDepth 100000 in
theorem k_192 : (Jvm.Cond.code ({ cls := "DangerTables", name := "isBox", desc := "(I)Z" } : Jvm.MethodName) prog_1_method_25_code (2 : Nat) (Option.some Jvm.ClassFile.FieldType.boolean)) ∈ GW := GW_at (i := 225) (by rfl) (by decide +kernel)
theorem k_193 : (Jvm.Cond.classLink "DangerTables" (121 : Nat) "DangerTables$Box") ∈ GW := GW_at (i := 226) (by decide +kernel) (by decide +kernel)
theorem k_194 : (Jvm.Cond.methodLink "DangerTables" (189 : Nat) ({ cls := "DangerTables$Box", name := "tell", desc := "(I)Z" } : Jvm.MethodName)) ∈ GW := GW_at (i := 227) (by decide +kernel) (by decide +kernel)
theorem k_195 : (Jvm.Cond.instanceMethod ({ cls := "DangerTables$Box", name := "tell", desc := "(I)Z" } : Jvm.MethodName)) ∈ GW := GW_at (i := 228) (by decide +kernel) (by decide +kernel)
theorem k_196 : (Jvm.Cond.selects "DangerTables$Box" ({ cls := "DangerTables$Box", name := "tell", desc := "(I)Z" } : Jvm.MethodName) ({ cls := "DangerTables$Box", name := "tell", desc := "(I)Z" } : Jvm.MethodName)) ∈ GW := GW_at (i := 229) (by decide +kernel) (by decide +kernel)
set_option maxRecDepth 100000 in
theorem k_197 : (Jvm.Cond.code ({ cls := "DangerTables$Box", name := "tell", desc := "(I)Z" } : Jvm.MethodName) prog_2_method_11_code (2 : Nat) (Option.some Jvm.ClassFile.FieldType.boolean)) ∈ GW := GW_at (i := 230) (by rfl) (by decide +kernel)
theorem k_198 : (Jvm.Cond.methodLink "DangerTablesLaw" (124 : Nat) ({ cls := "DangerTables", name := "count", desc := "(I)I" } : Jvm.MethodName)) ∈ GW := GW_at (i := 231) (by decide +kernel) (by decide +kernel)
theorem k_199 : (Jvm.Cond.instanceMethod ({ cls := "DangerTables", name := "count", desc := "(I)I" } : Jvm.MethodName)) ∈ GW := GW_at (i := 232) (by decide +kernel) (by decide +kernel)
theorem k_200 : (Jvm.Cond.selects "DangerTables" ({ cls := "DangerTables", name := "count", desc := "(I)I" } : Jvm.MethodName) ({ cls := "DangerTables", name := "count", desc := "(I)I" } : Jvm.MethodName)) ∈ GW := GW_at (i := 233) (by decide +kernel) (by decide +kernel)
set_option maxRecDepth 100000 in
theorem k_201 : (Jvm.Cond.code ({ cls := "DangerTables", name := "count", desc := "(I)I" } : Jvm.MethodName) prog_1_method_18_code (2 : Nat) (Option.some Jvm.ClassFile.FieldType.int)) ∈ GW := GW_at (i := 234) (by rfl) (by decide +kernel)
theorem k_202 : (Jvm.Cond.methodLink "DangerTables" (218 : Nat) ({ cls := "DangerTables", name := "lyingCount", desc := "()I" } : Jvm.MethodName)) ∈ GW := GW_at (i := 235) (by decide +kernel) (by decide +kernel)
theorem k_204 : (Jvm.Cond.instanceMethod ({ cls := "DangerTables", name := "lyingCount", desc := "()I" } : Jvm.MethodName)) ∈ GW := GW_at (i := 237) (by decide +kernel) (by decide +kernel)
set_option maxRecDepth 100000 in
theorem k_205 : (Jvm.Cond.code ({ cls := "DangerTables", name := "lyingCount", desc := "()I" } : Jvm.MethodName) prog_1_method_33_code (3 : Nat) (Option.some Jvm.ClassFile.FieldType.int)) ∈ GW := GW_at (i := 238) (by rfl) (by decide +kernel)
theorem k_206 : (Jvm.Cond.methodLink "DangerTables" (137 : Nat) ({ cls := "DangerTables$Box", name := "lies", desc := "()Z" } : Jvm.MethodName)) ∈ GW := GW_at (i := 239) (by decide +kernel) (by decide +kernel)
theorem k_207 : (Jvm.Cond.instanceMethod ({ cls := "DangerTables$Box", name := "lies", desc := "()Z" } : Jvm.MethodName)) ∈ GW := GW_at (i := 240) (by decide +kernel) (by decide +kernel)
theorem k_208 : (Jvm.Cond.selects "DangerTables$Box" ({ cls := "DangerTables$Box", name := "lies", desc := "()Z" } : Jvm.MethodName) ({ cls := "DangerTables$Box", name := "lies", desc := "()Z" } : Jvm.MethodName)) ∈ GW := GW_at (i := 241) (by decide +kernel) (by decide +kernel)
set_option maxRecDepth 100000 in
theorem k_209 : (Jvm.Cond.code ({ cls := "DangerTables$Box", name := "lies", desc := "()Z" } : Jvm.MethodName) prog_2_method_5_code (1 : Nat) (Option.some Jvm.ClassFile.FieldType.boolean)) ∈ GW := GW_at (i := 242) (by rfl) (by decide +kernel)
theorem k_210 : (Jvm.Cond.methodLink "DangerTablesLaw" (68 : Nat) ({ cls := "DangerTablesLaw", name := "rule", desc := "(LDangerTables;II[J)I" } : Jvm.MethodName)) ∈ GW := GW_at (i := 243) (by decide +kernel) (by decide +kernel)
theorem k_211 : (Jvm.Cond.static ({ cls := "DangerTablesLaw", name := "rule", desc := "(LDangerTables;II[J)I" } : Jvm.MethodName)) ∈ GW := GW_at (i := 244) (by decide +kernel) (by decide +kernel)
set_option maxRecDepth 100000 in
theorem k_212 : (Jvm.Cond.codeWith ({ cls := "DangerTablesLaw", name := "rule", desc := "(LDangerTables;II[J)I" } : Jvm.MethodName) method_3_code (5 : Nat) (Option.some Jvm.ClassFile.FieldType.int) [((0 : Nat), (10 : Nat), (13 : Nat), (13 : Nat))]) ∈ GW := GW_at (i := 245) (by rfl) (by decide +kernel)
theorem k_213 : (Jvm.Cond.classLink "DangerTablesLaw" (13 : Nat) "java/lang/IllegalArgumentException") ∈ GW := GW_at (i := 246) (by decide +kernel) (by decide +kernel)
theorem k_214 : (Jvm.Cond.methodLink "DangerTablesLaw" (7 : Nat) ({ cls := "DangerTables", name := "rule", desc := "(II)I" } : Jvm.MethodName)) ∈ GW := GW_at (i := 247) (by decide +kernel) (by decide +kernel)
theorem k_215 : (Jvm.Cond.instanceMethod ({ cls := "DangerTables", name := "rule", desc := "(II)I" } : Jvm.MethodName)) ∈ GW := GW_at (i := 248) (by decide +kernel) (by decide +kernel)
theorem k_216 : (Jvm.Cond.selects "DangerTables" ({ cls := "DangerTables", name := "rule", desc := "(II)I" } : Jvm.MethodName) ({ cls := "DangerTables", name := "rule", desc := "(II)I" } : Jvm.MethodName)) ∈ GW := GW_at (i := 249) (by decide +kernel) (by decide +kernel)
set_option maxRecDepth 100000 in
theorem k_217 : (Jvm.Cond.code ({ cls := "DangerTables", name := "rule", desc := "(II)I" } : Jvm.MethodName) prog_1_method_4_code (3 : Nat) (Option.some Jvm.ClassFile.FieldType.int)) ∈ GW := GW_at (i := 250) (by rfl) (by decide +kernel)
theorem k_218 : (Jvm.Cond.classLink "DangerTables" (64 : Nat) "java/lang/IllegalArgumentException") ∈ GW := GW_at (i := 251) (by decide +kernel) (by decide +kernel)
theorem k_219 : (Jvm.Cond.instantiable "java/lang/IllegalArgumentException" (6 : Nat)) ∈ GW := GW_at (i := 252) (by decide +kernel) (by decide +kernel)
theorem k_227 : (Jvm.Cond.selects "java/lang/IllegalArgumentException" ({ cls := "java/lang/Throwable", name := "fillInStackTrace", desc := "(I)Ljava/lang/Throwable;" } : Jvm.MethodName) ({ cls := "java/lang/Throwable", name := "fillInStackTrace", desc := "(I)Ljava/lang/Throwable;" } : Jvm.MethodName)) ∈ GW := GW_at (i := 260) (by decide +kernel) (by decide +kernel)
theorem k_228 : (Jvm.Cond.selects "java/lang/IllegalArgumentException" ({ cls := "java/lang/Throwable", name := "fillInStackTrace", desc := "()Ljava/lang/Throwable;" } : Jvm.MethodName) ({ cls := "java/lang/Throwable", name := "fillInStackTrace", desc := "()Ljava/lang/Throwable;" } : Jvm.MethodName)) ∈ GW := GW_at (i := 261) (by decide +kernel) (by decide +kernel)
theorem k_241 : (Jvm.Cond.instanceMethod ({ cls := "java/lang/Throwable", name := "<init>", desc := "()V" } : Jvm.MethodName)) ∈ GW := GW_at (i := 274) (by decide +kernel) (by decide +kernel)
theorem k_243 : (Jvm.Cond.methodLink "java/lang/Throwable" (1 : Nat) ({ cls := "java/lang/Object", name := "<init>", desc := "()V" } : Jvm.MethodName)) ∈ GW := GW_at (i := 276) (by decide +kernel) (by decide +kernel)
theorem k_248 : (Jvm.Cond.methodLink "java/lang/Throwable" (27 : Nat) ({ cls := "java/lang/Throwable", name := "fillInStackTrace", desc := "()Ljava/lang/Throwable;" } : Jvm.MethodName)) ∈ GW := GW_at (i := 281) (by decide +kernel) (by decide +kernel)
theorem k_249 : (Jvm.Cond.instanceMethod ({ cls := "java/lang/Throwable", name := "fillInStackTrace", desc := "()Ljava/lang/Throwable;" } : Jvm.MethodName)) ∈ GW := GW_at (i := 282) (by decide +kernel) (by decide +kernel)
theorem k_250 : (Jvm.Cond.sameMethod "java/lang/Throwable" "java/lang/Throwable" "fillInStackTrace" "()Ljava/lang/Throwable;") ∈ GW := GW_at (i := 283) (by decide +kernel) (by decide +kernel)
theorem k_251 : (Jvm.Cond.selects "java/lang/IllegalStateException" ({ cls := "java/lang/Throwable", name := "fillInStackTrace", desc := "()Ljava/lang/Throwable;" } : Jvm.MethodName) ({ cls := "java/lang/Throwable", name := "fillInStackTrace", desc := "()Ljava/lang/Throwable;" } : Jvm.MethodName)) ∈ GW := GW_at (i := 284) (by decide +kernel) (by decide +kernel)
theorem k_252 : (Jvm.Cond.selects "java/lang/IndexOutOfBoundsException" ({ cls := "java/lang/Throwable", name := "fillInStackTrace", desc := "()Ljava/lang/Throwable;" } : Jvm.MethodName) ({ cls := "java/lang/Throwable", name := "fillInStackTrace", desc := "()Ljava/lang/Throwable;" } : Jvm.MethodName)) ∈ GW := GW_at (i := 285) (by decide +kernel) (by decide +kernel)
theorem k_254 : (Jvm.Cond.methodLink "java/lang/Throwable" (202 : Nat) ({ cls := "java/lang/Throwable", name := "fillInStackTrace", desc := "(I)Ljava/lang/Throwable;" } : Jvm.MethodName)) ∈ GW := GW_at (i := 287) (by decide +kernel) (by decide +kernel)
theorem k_256 : (Jvm.Cond.instanceMethod ({ cls := "java/lang/Throwable", name := "fillInStackTrace", desc := "(I)Ljava/lang/Throwable;" } : Jvm.MethodName)) ∈ GW := GW_at (i := 289) (by decide +kernel) (by decide +kernel)
theorem k_257 : (Jvm.Cond.instantiable "java/lang/Throwable" (6 : Nat)) ∈ GW := GW_at (i := 290) (by decide +kernel) (by decide +kernel)
theorem k_258 : (Jvm.Cond.native ({ cls := "java/lang/Throwable", name := "fillInStackTrace", desc := "(I)Ljava/lang/Throwable;" } : Jvm.MethodName)) ∈ GW := GW_at (i := 291) (by decide +kernel) (by decide +kernel)
theorem k_260 : (Jvm.Cond.methodLink "DangerTables" (68 : Nat) ({ cls := "java/lang/IllegalArgumentException", name := "<init>", desc := "(Ljava/lang/String;)V" } : Jvm.MethodName)) ∈ GW := GW_at (i := 293) (by decide +kernel) (by decide +kernel)
theorem k_261 : (Jvm.Cond.instanceMethod ({ cls := "java/lang/IllegalArgumentException", name := "<init>", desc := "(Ljava/lang/String;)V" } : Jvm.MethodName)) ∈ GW := GW_at (i := 294) (by decide +kernel) (by decide +kernel)
theorem k_263 : (Jvm.Cond.methodLink "java/lang/IllegalArgumentException" (7 : Nat) ({ cls := "java/lang/RuntimeException", name := "<init>", desc := "(Ljava/lang/String;)V" } : Jvm.MethodName)) ∈ GW := GW_at (i := 296) (by decide +kernel) (by decide +kernel)
theorem k_264 : (Jvm.Cond.instanceMethod ({ cls := "java/lang/RuntimeException", name := "<init>", desc := "(Ljava/lang/String;)V" } : Jvm.MethodName)) ∈ GW := GW_at (i := 297) (by decide +kernel) (by decide +kernel)
theorem k_266 : (Jvm.Cond.methodLink "java/lang/RuntimeException" (7 : Nat) ({ cls := "java/lang/Exception", name := "<init>", desc := "(Ljava/lang/String;)V" } : Jvm.MethodName)) ∈ GW := GW_at (i := 299) (by decide +kernel) (by decide +kernel)
theorem k_267 : (Jvm.Cond.instanceMethod ({ cls := "java/lang/Exception", name := "<init>", desc := "(Ljava/lang/String;)V" } : Jvm.MethodName)) ∈ GW := GW_at (i := 300) (by decide +kernel) (by decide +kernel)
theorem k_269 : (Jvm.Cond.methodLink "java/lang/Exception" (7 : Nat) ({ cls := "java/lang/Throwable", name := "<init>", desc := "(Ljava/lang/String;)V" } : Jvm.MethodName)) ∈ GW := GW_at (i := 302) (by decide +kernel) (by decide +kernel)
theorem k_270 : (Jvm.Cond.instanceMethod ({ cls := "java/lang/Throwable", name := "<init>", desc := "(Ljava/lang/String;)V" } : Jvm.MethodName)) ∈ GW := GW_at (i := 303) (by decide +kernel) (by decide +kernel)
theorem k_285 : (Jvm.Cond.arrayClass Jvm.ClassFile.FieldType.byte) ∈ GW := GW_at (i := 318) (by decide +kernel) (by decide +kernel)
theorem k_286 : (Jvm.Cond.methodLink "DangerTablesLaw" (77 : Nat) ({ cls := "DangerTablesLaw", name := "good", desc := "(LDangerTables;IIIIZZ[J)I" } : Jvm.MethodName)) ∈ GW := GW_at (i := 319) (by decide +kernel) (by decide +kernel)
theorem k_287 : (Jvm.Cond.static ({ cls := "DangerTablesLaw", name := "good", desc := "(LDangerTables;IIIIZZ[J)I" } : Jvm.MethodName)) ∈ GW := GW_at (i := 320) (by decide +kernel) (by decide +kernel)
set_option maxRecDepth 100000 in
theorem k_288 : (Jvm.Cond.codeWith ({ cls := "DangerTablesLaw", name := "good", desc := "(LDangerTables;IIIIZZ[J)I" } : Jvm.MethodName) method_4_code (9 : Nat) (Option.some Jvm.ClassFile.FieldType.int) [((0 : Nat), (18 : Nat), (21 : Nat), (13 : Nat)), ((0 : Nat), (18 : Nat), (25 : Nat), (19 : Nat))]) ∈ GW := GW_at (i := 321) (by rfl) (by decide +kernel)
theorem k_289 : (Jvm.Cond.classLink "DangerTablesLaw" (19 : Nat) "java/lang/IllegalStateException") ∈ GW := GW_at (i := 322) (by decide +kernel) (by decide +kernel)
theorem k_290 : (Jvm.Cond.methodLink "DangerTablesLaw" (15 : Nat) ({ cls := "DangerTables", name := "good", desc := "(IIIIZZ)I" } : Jvm.MethodName)) ∈ GW := GW_at (i := 323) (by decide +kernel) (by decide +kernel)
theorem k_291 : (Jvm.Cond.instanceMethod ({ cls := "DangerTables", name := "good", desc := "(IIIIZZ)I" } : Jvm.MethodName)) ∈ GW := GW_at (i := 324) (by decide +kernel) (by decide +kernel)
theorem k_292 : (Jvm.Cond.selects "DangerTables" ({ cls := "DangerTables", name := "good", desc := "(IIIIZZ)I" } : Jvm.MethodName) ({ cls := "DangerTables", name := "good", desc := "(IIIIZZ)I" } : Jvm.MethodName)) ∈ GW := GW_at (i := 325) (by decide +kernel) (by decide +kernel)
set_option maxRecDepth 100000 in
theorem k_293 : (Jvm.Cond.code ({ cls := "DangerTables", name := "good", desc := "(IIIIZZ)I" } : Jvm.MethodName) prog_1_method_5_code (7 : Nat) (Option.some Jvm.ClassFile.FieldType.int)) ∈ GW := GW_at (i := 326) (by rfl) (by decide +kernel)
theorem k_294 : (Jvm.Cond.methodLink "DangerTables" (75 : Nat) ({ cls := "DangerTables", name := "isSide", desc := "(II)Z" } : Jvm.MethodName)) ∈ GW := GW_at (i := 327) (by decide +kernel) (by decide +kernel)
theorem k_295 : (Jvm.Cond.static ({ cls := "DangerTables", name := "isSide", desc := "(II)Z" } : Jvm.MethodName)) ∈ GW := GW_at (i := 328) (by decide +kernel) (by decide +kernel)
set_option maxRecDepth 100000 in
theorem k_296 : (Jvm.Cond.code ({ cls := "DangerTables", name := "isSide", desc := "(II)Z" } : Jvm.MethodName) prog_1_method_20_code (2 : Nat) (Option.some Jvm.ClassFile.FieldType.boolean)) ∈ GW := GW_at (i := 329) (by rfl) (by decide +kernel)
theorem k_299 : (Jvm.Cond.classLink "DangerTables" (86 : Nat) "java/lang/IllegalStateException") ∈ GW := GW_at (i := 332) (by decide +kernel) (by decide +kernel)
theorem k_300 : (Jvm.Cond.instantiable "java/lang/IllegalStateException" (6 : Nat)) ∈ GW := GW_at (i := 333) (by decide +kernel) (by decide +kernel)
theorem k_302 : (Jvm.Cond.selects "java/lang/IllegalStateException" ({ cls := "java/lang/Throwable", name := "fillInStackTrace", desc := "(I)Ljava/lang/Throwable;" } : Jvm.MethodName) ({ cls := "java/lang/Throwable", name := "fillInStackTrace", desc := "(I)Ljava/lang/Throwable;" } : Jvm.MethodName)) ∈ GW := GW_at (i := 335) (by decide +kernel) (by decide +kernel)
theorem k_309 : (Jvm.Cond.methodLink "DangerTables" (90 : Nat) ({ cls := "java/lang/IllegalStateException", name := "<init>", desc := "(Ljava/lang/String;)V" } : Jvm.MethodName)) ∈ GW := GW_at (i := 342) (by decide +kernel) (by decide +kernel)
theorem k_310 : (Jvm.Cond.instanceMethod ({ cls := "java/lang/IllegalStateException", name := "<init>", desc := "(Ljava/lang/String;)V" } : Jvm.MethodName)) ∈ GW := GW_at (i := 343) (by decide +kernel) (by decide +kernel)
theorem k_312 : (Jvm.Cond.methodLink "java/lang/IllegalStateException" (7 : Nat) ({ cls := "java/lang/RuntimeException", name := "<init>", desc := "(Ljava/lang/String;)V" } : Jvm.MethodName)) ∈ GW := GW_at (i := 345) (by decide +kernel) (by decide +kernel)
end
section
theorem k_315 : (Jvm.Cond.instantiable "DangerTables$Good" (5 : Nat)) ∈ GW := GW_at (i := 348) (by decide +kernel) (by decide +kernel)
theorem k_316 : (Jvm.Cond.methodLink "DangerTables" (93 : Nat) ({ cls := "DangerTables", name := "fieldsOf", desc := "(IZZ)I" } : Jvm.MethodName)) ∈ GW := GW_at (i := 349) (by decide +kernel) (by decide +kernel)
theorem k_317 : (Jvm.Cond.static ({ cls := "DangerTables", name := "fieldsOf", desc := "(IZZ)I" } : Jvm.MethodName)) ∈ GW := GW_at (i := 350) (by decide +kernel) (by decide +kernel)
set_option maxRecDepth 100000 in
theorem k_318 : (Jvm.Cond.code ({ cls := "DangerTables", name := "fieldsOf", desc := "(IZZ)I" } : Jvm.MethodName) prog_1_method_28_code (4 : Nat) (Option.some Jvm.ClassFile.FieldType.int)) ∈ GW := GW_at (i := 351) (by rfl) (by decide +kernel)
theorem k_319 : (Jvm.Cond.methodLink "DangerTables" (97 : Nat) ({ cls := "DangerTables$Good", name := "<init>", desc := "(IIII)V" } : Jvm.MethodName)) ∈ GW := GW_at (i := 352) (by decide +kernel) (by decide +kernel)
theorem k_320 : (Jvm.Cond.instanceMethod ({ cls := "DangerTables$Good", name := "<init>", desc := "(IIII)V" } : Jvm.MethodName)) ∈ GW := GW_at (i := 353) (by decide +kernel) (by decide +kernel)
set_option maxRecDepth 100000 in
theorem k_321 : (Jvm.Cond.code ({ cls := "DangerTables$Good", name := "<init>", desc := "(IIII)V" } : Jvm.MethodName) prog_3_method_1_code (5 : Nat) (Option.none : Option Jvm.ClassFile.FieldType)) ∈ GW := GW_at (i := 354) (by rfl) (by decide +kernel)
theorem k_322 : (Jvm.Cond.methodLink "DangerTables$Good" (1 : Nat) ({ cls := "java/lang/Object", name := "<init>", desc := "()V" } : Jvm.MethodName)) ∈ GW := GW_at (i := 355) (by decide +kernel) (by decide +kernel)
theorem k_323 : (Jvm.Cond.fieldLink "DangerTables$Good" (7 : Nat) "DangerTables$Good" "cls" "I") ∈ GW := GW_at (i := 356) (by decide +kernel) (by decide +kernel)
theorem k_325 : (Jvm.Cond.fieldLink "DangerTables$Good" (13 : Nat) "DangerTables$Good" "side" "I") ∈ GW := GW_at (i := 358) (by decide +kernel) (by decide +kernel)
theorem k_327 : (Jvm.Cond.fieldLink "DangerTables$Good" (16 : Nat) "DangerTables$Good" "limit" "I") ∈ GW := GW_at (i := 360) (by decide +kernel) (by decide +kernel)
theorem k_329 : (Jvm.Cond.fieldLink "DangerTables$Good" (19 : Nat) "DangerTables$Good" "fields" "I") ∈ GW := GW_at (i := 362) (by decide +kernel) (by decide +kernel)
theorem k_331 : (Jvm.Cond.fieldLink "DangerTables$Good" (22 : Nat) "DangerTables$Good" "exemptPairs" "J") ∈ GW := GW_at (i := 364) (by decide +kernel) (by decide +kernel)
theorem k_332 : (Jvm.Cond.laysFinal "DangerTables$Good" "DangerTables$Good" "cls" "I") ∈ GW := GW_at (i := 365) (by decide +kernel) (by decide +kernel)
theorem k_334 : (Jvm.Cond.laysFinal "DangerTables$Good" "DangerTables$Good" "side" "I") ∈ GW := GW_at (i := 367) (by decide +kernel) (by decide +kernel)
theorem k_336 : (Jvm.Cond.laysFinal "DangerTables$Good" "DangerTables$Good" "limit" "I") ∈ GW := GW_at (i := 369) (by decide +kernel) (by decide +kernel)
theorem k_338 : (Jvm.Cond.laysFinal "DangerTables$Good" "DangerTables$Good" "fields" "I") ∈ GW := GW_at (i := 371) (by decide +kernel) (by decide +kernel)
theorem k_340 : (Jvm.Cond.lays "DangerTables$Good" "DangerTables$Good" "exemptPairs" "J") ∈ GW := GW_at (i := 373) (by decide +kernel) (by decide +kernel)
theorem k_343 : (Jvm.Cond.methodLink "DangerTables" (100 : Nat) ({ cls := "java/util/ArrayList", name := "add", desc := "(Ljava/lang/Object;)Z" } : Jvm.MethodName)) ∈ GW := GW_at (i := 376) (by decide +kernel) (by decide +kernel)
theorem k_344 : (Jvm.Cond.instanceMethod ({ cls := "java/util/ArrayList", name := "add", desc := "(Ljava/lang/Object;)Z" } : Jvm.MethodName)) ∈ GW := GW_at (i := 377) (by decide +kernel) (by decide +kernel)
theorem k_345 : (Jvm.Cond.selects "java/util/ArrayList" ({ cls := "java/util/ArrayList", name := "add", desc := "(Ljava/lang/Object;)Z" } : Jvm.MethodName) ({ cls := "java/util/ArrayList", name := "add", desc := "(Ljava/lang/Object;)Z" } : Jvm.MethodName)) ∈ GW := GW_at (i := 378) (by decide +kernel) (by decide +kernel)
set_option maxRecDepth 100000 in
theorem k_346 : (Jvm.Cond.code ({ cls := "java/util/ArrayList", name := "add", desc := "(Ljava/lang/Object;)Z" } : Jvm.MethodName) prog_22_method_25_code (2 : Nat) (Option.some Jvm.ClassFile.FieldType.boolean)) ∈ GW := GW_at (i := 379) (by rfl) (by decide +kernel)
theorem k_347 : (Jvm.Cond.methodLink "java/util/ArrayList" (131 : Nat) ({ cls := "java/util/ArrayList", name := "add", desc := "(Ljava/lang/Object;[Ljava/lang/Object;I)V" } : Jvm.MethodName)) ∈ GW := GW_at (i := 380) (by decide +kernel) (by decide +kernel)
theorem k_349 : (Jvm.Cond.instanceMethod ({ cls := "java/util/ArrayList", name := "add", desc := "(Ljava/lang/Object;[Ljava/lang/Object;I)V" } : Jvm.MethodName)) ∈ GW := GW_at (i := 382) (by decide +kernel) (by decide +kernel)
set_option maxRecDepth 100000 in
theorem k_350 : (Jvm.Cond.code ({ cls := "java/util/ArrayList", name := "add", desc := "(Ljava/lang/Object;[Ljava/lang/Object;I)V" } : Jvm.MethodName) prog_22_method_24_code (4 : Nat) (Option.none : Option Jvm.ClassFile.FieldType)) ∈ GW := GW_at (i := 383) (by rfl) (by decide +kernel)
theorem k_351 : (Jvm.Cond.methodLink "java/util/ArrayList" (129 : Nat) ({ cls := "java/util/ArrayList", name := "grow", desc := "()[Ljava/lang/Object;" } : Jvm.MethodName)) ∈ GW := GW_at (i := 384) (by decide +kernel) (by decide +kernel)
theorem k_353 : (Jvm.Cond.instanceMethod ({ cls := "java/util/ArrayList", name := "grow", desc := "()[Ljava/lang/Object;" } : Jvm.MethodName)) ∈ GW := GW_at (i := 386) (by decide +kernel) (by decide +kernel)
set_option maxRecDepth 100000 in
theorem k_354 : (Jvm.Cond.code ({ cls := "java/util/ArrayList", name := "grow", desc := "()[Ljava/lang/Object;" } : Jvm.MethodName) prog_22_method_7_code (1 : Nat) (Option.some (Jvm.ClassFile.FieldType.array (Jvm.ClassFile.FieldType.object "java/lang/Object")))) ∈ GW := GW_at (i := 387) (by rfl) (by decide +kernel)
theorem k_355 : (Jvm.Cond.methodLink "java/util/ArrayList" (69 : Nat) ({ cls := "java/util/ArrayList", name := "grow", desc := "(I)[Ljava/lang/Object;" } : Jvm.MethodName)) ∈ GW := GW_at (i := 388) (by decide +kernel) (by decide +kernel)
theorem k_357 : (Jvm.Cond.instanceMethod ({ cls := "java/util/ArrayList", name := "grow", desc := "(I)[Ljava/lang/Object;" } : Jvm.MethodName)) ∈ GW := GW_at (i := 390) (by decide +kernel) (by decide +kernel)
set_option maxRecDepth 100000 in
theorem k_358 : (Jvm.Cond.code ({ cls := "java/util/ArrayList", name := "grow", desc := "(I)[Ljava/lang/Object;" } : Jvm.MethodName) prog_22_method_6_code (4 : Nat) (Option.some (Jvm.ClassFile.FieldType.array (Jvm.ClassFile.FieldType.object "java/lang/Object")))) ∈ GW := GW_at (i := 391) (by rfl) (by decide +kernel)
theorem k_359 : (Jvm.Cond.methodLink "java/util/ArrayList" (73 : Nat) ({ cls := "jdk/internal/util/ArraysSupport", name := "newLength", desc := "(III)I" } : Jvm.MethodName)) ∈ GW := GW_at (i := 392) (by decide +kernel) (by decide +kernel)
theorem k_360 : (Jvm.Cond.static ({ cls := "jdk/internal/util/ArraysSupport", name := "newLength", desc := "(III)I" } : Jvm.MethodName)) ∈ GW := GW_at (i := 393) (by decide +kernel) (by decide +kernel)
set_option maxRecDepth 100000 in
theorem k_361 : (Jvm.Cond.code ({ cls := "jdk/internal/util/ArraysSupport", name := "newLength", desc := "(III)I" } : Jvm.MethodName) prog_29_method_27_code (4 : Nat) (Option.some Jvm.ClassFile.FieldType.int)) ∈ GW := GW_at (i := 394) (by rfl) (by decide +kernel)
theorem k_362 : (Jvm.Cond.methodLink "jdk/internal/util/ArraysSupport" (194 : Nat) ({ cls := "java/lang/Math", name := "max", desc := "(II)I" } : Jvm.MethodName)) ∈ GW := GW_at (i := 395) (by decide +kernel) (by decide +kernel)
theorem k_363 : (Jvm.Cond.static ({ cls := "java/lang/Math", name := "max", desc := "(II)I" } : Jvm.MethodName)) ∈ GW := GW_at (i := 396) (by decide +kernel) (by decide +kernel)
set_option maxRecDepth 100000 in
theorem k_364 : (Jvm.Cond.code ({ cls := "java/lang/Math", name := "max", desc := "(II)I" } : Jvm.MethodName) prog_15_method_65_code (2 : Nat) (Option.some Jvm.ClassFile.FieldType.int)) ∈ GW := GW_at (i := 397) (by rfl) (by decide +kernel)
theorem k_365 : (Jvm.Cond.constant "jdk/internal/util/ArraysSupport" (200 : Nat) (2147483639 : Int32)) ∈ GW := GW_at (i := 398) (by decide +kernel) (by decide +kernel)
theorem k_366 : (Jvm.Cond.methodLink "jdk/internal/util/ArraysSupport" (201 : Nat) ({ cls := "jdk/internal/util/ArraysSupport", name := "hugeLength", desc := "(II)I" } : Jvm.MethodName)) ∈ GW := GW_at (i := 399) (by decide +kernel) (by decide +kernel)
theorem k_367 : (Jvm.Cond.static ({ cls := "jdk/internal/util/ArraysSupport", name := "hugeLength", desc := "(II)I" } : Jvm.MethodName)) ∈ GW := GW_at (i := 400) (by decide +kernel) (by decide +kernel)
set_option maxRecDepth 100000 in
theorem k_368 : (Jvm.Cond.code ({ cls := "jdk/internal/util/ArraysSupport", name := "hugeLength", desc := "(II)I" } : Jvm.MethodName) prog_29_method_28_code (3 : Nat) (Option.some Jvm.ClassFile.FieldType.int)) ∈ GW := GW_at (i := 401) (by rfl) (by decide +kernel)
theorem k_369 : (Jvm.Cond.methodLink "java/util/ArrayList" (66 : Nat) ({ cls := "java/util/Arrays", name := "copyOf", desc := "([Ljava/lang/Object;I)[Ljava/lang/Object;" } : Jvm.MethodName)) ∈ GW := GW_at (i := 402) (by decide +kernel) (by decide +kernel)
theorem k_370 : (Jvm.Cond.static ({ cls := "java/util/Arrays", name := "copyOf", desc := "([Ljava/lang/Object;I)[Ljava/lang/Object;" } : Jvm.MethodName)) ∈ GW := GW_at (i := 403) (by decide +kernel) (by decide +kernel)
set_option maxRecDepth 100000 in
theorem k_371 : (Jvm.Cond.code ({ cls := "java/util/Arrays", name := "copyOf", desc := "([Ljava/lang/Object;I)[Ljava/lang/Object;" } : Jvm.MethodName) prog_23_method_119_code (2 : Nat) (Option.some (Jvm.ClassFile.FieldType.array (Jvm.ClassFile.FieldType.object "java/lang/Object")))) ∈ GW := GW_at (i := 404) (by rfl) (by decide +kernel)
theorem k_372 : (Jvm.Cond.methodLink "java/util/Arrays" (86 : Nat) ({ cls := "java/lang/Object", name := "getClass", desc := "()Ljava/lang/Class;" } : Jvm.MethodName)) ∈ GW := GW_at (i := 405) (by decide +kernel) (by decide +kernel)
theorem k_373 : (Jvm.Cond.instanceMethod ({ cls := "java/lang/Object", name := "getClass", desc := "()Ljava/lang/Class;" } : Jvm.MethodName)) ∈ GW := GW_at (i := 406) (by decide +kernel) (by decide +kernel)
theorem k_374 : (Jvm.Cond.sameMethod "java/lang/Object" "java/lang/Object" "getClass" "()Ljava/lang/Class;") ∈ GW := GW_at (i := 407) (by decide +kernel) (by decide +kernel)
theorem k_375 : (Jvm.Cond.selects "DangerTables" ({ cls := "java/lang/Object", name := "getClass", desc := "()Ljava/lang/Class;" } : Jvm.MethodName) ({ cls := "java/lang/Object", name := "getClass", desc := "()Ljava/lang/Class;" } : Jvm.MethodName)) ∈ GW := GW_at (i := 408) (by decide +kernel) (by decide +kernel)
theorem k_376 : (Jvm.Cond.selects "DangerTables$Box" ({ cls := "java/lang/Object", name := "getClass", desc := "()Ljava/lang/Class;" } : Jvm.MethodName) ({ cls := "java/lang/Object", name := "getClass", desc := "()Ljava/lang/Class;" } : Jvm.MethodName)) ∈ GW := GW_at (i := 409) (by decide +kernel) (by decide +kernel)
theorem k_377 : (Jvm.Cond.selects "DangerTables$Good" ({ cls := "java/lang/Object", name := "getClass", desc := "()Ljava/lang/Class;" } : Jvm.MethodName) ({ cls := "java/lang/Object", name := "getClass", desc := "()Ljava/lang/Class;" } : Jvm.MethodName)) ∈ GW := GW_at (i := 410) (by decide +kernel) (by decide +kernel)
theorem k_378 : (Jvm.Cond.selects "DangerTables$Part" ({ cls := "java/lang/Object", name := "getClass", desc := "()Ljava/lang/Class;" } : Jvm.MethodName) ({ cls := "java/lang/Object", name := "getClass", desc := "()Ljava/lang/Class;" } : Jvm.MethodName)) ∈ GW := GW_at (i := 411) (by decide +kernel) (by decide +kernel)
theorem k_379 : (Jvm.Cond.selects "DangerTables$RuleText" ({ cls := "java/lang/Object", name := "getClass", desc := "()Ljava/lang/Class;" } : Jvm.MethodName) ({ cls := "java/lang/Object", name := "getClass", desc := "()Ljava/lang/Class;" } : Jvm.MethodName)) ∈ GW := GW_at (i := 412) (by decide +kernel) (by decide +kernel)
theorem k_380 : (Jvm.Cond.selects "DangerTablesModel" ({ cls := "java/lang/Object", name := "getClass", desc := "()Ljava/lang/Class;" } : Jvm.MethodName) ({ cls := "java/lang/Object", name := "getClass", desc := "()Ljava/lang/Class;" } : Jvm.MethodName)) ∈ GW := GW_at (i := 413) (by decide +kernel) (by decide +kernel)
theorem k_381 : (Jvm.Cond.selects "java/lang/IllegalArgumentException" ({ cls := "java/lang/Object", name := "getClass", desc := "()Ljava/lang/Class;" } : Jvm.MethodName) ({ cls := "java/lang/Object", name := "getClass", desc := "()Ljava/lang/Class;" } : Jvm.MethodName)) ∈ GW := GW_at (i := 414) (by decide +kernel) (by decide +kernel)
theorem k_382 : (Jvm.Cond.selects "java/lang/IllegalStateException" ({ cls := "java/lang/Object", name := "getClass", desc := "()Ljava/lang/Class;" } : Jvm.MethodName) ({ cls := "java/lang/Object", name := "getClass", desc := "()Ljava/lang/Class;" } : Jvm.MethodName)) ∈ GW := GW_at (i := 415) (by decide +kernel) (by decide +kernel)
theorem k_383 : (Jvm.Cond.selects "java/lang/IndexOutOfBoundsException" ({ cls := "java/lang/Object", name := "getClass", desc := "()Ljava/lang/Class;" } : Jvm.MethodName) ({ cls := "java/lang/Object", name := "getClass", desc := "()Ljava/lang/Class;" } : Jvm.MethodName)) ∈ GW := GW_at (i := 416) (by decide +kernel) (by decide +kernel)
theorem k_384 : (Jvm.Cond.selects "java/util/ArrayList" ({ cls := "java/lang/Object", name := "getClass", desc := "()Ljava/lang/Class;" } : Jvm.MethodName) ({ cls := "java/lang/Object", name := "getClass", desc := "()Ljava/lang/Class;" } : Jvm.MethodName)) ∈ GW := GW_at (i := 417) (by decide +kernel) (by decide +kernel)
theorem k_385 : (Jvm.Cond.native ({ cls := "java/lang/Object", name := "getClass", desc := "()Ljava/lang/Class;" } : Jvm.MethodName)) ∈ GW := GW_at (i := 418) (by decide +kernel) (by decide +kernel)
theorem k_386 : (Jvm.Cond.methodLink "java/util/Arrays" (300 : Nat) ({ cls := "java/util/Arrays", name := "copyOf", desc := "([Ljava/lang/Object;ILjava/lang/Class;)[Ljava/lang/Object;" } : Jvm.MethodName)) ∈ GW := GW_at (i := 419) (by decide +kernel) (by decide +kernel)
theorem k_387 : (Jvm.Cond.static ({ cls := "java/util/Arrays", name := "copyOf", desc := "([Ljava/lang/Object;ILjava/lang/Class;)[Ljava/lang/Object;" } : Jvm.MethodName)) ∈ GW := GW_at (i := 420) (by decide +kernel) (by decide +kernel)
set_option maxRecDepth 100000 in
theorem k_388 : (Jvm.Cond.code ({ cls := "java/util/Arrays", name := "copyOf", desc := "([Ljava/lang/Object;ILjava/lang/Class;)[Ljava/lang/Object;" } : Jvm.MethodName) prog_23_method_120_code (4 : Nat) (Option.some (Jvm.ClassFile.FieldType.array (Jvm.ClassFile.FieldType.object "java/lang/Object")))) ∈ GW := GW_at (i := 421) (by rfl) (by decide +kernel)
theorem k_389 : (Jvm.Cond.classLink "java/util/Arrays" (110 : Nat) "[Ljava/lang/Object;") ∈ GW := GW_at (i := 422) (by decide +kernel) (by decide +kernel)
theorem k_391 : (Jvm.Cond.classLink "java/util/Arrays" (2 : Nat) "java/lang/Object") ∈ GW := GW_at (i := 424) (by decide +kernel) (by decide +kernel)
theorem k_392 : (Jvm.Cond.methodLink "java/util/Arrays" (304 : Nat) ({ cls := "java/lang/Math", name := "min", desc := "(II)I" } : Jvm.MethodName)) ∈ GW := GW_at (i := 425) (by decide +kernel) (by decide +kernel)
theorem k_393 : (Jvm.Cond.static ({ cls := "java/lang/Math", name := "min", desc := "(II)I" } : Jvm.MethodName)) ∈ GW := GW_at (i := 426) (by decide +kernel) (by decide +kernel)
set_option maxRecDepth 100000 in
theorem k_394 : (Jvm.Cond.code ({ cls := "java/lang/Math", name := "min", desc := "(II)I" } : Jvm.MethodName) prog_15_method_69_code (2 : Nat) (Option.some Jvm.ClassFile.FieldType.int)) ∈ GW := GW_at (i := 427) (by rfl) (by decide +kernel)
theorem k_395 : (Jvm.Cond.methodLink "java/util/Arrays" (150 : Nat) ({ cls := "java/lang/System", name := "arraycopy", desc := "(Ljava/lang/Object;ILjava/lang/Object;II)V" } : Jvm.MethodName)) ∈ GW := GW_at (i := 428) (by decide +kernel) (by decide +kernel)
theorem k_396 : (Jvm.Cond.methodLink "java/util/ArrayList" (79 : Nat) ({ cls := "java/lang/Math", name := "max", desc := "(II)I" } : Jvm.MethodName)) ∈ GW := GW_at (i := 429) (by decide +kernel) (by decide +kernel)
theorem k_397 : (Jvm.Cond.classLink "java/util/ArrayList" (7 : Nat) "java/lang/Object") ∈ GW := GW_at (i := 430) (by decide +kernel) (by decide +kernel)
theorem k_398 : (Jvm.Cond.methodLink "DangerTablesLaw" (85 : Nat) ({ cls := "DangerTablesLaw", name := "box", desc := "(LDangerTables;II[J)I" } : Jvm.MethodName)) ∈ GW := GW_at (i := 431) (by decide +kernel) (by decide +kernel)
theorem k_399 : (Jvm.Cond.static ({ cls := "DangerTablesLaw", name := "box", desc := "(LDangerTables;II[J)I" } : Jvm.MethodName)) ∈ GW := GW_at (i := 432) (by decide +kernel) (by decide +kernel)
set_option maxRecDepth 100000 in
theorem k_400 : (Jvm.Cond.codeWith ({ cls := "DangerTablesLaw", name := "box", desc := "(LDangerTables;II[J)I" } : Jvm.MethodName) method_5_code (5 : Nat) (Option.some Jvm.ClassFile.FieldType.int) [((0 : Nat), (10 : Nat), (13 : Nat), (13 : Nat)), ((0 : Nat), (10 : Nat), (17 : Nat), (19 : Nat))]) ∈ GW := GW_at (i := 433) (by rfl) (by decide +kernel)
theorem k_401 : (Jvm.Cond.methodLink "DangerTablesLaw" (21 : Nat) ({ cls := "DangerTables", name := "box", desc := "(II)I" } : Jvm.MethodName)) ∈ GW := GW_at (i := 434) (by decide +kernel) (by decide +kernel)
theorem k_402 : (Jvm.Cond.instanceMethod ({ cls := "DangerTables", name := "box", desc := "(II)I" } : Jvm.MethodName)) ∈ GW := GW_at (i := 435) (by decide +kernel) (by decide +kernel)
theorem k_403 : (Jvm.Cond.selects "DangerTables" ({ cls := "DangerTables", name := "box", desc := "(II)I" } : Jvm.MethodName) ({ cls := "DangerTables", name := "box", desc := "(II)I" } : Jvm.MethodName)) ∈ GW := GW_at (i := 436) (by decide +kernel) (by decide +kernel)
set_option maxRecDepth 100000 in
theorem k_404 : (Jvm.Cond.code ({ cls := "DangerTables", name := "box", desc := "(II)I" } : Jvm.MethodName) prog_1_method_7_code (4 : Nat) (Option.some Jvm.ClassFile.FieldType.int)) ∈ GW := GW_at (i := 437) (by rfl) (by decide +kernel)
theorem k_405 : (Jvm.Cond.methodLink "DangerTables" (114 : Nat) ({ cls := "DangerTables", name := "isAmount", desc := "(I)Z" } : Jvm.MethodName)) ∈ GW := GW_at (i := 438) (by decide +kernel) (by decide +kernel)
theorem k_406 : (Jvm.Cond.static ({ cls := "DangerTables", name := "isAmount", desc := "(I)Z" } : Jvm.MethodName)) ∈ GW := GW_at (i := 439) (by decide +kernel) (by decide +kernel)
set_option maxRecDepth 100000 in
theorem k_407 : (Jvm.Cond.code ({ cls := "DangerTables", name := "isAmount", desc := "(I)Z" } : Jvm.MethodName) prog_1_method_21_code (1 : Nat) (Option.some Jvm.ClassFile.FieldType.boolean)) ∈ GW := GW_at (i := 440) (by rfl) (by decide +kernel)
theorem k_410 : (Jvm.Cond.instantiable "DangerTables$Box" (5 : Nat)) ∈ GW := GW_at (i := 443) (by decide +kernel) (by decide +kernel)
theorem k_411 : (Jvm.Cond.methodLink "DangerTables" (123 : Nat) ({ cls := "DangerTables$Box", name := "<init>", desc := "()V" } : Jvm.MethodName)) ∈ GW := GW_at (i := 444) (by decide +kernel) (by decide +kernel)
theorem k_412 : (Jvm.Cond.instanceMethod ({ cls := "DangerTables$Box", name := "<init>", desc := "()V" } : Jvm.MethodName)) ∈ GW := GW_at (i := 445) (by decide +kernel) (by decide +kernel)
set_option maxRecDepth 100000 in
theorem k_413 : (Jvm.Cond.code ({ cls := "DangerTables$Box", name := "<init>", desc := "()V" } : Jvm.MethodName) prog_2_method_1_code (1 : Nat) (Option.none : Option Jvm.ClassFile.FieldType)) ∈ GW := GW_at (i := 446) (by rfl) (by decide +kernel)
theorem k_414 : (Jvm.Cond.methodLink "DangerTables$Box" (3 : Nat) ({ cls := "java/lang/Object", name := "<init>", desc := "()V" } : Jvm.MethodName)) ∈ GW := GW_at (i := 447) (by decide +kernel) (by decide +kernel)
theorem k_415 : (Jvm.Cond.classLink "DangerTables$Box" (9 : Nat) "java/util/ArrayList") ∈ GW := GW_at (i := 448) (by decide +kernel) (by decide +kernel)
theorem k_416 : (Jvm.Cond.methodLink "DangerTables$Box" (11 : Nat) ({ cls := "java/util/ArrayList", name := "<init>", desc := "()V" } : Jvm.MethodName)) ∈ GW := GW_at (i := 449) (by decide +kernel) (by decide +kernel)
theorem k_417 : (Jvm.Cond.fieldLink "DangerTables$Box" (12 : Nat) "DangerTables$Box" "parts" "Ljava/util/ArrayList;") ∈ GW := GW_at (i := 450) (by decide +kernel) (by decide +kernel)
theorem k_419 : (Jvm.Cond.fieldLink "DangerTables$Box" (18 : Nat) "DangerTables$Box" "zone" "I") ∈ GW := GW_at (i := 452) (by decide +kernel) (by decide +kernel)
theorem k_421 : (Jvm.Cond.fieldLink "DangerTables$Box" (22 : Nat) "DangerTables$Box" "x" "I") ∈ GW := GW_at (i := 454) (by decide +kernel) (by decide +kernel)
theorem k_423 : (Jvm.Cond.fieldLink "DangerTables$Box" (25 : Nat) "DangerTables$Box" "y" "I") ∈ GW := GW_at (i := 456) (by decide +kernel) (by decide +kernel)
theorem k_425 : (Jvm.Cond.fieldLink "DangerTables$Box" (71 : Nat) "DangerTables$Box" "told" "I") ∈ GW := GW_at (i := 458) (by decide +kernel) (by decide +kernel)
theorem k_427 : (Jvm.Cond.laysFinal "DangerTables$Box" "DangerTables$Box" "parts" "Ljava/util/ArrayList;") ∈ GW := GW_at (i := 460) (by decide +kernel) (by decide +kernel)
theorem k_429 : (Jvm.Cond.lays "DangerTables$Box" "DangerTables$Box" "zone" "I") ∈ GW := GW_at (i := 462) (by decide +kernel) (by decide +kernel)
theorem k_431 : (Jvm.Cond.lays "DangerTables$Box" "DangerTables$Box" "x" "I") ∈ GW := GW_at (i := 464) (by decide +kernel) (by decide +kernel)
theorem k_433 : (Jvm.Cond.lays "DangerTables$Box" "DangerTables$Box" "y" "I") ∈ GW := GW_at (i := 466) (by decide +kernel) (by decide +kernel)
theorem k_435 : (Jvm.Cond.lays "DangerTables$Box" "DangerTables$Box" "told" "I") ∈ GW := GW_at (i := 468) (by decide +kernel) (by decide +kernel)
theorem k_438 : (Jvm.Cond.methodLink "DangerTables" (124 : Nat) ({ cls := "DangerTables$Box", name := "fill", desc := "(LDangerTables$Good;II)V" } : Jvm.MethodName)) ∈ GW := GW_at (i := 471) (by decide +kernel) (by decide +kernel)
theorem k_439 : (Jvm.Cond.instanceMethod ({ cls := "DangerTables$Box", name := "fill", desc := "(LDangerTables$Good;II)V" } : Jvm.MethodName)) ∈ GW := GW_at (i := 472) (by decide +kernel) (by decide +kernel)
theorem k_440 : (Jvm.Cond.selects "DangerTables$Box" ({ cls := "DangerTables$Box", name := "fill", desc := "(LDangerTables$Good;II)V" } : Jvm.MethodName) ({ cls := "DangerTables$Box", name := "fill", desc := "(LDangerTables$Good;II)V" } : Jvm.MethodName)) ∈ GW := GW_at (i := 473) (by decide +kernel) (by decide +kernel)
set_option maxRecDepth 100000 in
theorem k_441 : (Jvm.Cond.code ({ cls := "DangerTables$Box", name := "fill", desc := "(LDangerTables$Good;II)V" } : Jvm.MethodName) prog_2_method_2_code (4 : Nat) (Option.none : Option Jvm.ClassFile.FieldType)) ∈ GW := GW_at (i := 474) (by rfl) (by decide +kernel)
theorem k_442 : (Jvm.Cond.classLink "DangerTables$Box" (28 : Nat) "DangerTables$Part") ∈ GW := GW_at (i := 475) (by decide +kernel) (by decide +kernel)
theorem k_443 : (Jvm.Cond.instantiable "DangerTables$Part" (3 : Nat)) ∈ GW := GW_at (i := 476) (by decide +kernel) (by decide +kernel)
theorem k_444 : (Jvm.Cond.methodLink "DangerTables$Box" (30 : Nat) ({ cls := "DangerTables$Part", name := "<init>", desc := "(LDangerTables$Good;II)V" } : Jvm.MethodName)) ∈ GW := GW_at (i := 477) (by decide +kernel) (by decide +kernel)
theorem k_445 : (Jvm.Cond.instanceMethod ({ cls := "DangerTables$Part", name := "<init>", desc := "(LDangerTables$Good;II)V" } : Jvm.MethodName)) ∈ GW := GW_at (i := 478) (by decide +kernel) (by decide +kernel)
set_option maxRecDepth 100000 in
theorem k_446 : (Jvm.Cond.code ({ cls := "DangerTables$Part", name := "<init>", desc := "(LDangerTables$Good;II)V" } : Jvm.MethodName) prog_4_method_1_code (4 : Nat) (Option.none : Option Jvm.ClassFile.FieldType)) ∈ GW := GW_at (i := 479) (by rfl) (by decide +kernel)
theorem k_447 : (Jvm.Cond.methodLink "DangerTables$Part" (3 : Nat) ({ cls := "java/lang/Object", name := "<init>", desc := "()V" } : Jvm.MethodName)) ∈ GW := GW_at (i := 480) (by decide +kernel) (by decide +kernel)
theorem k_448 : (Jvm.Cond.fieldLink "DangerTables$Part" (9 : Nat) "DangerTables$Part" "good" "LDangerTables$Good;") ∈ GW := GW_at (i := 481) (by decide +kernel) (by decide +kernel)
theorem k_451 : (Jvm.Cond.fieldLink "DangerTables$Part" (15 : Nat) "DangerTables$Part" "number" "I") ∈ GW := GW_at (i := 484) (by decide +kernel) (by decide +kernel)
theorem k_453 : (Jvm.Cond.fieldLink "DangerTables$Part" (19 : Nat) "DangerTables$Part" "amount" "I") ∈ GW := GW_at (i := 486) (by decide +kernel) (by decide +kernel)
theorem k_455 : (Jvm.Cond.laysFinal "DangerTables$Part" "DangerTables$Part" "good" "LDangerTables$Good;") ∈ GW := GW_at (i := 488) (by decide +kernel) (by decide +kernel)
theorem k_457 : (Jvm.Cond.laysFinal "DangerTables$Part" "DangerTables$Part" "number" "I") ∈ GW := GW_at (i := 490) (by decide +kernel) (by decide +kernel)
theorem k_459 : (Jvm.Cond.laysFinal "DangerTables$Part" "DangerTables$Part" "amount" "I") ∈ GW := GW_at (i := 492) (by decide +kernel) (by decide +kernel)
theorem k_462 : (Jvm.Cond.methodLink "DangerTables$Box" (33 : Nat) ({ cls := "java/util/ArrayList", name := "add", desc := "(Ljava/lang/Object;)Z" } : Jvm.MethodName)) ∈ GW := GW_at (i := 495) (by decide +kernel) (by decide +kernel)
theorem k_463 : (Jvm.Cond.methodLink "DangerTablesLaw" (88 : Nat) ({ cls := "DangerTablesLaw", name := "also", desc := "(LDangerTables;III[J)I" } : Jvm.MethodName)) ∈ GW := GW_at (i := 496) (by decide +kernel) (by decide +kernel)
theorem k_464 : (Jvm.Cond.static ({ cls := "DangerTablesLaw", name := "also", desc := "(LDangerTables;III[J)I" } : Jvm.MethodName)) ∈ GW := GW_at (i := 497) (by decide +kernel) (by decide +kernel)
set_option maxRecDepth 100000 in
theorem k_465 : (Jvm.Cond.codeWith ({ cls := "DangerTablesLaw", name := "also", desc := "(LDangerTables;III[J)I" } : Jvm.MethodName) method_6_code (6 : Nat) (Option.some Jvm.ClassFile.FieldType.int) [((0 : Nat), (12 : Nat), (15 : Nat), (13 : Nat)), ((0 : Nat), (12 : Nat), (19 : Nat), (19 : Nat))]) ∈ GW := GW_at (i := 498) (by rfl) (by decide +kernel)
theorem k_466 : (Jvm.Cond.methodLink "DangerTablesLaw" (24 : Nat) ({ cls := "DangerTables", name := "also", desc := "(III)I" } : Jvm.MethodName)) ∈ GW := GW_at (i := 499) (by decide +kernel) (by decide +kernel)
theorem k_467 : (Jvm.Cond.instanceMethod ({ cls := "DangerTables", name := "also", desc := "(III)I" } : Jvm.MethodName)) ∈ GW := GW_at (i := 500) (by decide +kernel) (by decide +kernel)
theorem k_468 : (Jvm.Cond.selects "DangerTables" ({ cls := "DangerTables", name := "also", desc := "(III)I" } : Jvm.MethodName) ({ cls := "DangerTables", name := "also", desc := "(III)I" } : Jvm.MethodName)) ∈ GW := GW_at (i := 501) (by decide +kernel) (by decide +kernel)
set_option maxRecDepth 100000 in
theorem k_469 : (Jvm.Cond.code ({ cls := "DangerTables", name := "also", desc := "(III)I" } : Jvm.MethodName) prog_1_method_8_code (5 : Nat) (Option.some Jvm.ClassFile.FieldType.int)) ∈ GW := GW_at (i := 502) (by rfl) (by decide +kernel)
theorem k_471 : (Jvm.Cond.methodLink "DangerTables" (132 : Nat) ({ cls := "DangerTables$Box", name := "holds", desc := "(I)Z" } : Jvm.MethodName)) ∈ GW := GW_at (i := 504) (by decide +kernel) (by decide +kernel)
theorem k_472 : (Jvm.Cond.instanceMethod ({ cls := "DangerTables$Box", name := "holds", desc := "(I)Z" } : Jvm.MethodName)) ∈ GW := GW_at (i := 505) (by decide +kernel) (by decide +kernel)
theorem k_473 : (Jvm.Cond.selects "DangerTables$Box" ({ cls := "DangerTables$Box", name := "holds", desc := "(I)Z" } : Jvm.MethodName) ({ cls := "DangerTables$Box", name := "holds", desc := "(I)Z" } : Jvm.MethodName)) ∈ GW := GW_at (i := 506) (by decide +kernel) (by decide +kernel)
set_option maxRecDepth 100000 in
theorem k_474 : (Jvm.Cond.code ({ cls := "DangerTables$Box", name := "holds", desc := "(I)Z" } : Jvm.MethodName) prog_2_method_4_code (3 : Nat) (Option.some Jvm.ClassFile.FieldType.boolean)) ∈ GW := GW_at (i := 507) (by rfl) (by decide +kernel)
theorem k_475 : (Jvm.Cond.methodLink "DangerTables$Box" (37 : Nat) ({ cls := "java/util/ArrayList", name := "size", desc := "()I" } : Jvm.MethodName)) ∈ GW := GW_at (i := 508) (by decide +kernel) (by decide +kernel)
theorem k_476 : (Jvm.Cond.methodLink "DangerTables$Box" (41 : Nat) ({ cls := "java/util/ArrayList", name := "get", desc := "(I)Ljava/lang/Object;" } : Jvm.MethodName)) ∈ GW := GW_at (i := 509) (by decide +kernel) (by decide +kernel)
theorem k_478 : (Jvm.Cond.methodLink "DangerTables" (141 : Nat) ({ cls := "DangerTables$Box", name := "partCount", desc := "()I" } : Jvm.MethodName)) ∈ GW := GW_at (i := 511) (by decide +kernel) (by decide +kernel)
theorem k_479 : (Jvm.Cond.instanceMethod ({ cls := "DangerTables$Box", name := "partCount", desc := "()I" } : Jvm.MethodName)) ∈ GW := GW_at (i := 512) (by decide +kernel) (by decide +kernel)
theorem k_480 : (Jvm.Cond.selects "DangerTables$Box" ({ cls := "DangerTables$Box", name := "partCount", desc := "()I" } : Jvm.MethodName) ({ cls := "DangerTables$Box", name := "partCount", desc := "()I" } : Jvm.MethodName)) ∈ GW := GW_at (i := 513) (by decide +kernel) (by decide +kernel)
set_option maxRecDepth 100000 in
theorem k_481 : (Jvm.Cond.code ({ cls := "DangerTables$Box", name := "partCount", desc := "()I" } : Jvm.MethodName) prog_2_method_3_code (1 : Nat) (Option.some Jvm.ClassFile.FieldType.int)) ∈ GW := GW_at (i := 514) (by rfl) (by decide +kernel)
theorem k_483 : (Jvm.Cond.methodLink "DangerTablesLaw" (92 : Nat) ({ cls := "DangerTablesLaw", name := "apart", desc := "(LDangerTables;II[J)I" } : Jvm.MethodName)) ∈ GW := GW_at (i := 516) (by decide +kernel) (by decide +kernel)
theorem k_484 : (Jvm.Cond.static ({ cls := "DangerTablesLaw", name := "apart", desc := "(LDangerTables;II[J)I" } : Jvm.MethodName)) ∈ GW := GW_at (i := 517) (by decide +kernel) (by decide +kernel)
set_option maxRecDepth 100000 in
theorem k_485 : (Jvm.Cond.codeWith ({ cls := "DangerTablesLaw", name := "apart", desc := "(LDangerTables;II[J)I" } : Jvm.MethodName) method_7_code (5 : Nat) (Option.some Jvm.ClassFile.FieldType.int) [((0 : Nat), (10 : Nat), (13 : Nat), (13 : Nat))]) ∈ GW := GW_at (i := 518) (by rfl) (by decide +kernel)
theorem k_486 : (Jvm.Cond.methodLink "DangerTablesLaw" (28 : Nat) ({ cls := "DangerTables", name := "apart", desc := "(II)I" } : Jvm.MethodName)) ∈ GW := GW_at (i := 519) (by decide +kernel) (by decide +kernel)
theorem k_487 : (Jvm.Cond.instanceMethod ({ cls := "DangerTables", name := "apart", desc := "(II)I" } : Jvm.MethodName)) ∈ GW := GW_at (i := 520) (by decide +kernel) (by decide +kernel)
theorem k_488 : (Jvm.Cond.selects "DangerTables" ({ cls := "DangerTables", name := "apart", desc := "(II)I" } : Jvm.MethodName) ({ cls := "DangerTables", name := "apart", desc := "(II)I" } : Jvm.MethodName)) ∈ GW := GW_at (i := 521) (by decide +kernel) (by decide +kernel)
set_option maxRecDepth 100000 in
theorem k_489 : (Jvm.Cond.code ({ cls := "DangerTables", name := "apart", desc := "(II)I" } : Jvm.MethodName) prog_1_method_9_code (3 : Nat) (Option.some Jvm.ClassFile.FieldType.int)) ∈ GW := GW_at (i := 522) (by rfl) (by decide +kernel)
theorem k_490 : (Jvm.Cond.methodLink "DangerTables" (146 : Nat) ({ cls := "DangerTables", name := "areTwoBoxes", desc := "(II)Z" } : Jvm.MethodName)) ∈ GW := GW_at (i := 523) (by decide +kernel) (by decide +kernel)
theorem k_492 : (Jvm.Cond.instanceMethod ({ cls := "DangerTables", name := "areTwoBoxes", desc := "(II)Z" } : Jvm.MethodName)) ∈ GW := GW_at (i := 525) (by decide +kernel) (by decide +kernel)
set_option maxRecDepth 100000 in
theorem k_493 : (Jvm.Cond.code ({ cls := "DangerTables", name := "areTwoBoxes", desc := "(II)Z" } : Jvm.MethodName) prog_1_method_26_code (3 : Nat) (Option.some Jvm.ClassFile.FieldType.boolean)) ∈ GW := GW_at (i := 526) (by rfl) (by decide +kernel)
theorem k_495 : (Jvm.Cond.methodLink "DangerTables" (151 : Nat) ({ cls := "DangerTables", name := "ruleOfBoxes", desc := "(LDangerTables$Box;LDangerTables$Box;)I" } : Jvm.MethodName)) ∈ GW := GW_at (i := 528) (by decide +kernel) (by decide +kernel)
theorem k_497 : (Jvm.Cond.instanceMethod ({ cls := "DangerTables", name := "ruleOfBoxes", desc := "(LDangerTables$Box;LDangerTables$Box;)I" } : Jvm.MethodName)) ∈ GW := GW_at (i := 530) (by decide +kernel) (by decide +kernel)
set_option maxRecDepth 100000 in
theorem k_498 : (Jvm.Cond.code ({ cls := "DangerTables", name := "ruleOfBoxes", desc := "(LDangerTables$Box;LDangerTables$Box;)I" } : Jvm.MethodName) prog_1_method_29_code (6 : Nat) (Option.some Jvm.ClassFile.FieldType.int)) ∈ GW := GW_at (i := 531) (by rfl) (by decide +kernel)
theorem k_499 : (Jvm.Cond.classLink "DangerTables" (224 : Nat) "DangerTables$Part") ∈ GW := GW_at (i := 532) (by decide +kernel) (by decide +kernel)
theorem k_500 : (Jvm.Cond.methodLink "DangerTables" (226 : Nat) ({ cls := "DangerTables", name := "ruleOfParts", desc := "(LDangerTables$Part;LDangerTables$Part;)I" } : Jvm.MethodName)) ∈ GW := GW_at (i := 533) (by decide +kernel) (by decide +kernel)
theorem k_502 : (Jvm.Cond.instanceMethod ({ cls := "DangerTables", name := "ruleOfParts", desc := "(LDangerTables$Part;LDangerTables$Part;)I" } : Jvm.MethodName)) ∈ GW := GW_at (i := 535) (by decide +kernel) (by decide +kernel)
set_option maxRecDepth 100000 in
theorem k_503 : (Jvm.Cond.code ({ cls := "DangerTables", name := "ruleOfParts", desc := "(LDangerTables$Part;LDangerTables$Part;)I" } : Jvm.MethodName) prog_1_method_30_code (6 : Nat) (Option.some Jvm.ClassFile.FieldType.int)) ∈ GW := GW_at (i := 536) (by rfl) (by decide +kernel)
theorem k_504 : (Jvm.Cond.methodLink "DangerTables" (242 : Nat) ({ cls := "DangerTables", name := "ruleOfClasses", desc := "(LDangerTables$Good;ILDangerTables$Good;I)I" } : Jvm.MethodName)) ∈ GW := GW_at (i := 537) (by decide +kernel) (by decide +kernel)
theorem k_506 : (Jvm.Cond.instanceMethod ({ cls := "DangerTables", name := "ruleOfClasses", desc := "(LDangerTables$Good;ILDangerTables$Good;I)I" } : Jvm.MethodName)) ∈ GW := GW_at (i := 539) (by decide +kernel) (by decide +kernel)
set_option maxRecDepth 100000 in
theorem k_507 : (Jvm.Cond.code ({ cls := "DangerTables", name := "ruleOfClasses", desc := "(LDangerTables$Good;ILDangerTables$Good;I)I" } : Jvm.MethodName) prog_1_method_31_code (6 : Nat) (Option.some Jvm.ClassFile.FieldType.int)) ∈ GW := GW_at (i := 540) (by rfl) (by decide +kernel)
theorem k_508 : (Jvm.Cond.methodLink "DangerTables" (255 : Nat) ({ cls := "DangerTables$Good", name := "isExempt", desc := "(I)Z" } : Jvm.MethodName)) ∈ GW := GW_at (i := 541) (by decide +kernel) (by decide +kernel)
theorem k_509 : (Jvm.Cond.methodLink "DangerTables" (230 : Nat) ({ cls := "java/lang/Math", name := "max", desc := "(II)I" } : Jvm.MethodName)) ∈ GW := GW_at (i := 542) (by decide +kernel) (by decide +kernel)
theorem k_510 : (Jvm.Cond.methodLink "DangerTables" (249 : Nat) ({ cls := "DangerTables$Part", name := "isLimited", desc := "()Z" } : Jvm.MethodName)) ∈ GW := GW_at (i := 543) (by decide +kernel) (by decide +kernel)
theorem k_511 : (Jvm.Cond.instanceMethod ({ cls := "DangerTables$Part", name := "isLimited", desc := "()Z" } : Jvm.MethodName)) ∈ GW := GW_at (i := 544) (by decide +kernel) (by decide +kernel)
theorem k_512 : (Jvm.Cond.selects "DangerTables$Part" ({ cls := "DangerTables$Part", name := "isLimited", desc := "()Z" } : Jvm.MethodName) ({ cls := "DangerTables$Part", name := "isLimited", desc := "()Z" } : Jvm.MethodName)) ∈ GW := GW_at (i := 545) (by decide +kernel) (by decide +kernel)
set_option maxRecDepth 100000 in
theorem k_513 : (Jvm.Cond.code ({ cls := "DangerTables$Part", name := "isLimited", desc := "()Z" } : Jvm.MethodName) prog_4_method_2_code (1 : Nat) (Option.some Jvm.ClassFile.FieldType.boolean)) ∈ GW := GW_at (i := 546) (by rfl) (by decide +kernel)
theorem k_514 : (Jvm.Cond.methodLink "DangerTables" (252 : Nat) ({ cls := "java/lang/Math", name := "min", desc := "(II)I" } : Jvm.MethodName)) ∈ GW := GW_at (i := 547) (by decide +kernel) (by decide +kernel)
theorem k_515 : (Jvm.Cond.methodLink "DangerTablesLaw" (95 : Nat) ({ cls := "DangerTablesLaw", name := "ship", desc := "(LDangerTables;III[J)I" } : Jvm.MethodName)) ∈ GW := GW_at (i := 548) (by decide +kernel) (by decide +kernel)
theorem k_516 : (Jvm.Cond.static ({ cls := "DangerTablesLaw", name := "ship", desc := "(LDangerTables;III[J)I" } : Jvm.MethodName)) ∈ GW := GW_at (i := 549) (by decide +kernel) (by decide +kernel)
set_option maxRecDepth 100000 in
theorem k_517 : (Jvm.Cond.codeWith ({ cls := "DangerTablesLaw", name := "ship", desc := "(LDangerTables;III[J)I" } : Jvm.MethodName) method_8_code (6 : Nat) (Option.some Jvm.ClassFile.FieldType.int) [((0 : Nat), (19 : Nat), (22 : Nat), (13 : Nat))]) ∈ GW := GW_at (i := 550) (by rfl) (by decide +kernel)
theorem k_518 : (Jvm.Cond.methodLink "DangerTablesLaw" (31 : Nat) ({ cls := "DangerTables", name := "ship", desc := "(III)Z" } : Jvm.MethodName)) ∈ GW := GW_at (i := 551) (by decide +kernel) (by decide +kernel)
theorem k_519 : (Jvm.Cond.instanceMethod ({ cls := "DangerTables", name := "ship", desc := "(III)Z" } : Jvm.MethodName)) ∈ GW := GW_at (i := 552) (by decide +kernel) (by decide +kernel)
theorem k_520 : (Jvm.Cond.selects "DangerTables" ({ cls := "DangerTables", name := "ship", desc := "(III)Z" } : Jvm.MethodName) ({ cls := "DangerTables", name := "ship", desc := "(III)Z" } : Jvm.MethodName)) ∈ GW := GW_at (i := 553) (by decide +kernel) (by decide +kernel)
set_option maxRecDepth 100000 in
theorem k_521 : (Jvm.Cond.code ({ cls := "DangerTables", name := "ship", desc := "(III)Z" } : Jvm.MethodName) prog_1_method_10_code (4 : Nat) (Option.some Jvm.ClassFile.FieldType.boolean)) ∈ GW := GW_at (i := 554) (by rfl) (by decide +kernel)
theorem k_523 : (Jvm.Cond.fieldLink "DangerTables" (157 : Nat) "DangerTables" "SHIP_CELLS" "[I") ∈ GW := GW_at (i := 556) (by decide +kernel) (by decide +kernel)
theorem k_525 : (Jvm.Cond.methodLink "DangerTablesLaw" (102 : Nat) ({ cls := "DangerTablesLaw", name := "zone", desc := "(LDangerTables;II[J)I" } : Jvm.MethodName)) ∈ GW := GW_at (i := 558) (by decide +kernel) (by decide +kernel)
theorem k_526 : (Jvm.Cond.static ({ cls := "DangerTablesLaw", name := "zone", desc := "(LDangerTables;II[J)I" } : Jvm.MethodName)) ∈ GW := GW_at (i := 559) (by decide +kernel) (by decide +kernel)
set_option maxRecDepth 100000 in
theorem k_527 : (Jvm.Cond.codeWith ({ cls := "DangerTablesLaw", name := "zone", desc := "(LDangerTables;II[J)I" } : Jvm.MethodName) method_9_code (5 : Nat) (Option.some Jvm.ClassFile.FieldType.int) [((0 : Nat), (10 : Nat), (13 : Nat), (13 : Nat))]) ∈ GW := GW_at (i := 560) (by rfl) (by decide +kernel)
theorem k_528 : (Jvm.Cond.methodLink "DangerTablesLaw" (35 : Nat) ({ cls := "DangerTables", name := "zone", desc := "(II)I" } : Jvm.MethodName)) ∈ GW := GW_at (i := 561) (by decide +kernel) (by decide +kernel)
theorem k_529 : (Jvm.Cond.instanceMethod ({ cls := "DangerTables", name := "zone", desc := "(II)I" } : Jvm.MethodName)) ∈ GW := GW_at (i := 562) (by decide +kernel) (by decide +kernel)
theorem k_530 : (Jvm.Cond.selects "DangerTables" ({ cls := "DangerTables", name := "zone", desc := "(II)I" } : Jvm.MethodName) ({ cls := "DangerTables", name := "zone", desc := "(II)I" } : Jvm.MethodName)) ∈ GW := GW_at (i := 563) (by decide +kernel) (by decide +kernel)
set_option maxRecDepth 100000 in
theorem k_531 : (Jvm.Cond.code ({ cls := "DangerTables", name := "zone", desc := "(II)I" } : Jvm.MethodName) prog_1_method_12_code (3 : Nat) (Option.some Jvm.ClassFile.FieldType.int)) ∈ GW := GW_at (i := 564) (by rfl) (by decide +kernel)
theorem k_533 : (Jvm.Cond.methodLink "DangerTables" (165 : Nat) ({ cls := "DangerTables", name := "kilogramsInZone", desc := "(II)I" } : Jvm.MethodName)) ∈ GW := GW_at (i := 566) (by decide +kernel) (by decide +kernel)
theorem k_535 : (Jvm.Cond.instanceMethod ({ cls := "DangerTables", name := "kilogramsInZone", desc := "(II)I" } : Jvm.MethodName)) ∈ GW := GW_at (i := 568) (by decide +kernel) (by decide +kernel)
set_option maxRecDepth 100000 in
theorem k_536 : (Jvm.Cond.code ({ cls := "DangerTables", name := "kilogramsInZone", desc := "(II)I" } : Jvm.MethodName) prog_1_method_32_code (6 : Nat) (Option.some Jvm.ClassFile.FieldType.int)) ∈ GW := GW_at (i := 569) (by rfl) (by decide +kernel)
theorem k_537 : (Jvm.Cond.methodLink "DangerTables" (258 : Nat) ({ cls := "DangerTables$Box", name := "kilogramsOf", desc := "(I)I" } : Jvm.MethodName)) ∈ GW := GW_at (i := 570) (by decide +kernel) (by decide +kernel)
theorem k_538 : (Jvm.Cond.instanceMethod ({ cls := "DangerTables$Box", name := "kilogramsOf", desc := "(I)I" } : Jvm.MethodName)) ∈ GW := GW_at (i := 571) (by decide +kernel) (by decide +kernel)
theorem k_539 : (Jvm.Cond.selects "DangerTables$Box" ({ cls := "DangerTables$Box", name := "kilogramsOf", desc := "(I)I" } : Jvm.MethodName) ({ cls := "DangerTables$Box", name := "kilogramsOf", desc := "(I)I" } : Jvm.MethodName)) ∈ GW := GW_at (i := 572) (by decide +kernel) (by decide +kernel)
set_option maxRecDepth 100000 in
theorem k_540 : (Jvm.Cond.code ({ cls := "DangerTables$Box", name := "kilogramsOf", desc := "(I)I" } : Jvm.MethodName) prog_2_method_9_code (5 : Nat) (Option.some Jvm.ClassFile.FieldType.int)) ∈ GW := GW_at (i := 573) (by rfl) (by decide +kernel)
theorem k_541 : (Jvm.Cond.methodLink "DangerTables$Box" (61 : Nat) ({ cls := "DangerTables$Good", name := "hasClass", desc := "(I)Z" } : Jvm.MethodName)) ∈ GW := GW_at (i := 574) (by decide +kernel) (by decide +kernel)
theorem k_542 : (Jvm.Cond.instanceMethod ({ cls := "DangerTables$Good", name := "hasClass", desc := "(I)Z" } : Jvm.MethodName)) ∈ GW := GW_at (i := 575) (by decide +kernel) (by decide +kernel)
theorem k_543 : (Jvm.Cond.selects "DangerTables$Good" ({ cls := "DangerTables$Good", name := "hasClass", desc := "(I)Z" } : Jvm.MethodName) ({ cls := "DangerTables$Good", name := "hasClass", desc := "(I)Z" } : Jvm.MethodName)) ∈ GW := GW_at (i := 576) (by decide +kernel) (by decide +kernel)
set_option maxRecDepth 100000 in
theorem k_544 : (Jvm.Cond.code ({ cls := "DangerTables$Good", name := "hasClass", desc := "(I)Z" } : Jvm.MethodName) prog_3_method_2_code (2 : Nat) (Option.some Jvm.ClassFile.FieldType.boolean)) ∈ GW := GW_at (i := 577) (by rfl) (by decide +kernel)
theorem k_545 : (Jvm.Cond.methodLink "DangerTablesLaw" (105 : Nat) ({ cls := "DangerTablesLaw", name := "put", desc := "(LDangerTables;IIII[J)I" } : Jvm.MethodName)) ∈ GW := GW_at (i := 578) (by decide +kernel) (by decide +kernel)
theorem k_546 : (Jvm.Cond.static ({ cls := "DangerTablesLaw", name := "put", desc := "(LDangerTables;IIII[J)I" } : Jvm.MethodName)) ∈ GW := GW_at (i := 579) (by decide +kernel) (by decide +kernel)
set_option maxRecDepth 100000 in
theorem k_547 : (Jvm.Cond.codeWith ({ cls := "DangerTablesLaw", name := "put", desc := "(LDangerTables;IIII[J)I" } : Jvm.MethodName) method_10_code (7 : Nat) (Option.some Jvm.ClassFile.FieldType.int) [((0 : Nat), (14 : Nat), (17 : Nat), (13 : Nat)), ((0 : Nat), (14 : Nat), (21 : Nat), (19 : Nat))]) ∈ GW := GW_at (i := 580) (by rfl) (by decide +kernel)
theorem k_548 : (Jvm.Cond.methodLink "DangerTablesLaw" (38 : Nat) ({ cls := "DangerTables", name := "put", desc := "(IIII)I" } : Jvm.MethodName)) ∈ GW := GW_at (i := 581) (by decide +kernel) (by decide +kernel)
theorem k_549 : (Jvm.Cond.instanceMethod ({ cls := "DangerTables", name := "put", desc := "(IIII)I" } : Jvm.MethodName)) ∈ GW := GW_at (i := 582) (by decide +kernel) (by decide +kernel)
theorem k_550 : (Jvm.Cond.selects "DangerTables" ({ cls := "DangerTables", name := "put", desc := "(IIII)I" } : Jvm.MethodName) ({ cls := "DangerTables", name := "put", desc := "(IIII)I" } : Jvm.MethodName)) ∈ GW := GW_at (i := 583) (by decide +kernel) (by decide +kernel)
set_option maxRecDepth 100000 in
theorem k_551 : (Jvm.Cond.code ({ cls := "DangerTables", name := "put", desc := "(IIII)I" } : Jvm.MethodName) prog_1_method_13_code (7 : Nat) (Option.some Jvm.ClassFile.FieldType.int)) ∈ GW := GW_at (i := 584) (by rfl) (by decide +kernel)
theorem k_552 : (Jvm.Cond.methodLink "DangerTables" (168 : Nat) ({ cls := "DangerTables", name := "isSlot", desc := "(II)Z" } : Jvm.MethodName)) ∈ GW := GW_at (i := 585) (by decide +kernel) (by decide +kernel)
theorem k_553 : (Jvm.Cond.static ({ cls := "DangerTables", name := "isSlot", desc := "(II)Z" } : Jvm.MethodName)) ∈ GW := GW_at (i := 586) (by decide +kernel) (by decide +kernel)
set_option maxRecDepth 100000 in
theorem k_554 : (Jvm.Cond.code ({ cls := "DangerTables", name := "isSlot", desc := "(II)Z" } : Jvm.MethodName) prog_1_method_23_code (2 : Nat) (Option.some Jvm.ClassFile.FieldType.boolean)) ∈ GW := GW_at (i := 587) (by rfl) (by decide +kernel)
theorem k_557 : (Jvm.Cond.methodLink "DangerTables" (175 : Nat) ({ cls := "DangerTables", name := "firstBar", desc := "(LDangerTables$Box;III)I" } : Jvm.MethodName)) ∈ GW := GW_at (i := 590) (by decide +kernel) (by decide +kernel)
theorem k_559 : (Jvm.Cond.instanceMethod ({ cls := "DangerTables", name := "firstBar", desc := "(LDangerTables$Box;III)I" } : Jvm.MethodName)) ∈ GW := GW_at (i := 592) (by decide +kernel) (by decide +kernel)
set_option maxRecDepth 100000 in
theorem k_560 : (Jvm.Cond.code ({ cls := "DangerTables", name := "firstBar", desc := "(LDangerTables$Box;III)I" } : Jvm.MethodName) prog_1_method_34_code (7 : Nat) (Option.some Jvm.ClassFile.FieldType.int)) ∈ GW := GW_at (i := 593) (by rfl) (by decide +kernel)
theorem k_561 : (Jvm.Cond.methodLink "DangerTables" (192 : Nat) ({ cls := "DangerTables$Box", name := "untoldFields", desc := "()I" } : Jvm.MethodName)) ∈ GW := GW_at (i := 594) (by decide +kernel) (by decide +kernel)
theorem k_562 : (Jvm.Cond.instanceMethod ({ cls := "DangerTables$Box", name := "untoldFields", desc := "()I" } : Jvm.MethodName)) ∈ GW := GW_at (i := 595) (by decide +kernel) (by decide +kernel)
theorem k_563 : (Jvm.Cond.selects "DangerTables$Box" ({ cls := "DangerTables$Box", name := "untoldFields", desc := "()I" } : Jvm.MethodName) ({ cls := "DangerTables$Box", name := "untoldFields", desc := "()I" } : Jvm.MethodName)) ∈ GW := GW_at (i := 596) (by decide +kernel) (by decide +kernel)
set_option maxRecDepth 100000 in
theorem k_564 : (Jvm.Cond.code ({ cls := "DangerTables$Box", name := "untoldFields", desc := "()I" } : Jvm.MethodName) prog_2_method_12_code (3 : Nat) (Option.some Jvm.ClassFile.FieldType.int)) ∈ GW := GW_at (i := 597) (by rfl) (by decide +kernel)
theorem k_565 : (Jvm.Cond.methodLink "DangerTables$Box" (74 : Nat) ({ cls := "DangerTables$Part", name := "wantedFields", desc := "()I" } : Jvm.MethodName)) ∈ GW := GW_at (i := 598) (by decide +kernel) (by decide +kernel)
theorem k_566 : (Jvm.Cond.instanceMethod ({ cls := "DangerTables$Part", name := "wantedFields", desc := "()I" } : Jvm.MethodName)) ∈ GW := GW_at (i := 599) (by decide +kernel) (by decide +kernel)
theorem k_567 : (Jvm.Cond.selects "DangerTables$Part" ({ cls := "DangerTables$Part", name := "wantedFields", desc := "()I" } : Jvm.MethodName) ({ cls := "DangerTables$Part", name := "wantedFields", desc := "()I" } : Jvm.MethodName)) ∈ GW := GW_at (i := 600) (by decide +kernel) (by decide +kernel)
set_option maxRecDepth 100000 in
theorem k_568 : (Jvm.Cond.code ({ cls := "DangerTables$Part", name := "wantedFields", desc := "()I" } : Jvm.MethodName) prog_4_method_3_code (1 : Nat) (Option.some Jvm.ClassFile.FieldType.int)) ∈ GW := GW_at (i := 601) (by rfl) (by decide +kernel)
theorem k_569 : (Jvm.Cond.methodLink "DangerTables$Part" (27 : Nat) ({ cls := "DangerTables$Part", name := "isLimited", desc := "()Z" } : Jvm.MethodName)) ∈ GW := GW_at (i := 602) (by decide +kernel) (by decide +kernel)
theorem k_570 : (Jvm.Cond.methodLink "DangerTables" (262 : Nat) ({ cls := "DangerTables", name := "isTaken", desc := "(III)Z" } : Jvm.MethodName)) ∈ GW := GW_at (i := 603) (by decide +kernel) (by decide +kernel)
theorem k_572 : (Jvm.Cond.instanceMethod ({ cls := "DangerTables", name := "isTaken", desc := "(III)Z" } : Jvm.MethodName)) ∈ GW := GW_at (i := 605) (by decide +kernel) (by decide +kernel)
set_option maxRecDepth 100000 in
theorem k_573 : (Jvm.Cond.code ({ cls := "DangerTables", name := "isTaken", desc := "(III)Z" } : Jvm.MethodName) prog_1_method_35_code (6 : Nat) (Option.some Jvm.ClassFile.FieldType.boolean)) ∈ GW := GW_at (i := 606) (by rfl) (by decide +kernel)
theorem k_574 : (Jvm.Cond.methodLink "DangerTables" (266 : Nat) ({ cls := "DangerTables", name := "leastPassedClass", desc := "(LDangerTables$Box;I)I" } : Jvm.MethodName)) ∈ GW := GW_at (i := 607) (by decide +kernel) (by decide +kernel)
theorem k_576 : (Jvm.Cond.instanceMethod ({ cls := "DangerTables", name := "leastPassedClass", desc := "(LDangerTables$Box;I)I" } : Jvm.MethodName)) ∈ GW := GW_at (i := 609) (by decide +kernel) (by decide +kernel)
set_option maxRecDepth 100000 in
theorem k_577 : (Jvm.Cond.code ({ cls := "DangerTables", name := "leastPassedClass", desc := "(LDangerTables$Box;I)I" } : Jvm.MethodName) prog_1_method_36_code (5 : Nat) (Option.some Jvm.ClassFile.FieldType.int)) ∈ GW := GW_at (i := 610) (by rfl) (by decide +kernel)
theorem k_578 : (Jvm.Cond.methodLink "DangerTables" (270 : Nat) ({ cls := "DangerTables", name := "leastTooNear", desc := "(LDangerTables$Box;III)I" } : Jvm.MethodName)) ∈ GW := GW_at (i := 611) (by decide +kernel) (by decide +kernel)
theorem k_580 : (Jvm.Cond.instanceMethod ({ cls := "DangerTables", name := "leastTooNear", desc := "(LDangerTables$Box;III)I" } : Jvm.MethodName)) ∈ GW := GW_at (i := 613) (by decide +kernel) (by decide +kernel)
set_option maxRecDepth 100000 in
theorem k_581 : (Jvm.Cond.code ({ cls := "DangerTables", name := "leastTooNear", desc := "(LDangerTables$Box;III)I" } : Jvm.MethodName) prog_1_method_37_code (7 : Nat) (Option.some Jvm.ClassFile.FieldType.int)) ∈ GW := GW_at (i := 614) (by rfl) (by decide +kernel)
theorem k_582 : (Jvm.Cond.methodLink "DangerTables" (273 : Nat) ({ cls := "DangerTables$Box", name := "distanceTo", desc := "(II)I" } : Jvm.MethodName)) ∈ GW := GW_at (i := 615) (by decide +kernel) (by decide +kernel)
theorem k_583 : (Jvm.Cond.instanceMethod ({ cls := "DangerTables$Box", name := "distanceTo", desc := "(II)I" } : Jvm.MethodName)) ∈ GW := GW_at (i := 616) (by decide +kernel) (by decide +kernel)
theorem k_584 : (Jvm.Cond.selects "DangerTables$Box" ({ cls := "DangerTables$Box", name := "distanceTo", desc := "(II)I" } : Jvm.MethodName) ({ cls := "DangerTables$Box", name := "distanceTo", desc := "(II)I" } : Jvm.MethodName)) ∈ GW := GW_at (i := 617) (by decide +kernel) (by decide +kernel)
set_option maxRecDepth 100000 in
theorem k_585 : (Jvm.Cond.code ({ cls := "DangerTables$Box", name := "distanceTo", desc := "(II)I" } : Jvm.MethodName) prog_2_method_7_code (3 : Nat) (Option.some Jvm.ClassFile.FieldType.int)) ∈ GW := GW_at (i := 618) (by rfl) (by decide +kernel)
theorem k_586 : (Jvm.Cond.methodLink "DangerTables$Box" (48 : Nat) ({ cls := "java/lang/Math", name := "abs", desc := "(I)I" } : Jvm.MethodName)) ∈ GW := GW_at (i := 619) (by decide +kernel) (by decide +kernel)
theorem k_587 : (Jvm.Cond.static ({ cls := "java/lang/Math", name := "abs", desc := "(I)I" } : Jvm.MethodName)) ∈ GW := GW_at (i := 620) (by decide +kernel) (by decide +kernel)
set_option maxRecDepth 100000 in
theorem k_588 : (Jvm.Cond.code ({ cls := "java/lang/Math", name := "abs", desc := "(I)I" } : Jvm.MethodName) prog_15_method_59_code (1 : Nat) (Option.some Jvm.ClassFile.FieldType.int)) ∈ GW := GW_at (i := 621) (by rfl) (by decide +kernel)
theorem k_589 : (Jvm.Cond.methodLink "DangerTables" (276 : Nat) ({ cls := "DangerTables", name := "isTooNear", desc := "(II)Z" } : Jvm.MethodName)) ∈ GW := GW_at (i := 622) (by decide +kernel) (by decide +kernel)
theorem k_590 : (Jvm.Cond.static ({ cls := "DangerTables", name := "isTooNear", desc := "(II)Z" } : Jvm.MethodName)) ∈ GW := GW_at (i := 623) (by decide +kernel) (by decide +kernel)
set_option maxRecDepth 100000 in
theorem k_591 : (Jvm.Cond.code ({ cls := "DangerTables", name := "isTooNear", desc := "(II)Z" } : Jvm.MethodName) prog_1_method_38_code (2 : Nat) (Option.some Jvm.ClassFile.FieldType.boolean)) ∈ GW := GW_at (i := 624) (by rfl) (by decide +kernel)
theorem k_592 : (Jvm.Cond.fieldLink "DangerTables" (279 : Nat) "DangerTables" "YARD_DISTANCES" "[I") ∈ GW := GW_at (i := 625) (by decide +kernel) (by decide +kernel)
theorem k_594 : (Jvm.Cond.methodLink "DangerTables" (179 : Nat) ({ cls := "DangerTables$Box", name := "lay", desc := "(III)V" } : Jvm.MethodName)) ∈ GW := GW_at (i := 627) (by decide +kernel) (by decide +kernel)
theorem k_595 : (Jvm.Cond.instanceMethod ({ cls := "DangerTables$Box", name := "lay", desc := "(III)V" } : Jvm.MethodName)) ∈ GW := GW_at (i := 628) (by decide +kernel) (by decide +kernel)
theorem k_596 : (Jvm.Cond.selects "DangerTables$Box" ({ cls := "DangerTables$Box", name := "lay", desc := "(III)V" } : Jvm.MethodName) ({ cls := "DangerTables$Box", name := "lay", desc := "(III)V" } : Jvm.MethodName)) ∈ GW := GW_at (i := 629) (by decide +kernel) (by decide +kernel)
set_option maxRecDepth 100000 in
theorem k_597 : (Jvm.Cond.code ({ cls := "DangerTables$Box", name := "lay", desc := "(III)V" } : Jvm.MethodName) prog_2_method_6_code (4 : Nat) (Option.none : Option Jvm.ClassFile.FieldType)) ∈ GW := GW_at (i := 630) (by rfl) (by decide +kernel)
theorem k_598 : (Jvm.Cond.methodLink "DangerTablesLaw" (109 : Nat) ({ cls := "DangerTablesLaw", name := "take", desc := "(LDangerTables;I[J)I" } : Jvm.MethodName)) ∈ GW := GW_at (i := 631) (by decide +kernel) (by decide +kernel)
theorem k_599 : (Jvm.Cond.static ({ cls := "DangerTablesLaw", name := "take", desc := "(LDangerTables;I[J)I" } : Jvm.MethodName)) ∈ GW := GW_at (i := 632) (by decide +kernel) (by decide +kernel)
set_option maxRecDepth 100000 in
theorem k_600 : (Jvm.Cond.codeWith ({ cls := "DangerTablesLaw", name := "take", desc := "(LDangerTables;I[J)I" } : Jvm.MethodName) method_11_code (4 : Nat) (Option.some Jvm.ClassFile.FieldType.int) [((0 : Nat), (9 : Nat), (12 : Nat), (13 : Nat))]) ∈ GW := GW_at (i := 633) (by rfl) (by decide +kernel)
theorem k_601 : (Jvm.Cond.methodLink "DangerTablesLaw" (42 : Nat) ({ cls := "DangerTables", name := "take", desc := "(I)I" } : Jvm.MethodName)) ∈ GW := GW_at (i := 634) (by decide +kernel) (by decide +kernel)
end
section
theorem k_602 : (Jvm.Cond.instanceMethod ({ cls := "DangerTables", name := "take", desc := "(I)I" } : Jvm.MethodName)) ∈ GW := GW_at (i := 635) (by decide +kernel) (by decide +kernel)
theorem k_603 : (Jvm.Cond.selects "DangerTables" ({ cls := "DangerTables", name := "take", desc := "(I)I" } : Jvm.MethodName) ({ cls := "DangerTables", name := "take", desc := "(I)I" } : Jvm.MethodName)) ∈ GW := GW_at (i := 636) (by decide +kernel) (by decide +kernel)
set_option maxRecDepth 100000 in
theorem k_604 : (Jvm.Cond.code ({ cls := "DangerTables", name := "take", desc := "(I)I" } : Jvm.MethodName) prog_1_method_14_code (4 : Nat) (Option.some Jvm.ClassFile.FieldType.int)) ∈ GW := GW_at (i := 637) (by rfl) (by decide +kernel)
theorem k_606 : (Jvm.Cond.methodLink "DangerTablesLaw" (118 : Nat) ({ cls := "DangerTablesLaw", name := "missing", desc := "(LDangerTables;I[J)I" } : Jvm.MethodName)) ∈ GW := GW_at (i := 639) (by decide +kernel) (by decide +kernel)
theorem k_607 : (Jvm.Cond.static ({ cls := "DangerTablesLaw", name := "missing", desc := "(LDangerTables;I[J)I" } : Jvm.MethodName)) ∈ GW := GW_at (i := 640) (by decide +kernel) (by decide +kernel)
set_option maxRecDepth 100000 in
theorem k_608 : (Jvm.Cond.codeWith ({ cls := "DangerTablesLaw", name := "missing", desc := "(LDangerTables;I[J)I" } : Jvm.MethodName) method_12_code (4 : Nat) (Option.some Jvm.ClassFile.FieldType.int) [((0 : Nat), (9 : Nat), (12 : Nat), (13 : Nat))]) ∈ GW := GW_at (i := 641) (by rfl) (by decide +kernel)
theorem k_609 : (Jvm.Cond.methodLink "DangerTablesLaw" (46 : Nat) ({ cls := "DangerTables", name := "missing", desc := "(I)I" } : Jvm.MethodName)) ∈ GW := GW_at (i := 642) (by decide +kernel) (by decide +kernel)
theorem k_610 : (Jvm.Cond.instanceMethod ({ cls := "DangerTables", name := "missing", desc := "(I)I" } : Jvm.MethodName)) ∈ GW := GW_at (i := 643) (by decide +kernel) (by decide +kernel)
theorem k_611 : (Jvm.Cond.selects "DangerTables" ({ cls := "DangerTables", name := "missing", desc := "(I)I" } : Jvm.MethodName) ({ cls := "DangerTables", name := "missing", desc := "(I)I" } : Jvm.MethodName)) ∈ GW := GW_at (i := 644) (by decide +kernel) (by decide +kernel)
set_option maxRecDepth 100000 in
theorem k_612 : (Jvm.Cond.code ({ cls := "DangerTables", name := "missing", desc := "(I)I" } : Jvm.MethodName) prog_1_method_16_code (2 : Nat) (Option.some Jvm.ClassFile.FieldType.int)) ∈ GW := GW_at (i := 645) (by rfl) (by decide +kernel)
theorem k_613 : (Jvm.Cond.methodLink "DangerTablesLaw" (121 : Nat) ({ cls := "DangerTablesLaw", name := "look", desc := "(LDangerTables;II[J)I" } : Jvm.MethodName)) ∈ GW := GW_at (i := 646) (by decide +kernel) (by decide +kernel)
theorem k_614 : (Jvm.Cond.static ({ cls := "DangerTablesLaw", name := "look", desc := "(LDangerTables;II[J)I" } : Jvm.MethodName)) ∈ GW := GW_at (i := 647) (by decide +kernel) (by decide +kernel)
set_option maxRecDepth 100000 in
theorem k_615 : (Jvm.Cond.codeWith ({ cls := "DangerTablesLaw", name := "look", desc := "(LDangerTables;II[J)I" } : Jvm.MethodName) method_13_code (5 : Nat) (Option.some Jvm.ClassFile.FieldType.int) [((0 : Nat), (10 : Nat), (13 : Nat), (52 : Nat))]) ∈ GW := GW_at (i := 648) (by rfl) (by decide +kernel)
theorem k_616 : (Jvm.Cond.classLink "DangerTablesLaw" (52 : Nat) "java/lang/IndexOutOfBoundsException") ∈ GW := GW_at (i := 649) (by decide +kernel) (by decide +kernel)
theorem k_617 : (Jvm.Cond.methodLink "DangerTablesLaw" (49 : Nat) ({ cls := "DangerTables", name := "look", desc := "(II)I" } : Jvm.MethodName)) ∈ GW := GW_at (i := 650) (by decide +kernel) (by decide +kernel)
theorem k_618 : (Jvm.Cond.instanceMethod ({ cls := "DangerTables", name := "look", desc := "(II)I" } : Jvm.MethodName)) ∈ GW := GW_at (i := 651) (by decide +kernel) (by decide +kernel)
theorem k_619 : (Jvm.Cond.selects "DangerTables" ({ cls := "DangerTables", name := "look", desc := "(II)I" } : Jvm.MethodName) ({ cls := "DangerTables", name := "look", desc := "(II)I" } : Jvm.MethodName)) ∈ GW := GW_at (i := 652) (by decide +kernel) (by decide +kernel)
set_option maxRecDepth 100000 in
theorem k_620 : (Jvm.Cond.code ({ cls := "DangerTables", name := "look", desc := "(II)I" } : Jvm.MethodName) prog_1_method_17_code (4 : Nat) (Option.some Jvm.ClassFile.FieldType.int)) ∈ GW := GW_at (i := 653) (by rfl) (by decide +kernel)
theorem k_621 : (Jvm.Cond.classLink "DangerTables" (195 : Nat) "java/lang/IndexOutOfBoundsException") ∈ GW := GW_at (i := 654) (by decide +kernel) (by decide +kernel)
theorem k_622 : (Jvm.Cond.instantiable "java/lang/IndexOutOfBoundsException" (6 : Nat)) ∈ GW := GW_at (i := 655) (by decide +kernel) (by decide +kernel)
theorem k_624 : (Jvm.Cond.selects "java/lang/IndexOutOfBoundsException" ({ cls := "java/lang/Throwable", name := "fillInStackTrace", desc := "(I)Ljava/lang/Throwable;" } : Jvm.MethodName) ({ cls := "java/lang/Throwable", name := "fillInStackTrace", desc := "(I)Ljava/lang/Throwable;" } : Jvm.MethodName)) ∈ GW := GW_at (i := 657) (by decide +kernel) (by decide +kernel)
theorem k_631 : (Jvm.Cond.methodLink "DangerTables" (199 : Nat) ({ cls := "java/lang/IndexOutOfBoundsException", name := "<init>", desc := "(Ljava/lang/String;)V" } : Jvm.MethodName)) ∈ GW := GW_at (i := 664) (by decide +kernel) (by decide +kernel)
theorem k_632 : (Jvm.Cond.instanceMethod ({ cls := "java/lang/IndexOutOfBoundsException", name := "<init>", desc := "(Ljava/lang/String;)V" } : Jvm.MethodName)) ∈ GW := GW_at (i := 665) (by decide +kernel) (by decide +kernel)
theorem k_634 : (Jvm.Cond.methodLink "java/lang/IndexOutOfBoundsException" (7 : Nat) ({ cls := "java/lang/RuntimeException", name := "<init>", desc := "(Ljava/lang/String;)V" } : Jvm.MethodName)) ∈ GW := GW_at (i := 667) (by decide +kernel) (by decide +kernel)
theorem k_637 : (Jvm.Cond.methodLink "DangerTables" (206 : Nat) ({ cls := "DangerTables$Box", name := "kilograms", desc := "()I" } : Jvm.MethodName)) ∈ GW := GW_at (i := 670) (by decide +kernel) (by decide +kernel)
theorem k_638 : (Jvm.Cond.instanceMethod ({ cls := "DangerTables$Box", name := "kilograms", desc := "()I" } : Jvm.MethodName)) ∈ GW := GW_at (i := 671) (by decide +kernel) (by decide +kernel)
theorem k_639 : (Jvm.Cond.selects "DangerTables$Box" ({ cls := "DangerTables$Box", name := "kilograms", desc := "()I" } : Jvm.MethodName) ({ cls := "DangerTables$Box", name := "kilograms", desc := "()I" } : Jvm.MethodName)) ∈ GW := GW_at (i := 672) (by decide +kernel) (by decide +kernel)
set_option maxRecDepth 100000 in
theorem k_640 : (Jvm.Cond.code ({ cls := "DangerTables$Box", name := "kilograms", desc := "()I" } : Jvm.MethodName) prog_2_method_8_code (3 : Nat) (Option.some Jvm.ClassFile.FieldType.int)) ∈ GW := GW_at (i := 673) (by rfl) (by decide +kernel)
theorem k_641 : (Jvm.Cond.methodLink "DangerTables" (209 : Nat) ({ cls := "DangerTables$Box", name := "limitedCount", desc := "()I" } : Jvm.MethodName)) ∈ GW := GW_at (i := 674) (by decide +kernel) (by decide +kernel)
theorem k_642 : (Jvm.Cond.instanceMethod ({ cls := "DangerTables$Box", name := "limitedCount", desc := "()I" } : Jvm.MethodName)) ∈ GW := GW_at (i := 675) (by decide +kernel) (by decide +kernel)
theorem k_643 : (Jvm.Cond.selects "DangerTables$Box" ({ cls := "DangerTables$Box", name := "limitedCount", desc := "()I" } : Jvm.MethodName) ({ cls := "DangerTables$Box", name := "limitedCount", desc := "()I" } : Jvm.MethodName)) ∈ GW := GW_at (i := 676) (by decide +kernel) (by decide +kernel)
set_option maxRecDepth 100000 in
theorem k_644 : (Jvm.Cond.code ({ cls := "DangerTables$Box", name := "limitedCount", desc := "()I" } : Jvm.MethodName) prog_2_method_10_code (3 : Nat) (Option.some Jvm.ClassFile.FieldType.int)) ∈ GW := GW_at (i := 677) (by rfl) (by decide +kernel)
theorem k_645 : (Jvm.Cond.methodLink "DangerTables$Box" (67 : Nat) ({ cls := "DangerTables$Part", name := "isLimited", desc := "()Z" } : Jvm.MethodName)) ∈ GW := GW_at (i := 678) (by decide +kernel) (by decide +kernel)
theorem k_646 : (Jvm.Cond.classLink "DangerTablesLaw" (55 : Nat) "DangerTablesModel") ∈ GW := GW_at (i := 679) (by decide +kernel) (by decide +kernel)
theorem k_647 : (Jvm.Cond.instantiable "DangerTablesModel" (22 : Nat)) ∈ GW := GW_at (i := 680) (by decide +kernel) (by decide +kernel)
theorem k_648 : (Jvm.Cond.methodLink "DangerTablesLaw" (57 : Nat) ({ cls := "DangerTablesModel", name := "<init>", desc := "()V" } : Jvm.MethodName)) ∈ GW := GW_at (i := 681) (by decide +kernel) (by decide +kernel)
theorem k_649 : (Jvm.Cond.instanceMethod ({ cls := "DangerTablesModel", name := "<init>", desc := "()V" } : Jvm.MethodName)) ∈ GW := GW_at (i := 682) (by decide +kernel) (by decide +kernel)
set_option maxRecDepth 100000 in
theorem k_650 : (Jvm.Cond.code ({ cls := "DangerTablesModel", name := "<init>", desc := "()V" } : Jvm.MethodName) prog_7_method_1_code (2 : Nat) (Option.none : Option Jvm.ClassFile.FieldType)) ∈ GW := GW_at (i := 683) (by rfl) (by decide +kernel)
theorem k_651 : (Jvm.Cond.methodLink "DangerTablesModel" (1 : Nat) ({ cls := "java/lang/Object", name := "<init>", desc := "()V" } : Jvm.MethodName)) ∈ GW := GW_at (i := 684) (by decide +kernel) (by decide +kernel)
theorem k_652 : (Jvm.Cond.constant "DangerTablesModel" (62 : Nat) (100000 : Int32)) ∈ GW := GW_at (i := 685) (by decide +kernel) (by decide +kernel)
theorem k_653 : (Jvm.Cond.fieldLink "DangerTablesModel" (63 : Nat) "DangerTablesModel" "thrown" "I") ∈ GW := GW_at (i := 686) (by decide +kernel) (by decide +kernel)
theorem k_654 : (Jvm.Cond.fieldLink "DangerTablesModel" (7 : Nat) "DangerTablesModel" "text" "[I") ∈ GW := GW_at (i := 687) (by decide +kernel) (by decide +kernel)
theorem k_655 : (Jvm.Cond.fieldLink "DangerTablesModel" (77 : Nat) "DangerTablesModel" "signs" "I") ∈ GW := GW_at (i := 688) (by decide +kernel) (by decide +kernel)
theorem k_656 : (Jvm.Cond.fieldLink "DangerTablesModel" (91 : Nat) "DangerTablesModel" "hasTable" "Z") ∈ GW := GW_at (i := 689) (by decide +kernel) (by decide +kernel)
theorem k_657 : (Jvm.Cond.fieldLink "DangerTablesModel" (13 : Nat) "DangerTablesModel" "rules" "[I") ∈ GW := GW_at (i := 690) (by decide +kernel) (by decide +kernel)
theorem k_658 : (Jvm.Cond.fieldLink "DangerTablesModel" (67 : Nat) "DangerTablesModel" "goods" "I") ∈ GW := GW_at (i := 691) (by decide +kernel) (by decide +kernel)
theorem k_659 : (Jvm.Cond.fieldLink "DangerTablesModel" (16 : Nat) "DangerTablesModel" "cls" "[I") ∈ GW := GW_at (i := 692) (by decide +kernel) (by decide +kernel)
theorem k_660 : (Jvm.Cond.fieldLink "DangerTablesModel" (19 : Nat) "DangerTablesModel" "sideCls" "[I") ∈ GW := GW_at (i := 693) (by decide +kernel) (by decide +kernel)
theorem k_661 : (Jvm.Cond.fieldLink "DangerTablesModel" (22 : Nat) "DangerTablesModel" "group" "[I") ∈ GW := GW_at (i := 694) (by decide +kernel) (by decide +kernel)
theorem k_662 : (Jvm.Cond.fieldLink "DangerTablesModel" (25 : Nat) "DangerTablesModel" "limit" "[I") ∈ GW := GW_at (i := 695) (by decide +kernel) (by decide +kernel)
theorem k_663 : (Jvm.Cond.fieldLink "DangerTablesModel" (28 : Nat) "DangerTablesModel" "marine" "[Z") ∈ GW := GW_at (i := 696) (by decide +kernel) (by decide +kernel)
theorem k_664 : (Jvm.Cond.fieldLink "DangerTablesModel" (32 : Nat) "DangerTablesModel" "temperature" "[Z") ∈ GW := GW_at (i := 697) (by decide +kernel) (by decide +kernel)
theorem k_665 : (Jvm.Cond.fieldLink "DangerTablesModel" (35 : Nat) "DangerTablesModel" "exempt" "[Z") ∈ GW := GW_at (i := 698) (by decide +kernel) (by decide +kernel)
theorem k_666 : (Jvm.Cond.fieldLink "DangerTablesModel" (70 : Nat) "DangerTablesModel" "boxes" "I") ∈ GW := GW_at (i := 699) (by decide +kernel) (by decide +kernel)
theorem k_667 : (Jvm.Cond.fieldLink "DangerTablesModel" (38 : Nat) "DangerTablesModel" "many" "[I") ∈ GW := GW_at (i := 700) (by decide +kernel) (by decide +kernel)
theorem k_668 : (Jvm.Cond.fieldLink "DangerTablesModel" (41 : Nat) "DangerTablesModel" "zoneOf" "[I") ∈ GW := GW_at (i := 701) (by decide +kernel) (by decide +kernel)
theorem k_669 : (Jvm.Cond.fieldLink "DangerTablesModel" (44 : Nat) "DangerTablesModel" "xOf" "[I") ∈ GW := GW_at (i := 702) (by decide +kernel) (by decide +kernel)
theorem k_670 : (Jvm.Cond.fieldLink "DangerTablesModel" (47 : Nat) "DangerTablesModel" "yOf" "[I") ∈ GW := GW_at (i := 703) (by decide +kernel) (by decide +kernel)
theorem k_671 : (Jvm.Cond.fieldLink "DangerTablesModel" (50 : Nat) "DangerTablesModel" "fields" "[I") ∈ GW := GW_at (i := 704) (by decide +kernel) (by decide +kernel)
theorem k_672 : (Jvm.Cond.fieldLink "DangerTablesModel" (53 : Nat) "DangerTablesModel" "goodOf" "[I") ∈ GW := GW_at (i := 705) (by decide +kernel) (by decide +kernel)
theorem k_673 : (Jvm.Cond.fieldLink "DangerTablesModel" (56 : Nat) "DangerTablesModel" "amountOf" "[I") ∈ GW := GW_at (i := 706) (by decide +kernel) (by decide +kernel)
theorem k_674 : (Jvm.Cond.fieldLink "DangerTablesModel" (59 : Nat) "DangerTablesModel" "most" "[I") ∈ GW := GW_at (i := 707) (by decide +kernel) (by decide +kernel)
theorem k_675 : (Jvm.Cond.lays "DangerTablesModel" "DangerTablesModel" "thrown" "I") ∈ GW := GW_at (i := 708) (by decide +kernel) (by decide +kernel)
theorem k_677 : (Jvm.Cond.laysFinal "DangerTablesModel" "DangerTablesModel" "text" "[I") ∈ GW := GW_at (i := 710) (by decide +kernel) (by decide +kernel)
theorem k_679 : (Jvm.Cond.lays "DangerTablesModel" "DangerTablesModel" "signs" "I") ∈ GW := GW_at (i := 712) (by decide +kernel) (by decide +kernel)
theorem k_681 : (Jvm.Cond.lays "DangerTablesModel" "DangerTablesModel" "hasTable" "Z") ∈ GW := GW_at (i := 714) (by decide +kernel) (by decide +kernel)
theorem k_683 : (Jvm.Cond.laysFinal "DangerTablesModel" "DangerTablesModel" "rules" "[I") ∈ GW := GW_at (i := 716) (by decide +kernel) (by decide +kernel)
theorem k_685 : (Jvm.Cond.lays "DangerTablesModel" "DangerTablesModel" "goods" "I") ∈ GW := GW_at (i := 718) (by decide +kernel) (by decide +kernel)
theorem k_687 : (Jvm.Cond.laysFinal "DangerTablesModel" "DangerTablesModel" "cls" "[I") ∈ GW := GW_at (i := 720) (by decide +kernel) (by decide +kernel)
theorem k_689 : (Jvm.Cond.laysFinal "DangerTablesModel" "DangerTablesModel" "sideCls" "[I") ∈ GW := GW_at (i := 722) (by decide +kernel) (by decide +kernel)
theorem k_691 : (Jvm.Cond.laysFinal "DangerTablesModel" "DangerTablesModel" "group" "[I") ∈ GW := GW_at (i := 724) (by decide +kernel) (by decide +kernel)
theorem k_693 : (Jvm.Cond.laysFinal "DangerTablesModel" "DangerTablesModel" "limit" "[I") ∈ GW := GW_at (i := 726) (by decide +kernel) (by decide +kernel)
theorem k_695 : (Jvm.Cond.laysFinal "DangerTablesModel" "DangerTablesModel" "marine" "[Z") ∈ GW := GW_at (i := 728) (by decide +kernel) (by decide +kernel)
theorem k_697 : (Jvm.Cond.laysFinal "DangerTablesModel" "DangerTablesModel" "temperature" "[Z") ∈ GW := GW_at (i := 730) (by decide +kernel) (by decide +kernel)
theorem k_699 : (Jvm.Cond.laysFinal "DangerTablesModel" "DangerTablesModel" "exempt" "[Z") ∈ GW := GW_at (i := 732) (by decide +kernel) (by decide +kernel)
theorem k_701 : (Jvm.Cond.lays "DangerTablesModel" "DangerTablesModel" "boxes" "I") ∈ GW := GW_at (i := 734) (by decide +kernel) (by decide +kernel)
theorem k_703 : (Jvm.Cond.laysFinal "DangerTablesModel" "DangerTablesModel" "many" "[I") ∈ GW := GW_at (i := 736) (by decide +kernel) (by decide +kernel)
theorem k_705 : (Jvm.Cond.laysFinal "DangerTablesModel" "DangerTablesModel" "zoneOf" "[I") ∈ GW := GW_at (i := 738) (by decide +kernel) (by decide +kernel)
theorem k_707 : (Jvm.Cond.laysFinal "DangerTablesModel" "DangerTablesModel" "xOf" "[I") ∈ GW := GW_at (i := 740) (by decide +kernel) (by decide +kernel)
theorem k_709 : (Jvm.Cond.laysFinal "DangerTablesModel" "DangerTablesModel" "yOf" "[I") ∈ GW := GW_at (i := 742) (by decide +kernel) (by decide +kernel)
theorem k_711 : (Jvm.Cond.laysFinal "DangerTablesModel" "DangerTablesModel" "fields" "[I") ∈ GW := GW_at (i := 744) (by decide +kernel) (by decide +kernel)
theorem k_713 : (Jvm.Cond.laysFinal "DangerTablesModel" "DangerTablesModel" "goodOf" "[I") ∈ GW := GW_at (i := 746) (by decide +kernel) (by decide +kernel)
theorem k_715 : (Jvm.Cond.laysFinal "DangerTablesModel" "DangerTablesModel" "amountOf" "[I") ∈ GW := GW_at (i := 748) (by decide +kernel) (by decide +kernel)
theorem k_717 : (Jvm.Cond.laysFinal "DangerTablesModel" "DangerTablesModel" "most" "[I") ∈ GW := GW_at (i := 750) (by decide +kernel) (by decide +kernel)
theorem k_720 : (Jvm.Cond.arrayClass Jvm.ClassFile.FieldType.boolean) ∈ GW := GW_at (i := 753) (by decide +kernel) (by decide +kernel)
theorem k_721 : (Jvm.Cond.methodLink "DangerTablesLaw" (74 : Nat) ({ cls := "DangerTablesModel", name := "thrown", desc := "()I" } : Jvm.MethodName)) ∈ GW := GW_at (i := 754) (by decide +kernel) (by decide +kernel)
theorem k_722 : (Jvm.Cond.instanceMethod ({ cls := "DangerTablesModel", name := "thrown", desc := "()I" } : Jvm.MethodName)) ∈ GW := GW_at (i := 755) (by decide +kernel) (by decide +kernel)
theorem k_723 : (Jvm.Cond.selects "DangerTablesModel" ({ cls := "DangerTablesModel", name := "thrown", desc := "()I" } : Jvm.MethodName) ({ cls := "DangerTablesModel", name := "thrown", desc := "()I" } : Jvm.MethodName)) ∈ GW := GW_at (i := 756) (by decide +kernel) (by decide +kernel)
set_option maxRecDepth 100000 in
theorem k_724 : (Jvm.Cond.code ({ cls := "DangerTablesModel", name := "thrown", desc := "()I" } : Jvm.MethodName) prog_7_method_2_code (1 : Nat) (Option.some Jvm.ClassFile.FieldType.int)) ∈ GW := GW_at (i := 757) (by rfl) (by decide +kernel)
theorem k_725 : (Jvm.Cond.methodLink "DangerTablesLaw" (62 : Nat) ({ cls := "DangerTablesModel", name := "sign", desc := "(I)Z" } : Jvm.MethodName)) ∈ GW := GW_at (i := 758) (by decide +kernel) (by decide +kernel)
theorem k_726 : (Jvm.Cond.instanceMethod ({ cls := "DangerTablesModel", name := "sign", desc := "(I)Z" } : Jvm.MethodName)) ∈ GW := GW_at (i := 759) (by decide +kernel) (by decide +kernel)
theorem k_727 : (Jvm.Cond.selects "DangerTablesModel" ({ cls := "DangerTablesModel", name := "sign", desc := "(I)Z" } : Jvm.MethodName) ({ cls := "DangerTablesModel", name := "sign", desc := "(I)Z" } : Jvm.MethodName)) ∈ GW := GW_at (i := 760) (by decide +kernel) (by decide +kernel)
set_option maxRecDepth 100000 in
theorem k_728 : (Jvm.Cond.code ({ cls := "DangerTablesModel", name := "sign", desc := "(I)Z" } : Jvm.MethodName) prog_7_method_9_code (2 : Nat) (Option.some Jvm.ClassFile.FieldType.boolean)) ∈ GW := GW_at (i := 761) (by rfl) (by decide +kernel)
theorem k_729 : (Jvm.Cond.methodLink "DangerTablesModel" (73 : Nat) ({ cls := "DangerTablesModel", name := "in", desc := "(III)Z" } : Jvm.MethodName)) ∈ GW := GW_at (i := 762) (by decide +kernel) (by decide +kernel)
theorem k_730 : (Jvm.Cond.static ({ cls := "DangerTablesModel", name := "in", desc := "(III)Z" } : Jvm.MethodName)) ∈ GW := GW_at (i := 763) (by decide +kernel) (by decide +kernel)
set_option maxRecDepth 100000 in
theorem k_731 : (Jvm.Cond.code ({ cls := "DangerTablesModel", name := "in", desc := "(III)Z" } : Jvm.MethodName) prog_7_method_4_code (3 : Nat) (Option.some Jvm.ClassFile.FieldType.boolean)) ∈ GW := GW_at (i := 764) (by rfl) (by decide +kernel)
theorem k_732 : (Jvm.Cond.methodLink "DangerTablesLaw" (67 : Nat) ({ cls := "DangerTablesModel", name := "read", desc := "()I" } : Jvm.MethodName)) ∈ GW := GW_at (i := 765) (by decide +kernel) (by decide +kernel)
theorem k_733 : (Jvm.Cond.instanceMethod ({ cls := "DangerTablesModel", name := "read", desc := "()I" } : Jvm.MethodName)) ∈ GW := GW_at (i := 766) (by decide +kernel) (by decide +kernel)
theorem k_734 : (Jvm.Cond.selects "DangerTablesModel" ({ cls := "DangerTablesModel", name := "read", desc := "()I" } : Jvm.MethodName) ({ cls := "DangerTablesModel", name := "read", desc := "()I" } : Jvm.MethodName)) ∈ GW := GW_at (i := 767) (by decide +kernel) (by decide +kernel)
set_option maxRecDepth 100000 in
theorem k_735 : (Jvm.Cond.code ({ cls := "DangerTablesModel", name := "read", desc := "()I" } : Jvm.MethodName) prog_7_method_11_code (5 : Nat) (Option.some Jvm.ClassFile.FieldType.int)) ∈ GW := GW_at (i := 768) (by rfl) (by decide +kernel)
theorem k_736 : (Jvm.Cond.methodLink "DangerTablesModel" (88 : Nat) ({ cls := "DangerTablesModel", name := "stands", desc := "(I)Z" } : Jvm.MethodName)) ∈ GW := GW_at (i := 769) (by decide +kernel) (by decide +kernel)
theorem k_738 : (Jvm.Cond.instanceMethod ({ cls := "DangerTablesModel", name := "stands", desc := "(I)Z" } : Jvm.MethodName)) ∈ GW := GW_at (i := 771) (by decide +kernel) (by decide +kernel)
set_option maxRecDepth 100000 in
theorem k_739 : (Jvm.Cond.code ({ cls := "DangerTablesModel", name := "stands", desc := "(I)Z" } : Jvm.MethodName) prog_7_method_10_code (4 : Nat) (Option.some Jvm.ClassFile.FieldType.boolean)) ∈ GW := GW_at (i := 772) (by rfl) (by decide +kernel)
theorem k_740 : (Jvm.Cond.methodLink "DangerTablesModel" (80 : Nat) ({ cls := "DangerTablesModel", name := "isClass", desc := "(I)Z" } : Jvm.MethodName)) ∈ GW := GW_at (i := 773) (by decide +kernel) (by decide +kernel)
theorem k_741 : (Jvm.Cond.static ({ cls := "DangerTablesModel", name := "isClass", desc := "(I)Z" } : Jvm.MethodName)) ∈ GW := GW_at (i := 774) (by decide +kernel) (by decide +kernel)
set_option maxRecDepth 100000 in
theorem k_742 : (Jvm.Cond.code ({ cls := "DangerTablesModel", name := "isClass", desc := "(I)Z" } : Jvm.MethodName) prog_7_method_5_code (1 : Nat) (Option.some Jvm.ClassFile.FieldType.boolean)) ∈ GW := GW_at (i := 775) (by rfl) (by decide +kernel)
theorem k_743 : (Jvm.Cond.methodLink "DangerTablesModel" (84 : Nat) ({ cls := "DangerTablesModel", name := "pair", desc := "(II)I" } : Jvm.MethodName)) ∈ GW := GW_at (i := 776) (by decide +kernel) (by decide +kernel)
theorem k_744 : (Jvm.Cond.static ({ cls := "DangerTablesModel", name := "pair", desc := "(II)I" } : Jvm.MethodName)) ∈ GW := GW_at (i := 777) (by decide +kernel) (by decide +kernel)
set_option maxRecDepth 100000 in
theorem k_745 : (Jvm.Cond.code ({ cls := "DangerTablesModel", name := "pair", desc := "(II)I" } : Jvm.MethodName) prog_7_method_8_code (2 : Nat) (Option.some Jvm.ClassFile.FieldType.int)) ∈ GW := GW_at (i := 778) (by rfl) (by decide +kernel)
theorem k_746 : (Jvm.Cond.methodLink "DangerTablesLaw" (73 : Nat) ({ cls := "DangerTablesModel", name := "rule", desc := "(II)I" } : Jvm.MethodName)) ∈ GW := GW_at (i := 779) (by decide +kernel) (by decide +kernel)
theorem k_747 : (Jvm.Cond.instanceMethod ({ cls := "DangerTablesModel", name := "rule", desc := "(II)I" } : Jvm.MethodName)) ∈ GW := GW_at (i := 780) (by decide +kernel) (by decide +kernel)
theorem k_748 : (Jvm.Cond.selects "DangerTablesModel" ({ cls := "DangerTablesModel", name := "rule", desc := "(II)I" } : Jvm.MethodName) ({ cls := "DangerTablesModel", name := "rule", desc := "(II)I" } : Jvm.MethodName)) ∈ GW := GW_at (i := 781) (by decide +kernel) (by decide +kernel)
set_option maxRecDepth 100000 in
theorem k_749 : (Jvm.Cond.code ({ cls := "DangerTablesModel", name := "rule", desc := "(II)I" } : Jvm.MethodName) prog_7_method_12_code (3 : Nat) (Option.some Jvm.ClassFile.FieldType.int)) ∈ GW := GW_at (i := 782) (by rfl) (by decide +kernel)
theorem k_750 : (Jvm.Cond.methodLink "DangerTablesLaw" (80 : Nat) ({ cls := "DangerTablesModel", name := "good", desc := "(IIIIZZ)I" } : Jvm.MethodName)) ∈ GW := GW_at (i := 783) (by decide +kernel) (by decide +kernel)
theorem k_751 : (Jvm.Cond.instanceMethod ({ cls := "DangerTablesModel", name := "good", desc := "(IIIIZZ)I" } : Jvm.MethodName)) ∈ GW := GW_at (i := 784) (by decide +kernel) (by decide +kernel)
theorem k_752 : (Jvm.Cond.selects "DangerTablesModel" ({ cls := "DangerTablesModel", name := "good", desc := "(IIIIZZ)I" } : Jvm.MethodName) ({ cls := "DangerTablesModel", name := "good", desc := "(IIIIZZ)I" } : Jvm.MethodName)) ∈ GW := GW_at (i := 785) (by decide +kernel) (by decide +kernel)
set_option maxRecDepth 100000 in
theorem k_753 : (Jvm.Cond.code ({ cls := "DangerTablesModel", name := "good", desc := "(IIIIZZ)I" } : Jvm.MethodName) prog_7_method_13_code (7 : Nat) (Option.some Jvm.ClassFile.FieldType.int)) ∈ GW := GW_at (i := 786) (by rfl) (by decide +kernel)
theorem k_754 : (Jvm.Cond.methodLink "DangerTablesModel" (95 : Nat) ({ cls := "DangerTablesModel", name := "refuse", desc := "(I)I" } : Jvm.MethodName)) ∈ GW := GW_at (i := 787) (by decide +kernel) (by decide +kernel)
theorem k_756 : (Jvm.Cond.instanceMethod ({ cls := "DangerTablesModel", name := "refuse", desc := "(I)I" } : Jvm.MethodName)) ∈ GW := GW_at (i := 789) (by decide +kernel) (by decide +kernel)
set_option maxRecDepth 100000 in
theorem k_757 : (Jvm.Cond.code ({ cls := "DangerTablesModel", name := "refuse", desc := "(I)I" } : Jvm.MethodName) prog_7_method_3_code (2 : Nat) (Option.some Jvm.ClassFile.FieldType.int)) ∈ GW := GW_at (i := 790) (by rfl) (by decide +kernel)
theorem k_758 : (Jvm.Cond.methodLink "DangerTablesLaw" (84 : Nat) ({ cls := "DangerTablesModel", name := "exempt", desc := "(III)Z" } : Jvm.MethodName)) ∈ GW := GW_at (i := 791) (by decide +kernel) (by decide +kernel)
theorem k_759 : (Jvm.Cond.instanceMethod ({ cls := "DangerTablesModel", name := "exempt", desc := "(III)Z" } : Jvm.MethodName)) ∈ GW := GW_at (i := 792) (by decide +kernel) (by decide +kernel)
theorem k_760 : (Jvm.Cond.selects "DangerTablesModel" ({ cls := "DangerTablesModel", name := "exempt", desc := "(III)Z" } : Jvm.MethodName) ({ cls := "DangerTablesModel", name := "exempt", desc := "(III)Z" } : Jvm.MethodName)) ∈ GW := GW_at (i := 793) (by decide +kernel) (by decide +kernel)
set_option maxRecDepth 100000 in
theorem k_761 : (Jvm.Cond.code ({ cls := "DangerTablesModel", name := "exempt", desc := "(III)Z" } : Jvm.MethodName) prog_7_method_14_code (4 : Nat) (Option.some Jvm.ClassFile.FieldType.boolean)) ∈ GW := GW_at (i := 794) (by rfl) (by decide +kernel)
theorem k_762 : (Jvm.Cond.methodLink "DangerTablesModel" (99 : Nat) ({ cls := "DangerTablesModel", name := "isGood", desc := "(I)Z" } : Jvm.MethodName)) ∈ GW := GW_at (i := 795) (by decide +kernel) (by decide +kernel)
theorem k_764 : (Jvm.Cond.instanceMethod ({ cls := "DangerTablesModel", name := "isGood", desc := "(I)Z" } : Jvm.MethodName)) ∈ GW := GW_at (i := 797) (by decide +kernel) (by decide +kernel)
set_option maxRecDepth 100000 in
theorem k_765 : (Jvm.Cond.code ({ cls := "DangerTablesModel", name := "isGood", desc := "(I)Z" } : Jvm.MethodName) prog_7_method_6_code (2 : Nat) (Option.some Jvm.ClassFile.FieldType.boolean)) ∈ GW := GW_at (i := 798) (by rfl) (by decide +kernel)
theorem k_766 : (Jvm.Cond.methodLink "DangerTablesLaw" (87 : Nat) ({ cls := "DangerTablesModel", name := "box", desc := "(II)I" } : Jvm.MethodName)) ∈ GW := GW_at (i := 799) (by decide +kernel) (by decide +kernel)
theorem k_767 : (Jvm.Cond.instanceMethod ({ cls := "DangerTablesModel", name := "box", desc := "(II)I" } : Jvm.MethodName)) ∈ GW := GW_at (i := 800) (by decide +kernel) (by decide +kernel)
theorem k_768 : (Jvm.Cond.selects "DangerTablesModel" ({ cls := "DangerTablesModel", name := "box", desc := "(II)I" } : Jvm.MethodName) ({ cls := "DangerTablesModel", name := "box", desc := "(II)I" } : Jvm.MethodName)) ∈ GW := GW_at (i := 801) (by decide +kernel) (by decide +kernel)
set_option maxRecDepth 100000 in
theorem k_769 : (Jvm.Cond.code ({ cls := "DangerTablesModel", name := "box", desc := "(II)I" } : Jvm.MethodName) prog_7_method_16_code (3 : Nat) (Option.some Jvm.ClassFile.FieldType.int)) ∈ GW := GW_at (i := 802) (by rfl) (by decide +kernel)
theorem k_770 : (Jvm.Cond.methodLink "DangerTablesModel" (102 : Nat) ({ cls := "DangerTablesModel", name := "adds", desc := "(III)V" } : Jvm.MethodName)) ∈ GW := GW_at (i := 803) (by decide +kernel) (by decide +kernel)
theorem k_772 : (Jvm.Cond.instanceMethod ({ cls := "DangerTablesModel", name := "adds", desc := "(III)V" } : Jvm.MethodName)) ∈ GW := GW_at (i := 805) (by decide +kernel) (by decide +kernel)
set_option maxRecDepth 100000 in
theorem k_773 : (Jvm.Cond.code ({ cls := "DangerTablesModel", name := "adds", desc := "(III)V" } : Jvm.MethodName) prog_7_method_15_code (4 : Nat) (Option.none : Option Jvm.ClassFile.FieldType)) ∈ GW := GW_at (i := 806) (by rfl) (by decide +kernel)
theorem k_774 : (Jvm.Cond.methodLink "DangerTablesLaw" (91 : Nat) ({ cls := "DangerTablesModel", name := "also", desc := "(III)I" } : Jvm.MethodName)) ∈ GW := GW_at (i := 807) (by decide +kernel) (by decide +kernel)
theorem k_775 : (Jvm.Cond.instanceMethod ({ cls := "DangerTablesModel", name := "also", desc := "(III)I" } : Jvm.MethodName)) ∈ GW := GW_at (i := 808) (by decide +kernel) (by decide +kernel)
theorem k_776 : (Jvm.Cond.selects "DangerTablesModel" ({ cls := "DangerTablesModel", name := "also", desc := "(III)I" } : Jvm.MethodName) ({ cls := "DangerTablesModel", name := "also", desc := "(III)I" } : Jvm.MethodName)) ∈ GW := GW_at (i := 809) (by decide +kernel) (by decide +kernel)
set_option maxRecDepth 100000 in
theorem k_777 : (Jvm.Cond.code ({ cls := "DangerTablesModel", name := "also", desc := "(III)I" } : Jvm.MethodName) prog_7_method_18_code (4 : Nat) (Option.some Jvm.ClassFile.FieldType.int)) ∈ GW := GW_at (i := 810) (by rfl) (by decide +kernel)
theorem k_778 : (Jvm.Cond.methodLink "DangerTablesModel" (106 : Nat) ({ cls := "DangerTablesModel", name := "isBox", desc := "(I)Z" } : Jvm.MethodName)) ∈ GW := GW_at (i := 811) (by decide +kernel) (by decide +kernel)
theorem k_780 : (Jvm.Cond.instanceMethod ({ cls := "DangerTablesModel", name := "isBox", desc := "(I)Z" } : Jvm.MethodName)) ∈ GW := GW_at (i := 813) (by decide +kernel) (by decide +kernel)
set_option maxRecDepth 100000 in
theorem k_781 : (Jvm.Cond.code ({ cls := "DangerTablesModel", name := "isBox", desc := "(I)Z" } : Jvm.MethodName) prog_7_method_7_code (2 : Nat) (Option.some Jvm.ClassFile.FieldType.boolean)) ∈ GW := GW_at (i := 814) (by rfl) (by decide +kernel)
theorem k_782 : (Jvm.Cond.methodLink "DangerTablesModel" (109 : Nat) ({ cls := "DangerTablesModel", name := "has", desc := "(II)Z" } : Jvm.MethodName)) ∈ GW := GW_at (i := 815) (by decide +kernel) (by decide +kernel)
theorem k_784 : (Jvm.Cond.instanceMethod ({ cls := "DangerTablesModel", name := "has", desc := "(II)Z" } : Jvm.MethodName)) ∈ GW := GW_at (i := 817) (by decide +kernel) (by decide +kernel)
set_option maxRecDepth 100000 in
theorem k_785 : (Jvm.Cond.code ({ cls := "DangerTablesModel", name := "has", desc := "(II)Z" } : Jvm.MethodName) prog_7_method_17_code (5 : Nat) (Option.some Jvm.ClassFile.FieldType.boolean)) ∈ GW := GW_at (i := 818) (by rfl) (by decide +kernel)
theorem k_786 : (Jvm.Cond.methodLink "DangerTablesLaw" (94 : Nat) ({ cls := "DangerTablesModel", name := "apart", desc := "(II)I" } : Jvm.MethodName)) ∈ GW := GW_at (i := 819) (by decide +kernel) (by decide +kernel)
theorem k_787 : (Jvm.Cond.instanceMethod ({ cls := "DangerTablesModel", name := "apart", desc := "(II)I" } : Jvm.MethodName)) ∈ GW := GW_at (i := 820) (by decide +kernel) (by decide +kernel)
theorem k_788 : (Jvm.Cond.selects "DangerTablesModel" ({ cls := "DangerTablesModel", name := "apart", desc := "(II)I" } : Jvm.MethodName) ({ cls := "DangerTablesModel", name := "apart", desc := "(II)I" } : Jvm.MethodName)) ∈ GW := GW_at (i := 821) (by decide +kernel) (by decide +kernel)
set_option maxRecDepth 100000 in
theorem k_789 : (Jvm.Cond.code ({ cls := "DangerTablesModel", name := "apart", desc := "(II)I" } : Jvm.MethodName) prog_7_method_24_code (3 : Nat) (Option.some Jvm.ClassFile.FieldType.int)) ∈ GW := GW_at (i := 822) (by rfl) (by decide +kernel)
theorem k_790 : (Jvm.Cond.methodLink "DangerTablesModel" (126 : Nat) ({ cls := "DangerTablesModel", name := "strictest", desc := "(II)I" } : Jvm.MethodName)) ∈ GW := GW_at (i := 823) (by decide +kernel) (by decide +kernel)
theorem k_792 : (Jvm.Cond.instanceMethod ({ cls := "DangerTablesModel", name := "strictest", desc := "(II)I" } : Jvm.MethodName)) ∈ GW := GW_at (i := 825) (by decide +kernel) (by decide +kernel)
set_option maxRecDepth 100000 in
theorem k_793 : (Jvm.Cond.code ({ cls := "DangerTablesModel", name := "strictest", desc := "(II)I" } : Jvm.MethodName) prog_7_method_23_code (6 : Nat) (Option.some Jvm.ClassFile.FieldType.int)) ∈ GW := GW_at (i := 826) (by rfl) (by decide +kernel)
theorem k_794 : (Jvm.Cond.methodLink "DangerTablesModel" (123 : Nat) ({ cls := "DangerTablesModel", name := "between", desc := "(II)I" } : Jvm.MethodName)) ∈ GW := GW_at (i := 827) (by decide +kernel) (by decide +kernel)
theorem k_796 : (Jvm.Cond.instanceMethod ({ cls := "DangerTablesModel", name := "between", desc := "(II)I" } : Jvm.MethodName)) ∈ GW := GW_at (i := 829) (by decide +kernel) (by decide +kernel)
set_option maxRecDepth 100000 in
theorem k_797 : (Jvm.Cond.code ({ cls := "DangerTablesModel", name := "between", desc := "(II)I" } : Jvm.MethodName) prog_7_method_22_code (6 : Nat) (Option.some Jvm.ClassFile.FieldType.int)) ∈ GW := GW_at (i := 830) (by rfl) (by decide +kernel)
theorem k_798 : (Jvm.Cond.methodLink "DangerTablesModel" (113 : Nat) ({ cls := "DangerTablesModel", name := "ruleFor", desc := "(IIII)I" } : Jvm.MethodName)) ∈ GW := GW_at (i := 831) (by decide +kernel) (by decide +kernel)
theorem k_800 : (Jvm.Cond.instanceMethod ({ cls := "DangerTablesModel", name := "ruleFor", desc := "(IIII)I" } : Jvm.MethodName)) ∈ GW := GW_at (i := 833) (by decide +kernel) (by decide +kernel)
set_option maxRecDepth 100000 in
theorem k_801 : (Jvm.Cond.code ({ cls := "DangerTablesModel", name := "ruleFor", desc := "(IIII)I" } : Jvm.MethodName) prog_7_method_20_code (6 : Nat) (Option.some Jvm.ClassFile.FieldType.int)) ∈ GW := GW_at (i := 834) (by rfl) (by decide +kernel)
theorem k_802 : (Jvm.Cond.methodLink "DangerTablesModel" (117 : Nat) ({ cls := "DangerTablesModel", name := "greater", desc := "(II)I" } : Jvm.MethodName)) ∈ GW := GW_at (i := 835) (by decide +kernel) (by decide +kernel)
theorem k_803 : (Jvm.Cond.static ({ cls := "DangerTablesModel", name := "greater", desc := "(II)I" } : Jvm.MethodName)) ∈ GW := GW_at (i := 836) (by decide +kernel) (by decide +kernel)
set_option maxRecDepth 100000 in
theorem k_804 : (Jvm.Cond.code ({ cls := "DangerTablesModel", name := "greater", desc := "(II)I" } : Jvm.MethodName) prog_7_method_21_code (2 : Nat) (Option.some Jvm.ClassFile.FieldType.int)) ∈ GW := GW_at (i := 837) (by rfl) (by decide +kernel)
theorem k_805 : (Jvm.Cond.methodLink "DangerTablesModel" (120 : Nat) ({ cls := "DangerTablesModel", name := "isLimited", desc := "(I)Z" } : Jvm.MethodName)) ∈ GW := GW_at (i := 838) (by decide +kernel) (by decide +kernel)
theorem k_807 : (Jvm.Cond.instanceMethod ({ cls := "DangerTablesModel", name := "isLimited", desc := "(I)Z" } : Jvm.MethodName)) ∈ GW := GW_at (i := 840) (by decide +kernel) (by decide +kernel)
set_option maxRecDepth 100000 in
theorem k_808 : (Jvm.Cond.code ({ cls := "DangerTablesModel", name := "isLimited", desc := "(I)Z" } : Jvm.MethodName) prog_7_method_19_code (2 : Nat) (Option.some Jvm.ClassFile.FieldType.boolean)) ∈ GW := GW_at (i := 841) (by rfl) (by decide +kernel)
theorem k_809 : (Jvm.Cond.methodLink "DangerTablesLaw" (97 : Nat) ({ cls := "DangerTablesModel", name := "ship", desc := "(III)Z" } : Jvm.MethodName)) ∈ GW := GW_at (i := 842) (by decide +kernel) (by decide +kernel)
theorem k_810 : (Jvm.Cond.instanceMethod ({ cls := "DangerTablesModel", name := "ship", desc := "(III)Z" } : Jvm.MethodName)) ∈ GW := GW_at (i := 843) (by decide +kernel) (by decide +kernel)
theorem k_811 : (Jvm.Cond.selects "DangerTablesModel" ({ cls := "DangerTablesModel", name := "ship", desc := "(III)Z" } : Jvm.MethodName) ({ cls := "DangerTablesModel", name := "ship", desc := "(III)Z" } : Jvm.MethodName)) ∈ GW := GW_at (i := 844) (by decide +kernel) (by decide +kernel)
set_option maxRecDepth 100000 in
theorem k_812 : (Jvm.Cond.code ({ cls := "DangerTablesModel", name := "ship", desc := "(III)Z" } : Jvm.MethodName) prog_7_method_25_code (5 : Nat) (Option.some Jvm.ClassFile.FieldType.boolean)) ∈ GW := GW_at (i := 845) (by rfl) (by decide +kernel)
theorem k_813 : (Jvm.Cond.methodLink "DangerTablesLaw" (101 : Nat) ({ cls := "DangerTablesModel", name := "most", desc := "(III)Z" } : Jvm.MethodName)) ∈ GW := GW_at (i := 846) (by decide +kernel) (by decide +kernel)
theorem k_814 : (Jvm.Cond.instanceMethod ({ cls := "DangerTablesModel", name := "most", desc := "(III)Z" } : Jvm.MethodName)) ∈ GW := GW_at (i := 847) (by decide +kernel) (by decide +kernel)
theorem k_815 : (Jvm.Cond.selects "DangerTablesModel" ({ cls := "DangerTablesModel", name := "most", desc := "(III)Z" } : Jvm.MethodName) ({ cls := "DangerTablesModel", name := "most", desc := "(III)Z" } : Jvm.MethodName)) ∈ GW := GW_at (i := 848) (by decide +kernel) (by decide +kernel)
set_option maxRecDepth 100000 in
theorem k_816 : (Jvm.Cond.code ({ cls := "DangerTablesModel", name := "most", desc := "(III)Z" } : Jvm.MethodName) prog_7_method_26_code (4 : Nat) (Option.some Jvm.ClassFile.FieldType.boolean)) ∈ GW := GW_at (i := 849) (by rfl) (by decide +kernel)
theorem k_817 : (Jvm.Cond.methodLink "DangerTablesLaw" (104 : Nat) ({ cls := "DangerTablesModel", name := "zone", desc := "(II)I" } : Jvm.MethodName)) ∈ GW := GW_at (i := 850) (by decide +kernel) (by decide +kernel)
theorem k_818 : (Jvm.Cond.instanceMethod ({ cls := "DangerTablesModel", name := "zone", desc := "(II)I" } : Jvm.MethodName)) ∈ GW := GW_at (i := 851) (by decide +kernel) (by decide +kernel)
theorem k_819 : (Jvm.Cond.selects "DangerTablesModel" ({ cls := "DangerTablesModel", name := "zone", desc := "(II)I" } : Jvm.MethodName) ({ cls := "DangerTablesModel", name := "zone", desc := "(II)I" } : Jvm.MethodName)) ∈ GW := GW_at (i := 852) (by decide +kernel) (by decide +kernel)
set_option maxRecDepth 100000 in
theorem k_820 : (Jvm.Cond.code ({ cls := "DangerTablesModel", name := "zone", desc := "(II)I" } : Jvm.MethodName) prog_7_method_29_code (3 : Nat) (Option.some Jvm.ClassFile.FieldType.int)) ∈ GW := GW_at (i := 853) (by rfl) (by decide +kernel)
theorem k_821 : (Jvm.Cond.methodLink "DangerTablesModel" (132 : Nat) ({ cls := "DangerTablesModel", name := "inZone", desc := "(II)I" } : Jvm.MethodName)) ∈ GW := GW_at (i := 854) (by decide +kernel) (by decide +kernel)
theorem k_823 : (Jvm.Cond.instanceMethod ({ cls := "DangerTablesModel", name := "inZone", desc := "(II)I" } : Jvm.MethodName)) ∈ GW := GW_at (i := 856) (by decide +kernel) (by decide +kernel)
set_option maxRecDepth 100000 in
theorem k_824 : (Jvm.Cond.code ({ cls := "DangerTablesModel", name := "inZone", desc := "(II)I" } : Jvm.MethodName) prog_7_method_28_code (5 : Nat) (Option.some Jvm.ClassFile.FieldType.int)) ∈ GW := GW_at (i := 857) (by rfl) (by decide +kernel)
theorem k_825 : (Jvm.Cond.methodLink "DangerTablesModel" (129 : Nat) ({ cls := "DangerTablesModel", name := "inBox", desc := "(II)I" } : Jvm.MethodName)) ∈ GW := GW_at (i := 858) (by decide +kernel) (by decide +kernel)
theorem k_827 : (Jvm.Cond.instanceMethod ({ cls := "DangerTablesModel", name := "inBox", desc := "(II)I" } : Jvm.MethodName)) ∈ GW := GW_at (i := 860) (by decide +kernel) (by decide +kernel)
set_option maxRecDepth 100000 in
theorem k_828 : (Jvm.Cond.code ({ cls := "DangerTablesModel", name := "inBox", desc := "(II)I" } : Jvm.MethodName) prog_7_method_27_code (5 : Nat) (Option.some Jvm.ClassFile.FieldType.int)) ∈ GW := GW_at (i := 861) (by rfl) (by decide +kernel)
theorem k_829 : (Jvm.Cond.methodLink "DangerTablesLaw" (108 : Nat) ({ cls := "DangerTablesModel", name := "put", desc := "(IIII)I" } : Jvm.MethodName)) ∈ GW := GW_at (i := 862) (by decide +kernel) (by decide +kernel)
theorem k_830 : (Jvm.Cond.instanceMethod ({ cls := "DangerTablesModel", name := "put", desc := "(IIII)I" } : Jvm.MethodName)) ∈ GW := GW_at (i := 863) (by decide +kernel) (by decide +kernel)
theorem k_831 : (Jvm.Cond.selects "DangerTablesModel" ({ cls := "DangerTablesModel", name := "put", desc := "(IIII)I" } : Jvm.MethodName) ({ cls := "DangerTablesModel", name := "put", desc := "(IIII)I" } : Jvm.MethodName)) ∈ GW := GW_at (i := 864) (by decide +kernel) (by decide +kernel)
set_option maxRecDepth 100000 in
theorem k_832 : (Jvm.Cond.code ({ cls := "DangerTablesModel", name := "put", desc := "(IIII)I" } : Jvm.MethodName) prog_7_method_34_code (6 : Nat) (Option.some Jvm.ClassFile.FieldType.int)) ∈ GW := GW_at (i := 865) (by rfl) (by decide +kernel)
theorem k_833 : (Jvm.Cond.methodLink "DangerTablesModel" (145 : Nat) ({ cls := "DangerTablesModel", name := "bars", desc := "(IIII)I" } : Jvm.MethodName)) ∈ GW := GW_at (i := 866) (by decide +kernel) (by decide +kernel)
theorem k_835 : (Jvm.Cond.instanceMethod ({ cls := "DangerTablesModel", name := "bars", desc := "(IIII)I" } : Jvm.MethodName)) ∈ GW := GW_at (i := 868) (by decide +kernel) (by decide +kernel)
set_option maxRecDepth 100000 in
theorem k_836 : (Jvm.Cond.code ({ cls := "DangerTablesModel", name := "bars", desc := "(IIII)I" } : Jvm.MethodName) prog_7_method_33_code (6 : Nat) (Option.some Jvm.ClassFile.FieldType.int)) ∈ GW := GW_at (i := 869) (by rfl) (by decide +kernel)
theorem k_837 : (Jvm.Cond.methodLink "DangerTablesModel" (138 : Nat) ({ cls := "DangerTablesModel", name := "wanted", desc := "(I)I" } : Jvm.MethodName)) ∈ GW := GW_at (i := 870) (by decide +kernel) (by decide +kernel)
theorem k_839 : (Jvm.Cond.instanceMethod ({ cls := "DangerTablesModel", name := "wanted", desc := "(I)I" } : Jvm.MethodName)) ∈ GW := GW_at (i := 872) (by decide +kernel) (by decide +kernel)
set_option maxRecDepth 100000 in
theorem k_840 : (Jvm.Cond.code ({ cls := "DangerTablesModel", name := "wanted", desc := "(I)I" } : Jvm.MethodName) prog_7_method_30_code (5 : Nat) (Option.some Jvm.ClassFile.FieldType.int)) ∈ GW := GW_at (i := 873) (by rfl) (by decide +kernel)
theorem k_841 : (Jvm.Cond.methodLink "DangerTablesModel" (141 : Nat) ({ cls := "DangerTablesModel", name := "isNear", desc := "(IIII)Z" } : Jvm.MethodName)) ∈ GW := GW_at (i := 874) (by decide +kernel) (by decide +kernel)
theorem k_843 : (Jvm.Cond.instanceMethod ({ cls := "DangerTablesModel", name := "isNear", desc := "(IIII)Z" } : Jvm.MethodName)) ∈ GW := GW_at (i := 876) (by decide +kernel) (by decide +kernel)
set_option maxRecDepth 100000 in
theorem k_844 : (Jvm.Cond.code ({ cls := "DangerTablesModel", name := "isNear", desc := "(IIII)Z" } : Jvm.MethodName) prog_7_method_32_code (7 : Nat) (Option.some Jvm.ClassFile.FieldType.boolean)) ∈ GW := GW_at (i := 877) (by rfl) (by decide +kernel)
theorem k_845 : (Jvm.Cond.methodLink "DangerTablesModel" (135 : Nat) ({ cls := "DangerTablesModel", name := "far", desc := "(I)I" } : Jvm.MethodName)) ∈ GW := GW_at (i := 878) (by decide +kernel) (by decide +kernel)
theorem k_846 : (Jvm.Cond.static ({ cls := "DangerTablesModel", name := "far", desc := "(I)I" } : Jvm.MethodName)) ∈ GW := GW_at (i := 879) (by decide +kernel) (by decide +kernel)
set_option maxRecDepth 100000 in
theorem k_847 : (Jvm.Cond.code ({ cls := "DangerTablesModel", name := "far", desc := "(I)I" } : Jvm.MethodName) prog_7_method_31_code (1 : Nat) (Option.some Jvm.ClassFile.FieldType.int)) ∈ GW := GW_at (i := 880) (by rfl) (by decide +kernel)
theorem k_848 : (Jvm.Cond.methodLink "DangerTablesLaw" (112 : Nat) ({ cls := "DangerTablesModel", name := "take", desc := "(I)I" } : Jvm.MethodName)) ∈ GW := GW_at (i := 881) (by decide +kernel) (by decide +kernel)
theorem k_849 : (Jvm.Cond.instanceMethod ({ cls := "DangerTablesModel", name := "take", desc := "(I)I" } : Jvm.MethodName)) ∈ GW := GW_at (i := 882) (by decide +kernel) (by decide +kernel)
theorem k_850 : (Jvm.Cond.selects "DangerTablesModel" ({ cls := "DangerTablesModel", name := "take", desc := "(I)I" } : Jvm.MethodName) ({ cls := "DangerTablesModel", name := "take", desc := "(I)I" } : Jvm.MethodName)) ∈ GW := GW_at (i := 883) (by decide +kernel) (by decide +kernel)
set_option maxRecDepth 100000 in
theorem k_851 : (Jvm.Cond.code ({ cls := "DangerTablesModel", name := "take", desc := "(I)I" } : Jvm.MethodName) prog_7_method_35_code (3 : Nat) (Option.some Jvm.ClassFile.FieldType.int)) ∈ GW := GW_at (i := 884) (by rfl) (by decide +kernel)
theorem k_852 : (Jvm.Cond.methodLink "DangerTablesLaw" (117 : Nat) ({ cls := "DangerTablesModel", name := "paper", desc := "(II)Z" } : Jvm.MethodName)) ∈ GW := GW_at (i := 885) (by decide +kernel) (by decide +kernel)
theorem k_853 : (Jvm.Cond.instanceMethod ({ cls := "DangerTablesModel", name := "paper", desc := "(II)Z" } : Jvm.MethodName)) ∈ GW := GW_at (i := 886) (by decide +kernel) (by decide +kernel)
theorem k_854 : (Jvm.Cond.selects "DangerTablesModel" ({ cls := "DangerTablesModel", name := "paper", desc := "(II)Z" } : Jvm.MethodName) ({ cls := "DangerTablesModel", name := "paper", desc := "(II)Z" } : Jvm.MethodName)) ∈ GW := GW_at (i := 887) (by decide +kernel) (by decide +kernel)
set_option maxRecDepth 100000 in
theorem k_855 : (Jvm.Cond.code ({ cls := "DangerTablesModel", name := "paper", desc := "(II)Z" } : Jvm.MethodName) prog_7_method_36_code (3 : Nat) (Option.some Jvm.ClassFile.FieldType.boolean)) ∈ GW := GW_at (i := 888) (by rfl) (by decide +kernel)
theorem k_856 : (Jvm.Cond.methodLink "DangerTablesLaw" (120 : Nat) ({ cls := "DangerTablesModel", name := "missing", desc := "(I)I" } : Jvm.MethodName)) ∈ GW := GW_at (i := 889) (by decide +kernel) (by decide +kernel)
theorem k_857 : (Jvm.Cond.instanceMethod ({ cls := "DangerTablesModel", name := "missing", desc := "(I)I" } : Jvm.MethodName)) ∈ GW := GW_at (i := 890) (by decide +kernel) (by decide +kernel)
theorem k_858 : (Jvm.Cond.selects "DangerTablesModel" ({ cls := "DangerTablesModel", name := "missing", desc := "(I)I" } : Jvm.MethodName) ({ cls := "DangerTablesModel", name := "missing", desc := "(I)I" } : Jvm.MethodName)) ∈ GW := GW_at (i := 891) (by decide +kernel) (by decide +kernel)
set_option maxRecDepth 100000 in
theorem k_859 : (Jvm.Cond.code ({ cls := "DangerTablesModel", name := "missing", desc := "(I)I" } : Jvm.MethodName) prog_7_method_37_code (2 : Nat) (Option.some Jvm.ClassFile.FieldType.int)) ∈ GW := GW_at (i := 892) (by rfl) (by decide +kernel)
theorem k_860 : (Jvm.Cond.methodLink "DangerTablesLaw" (123 : Nat) ({ cls := "DangerTablesModel", name := "look", desc := "(II)I" } : Jvm.MethodName)) ∈ GW := GW_at (i := 893) (by decide +kernel) (by decide +kernel)
theorem k_861 : (Jvm.Cond.instanceMethod ({ cls := "DangerTablesModel", name := "look", desc := "(II)I" } : Jvm.MethodName)) ∈ GW := GW_at (i := 894) (by decide +kernel) (by decide +kernel)
theorem k_862 : (Jvm.Cond.selects "DangerTablesModel" ({ cls := "DangerTablesModel", name := "look", desc := "(II)I" } : Jvm.MethodName) ({ cls := "DangerTablesModel", name := "look", desc := "(II)I" } : Jvm.MethodName)) ∈ GW := GW_at (i := 895) (by decide +kernel) (by decide +kernel)
set_option maxRecDepth 100000 in
theorem k_863 : (Jvm.Cond.code ({ cls := "DangerTablesModel", name := "look", desc := "(II)I" } : Jvm.MethodName) prog_7_method_38_code (6 : Nat) (Option.some Jvm.ClassFile.FieldType.int)) ∈ GW := GW_at (i := 896) (by rfl) (by decide +kernel)
theorem k_864 : (Jvm.Cond.methodLink "DangerTablesLaw" (127 : Nat) ({ cls := "DangerTablesModel", name := "count", desc := "(I)I" } : Jvm.MethodName)) ∈ GW := GW_at (i := 897) (by decide +kernel) (by decide +kernel)
theorem k_865 : (Jvm.Cond.instanceMethod ({ cls := "DangerTablesModel", name := "count", desc := "(I)I" } : Jvm.MethodName)) ∈ GW := GW_at (i := 898) (by decide +kernel) (by decide +kernel)
theorem k_866 : (Jvm.Cond.selects "DangerTablesModel" ({ cls := "DangerTablesModel", name := "count", desc := "(I)I" } : Jvm.MethodName) ({ cls := "DangerTablesModel", name := "count", desc := "(I)I" } : Jvm.MethodName)) ∈ GW := GW_at (i := 899) (by decide +kernel) (by decide +kernel)
set_option maxRecDepth 100000 in
theorem k_867 : (Jvm.Cond.code ({ cls := "DangerTablesModel", name := "count", desc := "(I)I" } : Jvm.MethodName) prog_7_method_39_code (4 : Nat) (Option.some Jvm.ClassFile.FieldType.int)) ∈ GW := GW_at (i := 900) (by rfl) (by decide +kernel)
theorem k_868 : (Jvm.Cond.arrayClass Jvm.ClassFile.FieldType.long) ∈ GW := GW_at (i := 901) (by decide +kernel) (by decide +kernel)
theorem k_869 : (Jvm.Cond.sameMethod "java/lang/Throwable" "java/lang/Throwable" "fillInStackTrace" "(I)Ljava/lang/Throwable;") ∈ GW := GW_at (i := 902) (by decide +kernel) (by decide +kernel)
theorem k_873 : (Jvm.Cond.sameMethod "[Ljava/lang/Object;" "java/lang/Object" "getClass" "()Ljava/lang/Class;") ∈ GW := GW_at (i := 906) (by decide +kernel) (by decide +kernel)
theorem k_874 : (Jvm.Cond.selects "[Ljava/lang/Object;" ({ cls := "java/lang/Object", name := "getClass", desc := "()Ljava/lang/Class;" } : Jvm.MethodName) ({ cls := "java/lang/Object", name := "getClass", desc := "()Ljava/lang/Class;" } : Jvm.MethodName)) ∈ GW := GW_at (i := 907) (by decide +kernel) (by decide +kernel)
end
section
theorem d_T_init_0 : decode b_T_init 0 = .ok (.aload_n 0, 1) := by decide +kernel
theorem d_T_init_1 : decode b_T_init 1 = .ok (.invokespecial 3, 3) := by decide +kernel
theorem d_T_init_4 : decode b_T_init 4 = .ok (.aload_n 0, 1) := by decide +kernel
theorem d_T_init_5 : decode b_T_init 5 = .ok (.new 9, 3) := by decide +kernel
theorem d_T_init_8 : decode b_T_init 8 = .ok (.dup, 1) := by decide +kernel
theorem d_T_init_9 : decode b_T_init 9 = .ok (.invokespecial 11, 3) := by decide +kernel
theorem d_T_init_12 : decode b_T_init 12 = .ok (.putfield 12, 3) := by decide +kernel
theorem d_T_init_15 : decode b_T_init 15 = .ok (.aload_n 0, 1) := by decide +kernel
theorem d_T_init_16 : decode b_T_init 16 = .ok (.bipush 45, 2) := by decide +kernel
theorem d_T_init_18 : decode b_T_init 18 = .ok (.newarray .int, 2) := by decide +kernel
theorem d_T_init_20 : decode b_T_init 20 = .ok (.putfield 16, 3) := by decide +kernel
theorem d_T_init_23 : decode b_T_init 23 = .ok (.aload_n 0, 1) := by decide +kernel
theorem d_T_init_24 : decode b_T_init 24 = .ok (.getfield 16, 3) := by decide +kernel
theorem d_T_init_27 : decode b_T_init 27 = .ok (.iconst 4, 1) := by decide +kernel
theorem d_T_init_28 : decode b_T_init 28 = .ok (.invokestatic 20, 3) := by decide +kernel
theorem d_T_init_31 : decode b_T_init 31 = .ok (.aload_n 0, 1) := by decide +kernel
theorem d_T_init_32 : decode b_T_init 32 = .ok (.new 26, 3) := by decide +kernel
theorem d_T_init_35 : decode b_T_init 35 = .ok (.dup, 1) := by decide +kernel
theorem d_T_init_36 : decode b_T_init 36 = .ok (.invokespecial 28, 3) := by decide +kernel
theorem d_T_init_39 : decode b_T_init 39 = .ok (.putfield 29, 3) := by decide +kernel
theorem d_T_init_42 : decode b_T_init 42 = .ok (.aload_n 0, 1) := by decide +kernel
theorem d_T_init_43 : decode b_T_init 43 = .ok (.new 26, 3) := by decide +kernel
theorem d_T_init_46 : decode b_T_init 46 = .ok (.dup, 1) := by decide +kernel
theorem d_T_init_47 : decode b_T_init 47 = .ok (.invokespecial 28, 3) := by decide +kernel
theorem d_T_init_50 : decode b_T_init 50 = .ok (.putfield 33, 3) := by decide +kernel
theorem d_T_init_53 : decode b_T_init 53 = .ok (.aload_n 0, 1) := by decide +kernel
theorem d_T_init_54 : decode b_T_init 54 = .ok (.iconst 4, 1) := by decide +kernel
theorem d_T_init_55 : decode b_T_init 55 = .ok (.bipush 10, 2) := by decide +kernel
theorem d_T_init_57 : decode b_T_init 57 = .ok (.multianewarray 36 2, 4) := by decide +kernel
theorem d_T_init_61 : decode b_T_init 61 = .ok (.putfield 38, 3) := by decide +kernel
theorem d_T_init_64 : decode b_T_init 64 = .ok (.iconst 0, 1) := by decide +kernel
theorem d_T_init_65 : decode b_T_init 65 = .ok (.istore_n 1, 1) := by decide +kernel
theorem d_T_init_66 : decode b_T_init 66 = .ok (.iload_n 1, 1) := by decide +kernel
theorem d_T_init_67 : decode b_T_init 67 = .ok (.iconst 4, 1) := by decide +kernel
theorem d_T_init_68 : decode b_T_init 68 = .ok (.if_icmp .ge 20, 3) := by decide +kernel
theorem d_T_init_71 : decode b_T_init 71 = .ok (.aload_n 0, 1) := by decide +kernel
theorem d_T_init_72 : decode b_T_init 72 = .ok (.getfield 38, 3) := by decide +kernel
theorem d_T_init_75 : decode b_T_init 75 = .ok (.iload_n 1, 1) := by decide +kernel
theorem d_T_init_76 : decode b_T_init 76 = .ok (.aaload, 1) := by decide +kernel
theorem d_T_init_77 : decode b_T_init 77 = .ok (.ldc 41, 2) := by decide +kernel
theorem d_T_init_79 : decode b_T_init 79 = .ok (.invokestatic 20, 3) := by decide +kernel
theorem d_T_init_82 : decode b_T_init 82 = .ok (.iinc 1 1, 3) := by decide +kernel
theorem d_T_init_85 : decode b_T_init 85 = .ok (.goto (-19), 3) := by decide +kernel
theorem d_T_init_88 : decode b_T_init 88 = .ok (.return_, 1) := by decide +kernel
theorem d_U_init_0 : decode b_U_init 0 = .ok (.aload_n 0, 1) := by decide +kernel
theorem d_U_init_1 : decode b_U_init 1 = .ok (.invokespecial 3, 3) := by decide +kernel
theorem d_U_init_4 : decode b_U_init 4 = .ok (.aload_n 0, 1) := by decide +kernel
theorem d_U_init_5 : decode b_U_init 5 = .ok (.sipush 300, 3) := by decide +kernel
theorem d_U_init_8 : decode b_U_init 8 = .ok (.newarray .int, 2) := by decide +kernel
theorem d_U_init_10 : decode b_U_init 10 = .ok (.putfield 9, 3) := by decide +kernel
theorem d_U_init_13 : decode b_U_init 13 = .ok (.aload_n 0, 1) := by decide +kernel
theorem d_U_init_14 : decode b_U_init 14 = .ok (.bipush 45, 2) := by decide +kernel
theorem d_U_init_16 : decode b_U_init 16 = .ok (.newarray .int, 2) := by decide +kernel
theorem d_U_init_18 : decode b_U_init 18 = .ok (.putfield 15, 3) := by decide +kernel
theorem d_U_init_21 : decode b_U_init 21 = .ok (.return_, 1) := by decide +kernel
theorem d_AR_fill_0 : decode b_AR_fill 0 = .ok (.iconst 0, 1) := by decide +kernel
theorem d_AR_fill_1 : decode b_AR_fill 1 = .ok (.istore_n 2, 1) := by decide +kernel
theorem d_AR_fill_2 : decode b_AR_fill 2 = .ok (.aload_n 0, 1) := by decide +kernel
theorem d_AR_fill_3 : decode b_AR_fill 3 = .ok (.arraylength, 1) := by decide +kernel
theorem d_AR_fill_4 : decode b_AR_fill 4 = .ok (.istore_n 3, 1) := by decide +kernel
theorem d_AR_fill_5 : decode b_AR_fill 5 = .ok (.iload_n 2, 1) := by decide +kernel
theorem d_AR_fill_6 : decode b_AR_fill 6 = .ok (.iload_n 3, 1) := by decide +kernel
theorem d_AR_fill_7 : decode b_AR_fill 7 = .ok (.if_icmp .ge 13, 3) := by decide +kernel
theorem d_AR_fill_10 : decode b_AR_fill 10 = .ok (.aload_n 0, 1) := by decide +kernel
theorem d_AR_fill_11 : decode b_AR_fill 11 = .ok (.iload_n 2, 1) := by decide +kernel
theorem d_AR_fill_12 : decode b_AR_fill 12 = .ok (.iload_n 1, 1) := by decide +kernel
theorem d_AR_fill_13 : decode b_AR_fill 13 = .ok (.iastore, 1) := by decide +kernel
theorem d_AR_fill_14 : decode b_AR_fill 14 = .ok (.iinc 2 1, 3) := by decide +kernel
theorem d_AR_fill_17 : decode b_AR_fill 17 = .ok (.goto (-12), 3) := by decide +kernel
theorem d_AR_fill_20 : decode b_AR_fill 20 = .ok (.return_, 1) := by decide +kernel
theorem d_AL_init_0 : decode b_AL_init 0 = .ok (.aload_n 0, 1) := by decide +kernel
theorem d_AL_init_1 : decode b_AL_init 1 = .ok (.invokespecial 1, 3) := by decide +kernel
theorem d_AL_init_4 : decode b_AL_init 4 = .ok (.aload_n 0, 1) := by decide +kernel
theorem d_AL_init_5 : decode b_AL_init 5 = .ok (.getstatic 39, 3) := by decide +kernel
theorem d_AL_init_8 : decode b_AL_init 8 = .ok (.putfield 9, 3) := by decide +kernel
theorem d_AL_init_11 : decode b_AL_init 11 = .ok (.return_, 1) := by decide +kernel
theorem d_AB_init_0 : decode b_AB_init 0 = .ok (.aload_n 0, 1) := by decide +kernel
theorem d_AB_init_1 : decode b_AB_init 1 = .ok (.invokespecial 1, 3) := by decide +kernel
theorem d_AB_init_4 : decode b_AB_init 4 = .ok (.aload_n 0, 1) := by decide +kernel
theorem d_AB_init_5 : decode b_AB_init 5 = .ok (.iconst 0, 1) := by decide +kernel
theorem d_AB_init_6 : decode b_AB_init 6 = .ok (.putfield 7, 3) := by decide +kernel
theorem d_AB_init_9 : decode b_AB_init 9 = .ok (.return_, 1) := by decide +kernel
theorem d_AC_init_0 : decode b_AC_init 0 = .ok (.aload_n 0, 1) := by decide +kernel
theorem d_AC_init_1 : decode b_AC_init 1 = .ok (.invokespecial 1, 3) := by decide +kernel
theorem d_AC_init_4 : decode b_AC_init 4 = .ok (.return_, 1) := by decide +kernel
theorem d_T_sign_0 : decode b_T_sign 0 = .ok (.aload_n 0, 1) := by decide +kernel
theorem d_T_sign_1 : decode b_T_sign 1 = .ok (.getfield 12, 3) := by decide +kernel
theorem d_T_sign_4 : decode b_T_sign 4 = .ok (.iload_n 1, 1) := by decide +kernel
theorem d_T_sign_5 : decode b_T_sign 5 = .ok (.invokevirtual 42, 3) := by decide +kernel
theorem d_T_sign_8 : decode b_T_sign 8 = .ok (.ireturn, 1) := by decide +kernel
theorem d_U_append_0 : decode b_U_append 0 = .ok (.iload_n 1, 1) := by decide +kernel
theorem d_U_append_1 : decode b_U_append 1 = .ok (.bipush 48, 2) := by decide +kernel
theorem d_U_append_3 : decode b_U_append 3 = .ok (.if_icmp .lt 9, 3) := by decide +kernel
theorem d_U_append_6 : decode b_U_append 6 = .ok (.iload_n 1, 1) := by decide +kernel
theorem d_U_append_7 : decode b_U_append 7 = .ok (.bipush 57, 2) := by decide +kernel
theorem d_U_append_9 : decode b_U_append 9 = .ok (.if_icmp .le 9, 3) := by decide +kernel
theorem d_U_append_12 : decode b_U_append 12 = .ok (.iload_n 1, 1) := by decide +kernel
theorem d_U_append_13 : decode b_U_append 13 = .ok (.bipush 59, 2) := by decide +kernel
theorem d_U_append_15 : decode b_U_append 15 = .ok (.if_icmp .ne 7, 3) := by decide +kernel
theorem d_U_append_18 : decode b_U_append 18 = .ok (.iconst 1, 1) := by decide +kernel
theorem d_U_append_19 : decode b_U_append 19 = .ok (.goto 4, 3) := by decide +kernel
theorem d_U_append_22 : decode b_U_append 22 = .ok (.iconst 0, 1) := by decide +kernel
theorem d_U_append_23 : decode b_U_append 23 = .ok (.istore_n 2, 1) := by decide +kernel
theorem d_U_append_24 : decode b_U_append 24 = .ok (.iload_n 2, 1) := by decide +kernel
theorem d_U_append_25 : decode b_U_append 25 = .ok (.ifCond .eq 13, 3) := by decide +kernel
theorem d_U_append_28 : decode b_U_append 28 = .ok (.aload_n 0, 1) := by decide +kernel
theorem d_U_append_29 : decode b_U_append 29 = .ok (.getfield 18, 3) := by decide +kernel
theorem d_U_append_32 : decode b_U_append 32 = .ok (.sipush 300, 3) := by decide +kernel
theorem d_U_append_35 : decode b_U_append 35 = .ok (.if_icmp .lt 5, 3) := by decide +kernel
theorem d_U_append_38 : decode b_U_append 38 = .ok (.iconst 0, 1) := by decide +kernel
theorem d_U_append_39 : decode b_U_append 39 = .ok (.ireturn, 1) := by decide +kernel
theorem d_U_append_40 : decode b_U_append 40 = .ok (.aload_n 0, 1) := by decide +kernel
theorem d_U_append_41 : decode b_U_append 41 = .ok (.getfield 9, 3) := by decide +kernel
theorem d_U_append_44 : decode b_U_append 44 = .ok (.aload_n 0, 1) := by decide +kernel
theorem d_U_append_45 : decode b_U_append 45 = .ok (.getfield 18, 3) := by decide +kernel
theorem d_U_append_48 : decode b_U_append 48 = .ok (.iload_n 1, 1) := by decide +kernel
theorem d_U_append_49 : decode b_U_append 49 = .ok (.iastore, 1) := by decide +kernel
theorem d_U_append_50 : decode b_U_append 50 = .ok (.aload_n 0, 1) := by decide +kernel
theorem d_U_append_51 : decode b_U_append 51 = .ok (.dup, 1) := by decide +kernel
theorem d_U_append_52 : decode b_U_append 52 = .ok (.getfield 18, 3) := by decide +kernel
theorem d_U_append_55 : decode b_U_append 55 = .ok (.iconst 1, 1) := by decide +kernel
theorem d_U_append_56 : decode b_U_append 56 = .ok (.iadd, 1) := by decide +kernel
theorem d_U_append_57 : decode b_U_append 57 = .ok (.putfield 18, 3) := by decide +kernel
theorem d_U_append_60 : decode b_U_append 60 = .ok (.iconst 1, 1) := by decide +kernel
theorem d_U_append_61 : decode b_U_append 61 = .ok (.ireturn, 1) := by decide +kernel
theorem d_T_read_0 : decode b_T_read 0 = .ok (.aload_n 0, 1) := by decide +kernel
theorem d_T_read_1 : decode b_T_read 1 = .ok (.getfield 12, 3) := by decide +kernel
theorem d_T_read_4 : decode b_T_read 4 = .ok (.invokevirtual 46, 3) := by decide +kernel
theorem d_T_read_7 : decode b_T_read 7 = .ok (.istore_n 1, 1) := by decide +kernel
theorem d_T_read_8 : decode b_T_read 8 = .ok (.aload_n 0, 1) := by decide +kernel
theorem d_T_read_9 : decode b_T_read 9 = .ok (.getfield 12, 3) := by decide +kernel
theorem d_T_read_12 : decode b_T_read 12 = .ok (.invokevirtual 50, 3) := by decide +kernel
theorem d_T_read_15 : decode b_T_read 15 = .ok (.iload_n 1, 1) := by decide +kernel
theorem d_T_read_16 : decode b_T_read 16 = .ok (.iconst (-1), 1) := by decide +kernel
theorem d_T_read_17 : decode b_T_read 17 = .ok (.if_icmp .eq 7, 3) := by decide +kernel
theorem d_T_read_20 : decode b_T_read 20 = .ok (.iconst (-1), 1) := by decide +kernel
theorem d_T_read_21 : decode b_T_read 21 = .ok (.iload_n 1, 1) := by decide +kernel
theorem d_T_read_22 : decode b_T_read 22 = .ok (.isub, 1) := by decide +kernel
theorem d_T_read_23 : decode b_T_read 23 = .ok (.ireturn, 1) := by decide +kernel
theorem d_T_read_24 : decode b_T_read 24 = .ok (.aload_n 0, 1) := by decide +kernel
theorem d_T_read_25 : decode b_T_read 25 = .ok (.getfield 12, 3) := by decide +kernel
theorem d_T_read_28 : decode b_T_read 28 = .ok (.aload_n 0, 1) := by decide +kernel
theorem d_T_read_29 : decode b_T_read 29 = .ok (.getfield 16, 3) := by decide +kernel
theorem d_T_read_32 : decode b_T_read 32 = .ok (.invokevirtual 53, 3) := by decide +kernel
theorem d_T_read_35 : decode b_T_read 35 = .ok (.aload_n 0, 1) := by decide +kernel
theorem d_T_read_36 : decode b_T_read 36 = .ok (.iconst 1, 1) := by decide +kernel
theorem d_T_read_37 : decode b_T_read 37 = .ok (.putfield 57, 3) := by decide +kernel
theorem d_T_read_40 : decode b_T_read 40 = .ok (.bipush 45, 2) := by decide +kernel
theorem d_T_read_42 : decode b_T_read 42 = .ok (.ireturn, 1) := by decide +kernel
theorem d_U_firstWrongPlace_0 : decode b_U_firstWrongPlace 0 = .ok (.aload_n 0, 1) := by decide +kernel
theorem d_U_firstWrongPlace_1 : decode b_U_firstWrongPlace 1 = .ok (.getfield 15, 3) := by decide +kernel
theorem d_U_firstWrongPlace_4 : decode b_U_firstWrongPlace 4 = .ok (.iconst (-1), 1) := by decide +kernel
theorem d_U_firstWrongPlace_5 : decode b_U_firstWrongPlace 5 = .ok (.invokestatic 28, 3) := by decide +kernel
theorem d_U_firstWrongPlace_8 : decode b_U_firstWrongPlace 8 = .ok (.iconst 0, 1) := by decide +kernel
theorem d_U_firstWrongPlace_9 : decode b_U_firstWrongPlace 9 = .ok (.istore_n 1, 1) := by decide +kernel
theorem d_U_firstWrongPlace_10 : decode b_U_firstWrongPlace 10 = .ok (.iload_n 1, 1) := by decide +kernel
theorem d_U_firstWrongPlace_11 : decode b_U_firstWrongPlace 11 = .ok (.aload_n 0, 1) := by decide +kernel
theorem d_U_firstWrongPlace_12 : decode b_U_firstWrongPlace 12 = .ok (.getfield 18, 3) := by decide +kernel
theorem d_U_firstWrongPlace_15 : decode b_U_firstWrongPlace 15 = .ok (.if_icmp .ge 22, 3) := by decide +kernel
theorem d_U_firstWrongPlace_18 : decode b_U_firstWrongPlace 18 = .ok (.aload_n 0, 1) := by decide +kernel
theorem d_U_firstWrongPlace_19 : decode b_U_firstWrongPlace 19 = .ok (.iload_n 1, 1) := by decide +kernel
theorem d_U_firstWrongPlace_20 : decode b_U_firstWrongPlace 20 = .ok (.invokevirtual 34, 3) := by decide +kernel
theorem d_U_firstWrongPlace_23 : decode b_U_firstWrongPlace 23 = .ok (.istore_n 2, 1) := by decide +kernel
theorem d_U_firstWrongPlace_24 : decode b_U_firstWrongPlace 24 = .ok (.iload_n 2, 1) := by decide +kernel
theorem d_U_firstWrongPlace_25 : decode b_U_firstWrongPlace 25 = .ok (.iconst (-1), 1) := by decide +kernel
theorem d_U_firstWrongPlace_26 : decode b_U_firstWrongPlace 26 = .ok (.if_icmp .eq 5, 3) := by decide +kernel
theorem d_U_firstWrongPlace_29 : decode b_U_firstWrongPlace 29 = .ok (.iload_n 2, 1) := by decide +kernel
theorem d_U_firstWrongPlace_30 : decode b_U_firstWrongPlace 30 = .ok (.ireturn, 1) := by decide +kernel
theorem d_U_firstWrongPlace_31 : decode b_U_firstWrongPlace 31 = .ok (.iinc 1 4, 3) := by decide +kernel
theorem d_U_firstWrongPlace_34 : decode b_U_firstWrongPlace 34 = .ok (.goto (-24), 3) := by decide +kernel
theorem d_U_firstWrongPlace_37 : decode b_U_firstWrongPlace 37 = .ok (.aload_n 0, 1) := by decide +kernel
theorem d_U_firstWrongPlace_38 : decode b_U_firstWrongPlace 38 = .ok (.getfield 18, 3) := by decide +kernel
theorem d_U_firstWrongPlace_41 : decode b_U_firstWrongPlace 41 = .ok (.sipush 180, 3) := by decide +kernel
theorem d_U_firstWrongPlace_44 : decode b_U_firstWrongPlace 44 = .ok (.if_icmp .ne 7, 3) := by decide +kernel
theorem d_U_firstWrongPlace_47 : decode b_U_firstWrongPlace 47 = .ok (.iconst (-1), 1) := by decide +kernel
theorem d_U_firstWrongPlace_48 : decode b_U_firstWrongPlace 48 = .ok (.goto 7, 3) := by decide +kernel
theorem d_U_firstWrongPlace_51 : decode b_U_firstWrongPlace 51 = .ok (.aload_n 0, 1) := by decide +kernel
theorem d_U_firstWrongPlace_52 : decode b_U_firstWrongPlace 52 = .ok (.getfield 18, 3) := by decide +kernel
theorem d_U_firstWrongPlace_55 : decode b_U_firstWrongPlace 55 = .ok (.ireturn, 1) := by decide +kernel
theorem d_U_firstWrongPlaceOfRow_0 : decode b_U_firstWrongPlaceOfRow 0 = .ok (.aload_n 0, 1) := by decide +kernel
theorem d_U_firstWrongPlaceOfRow_1 : decode b_U_firstWrongPlaceOfRow 1 = .ok (.iload_n 1, 1) := by decide +kernel
theorem d_U_firstWrongPlaceOfRow_2 : decode b_U_firstWrongPlaceOfRow 2 = .ok (.invokevirtual 38, 3) := by decide +kernel
theorem d_U_firstWrongPlaceOfRow_5 : decode b_U_firstWrongPlaceOfRow 5 = .ok (.istore_n 2, 1) := by decide +kernel
theorem d_U_firstWrongPlaceOfRow_6 : decode b_U_firstWrongPlaceOfRow 6 = .ok (.iload_n 2, 1) := by decide +kernel
theorem d_U_firstWrongPlaceOfRow_7 : decode b_U_firstWrongPlaceOfRow 7 = .ok (.invokestatic 41, 3) := by decide +kernel
theorem d_U_firstWrongPlaceOfRow_10 : decode b_U_firstWrongPlaceOfRow 10 = .ok (.ifCond .ne 5, 3) := by decide +kernel
theorem d_U_firstWrongPlaceOfRow_13 : decode b_U_firstWrongPlaceOfRow 13 = .ok (.iload_n 1, 1) := by decide +kernel
theorem d_U_firstWrongPlaceOfRow_14 : decode b_U_firstWrongPlaceOfRow 14 = .ok (.ireturn, 1) := by decide +kernel
theorem d_U_firstWrongPlaceOfRow_15 : decode b_U_firstWrongPlaceOfRow 15 = .ok (.aload_n 0, 1) := by decide +kernel
theorem d_U_firstWrongPlaceOfRow_16 : decode b_U_firstWrongPlaceOfRow 16 = .ok (.iload_n 1, 1) := by decide +kernel
theorem d_U_firstWrongPlaceOfRow_17 : decode b_U_firstWrongPlaceOfRow 17 = .ok (.iconst 1, 1) := by decide +kernel
theorem d_U_firstWrongPlaceOfRow_18 : decode b_U_firstWrongPlaceOfRow 18 = .ok (.iadd, 1) := by decide +kernel
theorem d_U_firstWrongPlaceOfRow_19 : decode b_U_firstWrongPlaceOfRow 19 = .ok (.invokevirtual 38, 3) := by decide +kernel
theorem d_U_firstWrongPlaceOfRow_22 : decode b_U_firstWrongPlaceOfRow 22 = .ok (.istore_n 3, 1) := by decide +kernel
theorem d_U_firstWrongPlaceOfRow_23 : decode b_U_firstWrongPlaceOfRow 23 = .ok (.iload_n 3, 1) := by decide +kernel
theorem d_U_firstWrongPlaceOfRow_24 : decode b_U_firstWrongPlaceOfRow 24 = .ok (.invokestatic 41, 3) := by decide +kernel
theorem d_U_firstWrongPlaceOfRow_27 : decode b_U_firstWrongPlaceOfRow 27 = .ok (.ifCond .eq 17, 3) := by decide +kernel
theorem d_U_firstWrongPlaceOfRow_30 : decode b_U_firstWrongPlaceOfRow 30 = .ok (.aload_n 0, 1) := by decide +kernel
theorem d_U_firstWrongPlaceOfRow_31 : decode b_U_firstWrongPlaceOfRow 31 = .ok (.getfield 15, 3) := by decide +kernel
theorem d_U_firstWrongPlaceOfRow_34 : decode b_U_firstWrongPlaceOfRow 34 = .ok (.iload_n 2, 1) := by decide +kernel
theorem d_U_firstWrongPlaceOfRow_35 : decode b_U_firstWrongPlaceOfRow 35 = .ok (.iload_n 3, 1) := by decide +kernel
theorem d_U_firstWrongPlaceOfRow_36 : decode b_U_firstWrongPlaceOfRow 36 = .ok (.invokestatic 45, 3) := by decide +kernel
theorem d_U_firstWrongPlaceOfRow_39 : decode b_U_firstWrongPlaceOfRow 39 = .ok (.iaload, 1) := by decide +kernel
theorem d_U_firstWrongPlaceOfRow_40 : decode b_U_firstWrongPlaceOfRow 40 = .ok (.iconst (-1), 1) := by decide +kernel
theorem d_U_firstWrongPlaceOfRow_41 : decode b_U_firstWrongPlaceOfRow 41 = .ok (.if_icmp .eq 7, 3) := by decide +kernel
theorem d_U_firstWrongPlaceOfRow_44 : decode b_U_firstWrongPlaceOfRow 44 = .ok (.iload_n 1, 1) := by decide +kernel
theorem d_U_firstWrongPlaceOfRow_45 : decode b_U_firstWrongPlaceOfRow 45 = .ok (.iconst 1, 1) := by decide +kernel
theorem d_U_firstWrongPlaceOfRow_46 : decode b_U_firstWrongPlaceOfRow 46 = .ok (.iadd, 1) := by decide +kernel
theorem d_U_firstWrongPlaceOfRow_47 : decode b_U_firstWrongPlaceOfRow 47 = .ok (.ireturn, 1) := by decide +kernel
theorem d_U_firstWrongPlaceOfRow_48 : decode b_U_firstWrongPlaceOfRow 48 = .ok (.aload_n 0, 1) := by decide +kernel
theorem d_U_firstWrongPlaceOfRow_49 : decode b_U_firstWrongPlaceOfRow 49 = .ok (.iload_n 1, 1) := by decide +kernel
theorem d_U_firstWrongPlaceOfRow_50 : decode b_U_firstWrongPlaceOfRow 50 = .ok (.iconst 2, 1) := by decide +kernel
theorem d_U_firstWrongPlaceOfRow_51 : decode b_U_firstWrongPlaceOfRow 51 = .ok (.iadd, 1) := by decide +kernel
theorem d_U_firstWrongPlaceOfRow_52 : decode b_U_firstWrongPlaceOfRow 52 = .ok (.invokevirtual 38, 3) := by decide +kernel
theorem d_U_firstWrongPlaceOfRow_55 : decode b_U_firstWrongPlaceOfRow 55 = .ok (.istore 4, 2) := by decide +kernel
theorem d_U_firstWrongPlaceOfRow_57 : decode b_U_firstWrongPlaceOfRow 57 = .ok (.iload 4, 2) := by decide +kernel
theorem d_U_firstWrongPlaceOfRow_59 : decode b_U_firstWrongPlaceOfRow 59 = .ok (.ifCond .lt 9, 3) := by decide +kernel
theorem d_U_firstWrongPlaceOfRow_62 : decode b_U_firstWrongPlaceOfRow 62 = .ok (.iload 4, 2) := by decide +kernel
theorem d_U_firstWrongPlaceOfRow_64 : decode b_U_firstWrongPlaceOfRow 64 = .ok (.iconst 4, 1) := by decide +kernel
theorem d_U_firstWrongPlaceOfRow_65 : decode b_U_firstWrongPlaceOfRow 65 = .ok (.if_icmp .le 7, 3) := by decide +kernel
theorem d_U_firstWrongPlaceOfRow_68 : decode b_U_firstWrongPlaceOfRow 68 = .ok (.iload_n 1, 1) := by decide +kernel
theorem d_U_firstWrongPlaceOfRow_69 : decode b_U_firstWrongPlaceOfRow 69 = .ok (.iconst 2, 1) := by decide +kernel
theorem d_U_firstWrongPlaceOfRow_70 : decode b_U_firstWrongPlaceOfRow 70 = .ok (.iadd, 1) := by decide +kernel
theorem d_U_firstWrongPlaceOfRow_71 : decode b_U_firstWrongPlaceOfRow 71 = .ok (.ireturn, 1) := by decide +kernel
theorem d_U_firstWrongPlaceOfRow_72 : decode b_U_firstWrongPlaceOfRow 72 = .ok (.iload_n 1, 1) := by decide +kernel
theorem d_U_firstWrongPlaceOfRow_73 : decode b_U_firstWrongPlaceOfRow 73 = .ok (.iconst 3, 1) := by decide +kernel
theorem d_U_firstWrongPlaceOfRow_74 : decode b_U_firstWrongPlaceOfRow 74 = .ok (.iadd, 1) := by decide +kernel
theorem d_U_firstWrongPlaceOfRow_75 : decode b_U_firstWrongPlaceOfRow 75 = .ok (.aload_n 0, 1) := by decide +kernel
theorem d_U_firstWrongPlaceOfRow_76 : decode b_U_firstWrongPlaceOfRow 76 = .ok (.getfield 18, 3) := by decide +kernel
theorem d_U_firstWrongPlaceOfRow_79 : decode b_U_firstWrongPlaceOfRow 79 = .ok (.if_icmp .ge 16, 3) := by decide +kernel
theorem d_U_firstWrongPlaceOfRow_82 : decode b_U_firstWrongPlaceOfRow 82 = .ok (.aload_n 0, 1) := by decide +kernel
theorem d_U_firstWrongPlaceOfRow_83 : decode b_U_firstWrongPlaceOfRow 83 = .ok (.getfield 9, 3) := by decide +kernel
theorem d_U_firstWrongPlaceOfRow_86 : decode b_U_firstWrongPlaceOfRow 86 = .ok (.iload_n 1, 1) := by decide +kernel
theorem d_U_firstWrongPlaceOfRow_87 : decode b_U_firstWrongPlaceOfRow 87 = .ok (.iconst 3, 1) := by decide +kernel
theorem d_U_firstWrongPlaceOfRow_88 : decode b_U_firstWrongPlaceOfRow 88 = .ok (.iadd, 1) := by decide +kernel
theorem d_U_firstWrongPlaceOfRow_89 : decode b_U_firstWrongPlaceOfRow 89 = .ok (.iaload, 1) := by decide +kernel
theorem d_U_firstWrongPlaceOfRow_90 : decode b_U_firstWrongPlaceOfRow 90 = .ok (.bipush 59, 2) := by decide +kernel
theorem d_U_firstWrongPlaceOfRow_92 : decode b_U_firstWrongPlaceOfRow 92 = .ok (.if_icmp .eq 7, 3) := by decide +kernel
theorem d_U_firstWrongPlaceOfRow_95 : decode b_U_firstWrongPlaceOfRow 95 = .ok (.iload_n 1, 1) := by decide +kernel
theorem d_U_firstWrongPlaceOfRow_96 : decode b_U_firstWrongPlaceOfRow 96 = .ok (.iconst 3, 1) := by decide +kernel
theorem d_U_firstWrongPlaceOfRow_97 : decode b_U_firstWrongPlaceOfRow 97 = .ok (.iadd, 1) := by decide +kernel
theorem d_U_firstWrongPlaceOfRow_98 : decode b_U_firstWrongPlaceOfRow 98 = .ok (.ireturn, 1) := by decide +kernel
theorem d_U_firstWrongPlaceOfRow_99 : decode b_U_firstWrongPlaceOfRow 99 = .ok (.aload_n 0, 1) := by decide +kernel
theorem d_U_firstWrongPlaceOfRow_100 : decode b_U_firstWrongPlaceOfRow 100 = .ok (.getfield 15, 3) := by decide +kernel
theorem d_U_firstWrongPlaceOfRow_103 : decode b_U_firstWrongPlaceOfRow 103 = .ok (.iload_n 2, 1) := by decide +kernel
theorem d_U_firstWrongPlaceOfRow_104 : decode b_U_firstWrongPlaceOfRow 104 = .ok (.iload_n 3, 1) := by decide +kernel
theorem d_U_firstWrongPlaceOfRow_105 : decode b_U_firstWrongPlaceOfRow 105 = .ok (.invokestatic 45, 3) := by decide +kernel
theorem d_U_firstWrongPlaceOfRow_108 : decode b_U_firstWrongPlaceOfRow 108 = .ok (.iload 4, 2) := by decide +kernel
theorem d_U_firstWrongPlaceOfRow_110 : decode b_U_firstWrongPlaceOfRow 110 = .ok (.iastore, 1) := by decide +kernel
theorem d_U_firstWrongPlaceOfRow_111 : decode b_U_firstWrongPlaceOfRow 111 = .ok (.iconst (-1), 1) := by decide +kernel
theorem d_U_firstWrongPlaceOfRow_112 : decode b_U_firstWrongPlaceOfRow 112 = .ok (.ireturn, 1) := by decide +kernel
theorem d_U_digitAt_0 : decode b_U_digitAt 0 = .ok (.iload_n 1, 1) := by decide +kernel
theorem d_U_digitAt_1 : decode b_U_digitAt 1 = .ok (.aload_n 0, 1) := by decide +kernel
theorem d_U_digitAt_2 : decode b_U_digitAt 2 = .ok (.getfield 18, 3) := by decide +kernel
theorem d_U_digitAt_5 : decode b_U_digitAt 5 = .ok (.if_icmp .ge 26, 3) := by decide +kernel
theorem d_U_digitAt_8 : decode b_U_digitAt 8 = .ok (.aload_n 0, 1) := by decide +kernel
theorem d_U_digitAt_9 : decode b_U_digitAt 9 = .ok (.getfield 9, 3) := by decide +kernel
theorem d_U_digitAt_12 : decode b_U_digitAt 12 = .ok (.iload_n 1, 1) := by decide +kernel
theorem d_U_digitAt_13 : decode b_U_digitAt 13 = .ok (.iaload, 1) := by decide +kernel
theorem d_U_digitAt_14 : decode b_U_digitAt 14 = .ok (.bipush 59, 2) := by decide +kernel
theorem d_U_digitAt_16 : decode b_U_digitAt 16 = .ok (.if_icmp .eq 15, 3) := by decide +kernel
theorem d_U_digitAt_19 : decode b_U_digitAt 19 = .ok (.aload_n 0, 1) := by decide +kernel
theorem d_U_digitAt_20 : decode b_U_digitAt 20 = .ok (.getfield 9, 3) := by decide +kernel
theorem d_U_digitAt_23 : decode b_U_digitAt 23 = .ok (.iload_n 1, 1) := by decide +kernel
theorem d_U_digitAt_24 : decode b_U_digitAt 24 = .ok (.iaload, 1) := by decide +kernel
theorem d_U_digitAt_25 : decode b_U_digitAt 25 = .ok (.bipush 48, 2) := by decide +kernel
theorem d_U_digitAt_27 : decode b_U_digitAt 27 = .ok (.isub, 1) := by decide +kernel
theorem d_U_digitAt_28 : decode b_U_digitAt 28 = .ok (.goto 4, 3) := by decide +kernel
theorem d_U_digitAt_31 : decode b_U_digitAt 31 = .ok (.iconst (-1), 1) := by decide +kernel
theorem d_U_digitAt_32 : decode b_U_digitAt 32 = .ok (.ireturn, 1) := by decide +kernel
theorem d_T_isClass_0 : decode b_T_isClass 0 = .ok (.iload_n 0, 1) := by decide +kernel
theorem d_T_isClass_1 : decode b_T_isClass 1 = .ok (.iconst 1, 1) := by decide +kernel
theorem d_T_isClass_2 : decode b_T_isClass 2 = .ok (.if_icmp .lt 13, 3) := by decide +kernel
theorem d_T_isClass_5 : decode b_T_isClass 5 = .ok (.iload_n 0, 1) := by decide +kernel
theorem d_T_isClass_6 : decode b_T_isClass 6 = .ok (.bipush 9, 2) := by decide +kernel
theorem d_T_isClass_8 : decode b_T_isClass 8 = .ok (.if_icmp .gt 7, 3) := by decide +kernel
theorem d_T_isClass_11 : decode b_T_isClass 11 = .ok (.iconst 1, 1) := by decide +kernel
theorem d_T_isClass_12 : decode b_T_isClass 12 = .ok (.goto 4, 3) := by decide +kernel
theorem d_T_isClass_15 : decode b_T_isClass 15 = .ok (.iconst 0, 1) := by decide +kernel
theorem d_T_isClass_16 : decode b_T_isClass 16 = .ok (.ireturn, 1) := by decide +kernel
theorem d_T_pairNumber_0 : decode b_T_pairNumber 0 = .ok (.iload_n 0, 1) := by decide +kernel
theorem d_T_pairNumber_1 : decode b_T_pairNumber 1 = .ok (.iload_n 1, 1) := by decide +kernel
theorem d_T_pairNumber_2 : decode b_T_pairNumber 2 = .ok (.if_icmp .le 7, 3) := by decide +kernel
theorem d_T_pairNumber_5 : decode b_T_pairNumber 5 = .ok (.iload_n 0, 1) := by decide +kernel
theorem d_T_pairNumber_6 : decode b_T_pairNumber 6 = .ok (.goto 4, 3) := by decide +kernel
theorem d_T_pairNumber_9 : decode b_T_pairNumber 9 = .ok (.iload_n 1, 1) := by decide +kernel
theorem d_T_pairNumber_10 : decode b_T_pairNumber 10 = .ok (.istore_n 2, 1) := by decide +kernel
theorem d_T_pairNumber_11 : decode b_T_pairNumber 11 = .ok (.iload_n 0, 1) := by decide +kernel
theorem d_T_pairNumber_12 : decode b_T_pairNumber 12 = .ok (.iload_n 1, 1) := by decide +kernel
theorem d_T_pairNumber_13 : decode b_T_pairNumber 13 = .ok (.if_icmp .le 7, 3) := by decide +kernel
theorem d_T_pairNumber_16 : decode b_T_pairNumber 16 = .ok (.iload_n 1, 1) := by decide +kernel
theorem d_T_pairNumber_17 : decode b_T_pairNumber 17 = .ok (.goto 4, 3) := by decide +kernel
theorem d_T_pairNumber_20 : decode b_T_pairNumber 20 = .ok (.iload_n 0, 1) := by decide +kernel
theorem d_T_pairNumber_21 : decode b_T_pairNumber 21 = .ok (.istore_n 3, 1) := by decide +kernel
theorem d_T_pairNumber_22 : decode b_T_pairNumber 22 = .ok (.iload_n 2, 1) := by decide +kernel
theorem d_T_pairNumber_23 : decode b_T_pairNumber 23 = .ok (.iload_n 2, 1) := by decide +kernel
theorem d_T_pairNumber_24 : decode b_T_pairNumber 24 = .ok (.iconst 1, 1) := by decide +kernel
theorem d_T_pairNumber_25 : decode b_T_pairNumber 25 = .ok (.isub, 1) := by decide +kernel
theorem d_T_pairNumber_26 : decode b_T_pairNumber 26 = .ok (.imul, 1) := by decide +kernel
theorem d_T_pairNumber_27 : decode b_T_pairNumber 27 = .ok (.iconst 2, 1) := by decide +kernel
theorem d_T_pairNumber_28 : decode b_T_pairNumber 28 = .ok (.idiv, 1) := by decide +kernel
theorem d_T_pairNumber_29 : decode b_T_pairNumber 29 = .ok (.iload_n 3, 1) := by decide +kernel
theorem d_T_pairNumber_30 : decode b_T_pairNumber 30 = .ok (.iadd, 1) := by decide +kernel
theorem d_T_pairNumber_31 : decode b_T_pairNumber 31 = .ok (.iconst 1, 1) := by decide +kernel
theorem d_T_pairNumber_32 : decode b_T_pairNumber 32 = .ok (.isub, 1) := by decide +kernel
theorem d_T_pairNumber_33 : decode b_T_pairNumber 33 = .ok (.ireturn, 1) := by decide +kernel
theorem d_U_drop_0 : decode b_U_drop 0 = .ok (.aload_n 0, 1) := by decide +kernel
theorem d_U_drop_1 : decode b_U_drop 1 = .ok (.iconst 0, 1) := by decide +kernel
theorem d_U_drop_2 : decode b_U_drop 2 = .ok (.putfield 18, 3) := by decide +kernel
theorem d_U_drop_5 : decode b_U_drop 5 = .ok (.return_, 1) := by decide +kernel
theorem d_U_copyRulesTo_0 : decode b_U_copyRulesTo 0 = .ok (.aload_n 0, 1) := by decide +kernel
theorem d_U_copyRulesTo_1 : decode b_U_copyRulesTo 1 = .ok (.getfield 15, 3) := by decide +kernel
theorem d_U_copyRulesTo_4 : decode b_U_copyRulesTo 4 = .ok (.iconst 0, 1) := by decide +kernel
theorem d_U_copyRulesTo_5 : decode b_U_copyRulesTo 5 = .ok (.aload_n 1, 1) := by decide +kernel
theorem d_U_copyRulesTo_6 : decode b_U_copyRulesTo 6 = .ok (.iconst 0, 1) := by decide +kernel
theorem d_U_copyRulesTo_7 : decode b_U_copyRulesTo 7 = .ok (.bipush 45, 2) := by decide +kernel
theorem d_U_copyRulesTo_9 : decode b_U_copyRulesTo 9 = .ok (.invokestatic 22, 3) := by decide +kernel
theorem d_U_copyRulesTo_12 : decode b_U_copyRulesTo 12 = .ok (.return_, 1) := by decide +kernel
theorem d_T_exempt_0 : decode b_T_exempt 0 = .ok (.aload_n 0, 1) := by decide +kernel
theorem d_T_exempt_1 : decode b_T_exempt 1 = .ok (.iload_n 1, 1) := by decide +kernel
theorem d_T_exempt_2 : decode b_T_exempt 2 = .ok (.invokevirtual 104, 3) := by decide +kernel
theorem d_T_exempt_5 : decode b_T_exempt 5 = .ok (.ifCond .eq 17, 3) := by decide +kernel
theorem d_T_exempt_8 : decode b_T_exempt 8 = .ok (.iload_n 2, 1) := by decide +kernel
theorem d_T_exempt_9 : decode b_T_exempt 9 = .ok (.invokestatic 61, 3) := by decide +kernel
theorem d_T_exempt_12 : decode b_T_exempt 12 = .ok (.ifCond .eq 10, 3) := by decide +kernel
theorem d_T_exempt_15 : decode b_T_exempt 15 = .ok (.iload_n 3, 1) := by decide +kernel
theorem d_T_exempt_16 : decode b_T_exempt 16 = .ok (.invokestatic 61, 3) := by decide +kernel
theorem d_T_exempt_19 : decode b_T_exempt 19 = .ok (.ifCond .ne 5, 3) := by decide +kernel
theorem d_T_exempt_22 : decode b_T_exempt 22 = .ok (.iconst 0, 1) := by decide +kernel
theorem d_T_exempt_23 : decode b_T_exempt 23 = .ok (.ireturn, 1) := by decide +kernel
theorem d_T_exempt_24 : decode b_T_exempt 24 = .ok (.aload_n 0, 1) := by decide +kernel
theorem d_T_exempt_25 : decode b_T_exempt 25 = .ok (.getfield 29, 3) := by decide +kernel
theorem d_T_exempt_28 : decode b_T_exempt 28 = .ok (.iload_n 1, 1) := by decide +kernel
theorem d_T_exempt_29 : decode b_T_exempt 29 = .ok (.invokevirtual 107, 3) := by decide +kernel
theorem d_T_exempt_32 : decode b_T_exempt 32 = .ok (.checkcast 91, 3) := by decide +kernel
theorem d_T_exempt_35 : decode b_T_exempt 35 = .ok (.iload_n 2, 1) := by decide +kernel
theorem d_T_exempt_36 : decode b_T_exempt 36 = .ok (.iload_n 3, 1) := by decide +kernel
theorem d_T_exempt_37 : decode b_T_exempt 37 = .ok (.invokestatic 71, 3) := by decide +kernel
theorem d_T_exempt_40 : decode b_T_exempt 40 = .ok (.invokevirtual 111, 3) := by decide +kernel
theorem d_T_exempt_43 : decode b_T_exempt 43 = .ok (.ireturn, 1) := by decide +kernel
theorem d_T_isGood_0 : decode b_T_isGood 0 = .ok (.iload_n 1, 1) := by decide +kernel
theorem d_T_isGood_1 : decode b_T_isGood 1 = .ok (.ifCond .lt 18, 3) := by decide +kernel
theorem d_T_isGood_4 : decode b_T_isGood 4 = .ok (.iload_n 1, 1) := by decide +kernel
theorem d_T_isGood_5 : decode b_T_isGood 5 = .ok (.aload_n 0, 1) := by decide +kernel
theorem d_T_isGood_6 : decode b_T_isGood 6 = .ok (.getfield 29, 3) := by decide +kernel
theorem d_T_isGood_9 : decode b_T_isGood 9 = .ok (.invokevirtual 83, 3) := by decide +kernel
theorem d_T_isGood_12 : decode b_T_isGood 12 = .ok (.if_icmp .ge 7, 3) := by decide +kernel
theorem d_T_isGood_15 : decode b_T_isGood 15 = .ok (.iconst 1, 1) := by decide +kernel
theorem d_T_isGood_16 : decode b_T_isGood 16 = .ok (.goto 4, 3) := by decide +kernel
theorem d_T_isGood_19 : decode b_T_isGood 19 = .ok (.iconst 0, 1) := by decide +kernel
theorem d_T_isGood_20 : decode b_T_isGood 20 = .ok (.ireturn, 1) := by decide +kernel
theorem d_AL_size_0 : decode b_AL_size 0 = .ok (.aload_n 0, 1) := by decide +kernel
theorem d_AL_size_1 : decode b_AL_size 1 = .ok (.getfield 48, 3) := by decide +kernel
theorem d_AL_size_4 : decode b_AL_size 4 = .ok (.ireturn, 1) := by decide +kernel
theorem d_AL_get_0 : decode b_AL_get 0 = .ok (.iload_n 1, 1) := by decide +kernel
theorem d_AL_get_1 : decode b_AL_get 1 = .ok (.aload_n 0, 1) := by decide +kernel
theorem d_AL_get_2 : decode b_AL_get 2 = .ok (.getfield 48, 3) := by decide +kernel
theorem d_AL_get_5 : decode b_AL_get 5 = .ok (.invokestatic 118, 3) := by decide +kernel
theorem d_AL_get_8 : decode b_AL_get 8 = .ok (.pop, 1) := by decide +kernel
theorem d_AL_get_9 : decode b_AL_get 9 = .ok (.aload_n 0, 1) := by decide +kernel
theorem d_AL_get_10 : decode b_AL_get 10 = .ok (.iload_n 1, 1) := by decide +kernel
theorem d_AL_get_11 : decode b_AL_get 11 = .ok (.invokevirtual 123, 3) := by decide +kernel
theorem d_AL_get_14 : decode b_AL_get 14 = .ok (.areturn, 1) := by decide +kernel
theorem d_OB_checkIndex_0 : decode b_OB_checkIndex 0 = .ok (.iload_n 0, 1) := by decide +kernel
theorem d_OB_checkIndex_1 : decode b_OB_checkIndex 1 = .ok (.iload_n 1, 1) := by decide +kernel
theorem d_OB_checkIndex_2 : decode b_OB_checkIndex 2 = .ok (.aconst_null, 1) := by decide +kernel
theorem d_OB_checkIndex_3 : decode b_OB_checkIndex 3 = .ok (.invokestatic 105, 3) := by decide +kernel
theorem d_OB_checkIndex_6 : decode b_OB_checkIndex 6 = .ok (.ireturn, 1) := by decide +kernel
theorem d_PC_checkIndex_0 : decode b_PC_checkIndex 0 = .ok (.iload_n 0, 1) := by decide +kernel
theorem d_PC_checkIndex_1 : decode b_PC_checkIndex 1 = .ok (.ifCond .lt 8, 3) := by decide +kernel
theorem d_PC_checkIndex_4 : decode b_PC_checkIndex 4 = .ok (.iload_n 0, 1) := by decide +kernel
theorem d_PC_checkIndex_5 : decode b_PC_checkIndex 5 = .ok (.iload_n 1, 1) := by decide +kernel
theorem d_PC_checkIndex_6 : decode b_PC_checkIndex 6 = .ok (.if_icmp .lt 10, 3) := by decide +kernel
theorem d_PC_checkIndex_9 : decode b_PC_checkIndex 9 = .ok (.aload_n 2, 1) := by decide +kernel
theorem d_PC_checkIndex_10 : decode b_PC_checkIndex 10 = .ok (.iload_n 0, 1) := by decide +kernel
theorem d_PC_checkIndex_11 : decode b_PC_checkIndex 11 = .ok (.iload_n 1, 1) := by decide +kernel
theorem d_PC_checkIndex_12 : decode b_PC_checkIndex 12 = .ok (.invokestatic 95, 3) := by decide +kernel
theorem d_PC_checkIndex_15 : decode b_PC_checkIndex 15 = .ok (.athrow, 1) := by decide +kernel
theorem d_PC_checkIndex_16 : decode b_PC_checkIndex 16 = .ok (.iload_n 0, 1) := by decide +kernel
theorem d_PC_checkIndex_17 : decode b_PC_checkIndex 17 = .ok (.ireturn, 1) := by decide +kernel
theorem d_AL_elementData_0 : decode b_AL_elementData 0 = .ok (.aload_n 0, 1) := by decide +kernel
theorem d_AL_elementData_1 : decode b_AL_elementData 1 = .ok (.getfield 9, 3) := by decide +kernel
theorem d_AL_elementData_4 : decode b_AL_elementData 4 = .ok (.iload_n 1, 1) := by decide +kernel
theorem d_AL_elementData_5 : decode b_AL_elementData 5 = .ok (.aaload, 1) := by decide +kernel
theorem d_AL_elementData_6 : decode b_AL_elementData 6 = .ok (.areturn, 1) := by decide +kernel
theorem d_G_addExemption_0 : decode b_G_addExemption 0 = .ok (.aload_n 0, 1) := by decide +kernel
theorem d_G_addExemption_1 : decode b_G_addExemption 1 = .ok (.iload_n 1, 1) := by decide +kernel
theorem d_G_addExemption_2 : decode b_G_addExemption 2 = .ok (.invokevirtual 26, 3) := by decide +kernel
theorem d_G_addExemption_5 : decode b_G_addExemption 5 = .ok (.ifCond .eq 5, 3) := by decide +kernel
theorem d_G_addExemption_8 : decode b_G_addExemption 8 = .ok (.iconst 0, 1) := by decide +kernel
theorem d_G_addExemption_9 : decode b_G_addExemption 9 = .ok (.ireturn, 1) := by decide +kernel
theorem d_G_addExemption_10 : decode b_G_addExemption 10 = .ok (.aload_n 0, 1) := by decide +kernel
theorem d_G_addExemption_11 : decode b_G_addExemption 11 = .ok (.dup, 1) := by decide +kernel
theorem d_G_addExemption_12 : decode b_G_addExemption 12 = .ok (.getfield 22, 3) := by decide +kernel
theorem d_G_addExemption_15 : decode b_G_addExemption 15 = .ok (.lconst 1, 1) := by decide +kernel
theorem d_G_addExemption_16 : decode b_G_addExemption 16 = .ok (.iload_n 1, 1) := by decide +kernel
theorem d_G_addExemption_17 : decode b_G_addExemption 17 = .ok (.lshl, 1) := by decide +kernel
theorem d_G_addExemption_18 : decode b_G_addExemption 18 = .ok (.lor, 1) := by decide +kernel
theorem d_G_addExemption_19 : decode b_G_addExemption 19 = .ok (.putfield 22, 3) := by decide +kernel
theorem d_G_addExemption_22 : decode b_G_addExemption 22 = .ok (.iconst 1, 1) := by decide +kernel
theorem d_G_addExemption_23 : decode b_G_addExemption 23 = .ok (.ireturn, 1) := by decide +kernel
theorem d_G_isExempt_0 : decode b_G_isExempt 0 = .ok (.aload_n 0, 1) := by decide +kernel
theorem d_G_isExempt_1 : decode b_G_isExempt 1 = .ok (.getfield 22, 3) := by decide +kernel
theorem d_G_isExempt_4 : decode b_G_isExempt 4 = .ok (.iload_n 1, 1) := by decide +kernel
theorem d_G_isExempt_5 : decode b_G_isExempt 5 = .ok (.lshr, 1) := by decide +kernel
theorem d_G_isExempt_6 : decode b_G_isExempt 6 = .ok (.lconst 1, 1) := by decide +kernel
theorem d_G_isExempt_7 : decode b_G_isExempt 7 = .ok (.land, 1) := by decide +kernel
theorem d_G_isExempt_8 : decode b_G_isExempt 8 = .ok (.lconst 0, 1) := by decide +kernel
theorem d_G_isExempt_9 : decode b_G_isExempt 9 = .ok (.lcmp, 1) := by decide +kernel
theorem d_G_isExempt_10 : decode b_G_isExempt 10 = .ok (.ifCond .eq 7, 3) := by decide +kernel
theorem d_G_isExempt_13 : decode b_G_isExempt 13 = .ok (.iconst 1, 1) := by decide +kernel
theorem d_G_isExempt_14 : decode b_G_isExempt 14 = .ok (.goto 4, 3) := by decide +kernel
theorem d_G_isExempt_17 : decode b_G_isExempt 17 = .ok (.iconst 0, 1) := by decide +kernel
theorem d_G_isExempt_18 : decode b_G_isExempt 18 = .ok (.ireturn, 1) := by decide +kernel
theorem d_T_most_0 : decode b_T_most 0 = .ok (.iload_n 1, 1) := by decide +kernel
theorem d_T_most_1 : decode b_T_most 1 = .ok (.invokestatic 160, 3) := by decide +kernel
theorem d_T_most_4 : decode b_T_most 4 = .ok (.ifCond .eq 20, 3) := by decide +kernel
theorem d_T_most_7 : decode b_T_most 7 = .ok (.iload_n 2, 1) := by decide +kernel
theorem d_T_most_8 : decode b_T_most 8 = .ok (.invokestatic 61, 3) := by decide +kernel
theorem d_T_most_11 : decode b_T_most 11 = .ok (.ifCond .eq 13, 3) := by decide +kernel
theorem d_T_most_14 : decode b_T_most 14 = .ok (.iload_n 3, 1) := by decide +kernel
theorem d_T_most_15 : decode b_T_most 15 = .ok (.ifCond .lt 9, 3) := by decide +kernel
theorem d_T_most_18 : decode b_T_most 18 = .ok (.iload_n 3, 1) := by decide +kernel
theorem d_T_most_19 : decode b_T_most 19 = .ok (.ldc 41, 2) := by decide +kernel
theorem d_T_most_21 : decode b_T_most 21 = .ok (.if_icmp .le 5, 3) := by decide +kernel
theorem d_T_most_24 : decode b_T_most 24 = .ok (.iconst 0, 1) := by decide +kernel
theorem d_T_most_25 : decode b_T_most 25 = .ok (.ireturn, 1) := by decide +kernel
theorem d_T_most_26 : decode b_T_most 26 = .ok (.aload_n 0, 1) := by decide +kernel
theorem d_T_most_27 : decode b_T_most 27 = .ok (.getfield 38, 3) := by decide +kernel
theorem d_T_most_30 : decode b_T_most 30 = .ok (.iload_n 1, 1) := by decide +kernel
theorem d_T_most_31 : decode b_T_most 31 = .ok (.aaload, 1) := by decide +kernel
theorem d_T_most_32 : decode b_T_most 32 = .ok (.iload_n 2, 1) := by decide +kernel
theorem d_T_most_33 : decode b_T_most 33 = .ok (.iload_n 3, 1) := by decide +kernel
theorem d_T_most_34 : decode b_T_most 34 = .ok (.iastore, 1) := by decide +kernel
theorem d_T_most_35 : decode b_T_most 35 = .ok (.iconst 1, 1) := by decide +kernel
theorem d_T_most_36 : decode b_T_most 36 = .ok (.ireturn, 1) := by decide +kernel
theorem d_T_isZone_0 : decode b_T_isZone 0 = .ok (.iload_n 0, 1) := by decide +kernel
theorem d_T_isZone_1 : decode b_T_isZone 1 = .ok (.ifCond .lt 12, 3) := by decide +kernel
theorem d_T_isZone_4 : decode b_T_isZone 4 = .ok (.iload_n 0, 1) := by decide +kernel
theorem d_T_isZone_5 : decode b_T_isZone 5 = .ok (.iconst 4, 1) := by decide +kernel
theorem d_T_isZone_6 : decode b_T_isZone 6 = .ok (.if_icmp .ge 7, 3) := by decide +kernel
theorem d_T_isZone_9 : decode b_T_isZone 9 = .ok (.iconst 1, 1) := by decide +kernel
theorem d_T_isZone_10 : decode b_T_isZone 10 = .ok (.goto 4, 3) := by decide +kernel
theorem d_T_isZone_13 : decode b_T_isZone 13 = .ok (.iconst 0, 1) := by decide +kernel
theorem d_T_isZone_14 : decode b_T_isZone 14 = .ok (.ireturn, 1) := by decide +kernel
theorem d_T_paper_0 : decode b_T_paper 0 = .ok (.aload_n 0, 1) := by decide +kernel
theorem d_T_paper_1 : decode b_T_paper 1 = .ok (.iload_n 1, 1) := by decide +kernel
theorem d_T_paper_2 : decode b_T_paper 2 = .ok (.invokevirtual 127, 3) := by decide +kernel
theorem d_T_paper_5 : decode b_T_paper 5 = .ok (.ifCond .eq 12, 3) := by decide +kernel
theorem d_T_paper_8 : decode b_T_paper 8 = .ok (.iload_n 2, 1) := by decide +kernel
theorem d_T_paper_9 : decode b_T_paper 9 = .ok (.ifCond .lt 8, 3) := by decide +kernel
theorem d_T_paper_12 : decode b_T_paper 12 = .ok (.iload_n 2, 1) := by decide +kernel
theorem d_T_paper_13 : decode b_T_paper 13 = .ok (.iconst 5, 1) := by decide +kernel
theorem d_T_paper_14 : decode b_T_paper 14 = .ok (.if_icmp .lt 5, 3) := by decide +kernel
theorem d_T_paper_17 : decode b_T_paper 17 = .ok (.iconst 0, 1) := by decide +kernel
theorem d_T_paper_18 : decode b_T_paper 18 = .ok (.ireturn, 1) := by decide +kernel
theorem d_T_paper_19 : decode b_T_paper 19 = .ok (.aload_n 0, 1) := by decide +kernel
theorem d_T_paper_20 : decode b_T_paper 20 = .ok (.getfield 33, 3) := by decide +kernel
theorem d_T_paper_23 : decode b_T_paper 23 = .ok (.iload_n 1, 1) := by decide +kernel
theorem d_T_paper_24 : decode b_T_paper 24 = .ok (.invokevirtual 107, 3) := by decide +kernel
theorem d_T_paper_27 : decode b_T_paper 27 = .ok (.checkcast 121, 3) := by decide +kernel
theorem d_T_paper_30 : decode b_T_paper 30 = .ok (.iconst 1, 1) := by decide +kernel
theorem d_T_paper_31 : decode b_T_paper 31 = .ok (.iload_n 2, 1) := by decide +kernel
theorem d_T_paper_32 : decode b_T_paper 32 = .ok (.ishl, 1) := by decide +kernel
theorem d_T_paper_33 : decode b_T_paper 33 = .ok (.invokevirtual 189, 3) := by decide +kernel
theorem d_T_paper_36 : decode b_T_paper 36 = .ok (.ireturn, 1) := by decide +kernel
theorem d_T_isBox_0 : decode b_T_isBox 0 = .ok (.iload_n 1, 1) := by decide +kernel
theorem d_T_isBox_1 : decode b_T_isBox 1 = .ok (.ifCond .lt 18, 3) := by decide +kernel
theorem d_T_isBox_4 : decode b_T_isBox 4 = .ok (.iload_n 1, 1) := by decide +kernel
theorem d_T_isBox_5 : decode b_T_isBox 5 = .ok (.aload_n 0, 1) := by decide +kernel
theorem d_T_isBox_6 : decode b_T_isBox 6 = .ok (.getfield 33, 3) := by decide +kernel
theorem d_T_isBox_9 : decode b_T_isBox 9 = .ok (.invokevirtual 83, 3) := by decide +kernel
theorem d_T_isBox_12 : decode b_T_isBox 12 = .ok (.if_icmp .ge 7, 3) := by decide +kernel
theorem d_T_isBox_15 : decode b_T_isBox 15 = .ok (.iconst 1, 1) := by decide +kernel
theorem d_T_isBox_16 : decode b_T_isBox 16 = .ok (.goto 4, 3) := by decide +kernel
theorem d_T_isBox_19 : decode b_T_isBox 19 = .ok (.iconst 0, 1) := by decide +kernel
theorem d_T_isBox_20 : decode b_T_isBox 20 = .ok (.ireturn, 1) := by decide +kernel
theorem d_X_tell_0 : decode b_X_tell 0 = .ok (.aload_n 0, 1) := by decide +kernel
theorem d_X_tell_1 : decode b_X_tell 1 = .ok (.getfield 71, 3) := by decide +kernel
theorem d_X_tell_4 : decode b_X_tell 4 = .ok (.iload_n 1, 1) := by decide +kernel
theorem d_X_tell_5 : decode b_X_tell 5 = .ok (.iand, 1) := by decide +kernel
theorem d_X_tell_6 : decode b_X_tell 6 = .ok (.ifCond .eq 5, 3) := by decide +kernel
theorem d_X_tell_9 : decode b_X_tell 9 = .ok (.iconst 0, 1) := by decide +kernel
theorem d_X_tell_10 : decode b_X_tell 10 = .ok (.ireturn, 1) := by decide +kernel
theorem d_X_tell_11 : decode b_X_tell 11 = .ok (.aload_n 0, 1) := by decide +kernel
theorem d_X_tell_12 : decode b_X_tell 12 = .ok (.dup, 1) := by decide +kernel
theorem d_X_tell_13 : decode b_X_tell 13 = .ok (.getfield 71, 3) := by decide +kernel
theorem d_X_tell_16 : decode b_X_tell 16 = .ok (.iload_n 1, 1) := by decide +kernel
theorem d_X_tell_17 : decode b_X_tell 17 = .ok (.ior, 1) := by decide +kernel
theorem d_X_tell_18 : decode b_X_tell 18 = .ok (.putfield 71, 3) := by decide +kernel
theorem d_X_tell_21 : decode b_X_tell 21 = .ok (.iconst 1, 1) := by decide +kernel
theorem d_X_tell_22 : decode b_X_tell 22 = .ok (.ireturn, 1) := by decide +kernel
theorem d_T_count_0 : decode b_T_count 0 = .ok (.iload_n 1, 1) := by decide +kernel
theorem d_T_count_1 : decode b_T_count 1 = .ok (.tableswitch 77 0 4 #[35, 43, 51, 59, 64], 35) := by decide +kernel
theorem d_T_count_36 : decode b_T_count 36 = .ok (.aload_n 0, 1) := by decide +kernel
theorem d_T_count_37 : decode b_T_count 37 = .ok (.getfield 12, 3) := by decide +kernel
theorem d_T_count_40 : decode b_T_count 40 = .ok (.getfield 215, 3) := by decide +kernel
theorem d_T_count_43 : decode b_T_count 43 = .ok (.ireturn, 1) := by decide +kernel
theorem d_T_count_44 : decode b_T_count 44 = .ok (.aload_n 0, 1) := by decide +kernel
theorem d_T_count_45 : decode b_T_count 45 = .ok (.getfield 29, 3) := by decide +kernel
theorem d_T_count_48 : decode b_T_count 48 = .ok (.invokevirtual 83, 3) := by decide +kernel
theorem d_T_count_51 : decode b_T_count 51 = .ok (.ireturn, 1) := by decide +kernel
theorem d_T_count_52 : decode b_T_count 52 = .ok (.aload_n 0, 1) := by decide +kernel
theorem d_T_count_53 : decode b_T_count 53 = .ok (.getfield 33, 3) := by decide +kernel
theorem d_T_count_56 : decode b_T_count 56 = .ok (.invokevirtual 83, 3) := by decide +kernel
theorem d_T_count_59 : decode b_T_count 59 = .ok (.ireturn, 1) := by decide +kernel
theorem d_T_count_60 : decode b_T_count 60 = .ok (.aload_n 0, 1) := by decide +kernel
theorem d_T_count_61 : decode b_T_count 61 = .ok (.invokevirtual 218, 3) := by decide +kernel
theorem d_T_count_64 : decode b_T_count 64 = .ok (.ireturn, 1) := by decide +kernel
theorem d_T_count_65 : decode b_T_count 65 = .ok (.aload_n 0, 1) := by decide +kernel
theorem d_T_count_66 : decode b_T_count 66 = .ok (.getfield 57, 3) := by decide +kernel
theorem d_T_count_69 : decode b_T_count 69 = .ok (.ifCond .eq 7, 3) := by decide +kernel
theorem d_T_count_72 : decode b_T_count 72 = .ok (.iconst 1, 1) := by decide +kernel
theorem d_T_count_73 : decode b_T_count 73 = .ok (.goto 4, 3) := by decide +kernel
theorem d_T_count_76 : decode b_T_count 76 = .ok (.iconst 0, 1) := by decide +kernel
theorem d_T_count_77 : decode b_T_count 77 = .ok (.ireturn, 1) := by decide +kernel
theorem d_T_count_78 : decode b_T_count 78 = .ok (.iconst (-1), 1) := by decide +kernel
theorem d_T_count_79 : decode b_T_count 79 = .ok (.ireturn, 1) := by decide +kernel
theorem d_T_lyingCount_0 : decode b_T_lyingCount 0 = .ok (.iconst 0, 1) := by decide +kernel
theorem d_T_lyingCount_1 : decode b_T_lyingCount 1 = .ok (.istore_n 1, 1) := by decide +kernel
theorem d_T_lyingCount_2 : decode b_T_lyingCount 2 = .ok (.iconst 0, 1) := by decide +kernel
theorem d_T_lyingCount_3 : decode b_T_lyingCount 3 = .ok (.istore_n 2, 1) := by decide +kernel
theorem d_T_lyingCount_4 : decode b_T_lyingCount 4 = .ok (.iload_n 2, 1) := by decide +kernel
theorem d_T_lyingCount_5 : decode b_T_lyingCount 5 = .ok (.aload_n 0, 1) := by decide +kernel
theorem d_T_lyingCount_6 : decode b_T_lyingCount 6 = .ok (.getfield 33, 3) := by decide +kernel
theorem d_T_lyingCount_9 : decode b_T_lyingCount 9 = .ok (.invokevirtual 83, 3) := by decide +kernel
end
section
theorem d_T_lyingCount_12 : decode b_T_lyingCount 12 = .ok (.if_icmp .ge 29, 3) := by decide +kernel
theorem d_T_lyingCount_15 : decode b_T_lyingCount 15 = .ok (.aload_n 0, 1) := by decide +kernel
theorem d_T_lyingCount_16 : decode b_T_lyingCount 16 = .ok (.getfield 33, 3) := by decide +kernel
theorem d_T_lyingCount_19 : decode b_T_lyingCount 19 = .ok (.iload_n 2, 1) := by decide +kernel
theorem d_T_lyingCount_20 : decode b_T_lyingCount 20 = .ok (.invokevirtual 107, 3) := by decide +kernel
theorem d_T_lyingCount_23 : decode b_T_lyingCount 23 = .ok (.checkcast 121, 3) := by decide +kernel
theorem d_T_lyingCount_26 : decode b_T_lyingCount 26 = .ok (.invokevirtual 137, 3) := by decide +kernel
theorem d_T_lyingCount_29 : decode b_T_lyingCount 29 = .ok (.ifCond .eq 6, 3) := by decide +kernel
theorem d_T_lyingCount_32 : decode b_T_lyingCount 32 = .ok (.iinc 1 1, 3) := by decide +kernel
theorem d_T_lyingCount_35 : decode b_T_lyingCount 35 = .ok (.iinc 2 1, 3) := by decide +kernel
theorem d_T_lyingCount_38 : decode b_T_lyingCount 38 = .ok (.goto (-34), 3) := by decide +kernel
theorem d_T_lyingCount_41 : decode b_T_lyingCount 41 = .ok (.iload_n 1, 1) := by decide +kernel
theorem d_T_lyingCount_42 : decode b_T_lyingCount 42 = .ok (.ireturn, 1) := by decide +kernel
theorem d_X_lies_0 : decode b_X_lies 0 = .ok (.aload_n 0, 1) := by decide +kernel
theorem d_X_lies_1 : decode b_X_lies 1 = .ok (.getfield 18, 3) := by decide +kernel
theorem d_X_lies_4 : decode b_X_lies 4 = .ok (.iconst (-1), 1) := by decide +kernel
theorem d_X_lies_5 : decode b_X_lies 5 = .ok (.if_icmp .eq 7, 3) := by decide +kernel
theorem d_X_lies_8 : decode b_X_lies 8 = .ok (.iconst 1, 1) := by decide +kernel
theorem d_X_lies_9 : decode b_X_lies 9 = .ok (.goto 4, 3) := by decide +kernel
theorem d_X_lies_12 : decode b_X_lies 12 = .ok (.iconst 0, 1) := by decide +kernel
theorem d_X_lies_13 : decode b_X_lies 13 = .ok (.ireturn, 1) := by decide +kernel
theorem d_L_rule_0 : decode b_L_rule 0 = .ok (.aload_n 3, 1) := by decide +kernel
theorem d_L_rule_1 : decode b_L_rule 1 = .ok (.iconst 0, 1) := by decide +kernel
theorem d_L_rule_2 : decode b_L_rule 2 = .ok (.aload_n 0, 1) := by decide +kernel
theorem d_L_rule_3 : decode b_L_rule 3 = .ok (.iload_n 1, 1) := by decide +kernel
theorem d_L_rule_4 : decode b_L_rule 4 = .ok (.iload_n 2, 1) := by decide +kernel
theorem d_L_rule_5 : decode b_L_rule 5 = .ok (.invokevirtual 7, 3) := by decide +kernel
theorem d_L_rule_8 : decode b_L_rule 8 = .ok (.i2l, 1) := by decide +kernel
theorem d_L_rule_9 : decode b_L_rule 9 = .ok (.lastore, 1) := by decide +kernel
theorem d_L_rule_10 : decode b_L_rule 10 = .ok (.goto 7, 3) := by decide +kernel
theorem d_L_rule_13 : decode b_L_rule 13 = .ok (.astore 4, 2) := by decide +kernel
theorem d_L_rule_15 : decode b_L_rule 15 = .ok (.iconst 1, 1) := by decide +kernel
theorem d_L_rule_16 : decode b_L_rule 16 = .ok (.ireturn, 1) := by decide +kernel
theorem d_L_rule_17 : decode b_L_rule 17 = .ok (.iconst 0, 1) := by decide +kernel
theorem d_L_rule_18 : decode b_L_rule 18 = .ok (.ireturn, 1) := by decide +kernel
theorem d_T_rule_0 : decode b_T_rule 0 = .ok (.iload_n 1, 1) := by decide +kernel
theorem d_T_rule_1 : decode b_T_rule 1 = .ok (.invokestatic 61, 3) := by decide +kernel
theorem d_T_rule_4 : decode b_T_rule 4 = .ok (.ifCond .eq 10, 3) := by decide +kernel
theorem d_T_rule_7 : decode b_T_rule 7 = .ok (.iload_n 2, 1) := by decide +kernel
theorem d_T_rule_8 : decode b_T_rule 8 = .ok (.invokestatic 61, 3) := by decide +kernel
theorem d_T_rule_11 : decode b_T_rule 11 = .ok (.ifCond .ne 13, 3) := by decide +kernel
theorem d_T_rule_14 : decode b_T_rule 14 = .ok (.new 64, 3) := by decide +kernel
theorem d_T_rule_17 : decode b_T_rule 17 = .ok (.dup, 1) := by decide +kernel
theorem d_T_rule_18 : decode b_T_rule 18 = .ok (.ldc 66, 2) := by decide +kernel
theorem d_T_rule_20 : decode b_T_rule 20 = .ok (.invokespecial 68, 3) := by decide +kernel
theorem d_T_rule_23 : decode b_T_rule 23 = .ok (.athrow, 1) := by decide +kernel
theorem d_T_rule_24 : decode b_T_rule 24 = .ok (.aload_n 0, 1) := by decide +kernel
theorem d_T_rule_25 : decode b_T_rule 25 = .ok (.getfield 16, 3) := by decide +kernel
theorem d_T_rule_28 : decode b_T_rule 28 = .ok (.iload_n 1, 1) := by decide +kernel
theorem d_T_rule_29 : decode b_T_rule 29 = .ok (.iload_n 2, 1) := by decide +kernel
theorem d_T_rule_30 : decode b_T_rule 30 = .ok (.invokestatic 71, 3) := by decide +kernel
theorem d_T_rule_33 : decode b_T_rule 33 = .ok (.iaload, 1) := by decide +kernel
theorem d_T_rule_34 : decode b_T_rule 34 = .ok (.ireturn, 1) := by decide +kernel
theorem d_L_good_0 : decode b_L_good 0 = .ok (.aload 7, 2) := by decide +kernel
theorem d_L_good_2 : decode b_L_good 2 = .ok (.iconst 0, 1) := by decide +kernel
theorem d_L_good_3 : decode b_L_good 3 = .ok (.aload_n 0, 1) := by decide +kernel
theorem d_L_good_4 : decode b_L_good 4 = .ok (.iload_n 1, 1) := by decide +kernel
theorem d_L_good_5 : decode b_L_good 5 = .ok (.iload_n 2, 1) := by decide +kernel
theorem d_L_good_6 : decode b_L_good 6 = .ok (.iload_n 3, 1) := by decide +kernel
theorem d_L_good_7 : decode b_L_good 7 = .ok (.iload 4, 2) := by decide +kernel
theorem d_L_good_9 : decode b_L_good 9 = .ok (.iload 5, 2) := by decide +kernel
theorem d_L_good_11 : decode b_L_good 11 = .ok (.iload 6, 2) := by decide +kernel
theorem d_L_good_13 : decode b_L_good 13 = .ok (.invokevirtual 15, 3) := by decide +kernel
theorem d_L_good_16 : decode b_L_good 16 = .ok (.i2l, 1) := by decide +kernel
theorem d_L_good_17 : decode b_L_good 17 = .ok (.lastore, 1) := by decide +kernel
theorem d_L_good_18 : decode b_L_good 18 = .ok (.goto 11, 3) := by decide +kernel
theorem d_L_good_21 : decode b_L_good 21 = .ok (.astore 8, 2) := by decide +kernel
theorem d_L_good_23 : decode b_L_good 23 = .ok (.iconst 1, 1) := by decide +kernel
theorem d_L_good_24 : decode b_L_good 24 = .ok (.ireturn, 1) := by decide +kernel
theorem d_L_good_25 : decode b_L_good 25 = .ok (.astore 8, 2) := by decide +kernel
theorem d_L_good_27 : decode b_L_good 27 = .ok (.iconst 2, 1) := by decide +kernel
theorem d_L_good_28 : decode b_L_good 28 = .ok (.ireturn, 1) := by decide +kernel
theorem d_L_good_29 : decode b_L_good 29 = .ok (.iconst 0, 1) := by decide +kernel
theorem d_L_good_30 : decode b_L_good 30 = .ok (.ireturn, 1) := by decide +kernel
theorem d_T_good_0 : decode b_T_good 0 = .ok (.iload_n 1, 1) := by decide +kernel
theorem d_T_good_1 : decode b_T_good 1 = .ok (.invokestatic 61, 3) := by decide +kernel
theorem d_T_good_4 : decode b_T_good 4 = .ok (.ifCond .eq 11, 3) := by decide +kernel
theorem d_T_good_7 : decode b_T_good 7 = .ok (.iload_n 2, 1) := by decide +kernel
theorem d_T_good_8 : decode b_T_good 8 = .ok (.iload_n 1, 1) := by decide +kernel
theorem d_T_good_9 : decode b_T_good 9 = .ok (.invokestatic 75, 3) := by decide +kernel
theorem d_T_good_12 : decode b_T_good 12 = .ok (.ifCond .ne 13, 3) := by decide +kernel
theorem d_T_good_15 : decode b_T_good 15 = .ok (.new 64, 3) := by decide +kernel
theorem d_T_good_18 : decode b_T_good 18 = .ok (.dup, 1) := by decide +kernel
theorem d_T_good_19 : decode b_T_good 19 = .ok (.ldc 79, 2) := by decide +kernel
theorem d_T_good_21 : decode b_T_good 21 = .ok (.invokespecial 68, 3) := by decide +kernel
theorem d_T_good_24 : decode b_T_good 24 = .ok (.athrow, 1) := by decide +kernel
theorem d_T_good_25 : decode b_T_good 25 = .ok (.iload_n 3, 1) := by decide +kernel
theorem d_T_good_26 : decode b_T_good 26 = .ok (.iconst 1, 1) := by decide +kernel
theorem d_T_good_27 : decode b_T_good 27 = .ok (.if_icmp .lt 21, 3) := by decide +kernel
theorem d_T_good_30 : decode b_T_good 30 = .ok (.iload_n 3, 1) := by decide +kernel
theorem d_T_good_31 : decode b_T_good 31 = .ok (.iconst 3, 1) := by decide +kernel
theorem d_T_good_32 : decode b_T_good 32 = .ok (.if_icmp .gt 16, 3) := by decide +kernel
theorem d_T_good_35 : decode b_T_good 35 = .ok (.iload 4, 2) := by decide +kernel
theorem d_T_good_37 : decode b_T_good 37 = .ok (.ifCond .lt 11, 3) := by decide +kernel
theorem d_T_good_40 : decode b_T_good 40 = .ok (.iload 4, 2) := by decide +kernel
theorem d_T_good_42 : decode b_T_good 42 = .ok (.sipush 1000, 3) := by decide +kernel
theorem d_T_good_45 : decode b_T_good 45 = .ok (.if_icmp .le 13, 3) := by decide +kernel
theorem d_T_good_48 : decode b_T_good 48 = .ok (.new 64, 3) := by decide +kernel
theorem d_T_good_51 : decode b_T_good 51 = .ok (.dup, 1) := by decide +kernel
theorem d_T_good_52 : decode b_T_good 52 = .ok (.ldc 81, 2) := by decide +kernel
theorem d_T_good_54 : decode b_T_good 54 = .ok (.invokespecial 68, 3) := by decide +kernel
theorem d_T_good_57 : decode b_T_good 57 = .ok (.athrow, 1) := by decide +kernel
theorem d_T_good_58 : decode b_T_good 58 = .ok (.aload_n 0, 1) := by decide +kernel
theorem d_T_good_59 : decode b_T_good 59 = .ok (.getfield 29, 3) := by decide +kernel
theorem d_T_good_62 : decode b_T_good 62 = .ok (.invokevirtual 83, 3) := by decide +kernel
theorem d_T_good_65 : decode b_T_good 65 = .ok (.bipush 16, 2) := by decide +kernel
theorem d_T_good_67 : decode b_T_good 67 = .ok (.if_icmp .lt 13, 3) := by decide +kernel
theorem d_T_good_70 : decode b_T_good 70 = .ok (.new 86, 3) := by decide +kernel
theorem d_T_good_73 : decode b_T_good 73 = .ok (.dup, 1) := by decide +kernel
theorem d_T_good_74 : decode b_T_good 74 = .ok (.ldc 88, 2) := by decide +kernel
theorem d_T_good_76 : decode b_T_good 76 = .ok (.invokespecial 90, 3) := by decide +kernel
theorem d_T_good_79 : decode b_T_good 79 = .ok (.athrow, 1) := by decide +kernel
theorem d_T_good_80 : decode b_T_good 80 = .ok (.aload_n 0, 1) := by decide +kernel
theorem d_T_good_81 : decode b_T_good 81 = .ok (.getfield 29, 3) := by decide +kernel
theorem d_T_good_84 : decode b_T_good 84 = .ok (.new 91, 3) := by decide +kernel
theorem d_T_good_87 : decode b_T_good 87 = .ok (.dup, 1) := by decide +kernel
theorem d_T_good_88 : decode b_T_good 88 = .ok (.iload_n 1, 1) := by decide +kernel
theorem d_T_good_89 : decode b_T_good 89 = .ok (.iload_n 2, 1) := by decide +kernel
theorem d_T_good_90 : decode b_T_good 90 = .ok (.iload 4, 2) := by decide +kernel
theorem d_T_good_92 : decode b_T_good 92 = .ok (.iload_n 3, 1) := by decide +kernel
theorem d_T_good_93 : decode b_T_good 93 = .ok (.iload 5, 2) := by decide +kernel
theorem d_T_good_95 : decode b_T_good 95 = .ok (.iload 6, 2) := by decide +kernel
theorem d_T_good_97 : decode b_T_good 97 = .ok (.invokestatic 93, 3) := by decide +kernel
theorem d_T_good_100 : decode b_T_good 100 = .ok (.invokespecial 97, 3) := by decide +kernel
theorem d_T_good_103 : decode b_T_good 103 = .ok (.invokevirtual 100, 3) := by decide +kernel
theorem d_T_good_106 : decode b_T_good 106 = .ok (.pop, 1) := by decide +kernel
theorem d_T_good_107 : decode b_T_good 107 = .ok (.aload_n 0, 1) := by decide +kernel
theorem d_T_good_108 : decode b_T_good 108 = .ok (.getfield 29, 3) := by decide +kernel
theorem d_T_good_111 : decode b_T_good 111 = .ok (.invokevirtual 83, 3) := by decide +kernel
theorem d_T_good_114 : decode b_T_good 114 = .ok (.iconst 1, 1) := by decide +kernel
theorem d_T_good_115 : decode b_T_good 115 = .ok (.isub, 1) := by decide +kernel
theorem d_T_good_116 : decode b_T_good 116 = .ok (.ireturn, 1) := by decide +kernel
theorem d_T_isSide_0 : decode b_T_isSide 0 = .ok (.iload_n 0, 1) := by decide +kernel
theorem d_T_isSide_1 : decode b_T_isSide 1 = .ok (.ifCond .eq 15, 3) := by decide +kernel
theorem d_T_isSide_4 : decode b_T_isSide 4 = .ok (.iload_n 0, 1) := by decide +kernel
theorem d_T_isSide_5 : decode b_T_isSide 5 = .ok (.invokestatic 61, 3) := by decide +kernel
theorem d_T_isSide_8 : decode b_T_isSide 8 = .ok (.ifCond .eq 12, 3) := by decide +kernel
theorem d_T_isSide_11 : decode b_T_isSide 11 = .ok (.iload_n 0, 1) := by decide +kernel
theorem d_T_isSide_12 : decode b_T_isSide 12 = .ok (.iload_n 1, 1) := by decide +kernel
theorem d_T_isSide_13 : decode b_T_isSide 13 = .ok (.if_icmp .eq 7, 3) := by decide +kernel
theorem d_T_isSide_16 : decode b_T_isSide 16 = .ok (.iconst 1, 1) := by decide +kernel
theorem d_T_isSide_17 : decode b_T_isSide 17 = .ok (.goto 4, 3) := by decide +kernel
theorem d_T_isSide_20 : decode b_T_isSide 20 = .ok (.iconst 0, 1) := by decide +kernel
theorem d_T_isSide_21 : decode b_T_isSide 21 = .ok (.ireturn, 1) := by decide +kernel
theorem d_T_fieldsOf_0 : decode b_T_fieldsOf 0 = .ok (.iconst 1, 1) := by decide +kernel
theorem d_T_fieldsOf_1 : decode b_T_fieldsOf 1 = .ok (.istore_n 3, 1) := by decide +kernel
theorem d_T_fieldsOf_2 : decode b_T_fieldsOf 2 = .ok (.iload_n 0, 1) := by decide +kernel
theorem d_T_fieldsOf_3 : decode b_T_fieldsOf 3 = .ok (.iconst 1, 1) := by decide +kernel
theorem d_T_fieldsOf_4 : decode b_T_fieldsOf 4 = .ok (.if_icmp .ne 7, 3) := by decide +kernel
theorem d_T_fieldsOf_7 : decode b_T_fieldsOf 7 = .ok (.iload_n 3, 1) := by decide +kernel
theorem d_T_fieldsOf_8 : decode b_T_fieldsOf 8 = .ok (.iconst 2, 1) := by decide +kernel
theorem d_T_fieldsOf_9 : decode b_T_fieldsOf 9 = .ok (.ior, 1) := by decide +kernel
theorem d_T_fieldsOf_10 : decode b_T_fieldsOf 10 = .ok (.istore_n 3, 1) := by decide +kernel
theorem d_T_fieldsOf_11 : decode b_T_fieldsOf 11 = .ok (.iload_n 1, 1) := by decide +kernel
theorem d_T_fieldsOf_12 : decode b_T_fieldsOf 12 = .ok (.ifCond .eq 7, 3) := by decide +kernel
theorem d_T_fieldsOf_15 : decode b_T_fieldsOf 15 = .ok (.iload_n 3, 1) := by decide +kernel
theorem d_T_fieldsOf_16 : decode b_T_fieldsOf 16 = .ok (.iconst 4, 1) := by decide +kernel
theorem d_T_fieldsOf_17 : decode b_T_fieldsOf 17 = .ok (.ior, 1) := by decide +kernel
theorem d_T_fieldsOf_18 : decode b_T_fieldsOf 18 = .ok (.istore_n 3, 1) := by decide +kernel
theorem d_T_fieldsOf_19 : decode b_T_fieldsOf 19 = .ok (.iload_n 2, 1) := by decide +kernel
theorem d_T_fieldsOf_20 : decode b_T_fieldsOf 20 = .ok (.ifCond .eq 8, 3) := by decide +kernel
theorem d_T_fieldsOf_23 : decode b_T_fieldsOf 23 = .ok (.iload_n 3, 1) := by decide +kernel
theorem d_T_fieldsOf_24 : decode b_T_fieldsOf 24 = .ok (.bipush 8, 2) := by decide +kernel
theorem d_T_fieldsOf_26 : decode b_T_fieldsOf 26 = .ok (.ior, 1) := by decide +kernel
theorem d_T_fieldsOf_27 : decode b_T_fieldsOf 27 = .ok (.istore_n 3, 1) := by decide +kernel
theorem d_T_fieldsOf_28 : decode b_T_fieldsOf 28 = .ok (.iload_n 3, 1) := by decide +kernel
theorem d_T_fieldsOf_29 : decode b_T_fieldsOf 29 = .ok (.ireturn, 1) := by decide +kernel
theorem d_G_init_0 : decode b_G_init 0 = .ok (.aload_n 0, 1) := by decide +kernel
theorem d_G_init_1 : decode b_G_init 1 = .ok (.invokespecial 1, 3) := by decide +kernel
theorem d_G_init_4 : decode b_G_init 4 = .ok (.aload_n 0, 1) := by decide +kernel
theorem d_G_init_5 : decode b_G_init 5 = .ok (.iload_n 1, 1) := by decide +kernel
theorem d_G_init_6 : decode b_G_init 6 = .ok (.putfield 7, 3) := by decide +kernel
theorem d_G_init_9 : decode b_G_init 9 = .ok (.aload_n 0, 1) := by decide +kernel
theorem d_G_init_10 : decode b_G_init 10 = .ok (.iload_n 2, 1) := by decide +kernel
theorem d_G_init_11 : decode b_G_init 11 = .ok (.putfield 13, 3) := by decide +kernel
theorem d_G_init_14 : decode b_G_init 14 = .ok (.aload_n 0, 1) := by decide +kernel
theorem d_G_init_15 : decode b_G_init 15 = .ok (.iload_n 3, 1) := by decide +kernel
theorem d_G_init_16 : decode b_G_init 16 = .ok (.putfield 16, 3) := by decide +kernel
theorem d_G_init_19 : decode b_G_init 19 = .ok (.aload_n 0, 1) := by decide +kernel
theorem d_G_init_20 : decode b_G_init 20 = .ok (.iload 4, 2) := by decide +kernel
theorem d_G_init_22 : decode b_G_init 22 = .ok (.putfield 19, 3) := by decide +kernel
theorem d_G_init_25 : decode b_G_init 25 = .ok (.return_, 1) := by decide +kernel
theorem d_AL_add_0 : decode b_AL_add 0 = .ok (.aload_n 0, 1) := by decide +kernel
theorem d_AL_add_1 : decode b_AL_add 1 = .ok (.dup, 1) := by decide +kernel
theorem d_AL_add_2 : decode b_AL_add 2 = .ok (.getfield 63, 3) := by decide +kernel
theorem d_AL_add_5 : decode b_AL_add 5 = .ok (.iconst 1, 1) := by decide +kernel
theorem d_AL_add_6 : decode b_AL_add 6 = .ok (.iadd, 1) := by decide +kernel
theorem d_AL_add_7 : decode b_AL_add 7 = .ok (.putfield 63, 3) := by decide +kernel
theorem d_AL_add_10 : decode b_AL_add 10 = .ok (.aload_n 0, 1) := by decide +kernel
theorem d_AL_add_11 : decode b_AL_add 11 = .ok (.aload_n 1, 1) := by decide +kernel
theorem d_AL_add_12 : decode b_AL_add 12 = .ok (.aload_n 0, 1) := by decide +kernel
theorem d_AL_add_13 : decode b_AL_add 13 = .ok (.getfield 9, 3) := by decide +kernel
theorem d_AL_add_16 : decode b_AL_add 16 = .ok (.aload_n 0, 1) := by decide +kernel
theorem d_AL_add_17 : decode b_AL_add 17 = .ok (.getfield 48, 3) := by decide +kernel
theorem d_AL_add_20 : decode b_AL_add 20 = .ok (.invokevirtual 131, 3) := by decide +kernel
theorem d_AL_add_23 : decode b_AL_add 23 = .ok (.iconst 1, 1) := by decide +kernel
theorem d_AL_add_24 : decode b_AL_add 24 = .ok (.ireturn, 1) := by decide +kernel
theorem d_AL_add2_0 : decode b_AL_add2 0 = .ok (.iload_n 3, 1) := by decide +kernel
theorem d_AL_add2_1 : decode b_AL_add2 1 = .ok (.aload_n 2, 1) := by decide +kernel
theorem d_AL_add2_2 : decode b_AL_add2 2 = .ok (.arraylength, 1) := by decide +kernel
theorem d_AL_add2_3 : decode b_AL_add2 3 = .ok (.if_icmp .ne 8, 3) := by decide +kernel
theorem d_AL_add2_6 : decode b_AL_add2 6 = .ok (.aload_n 0, 1) := by decide +kernel
theorem d_AL_add2_7 : decode b_AL_add2 7 = .ok (.invokevirtual 129, 3) := by decide +kernel
theorem d_AL_add2_10 : decode b_AL_add2 10 = .ok (.astore_n 2, 1) := by decide +kernel
theorem d_AL_add2_11 : decode b_AL_add2 11 = .ok (.aload_n 2, 1) := by decide +kernel
theorem d_AL_add2_12 : decode b_AL_add2 12 = .ok (.iload_n 3, 1) := by decide +kernel
theorem d_AL_add2_13 : decode b_AL_add2 13 = .ok (.aload_n 1, 1) := by decide +kernel
theorem d_AL_add2_14 : decode b_AL_add2 14 = .ok (.aastore, 1) := by decide +kernel
theorem d_AL_add2_15 : decode b_AL_add2 15 = .ok (.aload_n 0, 1) := by decide +kernel
theorem d_AL_add2_16 : decode b_AL_add2 16 = .ok (.iload_n 3, 1) := by decide +kernel
theorem d_AL_add2_17 : decode b_AL_add2 17 = .ok (.iconst 1, 1) := by decide +kernel
theorem d_AL_add2_18 : decode b_AL_add2 18 = .ok (.iadd, 1) := by decide +kernel
theorem d_AL_add2_19 : decode b_AL_add2 19 = .ok (.putfield 48, 3) := by decide +kernel
theorem d_AL_add2_22 : decode b_AL_add2 22 = .ok (.return_, 1) := by decide +kernel
theorem d_AL_grow_0 : decode b_AL_grow 0 = .ok (.aload_n 0, 1) := by decide +kernel
theorem d_AL_grow_1 : decode b_AL_grow 1 = .ok (.aload_n 0, 1) := by decide +kernel
theorem d_AL_grow_2 : decode b_AL_grow 2 = .ok (.getfield 48, 3) := by decide +kernel
theorem d_AL_grow_5 : decode b_AL_grow 5 = .ok (.iconst 1, 1) := by decide +kernel
theorem d_AL_grow_6 : decode b_AL_grow 6 = .ok (.iadd, 1) := by decide +kernel
theorem d_AL_grow_7 : decode b_AL_grow 7 = .ok (.invokevirtual 69, 3) := by decide +kernel
theorem d_AL_grow_10 : decode b_AL_grow 10 = .ok (.areturn, 1) := by decide +kernel
theorem d_AL_grow2_0 : decode b_AL_grow2 0 = .ok (.aload_n 0, 1) := by decide +kernel
theorem d_AL_grow2_1 : decode b_AL_grow2 1 = .ok (.getfield 9, 3) := by decide +kernel
theorem d_AL_grow2_4 : decode b_AL_grow2 4 = .ok (.arraylength, 1) := by decide +kernel
theorem d_AL_grow2_5 : decode b_AL_grow2 5 = .ok (.istore_n 2, 1) := by decide +kernel
theorem d_AL_grow2_6 : decode b_AL_grow2 6 = .ok (.iload_n 2, 1) := by decide +kernel
theorem d_AL_grow2_7 : decode b_AL_grow2 7 = .ok (.ifCond .gt 13, 3) := by decide +kernel
theorem d_AL_grow2_10 : decode b_AL_grow2 10 = .ok (.aload_n 0, 1) := by decide +kernel
theorem d_AL_grow2_11 : decode b_AL_grow2 11 = .ok (.getfield 9, 3) := by decide +kernel
theorem d_AL_grow2_14 : decode b_AL_grow2 14 = .ok (.getstatic 39, 3) := by decide +kernel
theorem d_AL_grow2_17 : decode b_AL_grow2 17 = .ok (.if_acmp .eq 28, 3) := by decide +kernel
theorem d_AL_grow2_20 : decode b_AL_grow2 20 = .ok (.iload_n 2, 1) := by decide +kernel
theorem d_AL_grow2_21 : decode b_AL_grow2 21 = .ok (.iload_n 1, 1) := by decide +kernel
theorem d_AL_grow2_22 : decode b_AL_grow2 22 = .ok (.iload_n 2, 1) := by decide +kernel
theorem d_AL_grow2_23 : decode b_AL_grow2 23 = .ok (.isub, 1) := by decide +kernel
theorem d_AL_grow2_24 : decode b_AL_grow2 24 = .ok (.iload_n 2, 1) := by decide +kernel
theorem d_AL_grow2_25 : decode b_AL_grow2 25 = .ok (.iconst 1, 1) := by decide +kernel
theorem d_AL_grow2_26 : decode b_AL_grow2 26 = .ok (.ishr, 1) := by decide +kernel
theorem d_AL_grow2_27 : decode b_AL_grow2 27 = .ok (.invokestatic 73, 3) := by decide +kernel
theorem d_AL_grow2_30 : decode b_AL_grow2 30 = .ok (.istore_n 3, 1) := by decide +kernel
theorem d_AL_grow2_31 : decode b_AL_grow2 31 = .ok (.aload_n 0, 1) := by decide +kernel
theorem d_AL_grow2_32 : decode b_AL_grow2 32 = .ok (.aload_n 0, 1) := by decide +kernel
theorem d_AL_grow2_33 : decode b_AL_grow2 33 = .ok (.getfield 9, 3) := by decide +kernel
theorem d_AL_grow2_36 : decode b_AL_grow2 36 = .ok (.iload_n 3, 1) := by decide +kernel
theorem d_AL_grow2_37 : decode b_AL_grow2 37 = .ok (.invokestatic 66, 3) := by decide +kernel
theorem d_AL_grow2_40 : decode b_AL_grow2 40 = .ok (.dup_x1, 1) := by decide +kernel
theorem d_AL_grow2_41 : decode b_AL_grow2 41 = .ok (.putfield 9, 3) := by decide +kernel
theorem d_AL_grow2_44 : decode b_AL_grow2 44 = .ok (.areturn, 1) := by decide +kernel
theorem d_AL_grow2_45 : decode b_AL_grow2 45 = .ok (.aload_n 0, 1) := by decide +kernel
theorem d_AL_grow2_46 : decode b_AL_grow2 46 = .ok (.bipush 10, 2) := by decide +kernel
theorem d_AL_grow2_48 : decode b_AL_grow2 48 = .ok (.iload_n 1, 1) := by decide +kernel
theorem d_AL_grow2_49 : decode b_AL_grow2 49 = .ok (.invokestatic 79, 3) := by decide +kernel
theorem d_AL_grow2_52 : decode b_AL_grow2 52 = .ok (.anewarray 7, 3) := by decide +kernel
theorem d_AL_grow2_55 : decode b_AL_grow2 55 = .ok (.dup_x1, 1) := by decide +kernel
theorem d_AL_grow2_56 : decode b_AL_grow2 56 = .ok (.putfield 9, 3) := by decide +kernel
theorem d_AL_grow2_59 : decode b_AL_grow2 59 = .ok (.areturn, 1) := by decide +kernel
theorem d_AS_newLength_0 : decode b_AS_newLength 0 = .ok (.iload_n 0, 1) := by decide +kernel
theorem d_AS_newLength_1 : decode b_AS_newLength 1 = .ok (.iload_n 1, 1) := by decide +kernel
theorem d_AS_newLength_2 : decode b_AS_newLength 2 = .ok (.iload_n 2, 1) := by decide +kernel
theorem d_AS_newLength_3 : decode b_AS_newLength 3 = .ok (.invokestatic 194, 3) := by decide +kernel
theorem d_AS_newLength_6 : decode b_AS_newLength 6 = .ok (.iadd, 1) := by decide +kernel
theorem d_AS_newLength_7 : decode b_AS_newLength 7 = .ok (.istore_n 3, 1) := by decide +kernel
theorem d_AS_newLength_8 : decode b_AS_newLength 8 = .ok (.iconst 0, 1) := by decide +kernel
theorem d_AS_newLength_9 : decode b_AS_newLength 9 = .ok (.iload_n 3, 1) := by decide +kernel
theorem d_AS_newLength_10 : decode b_AS_newLength 10 = .ok (.if_icmp .ge 11, 3) := by decide +kernel
theorem d_AS_newLength_13 : decode b_AS_newLength 13 = .ok (.iload_n 3, 1) := by decide +kernel
theorem d_AS_newLength_14 : decode b_AS_newLength 14 = .ok (.ldc 200, 2) := by decide +kernel
theorem d_AS_newLength_16 : decode b_AS_newLength 16 = .ok (.if_icmp .gt 5, 3) := by decide +kernel
theorem d_AS_newLength_19 : decode b_AS_newLength 19 = .ok (.iload_n 3, 1) := by decide +kernel
theorem d_AS_newLength_20 : decode b_AS_newLength 20 = .ok (.ireturn, 1) := by decide +kernel
theorem d_AS_newLength_21 : decode b_AS_newLength 21 = .ok (.iload_n 0, 1) := by decide +kernel
theorem d_AS_newLength_22 : decode b_AS_newLength 22 = .ok (.iload_n 1, 1) := by decide +kernel
theorem d_AS_newLength_23 : decode b_AS_newLength 23 = .ok (.invokestatic 201, 3) := by decide +kernel
theorem d_AS_newLength_26 : decode b_AS_newLength 26 = .ok (.ireturn, 1) := by decide +kernel
theorem d_AS_hugeLength_0 : decode b_AS_hugeLength 0 = .ok (.iload_n 0, 1) := by decide +kernel
theorem d_AS_hugeLength_1 : decode b_AS_hugeLength 1 = .ok (.iload_n 1, 1) := by decide +kernel
theorem d_AS_hugeLength_2 : decode b_AS_hugeLength 2 = .ok (.iadd, 1) := by decide +kernel
theorem d_AS_hugeLength_3 : decode b_AS_hugeLength 3 = .ok (.istore_n 2, 1) := by decide +kernel
theorem d_AS_hugeLength_4 : decode b_AS_hugeLength 4 = .ok (.iload_n 2, 1) := by decide +kernel
theorem d_AS_hugeLength_5 : decode b_AS_hugeLength 5 = .ok (.ifCond .ge 44, 3) := by decide +kernel
theorem d_AS_hugeLength_8 : decode b_AS_hugeLength 8 = .ok (.new 204, 3) := by decide +kernel
theorem d_AS_hugeLength_11 : decode b_AS_hugeLength 11 = .ok (.dup, 1) := by decide +kernel
theorem d_AS_hugeLength_12 : decode b_AS_hugeLength 12 = .ok (.new 89, 3) := by decide +kernel
theorem d_AS_hugeLength_15 : decode b_AS_hugeLength 15 = .ok (.dup, 1) := by decide +kernel
theorem d_AS_hugeLength_16 : decode b_AS_hugeLength 16 = .ok (.invokespecial 91, 3) := by decide +kernel
theorem d_AS_hugeLength_19 : decode b_AS_hugeLength 19 = .ok (.ldc 206, 2) := by decide +kernel
theorem d_AS_hugeLength_21 : decode b_AS_hugeLength 21 = .ok (.invokevirtual 94, 3) := by decide +kernel
theorem d_AS_hugeLength_24 : decode b_AS_hugeLength 24 = .ok (.iload_n 0, 1) := by decide +kernel
theorem d_AS_hugeLength_25 : decode b_AS_hugeLength 25 = .ok (.invokevirtual 98, 3) := by decide +kernel
theorem d_AS_hugeLength_28 : decode b_AS_hugeLength 28 = .ok (.ldc 208, 2) := by decide +kernel
theorem d_AS_hugeLength_30 : decode b_AS_hugeLength 30 = .ok (.invokevirtual 94, 3) := by decide +kernel
theorem d_AS_hugeLength_33 : decode b_AS_hugeLength 33 = .ok (.iload_n 1, 1) := by decide +kernel
theorem d_AS_hugeLength_34 : decode b_AS_hugeLength 34 = .ok (.invokevirtual 98, 3) := by decide +kernel
theorem d_AS_hugeLength_37 : decode b_AS_hugeLength 37 = .ok (.ldc 210, 2) := by decide +kernel
theorem d_AS_hugeLength_39 : decode b_AS_hugeLength 39 = .ok (.invokevirtual 94, 3) := by decide +kernel
theorem d_AS_hugeLength_42 : decode b_AS_hugeLength 42 = .ok (.invokevirtual 101, 3) := by decide +kernel
theorem d_AS_hugeLength_45 : decode b_AS_hugeLength 45 = .ok (.invokespecial 212, 3) := by decide +kernel
theorem d_AS_hugeLength_48 : decode b_AS_hugeLength 48 = .ok (.athrow, 1) := by decide +kernel
theorem d_AS_hugeLength_49 : decode b_AS_hugeLength 49 = .ok (.iload_n 2, 1) := by decide +kernel
theorem d_AS_hugeLength_50 : decode b_AS_hugeLength 50 = .ok (.ldc 200, 2) := by decide +kernel
theorem d_AS_hugeLength_52 : decode b_AS_hugeLength 52 = .ok (.if_icmp .gt 6, 3) := by decide +kernel
theorem d_AS_hugeLength_55 : decode b_AS_hugeLength 55 = .ok (.ldc 200, 2) := by decide +kernel
theorem d_AS_hugeLength_57 : decode b_AS_hugeLength 57 = .ok (.ireturn, 1) := by decide +kernel
theorem d_AS_hugeLength_58 : decode b_AS_hugeLength 58 = .ok (.iload_n 2, 1) := by decide +kernel
theorem d_AS_hugeLength_59 : decode b_AS_hugeLength 59 = .ok (.ireturn, 1) := by decide +kernel
theorem d_AR_copyOf_0 : decode b_AR_copyOf 0 = .ok (.aload_n 0, 1) := by decide +kernel
theorem d_AR_copyOf_1 : decode b_AR_copyOf 1 = .ok (.iload_n 1, 1) := by decide +kernel
theorem d_AR_copyOf_2 : decode b_AR_copyOf 2 = .ok (.aload_n 0, 1) := by decide +kernel
theorem d_AR_copyOf_3 : decode b_AR_copyOf 3 = .ok (.invokevirtual 86, 3) := by decide +kernel
theorem d_AR_copyOf_6 : decode b_AR_copyOf 6 = .ok (.invokestatic 300, 3) := by decide +kernel
theorem d_AR_copyOf_9 : decode b_AR_copyOf 9 = .ok (.areturn, 1) := by decide +kernel
theorem d_AR_copyOf2_0 : decode b_AR_copyOf2 0 = .ok (.aload_n 2, 1) := by decide +kernel
theorem d_AR_copyOf2_1 : decode b_AR_copyOf2 1 = .ok (.ldc 110, 2) := by decide +kernel
theorem d_AR_copyOf2_3 : decode b_AR_copyOf2 3 = .ok (.if_acmp .ne 10, 3) := by decide +kernel
theorem d_AR_copyOf2_6 : decode b_AR_copyOf2 6 = .ok (.iload_n 1, 1) := by decide +kernel
theorem d_AR_copyOf2_7 : decode b_AR_copyOf2 7 = .ok (.anewarray 2, 3) := by decide +kernel
theorem d_AR_copyOf2_10 : decode b_AR_copyOf2 10 = .ok (.goto 14, 3) := by decide +kernel
theorem d_AR_copyOf2_13 : decode b_AR_copyOf2 13 = .ok (.aload_n 2, 1) := by decide +kernel
theorem d_AR_copyOf2_14 : decode b_AR_copyOf2 14 = .ok (.invokevirtual 90, 3) := by decide +kernel
theorem d_AR_copyOf2_17 : decode b_AR_copyOf2 17 = .ok (.iload_n 1, 1) := by decide +kernel
theorem d_AR_copyOf2_18 : decode b_AR_copyOf2 18 = .ok (.invokestatic 95, 3) := by decide +kernel
theorem d_AR_copyOf2_21 : decode b_AR_copyOf2 21 = .ok (.checkcast 110, 3) := by decide +kernel
theorem d_AR_copyOf2_24 : decode b_AR_copyOf2 24 = .ok (.astore_n 3, 1) := by decide +kernel
theorem d_AR_copyOf2_25 : decode b_AR_copyOf2 25 = .ok (.aload_n 0, 1) := by decide +kernel
theorem d_AR_copyOf2_26 : decode b_AR_copyOf2 26 = .ok (.iconst 0, 1) := by decide +kernel
theorem d_AR_copyOf2_27 : decode b_AR_copyOf2 27 = .ok (.aload_n 3, 1) := by decide +kernel
theorem d_AR_copyOf2_28 : decode b_AR_copyOf2 28 = .ok (.iconst 0, 1) := by decide +kernel
theorem d_AR_copyOf2_29 : decode b_AR_copyOf2 29 = .ok (.aload_n 0, 1) := by decide +kernel
theorem d_AR_copyOf2_30 : decode b_AR_copyOf2 30 = .ok (.arraylength, 1) := by decide +kernel
theorem d_AR_copyOf2_31 : decode b_AR_copyOf2 31 = .ok (.iload_n 1, 1) := by decide +kernel
theorem d_AR_copyOf2_32 : decode b_AR_copyOf2 32 = .ok (.invokestatic 304, 3) := by decide +kernel
theorem d_AR_copyOf2_35 : decode b_AR_copyOf2 35 = .ok (.invokestatic 150, 3) := by decide +kernel
theorem d_AR_copyOf2_38 : decode b_AR_copyOf2 38 = .ok (.aload_n 3, 1) := by decide +kernel
theorem d_AR_copyOf2_39 : decode b_AR_copyOf2 39 = .ok (.areturn, 1) := by decide +kernel
theorem d_L_box_0 : decode b_L_box 0 = .ok (.aload_n 3, 1) := by decide +kernel
theorem d_L_box_1 : decode b_L_box 1 = .ok (.iconst 0, 1) := by decide +kernel
theorem d_L_box_2 : decode b_L_box 2 = .ok (.aload_n 0, 1) := by decide +kernel
theorem d_L_box_3 : decode b_L_box 3 = .ok (.iload_n 1, 1) := by decide +kernel
theorem d_L_box_4 : decode b_L_box 4 = .ok (.iload_n 2, 1) := by decide +kernel
theorem d_L_box_5 : decode b_L_box 5 = .ok (.invokevirtual 21, 3) := by decide +kernel
theorem d_L_box_8 : decode b_L_box 8 = .ok (.i2l, 1) := by decide +kernel
theorem d_L_box_9 : decode b_L_box 9 = .ok (.lastore, 1) := by decide +kernel
theorem d_L_box_10 : decode b_L_box 10 = .ok (.goto 11, 3) := by decide +kernel
theorem d_L_box_13 : decode b_L_box 13 = .ok (.astore 4, 2) := by decide +kernel
theorem d_L_box_15 : decode b_L_box 15 = .ok (.iconst 1, 1) := by decide +kernel
theorem d_L_box_16 : decode b_L_box 16 = .ok (.ireturn, 1) := by decide +kernel
theorem d_L_box_17 : decode b_L_box 17 = .ok (.astore 4, 2) := by decide +kernel
theorem d_L_box_19 : decode b_L_box 19 = .ok (.iconst 2, 1) := by decide +kernel
theorem d_L_box_20 : decode b_L_box 20 = .ok (.ireturn, 1) := by decide +kernel
theorem d_L_box_21 : decode b_L_box 21 = .ok (.iconst 0, 1) := by decide +kernel
theorem d_L_box_22 : decode b_L_box 22 = .ok (.ireturn, 1) := by decide +kernel
theorem d_T_box_0 : decode b_T_box 0 = .ok (.aload_n 0, 1) := by decide +kernel
theorem d_T_box_1 : decode b_T_box 1 = .ok (.iload_n 1, 1) := by decide +kernel
theorem d_T_box_2 : decode b_T_box 2 = .ok (.invokevirtual 104, 3) := by decide +kernel
theorem d_T_box_5 : decode b_T_box 5 = .ok (.ifCond .eq 10, 3) := by decide +kernel
theorem d_T_box_8 : decode b_T_box 8 = .ok (.iload_n 2, 1) := by decide +kernel
theorem d_T_box_9 : decode b_T_box 9 = .ok (.invokestatic 114, 3) := by decide +kernel
theorem d_T_box_12 : decode b_T_box 12 = .ok (.ifCond .ne 13, 3) := by decide +kernel
theorem d_T_box_15 : decode b_T_box 15 = .ok (.new 64, 3) := by decide +kernel
theorem d_T_box_18 : decode b_T_box 18 = .ok (.dup, 1) := by decide +kernel
theorem d_T_box_19 : decode b_T_box 19 = .ok (.ldc 117, 2) := by decide +kernel
theorem d_T_box_21 : decode b_T_box 21 = .ok (.invokespecial 68, 3) := by decide +kernel
theorem d_T_box_24 : decode b_T_box 24 = .ok (.athrow, 1) := by decide +kernel
theorem d_T_box_25 : decode b_T_box 25 = .ok (.aload_n 0, 1) := by decide +kernel
theorem d_T_box_26 : decode b_T_box 26 = .ok (.getfield 33, 3) := by decide +kernel
theorem d_T_box_29 : decode b_T_box 29 = .ok (.invokevirtual 83, 3) := by decide +kernel
theorem d_T_box_32 : decode b_T_box 32 = .ok (.bipush 12, 2) := by decide +kernel
theorem d_T_box_34 : decode b_T_box 34 = .ok (.if_icmp .lt 13, 3) := by decide +kernel
theorem d_T_box_37 : decode b_T_box 37 = .ok (.new 86, 3) := by decide +kernel
theorem d_T_box_40 : decode b_T_box 40 = .ok (.dup, 1) := by decide +kernel
theorem d_T_box_41 : decode b_T_box 41 = .ok (.ldc 119, 2) := by decide +kernel
theorem d_T_box_43 : decode b_T_box 43 = .ok (.invokespecial 90, 3) := by decide +kernel
theorem d_T_box_46 : decode b_T_box 46 = .ok (.athrow, 1) := by decide +kernel
theorem d_T_box_47 : decode b_T_box 47 = .ok (.new 121, 3) := by decide +kernel
theorem d_T_box_50 : decode b_T_box 50 = .ok (.dup, 1) := by decide +kernel
theorem d_T_box_51 : decode b_T_box 51 = .ok (.invokespecial 123, 3) := by decide +kernel
theorem d_T_box_54 : decode b_T_box 54 = .ok (.astore_n 3, 1) := by decide +kernel
theorem d_T_box_55 : decode b_T_box 55 = .ok (.aload_n 3, 1) := by decide +kernel
theorem d_T_box_56 : decode b_T_box 56 = .ok (.aload_n 0, 1) := by decide +kernel
theorem d_T_box_57 : decode b_T_box 57 = .ok (.getfield 29, 3) := by decide +kernel
theorem d_T_box_60 : decode b_T_box 60 = .ok (.iload_n 1, 1) := by decide +kernel
theorem d_T_box_61 : decode b_T_box 61 = .ok (.invokevirtual 107, 3) := by decide +kernel
theorem d_T_box_64 : decode b_T_box 64 = .ok (.checkcast 91, 3) := by decide +kernel
theorem d_T_box_67 : decode b_T_box 67 = .ok (.iload_n 1, 1) := by decide +kernel
theorem d_T_box_68 : decode b_T_box 68 = .ok (.iload_n 2, 1) := by decide +kernel
theorem d_T_box_69 : decode b_T_box 69 = .ok (.invokevirtual 124, 3) := by decide +kernel
theorem d_T_box_72 : decode b_T_box 72 = .ok (.aload_n 0, 1) := by decide +kernel
theorem d_T_box_73 : decode b_T_box 73 = .ok (.getfield 33, 3) := by decide +kernel
theorem d_T_box_76 : decode b_T_box 76 = .ok (.aload_n 3, 1) := by decide +kernel
theorem d_T_box_77 : decode b_T_box 77 = .ok (.invokevirtual 100, 3) := by decide +kernel
theorem d_T_box_80 : decode b_T_box 80 = .ok (.pop, 1) := by decide +kernel
theorem d_T_box_81 : decode b_T_box 81 = .ok (.aload_n 0, 1) := by decide +kernel
theorem d_T_box_82 : decode b_T_box 82 = .ok (.getfield 33, 3) := by decide +kernel
theorem d_T_box_85 : decode b_T_box 85 = .ok (.invokevirtual 83, 3) := by decide +kernel
theorem d_T_box_88 : decode b_T_box 88 = .ok (.iconst 1, 1) := by decide +kernel
theorem d_T_box_89 : decode b_T_box 89 = .ok (.isub, 1) := by decide +kernel
theorem d_T_box_90 : decode b_T_box 90 = .ok (.ireturn, 1) := by decide +kernel
theorem d_T_isAmount_0 : decode b_T_isAmount 0 = .ok (.iload_n 0, 1) := by decide +kernel
theorem d_T_isAmount_1 : decode b_T_isAmount 1 = .ok (.iconst 1, 1) := by decide +kernel
theorem d_T_isAmount_2 : decode b_T_isAmount 2 = .ok (.if_icmp .lt 14, 3) := by decide +kernel
theorem d_T_isAmount_5 : decode b_T_isAmount 5 = .ok (.iload_n 0, 1) := by decide +kernel
theorem d_T_isAmount_6 : decode b_T_isAmount 6 = .ok (.sipush 30000, 3) := by decide +kernel
theorem d_T_isAmount_9 : decode b_T_isAmount 9 = .ok (.if_icmp .gt 7, 3) := by decide +kernel
theorem d_T_isAmount_12 : decode b_T_isAmount 12 = .ok (.iconst 1, 1) := by decide +kernel
theorem d_T_isAmount_13 : decode b_T_isAmount 13 = .ok (.goto 4, 3) := by decide +kernel
theorem d_T_isAmount_16 : decode b_T_isAmount 16 = .ok (.iconst 0, 1) := by decide +kernel
theorem d_T_isAmount_17 : decode b_T_isAmount 17 = .ok (.ireturn, 1) := by decide +kernel
theorem d_X_init_0 : decode b_X_init 0 = .ok (.aload_n 0, 1) := by decide +kernel
theorem d_X_init_1 : decode b_X_init 1 = .ok (.invokespecial 3, 3) := by decide +kernel
theorem d_X_init_4 : decode b_X_init 4 = .ok (.aload_n 0, 1) := by decide +kernel
theorem d_X_init_5 : decode b_X_init 5 = .ok (.new 9, 3) := by decide +kernel
theorem d_X_init_8 : decode b_X_init 8 = .ok (.dup, 1) := by decide +kernel
theorem d_X_init_9 : decode b_X_init 9 = .ok (.invokespecial 11, 3) := by decide +kernel
theorem d_X_init_12 : decode b_X_init 12 = .ok (.putfield 12, 3) := by decide +kernel
theorem d_X_init_15 : decode b_X_init 15 = .ok (.aload_n 0, 1) := by decide +kernel
theorem d_X_init_16 : decode b_X_init 16 = .ok (.iconst (-1), 1) := by decide +kernel
theorem d_X_init_17 : decode b_X_init 17 = .ok (.putfield 18, 3) := by decide +kernel
theorem d_X_init_20 : decode b_X_init 20 = .ok (.aload_n 0, 1) := by decide +kernel
theorem d_X_init_21 : decode b_X_init 21 = .ok (.iconst (-1), 1) := by decide +kernel
theorem d_X_init_22 : decode b_X_init 22 = .ok (.putfield 22, 3) := by decide +kernel
theorem d_X_init_25 : decode b_X_init 25 = .ok (.aload_n 0, 1) := by decide +kernel
theorem d_X_init_26 : decode b_X_init 26 = .ok (.iconst (-1), 1) := by decide +kernel
theorem d_X_init_27 : decode b_X_init 27 = .ok (.putfield 25, 3) := by decide +kernel
theorem d_X_init_30 : decode b_X_init 30 = .ok (.return_, 1) := by decide +kernel
theorem d_X_fill_0 : decode b_X_fill 0 = .ok (.aload_n 0, 1) := by decide +kernel
theorem d_X_fill_1 : decode b_X_fill 1 = .ok (.getfield 12, 3) := by decide +kernel
theorem d_X_fill_4 : decode b_X_fill 4 = .ok (.new 28, 3) := by decide +kernel
theorem d_X_fill_7 : decode b_X_fill 7 = .ok (.dup, 1) := by decide +kernel
theorem d_X_fill_8 : decode b_X_fill 8 = .ok (.aload_n 1, 1) := by decide +kernel
theorem d_X_fill_9 : decode b_X_fill 9 = .ok (.iload_n 2, 1) := by decide +kernel
theorem d_X_fill_10 : decode b_X_fill 10 = .ok (.iload_n 3, 1) := by decide +kernel
theorem d_X_fill_11 : decode b_X_fill 11 = .ok (.invokespecial 30, 3) := by decide +kernel
theorem d_X_fill_14 : decode b_X_fill 14 = .ok (.invokevirtual 33, 3) := by decide +kernel
theorem d_X_fill_17 : decode b_X_fill 17 = .ok (.pop, 1) := by decide +kernel
theorem d_X_fill_18 : decode b_X_fill 18 = .ok (.return_, 1) := by decide +kernel
theorem d_P_init_0 : decode b_P_init 0 = .ok (.aload_n 0, 1) := by decide +kernel
theorem d_P_init_1 : decode b_P_init 1 = .ok (.invokespecial 3, 3) := by decide +kernel
theorem d_P_init_4 : decode b_P_init 4 = .ok (.aload_n 0, 1) := by decide +kernel
theorem d_P_init_5 : decode b_P_init 5 = .ok (.aload_n 1, 1) := by decide +kernel
theorem d_P_init_6 : decode b_P_init 6 = .ok (.putfield 9, 3) := by decide +kernel
theorem d_P_init_9 : decode b_P_init 9 = .ok (.aload_n 0, 1) := by decide +kernel
theorem d_P_init_10 : decode b_P_init 10 = .ok (.iload_n 2, 1) := by decide +kernel
theorem d_P_init_11 : decode b_P_init 11 = .ok (.putfield 15, 3) := by decide +kernel
theorem d_P_init_14 : decode b_P_init 14 = .ok (.aload_n 0, 1) := by decide +kernel
theorem d_P_init_15 : decode b_P_init 15 = .ok (.iload_n 3, 1) := by decide +kernel
theorem d_P_init_16 : decode b_P_init 16 = .ok (.putfield 19, 3) := by decide +kernel
theorem d_P_init_19 : decode b_P_init 19 = .ok (.return_, 1) := by decide +kernel
theorem d_L_also_0 : decode b_L_also 0 = .ok (.aload 4, 2) := by decide +kernel
theorem d_L_also_2 : decode b_L_also 2 = .ok (.iconst 0, 1) := by decide +kernel
theorem d_L_also_3 : decode b_L_also 3 = .ok (.aload_n 0, 1) := by decide +kernel
theorem d_L_also_4 : decode b_L_also 4 = .ok (.iload_n 1, 1) := by decide +kernel
theorem d_L_also_5 : decode b_L_also 5 = .ok (.iload_n 2, 1) := by decide +kernel
theorem d_L_also_6 : decode b_L_also 6 = .ok (.iload_n 3, 1) := by decide +kernel
theorem d_L_also_7 : decode b_L_also 7 = .ok (.invokevirtual 24, 3) := by decide +kernel
theorem d_L_also_10 : decode b_L_also 10 = .ok (.i2l, 1) := by decide +kernel
theorem d_L_also_11 : decode b_L_also 11 = .ok (.lastore, 1) := by decide +kernel
theorem d_L_also_12 : decode b_L_also 12 = .ok (.goto 11, 3) := by decide +kernel
theorem d_L_also_15 : decode b_L_also 15 = .ok (.astore 5, 2) := by decide +kernel
theorem d_L_also_17 : decode b_L_also 17 = .ok (.iconst 1, 1) := by decide +kernel
theorem d_L_also_18 : decode b_L_also 18 = .ok (.ireturn, 1) := by decide +kernel
theorem d_L_also_19 : decode b_L_also 19 = .ok (.astore 5, 2) := by decide +kernel
theorem d_L_also_21 : decode b_L_also 21 = .ok (.iconst 2, 1) := by decide +kernel
theorem d_L_also_22 : decode b_L_also 22 = .ok (.ireturn, 1) := by decide +kernel
theorem d_L_also_23 : decode b_L_also 23 = .ok (.iconst 0, 1) := by decide +kernel
theorem d_L_also_24 : decode b_L_also 24 = .ok (.ireturn, 1) := by decide +kernel
theorem d_T_also_0 : decode b_T_also 0 = .ok (.aload_n 0, 1) := by decide +kernel
theorem d_T_also_1 : decode b_T_also 1 = .ok (.iload_n 1, 1) := by decide +kernel
theorem d_T_also_2 : decode b_T_also 2 = .ok (.invokevirtual 127, 3) := by decide +kernel
theorem d_T_also_5 : decode b_T_also 5 = .ok (.ifCond .eq 18, 3) := by decide +kernel
theorem d_T_also_8 : decode b_T_also 8 = .ok (.aload_n 0, 1) := by decide +kernel
theorem d_T_also_9 : decode b_T_also 9 = .ok (.iload_n 2, 1) := by decide +kernel
theorem d_T_also_10 : decode b_T_also 10 = .ok (.invokevirtual 104, 3) := by decide +kernel
theorem d_T_also_13 : decode b_T_also 13 = .ok (.ifCond .eq 10, 3) := by decide +kernel
theorem d_T_also_16 : decode b_T_also 16 = .ok (.iload_n 3, 1) := by decide +kernel
theorem d_T_also_17 : decode b_T_also 17 = .ok (.invokestatic 114, 3) := by decide +kernel
theorem d_T_also_20 : decode b_T_also 20 = .ok (.ifCond .ne 13, 3) := by decide +kernel
theorem d_T_also_23 : decode b_T_also 23 = .ok (.new 64, 3) := by decide +kernel
theorem d_T_also_26 : decode b_T_also 26 = .ok (.dup, 1) := by decide +kernel
theorem d_T_also_27 : decode b_T_also 27 = .ok (.ldc 130, 2) := by decide +kernel
theorem d_T_also_29 : decode b_T_also 29 = .ok (.invokespecial 68, 3) := by decide +kernel
theorem d_T_also_32 : decode b_T_also 32 = .ok (.athrow, 1) := by decide +kernel
theorem d_T_also_33 : decode b_T_also 33 = .ok (.aload_n 0, 1) := by decide +kernel
theorem d_T_also_34 : decode b_T_also 34 = .ok (.getfield 33, 3) := by decide +kernel
theorem d_T_also_37 : decode b_T_also 37 = .ok (.iload_n 1, 1) := by decide +kernel
theorem d_T_also_38 : decode b_T_also 38 = .ok (.invokevirtual 107, 3) := by decide +kernel
theorem d_T_also_41 : decode b_T_also 41 = .ok (.checkcast 121, 3) := by decide +kernel
theorem d_T_also_44 : decode b_T_also 44 = .ok (.astore 4, 2) := by decide +kernel
theorem d_T_also_46 : decode b_T_also 46 = .ok (.aload 4, 2) := by decide +kernel
theorem d_T_also_48 : decode b_T_also 48 = .ok (.iload_n 2, 1) := by decide +kernel
theorem d_T_also_49 : decode b_T_also 49 = .ok (.invokevirtual 132, 3) := by decide +kernel
theorem d_T_also_52 : decode b_T_also 52 = .ok (.ifCond .eq 13, 3) := by decide +kernel
theorem d_T_also_55 : decode b_T_also 55 = .ok (.new 64, 3) := by decide +kernel
theorem d_T_also_58 : decode b_T_also 58 = .ok (.dup, 1) := by decide +kernel
theorem d_T_also_59 : decode b_T_also 59 = .ok (.ldc 135, 2) := by decide +kernel
theorem d_T_also_61 : decode b_T_also 61 = .ok (.invokespecial 68, 3) := by decide +kernel
theorem d_T_also_64 : decode b_T_also 64 = .ok (.athrow, 1) := by decide +kernel
theorem d_T_also_65 : decode b_T_also 65 = .ok (.aload 4, 2) := by decide +kernel
theorem d_T_also_67 : decode b_T_also 67 = .ok (.invokevirtual 137, 3) := by decide +kernel
theorem d_T_also_70 : decode b_T_also 70 = .ok (.ifCond .ne 12, 3) := by decide +kernel
theorem d_T_also_73 : decode b_T_also 73 = .ok (.aload 4, 2) := by decide +kernel
theorem d_T_also_75 : decode b_T_also 75 = .ok (.invokevirtual 141, 3) := by decide +kernel
theorem d_T_also_78 : decode b_T_also 78 = .ok (.iconst 4, 1) := by decide +kernel
theorem d_T_also_79 : decode b_T_also 79 = .ok (.if_icmp .lt 13, 3) := by decide +kernel
theorem d_T_also_82 : decode b_T_also 82 = .ok (.new 86, 3) := by decide +kernel
theorem d_T_also_85 : decode b_T_also 85 = .ok (.dup, 1) := by decide +kernel
theorem d_T_also_86 : decode b_T_also 86 = .ok (.ldc 144, 2) := by decide +kernel
theorem d_T_also_88 : decode b_T_also 88 = .ok (.invokespecial 90, 3) := by decide +kernel
theorem d_T_also_91 : decode b_T_also 91 = .ok (.athrow, 1) := by decide +kernel
theorem d_T_also_92 : decode b_T_also 92 = .ok (.aload 4, 2) := by decide +kernel
theorem d_T_also_94 : decode b_T_also 94 = .ok (.aload_n 0, 1) := by decide +kernel
theorem d_T_also_95 : decode b_T_also 95 = .ok (.getfield 29, 3) := by decide +kernel
theorem d_T_also_98 : decode b_T_also 98 = .ok (.iload_n 2, 1) := by decide +kernel
theorem d_T_also_99 : decode b_T_also 99 = .ok (.invokevirtual 107, 3) := by decide +kernel
theorem d_T_also_102 : decode b_T_also 102 = .ok (.checkcast 91, 3) := by decide +kernel
theorem d_T_also_105 : decode b_T_also 105 = .ok (.iload_n 2, 1) := by decide +kernel
theorem d_T_also_106 : decode b_T_also 106 = .ok (.iload_n 3, 1) := by decide +kernel
theorem d_T_also_107 : decode b_T_also 107 = .ok (.invokevirtual 124, 3) := by decide +kernel
theorem d_T_also_110 : decode b_T_also 110 = .ok (.aload 4, 2) := by decide +kernel
theorem d_T_also_112 : decode b_T_also 112 = .ok (.invokevirtual 141, 3) := by decide +kernel
theorem d_T_also_115 : decode b_T_also 115 = .ok (.ireturn, 1) := by decide +kernel
theorem d_X_holds_0 : decode b_X_holds 0 = .ok (.iconst 0, 1) := by decide +kernel
theorem d_X_holds_1 : decode b_X_holds 1 = .ok (.istore_n 2, 1) := by decide +kernel
theorem d_X_holds_2 : decode b_X_holds 2 = .ok (.iload_n 2, 1) := by decide +kernel
theorem d_X_holds_3 : decode b_X_holds 3 = .ok (.aload_n 0, 1) := by decide +kernel
theorem d_X_holds_4 : decode b_X_holds 4 = .ok (.getfield 12, 3) := by decide +kernel
theorem d_X_holds_7 : decode b_X_holds 7 = .ok (.invokevirtual 37, 3) := by decide +kernel
end
section
theorem d_X_holds_10 : decode b_X_holds 10 = .ok (.if_icmp .ge 29, 3) := by decide +kernel
theorem d_X_holds_13 : decode b_X_holds 13 = .ok (.aload_n 0, 1) := by decide +kernel
theorem d_X_holds_14 : decode b_X_holds 14 = .ok (.getfield 12, 3) := by decide +kernel
theorem d_X_holds_17 : decode b_X_holds 17 = .ok (.iload_n 2, 1) := by decide +kernel
theorem d_X_holds_18 : decode b_X_holds 18 = .ok (.invokevirtual 41, 3) := by decide +kernel
theorem d_X_holds_21 : decode b_X_holds 21 = .ok (.checkcast 28, 3) := by decide +kernel
theorem d_X_holds_24 : decode b_X_holds 24 = .ok (.getfield 45, 3) := by decide +kernel
theorem d_X_holds_27 : decode b_X_holds 27 = .ok (.iload_n 1, 1) := by decide +kernel
theorem d_X_holds_28 : decode b_X_holds 28 = .ok (.if_icmp .ne 5, 3) := by decide +kernel
theorem d_X_holds_31 : decode b_X_holds 31 = .ok (.iconst 1, 1) := by decide +kernel
theorem d_X_holds_32 : decode b_X_holds 32 = .ok (.ireturn, 1) := by decide +kernel
theorem d_X_holds_33 : decode b_X_holds 33 = .ok (.iinc 2 1, 3) := by decide +kernel
theorem d_X_holds_36 : decode b_X_holds 36 = .ok (.goto (-34), 3) := by decide +kernel
theorem d_X_holds_39 : decode b_X_holds 39 = .ok (.iconst 0, 1) := by decide +kernel
theorem d_X_holds_40 : decode b_X_holds 40 = .ok (.ireturn, 1) := by decide +kernel
theorem d_X_partCount_0 : decode b_X_partCount 0 = .ok (.aload_n 0, 1) := by decide +kernel
theorem d_X_partCount_1 : decode b_X_partCount 1 = .ok (.getfield 12, 3) := by decide +kernel
theorem d_X_partCount_4 : decode b_X_partCount 4 = .ok (.invokevirtual 37, 3) := by decide +kernel
theorem d_X_partCount_7 : decode b_X_partCount 7 = .ok (.ireturn, 1) := by decide +kernel
theorem d_L_apart_0 : decode b_L_apart 0 = .ok (.aload_n 3, 1) := by decide +kernel
theorem d_L_apart_1 : decode b_L_apart 1 = .ok (.iconst 0, 1) := by decide +kernel
theorem d_L_apart_2 : decode b_L_apart 2 = .ok (.aload_n 0, 1) := by decide +kernel
theorem d_L_apart_3 : decode b_L_apart 3 = .ok (.iload_n 1, 1) := by decide +kernel
theorem d_L_apart_4 : decode b_L_apart 4 = .ok (.iload_n 2, 1) := by decide +kernel
theorem d_L_apart_5 : decode b_L_apart 5 = .ok (.invokevirtual 28, 3) := by decide +kernel
theorem d_L_apart_8 : decode b_L_apart 8 = .ok (.i2l, 1) := by decide +kernel
theorem d_L_apart_9 : decode b_L_apart 9 = .ok (.lastore, 1) := by decide +kernel
theorem d_L_apart_10 : decode b_L_apart 10 = .ok (.goto 7, 3) := by decide +kernel
theorem d_L_apart_13 : decode b_L_apart 13 = .ok (.astore 4, 2) := by decide +kernel
theorem d_L_apart_15 : decode b_L_apart 15 = .ok (.iconst 1, 1) := by decide +kernel
theorem d_L_apart_16 : decode b_L_apart 16 = .ok (.ireturn, 1) := by decide +kernel
theorem d_L_apart_17 : decode b_L_apart 17 = .ok (.iconst 0, 1) := by decide +kernel
theorem d_L_apart_18 : decode b_L_apart 18 = .ok (.ireturn, 1) := by decide +kernel
theorem d_T_apart_0 : decode b_T_apart 0 = .ok (.aload_n 0, 1) := by decide +kernel
theorem d_T_apart_1 : decode b_T_apart 1 = .ok (.iload_n 1, 1) := by decide +kernel
theorem d_T_apart_2 : decode b_T_apart 2 = .ok (.iload_n 2, 1) := by decide +kernel
theorem d_T_apart_3 : decode b_T_apart 3 = .ok (.invokevirtual 146, 3) := by decide +kernel
theorem d_T_apart_6 : decode b_T_apart 6 = .ok (.ifCond .ne 13, 3) := by decide +kernel
theorem d_T_apart_9 : decode b_T_apart 9 = .ok (.new 64, 3) := by decide +kernel
theorem d_T_apart_12 : decode b_T_apart 12 = .ok (.dup, 1) := by decide +kernel
theorem d_T_apart_13 : decode b_T_apart 13 = .ok (.ldc 149, 2) := by decide +kernel
theorem d_T_apart_15 : decode b_T_apart 15 = .ok (.invokespecial 68, 3) := by decide +kernel
theorem d_T_apart_18 : decode b_T_apart 18 = .ok (.athrow, 1) := by decide +kernel
theorem d_T_apart_19 : decode b_T_apart 19 = .ok (.aload_n 0, 1) := by decide +kernel
theorem d_T_apart_20 : decode b_T_apart 20 = .ok (.aload_n 0, 1) := by decide +kernel
theorem d_T_apart_21 : decode b_T_apart 21 = .ok (.getfield 33, 3) := by decide +kernel
theorem d_T_apart_24 : decode b_T_apart 24 = .ok (.iload_n 1, 1) := by decide +kernel
theorem d_T_apart_25 : decode b_T_apart 25 = .ok (.invokevirtual 107, 3) := by decide +kernel
theorem d_T_apart_28 : decode b_T_apart 28 = .ok (.checkcast 121, 3) := by decide +kernel
theorem d_T_apart_31 : decode b_T_apart 31 = .ok (.aload_n 0, 1) := by decide +kernel
theorem d_T_apart_32 : decode b_T_apart 32 = .ok (.getfield 33, 3) := by decide +kernel
theorem d_T_apart_35 : decode b_T_apart 35 = .ok (.iload_n 2, 1) := by decide +kernel
theorem d_T_apart_36 : decode b_T_apart 36 = .ok (.invokevirtual 107, 3) := by decide +kernel
theorem d_T_apart_39 : decode b_T_apart 39 = .ok (.checkcast 121, 3) := by decide +kernel
theorem d_T_apart_42 : decode b_T_apart 42 = .ok (.invokevirtual 151, 3) := by decide +kernel
theorem d_T_apart_45 : decode b_T_apart 45 = .ok (.ireturn, 1) := by decide +kernel
theorem d_T_areTwoBoxes_0 : decode b_T_areTwoBoxes 0 = .ok (.aload_n 0, 1) := by decide +kernel
theorem d_T_areTwoBoxes_1 : decode b_T_areTwoBoxes 1 = .ok (.iload_n 1, 1) := by decide +kernel
theorem d_T_areTwoBoxes_2 : decode b_T_areTwoBoxes 2 = .ok (.invokevirtual 127, 3) := by decide +kernel
theorem d_T_areTwoBoxes_5 : decode b_T_areTwoBoxes 5 = .ok (.ifCond .eq 20, 3) := by decide +kernel
theorem d_T_areTwoBoxes_8 : decode b_T_areTwoBoxes 8 = .ok (.aload_n 0, 1) := by decide +kernel
theorem d_T_areTwoBoxes_9 : decode b_T_areTwoBoxes 9 = .ok (.iload_n 2, 1) := by decide +kernel
theorem d_T_areTwoBoxes_10 : decode b_T_areTwoBoxes 10 = .ok (.invokevirtual 127, 3) := by decide +kernel
theorem d_T_areTwoBoxes_13 : decode b_T_areTwoBoxes 13 = .ok (.ifCond .eq 12, 3) := by decide +kernel
theorem d_T_areTwoBoxes_16 : decode b_T_areTwoBoxes 16 = .ok (.iload_n 1, 1) := by decide +kernel
theorem d_T_areTwoBoxes_17 : decode b_T_areTwoBoxes 17 = .ok (.iload_n 2, 1) := by decide +kernel
theorem d_T_areTwoBoxes_18 : decode b_T_areTwoBoxes 18 = .ok (.if_icmp .eq 7, 3) := by decide +kernel
theorem d_T_areTwoBoxes_21 : decode b_T_areTwoBoxes 21 = .ok (.iconst 1, 1) := by decide +kernel
theorem d_T_areTwoBoxes_22 : decode b_T_areTwoBoxes 22 = .ok (.goto 4, 3) := by decide +kernel
theorem d_T_areTwoBoxes_25 : decode b_T_areTwoBoxes 25 = .ok (.iconst 0, 1) := by decide +kernel
theorem d_T_areTwoBoxes_26 : decode b_T_areTwoBoxes 26 = .ok (.ireturn, 1) := by decide +kernel
theorem d_T_ruleOfBoxes_0 : decode b_T_ruleOfBoxes 0 = .ok (.iconst 0, 1) := by decide +kernel
theorem d_T_ruleOfBoxes_1 : decode b_T_ruleOfBoxes 1 = .ok (.istore_n 3, 1) := by decide +kernel
theorem d_T_ruleOfBoxes_2 : decode b_T_ruleOfBoxes 2 = .ok (.iconst 0, 1) := by decide +kernel
theorem d_T_ruleOfBoxes_3 : decode b_T_ruleOfBoxes 3 = .ok (.istore 4, 2) := by decide +kernel
theorem d_T_ruleOfBoxes_5 : decode b_T_ruleOfBoxes 5 = .ok (.iload 4, 2) := by decide +kernel
theorem d_T_ruleOfBoxes_7 : decode b_T_ruleOfBoxes 7 = .ok (.aload_n 1, 1) := by decide +kernel
theorem d_T_ruleOfBoxes_8 : decode b_T_ruleOfBoxes 8 = .ok (.getfield 221, 3) := by decide +kernel
theorem d_T_ruleOfBoxes_11 : decode b_T_ruleOfBoxes 11 = .ok (.invokevirtual 83, 3) := by decide +kernel
theorem d_T_ruleOfBoxes_14 : decode b_T_ruleOfBoxes 14 = .ok (.if_icmp .ge 63, 3) := by decide +kernel
theorem d_T_ruleOfBoxes_17 : decode b_T_ruleOfBoxes 17 = .ok (.iconst 0, 1) := by decide +kernel
theorem d_T_ruleOfBoxes_18 : decode b_T_ruleOfBoxes 18 = .ok (.istore 5, 2) := by decide +kernel
theorem d_T_ruleOfBoxes_20 : decode b_T_ruleOfBoxes 20 = .ok (.iload 5, 2) := by decide +kernel
theorem d_T_ruleOfBoxes_22 : decode b_T_ruleOfBoxes 22 = .ok (.aload_n 2, 1) := by decide +kernel
theorem d_T_ruleOfBoxes_23 : decode b_T_ruleOfBoxes 23 = .ok (.getfield 221, 3) := by decide +kernel
theorem d_T_ruleOfBoxes_26 : decode b_T_ruleOfBoxes 26 = .ok (.invokevirtual 83, 3) := by decide +kernel
theorem d_T_ruleOfBoxes_29 : decode b_T_ruleOfBoxes 29 = .ok (.if_icmp .ge 42, 3) := by decide +kernel
theorem d_T_ruleOfBoxes_32 : decode b_T_ruleOfBoxes 32 = .ok (.iload_n 3, 1) := by decide +kernel
theorem d_T_ruleOfBoxes_33 : decode b_T_ruleOfBoxes 33 = .ok (.aload_n 0, 1) := by decide +kernel
theorem d_T_ruleOfBoxes_34 : decode b_T_ruleOfBoxes 34 = .ok (.aload_n 1, 1) := by decide +kernel
theorem d_T_ruleOfBoxes_35 : decode b_T_ruleOfBoxes 35 = .ok (.getfield 221, 3) := by decide +kernel
theorem d_T_ruleOfBoxes_38 : decode b_T_ruleOfBoxes 38 = .ok (.iload 4, 2) := by decide +kernel
theorem d_T_ruleOfBoxes_40 : decode b_T_ruleOfBoxes 40 = .ok (.invokevirtual 107, 3) := by decide +kernel
theorem d_T_ruleOfBoxes_43 : decode b_T_ruleOfBoxes 43 = .ok (.checkcast 224, 3) := by decide +kernel
theorem d_T_ruleOfBoxes_46 : decode b_T_ruleOfBoxes 46 = .ok (.aload_n 2, 1) := by decide +kernel
theorem d_T_ruleOfBoxes_47 : decode b_T_ruleOfBoxes 47 = .ok (.getfield 221, 3) := by decide +kernel
theorem d_T_ruleOfBoxes_50 : decode b_T_ruleOfBoxes 50 = .ok (.iload 5, 2) := by decide +kernel
theorem d_T_ruleOfBoxes_52 : decode b_T_ruleOfBoxes 52 = .ok (.invokevirtual 107, 3) := by decide +kernel
theorem d_T_ruleOfBoxes_55 : decode b_T_ruleOfBoxes 55 = .ok (.checkcast 224, 3) := by decide +kernel
theorem d_T_ruleOfBoxes_58 : decode b_T_ruleOfBoxes 58 = .ok (.invokevirtual 226, 3) := by decide +kernel
theorem d_T_ruleOfBoxes_61 : decode b_T_ruleOfBoxes 61 = .ok (.invokestatic 230, 3) := by decide +kernel
theorem d_T_ruleOfBoxes_64 : decode b_T_ruleOfBoxes 64 = .ok (.istore_n 3, 1) := by decide +kernel
theorem d_T_ruleOfBoxes_65 : decode b_T_ruleOfBoxes 65 = .ok (.iinc 5 1, 3) := by decide +kernel
theorem d_T_ruleOfBoxes_68 : decode b_T_ruleOfBoxes 68 = .ok (.goto (-48), 3) := by decide +kernel
theorem d_T_ruleOfBoxes_71 : decode b_T_ruleOfBoxes 71 = .ok (.iinc 4 1, 3) := by decide +kernel
theorem d_T_ruleOfBoxes_74 : decode b_T_ruleOfBoxes 74 = .ok (.goto (-69), 3) := by decide +kernel
theorem d_T_ruleOfBoxes_77 : decode b_T_ruleOfBoxes 77 = .ok (.iload_n 3, 1) := by decide +kernel
theorem d_T_ruleOfBoxes_78 : decode b_T_ruleOfBoxes 78 = .ok (.ireturn, 1) := by decide +kernel
theorem d_T_ruleOfParts_0 : decode b_T_ruleOfParts 0 = .ok (.aload_n 1, 1) := by decide +kernel
theorem d_T_ruleOfParts_1 : decode b_T_ruleOfParts 1 = .ok (.getfield 235, 3) := by decide +kernel
theorem d_T_ruleOfParts_4 : decode b_T_ruleOfParts 4 = .ok (.astore_n 3, 1) := by decide +kernel
theorem d_T_ruleOfParts_5 : decode b_T_ruleOfParts 5 = .ok (.aload_n 2, 1) := by decide +kernel
theorem d_T_ruleOfParts_6 : decode b_T_ruleOfParts 6 = .ok (.getfield 235, 3) := by decide +kernel
theorem d_T_ruleOfParts_9 : decode b_T_ruleOfParts 9 = .ok (.astore 4, 2) := by decide +kernel
theorem d_T_ruleOfParts_11 : decode b_T_ruleOfParts 11 = .ok (.aload_n 0, 1) := by decide +kernel
theorem d_T_ruleOfParts_12 : decode b_T_ruleOfParts 12 = .ok (.aload_n 3, 1) := by decide +kernel
theorem d_T_ruleOfParts_13 : decode b_T_ruleOfParts 13 = .ok (.aload_n 3, 1) := by decide +kernel
theorem d_T_ruleOfParts_14 : decode b_T_ruleOfParts 14 = .ok (.getfield 239, 3) := by decide +kernel
theorem d_T_ruleOfParts_17 : decode b_T_ruleOfParts 17 = .ok (.aload 4, 2) := by decide +kernel
theorem d_T_ruleOfParts_19 : decode b_T_ruleOfParts 19 = .ok (.aload 4, 2) := by decide +kernel
theorem d_T_ruleOfParts_21 : decode b_T_ruleOfParts 21 = .ok (.getfield 239, 3) := by decide +kernel
theorem d_T_ruleOfParts_24 : decode b_T_ruleOfParts 24 = .ok (.invokevirtual 242, 3) := by decide +kernel
theorem d_T_ruleOfParts_27 : decode b_T_ruleOfParts 27 = .ok (.istore 5, 2) := by decide +kernel
theorem d_T_ruleOfParts_29 : decode b_T_ruleOfParts 29 = .ok (.iload 5, 2) := by decide +kernel
theorem d_T_ruleOfParts_31 : decode b_T_ruleOfParts 31 = .ok (.aload_n 0, 1) := by decide +kernel
theorem d_T_ruleOfParts_32 : decode b_T_ruleOfParts 32 = .ok (.aload_n 3, 1) := by decide +kernel
theorem d_T_ruleOfParts_33 : decode b_T_ruleOfParts 33 = .ok (.aload_n 3, 1) := by decide +kernel
theorem d_T_ruleOfParts_34 : decode b_T_ruleOfParts 34 = .ok (.getfield 239, 3) := by decide +kernel
theorem d_T_ruleOfParts_37 : decode b_T_ruleOfParts 37 = .ok (.aload 4, 2) := by decide +kernel
theorem d_T_ruleOfParts_39 : decode b_T_ruleOfParts 39 = .ok (.aload 4, 2) := by decide +kernel
theorem d_T_ruleOfParts_41 : decode b_T_ruleOfParts 41 = .ok (.getfield 246, 3) := by decide +kernel
theorem d_T_ruleOfParts_44 : decode b_T_ruleOfParts 44 = .ok (.invokevirtual 242, 3) := by decide +kernel
theorem d_T_ruleOfParts_47 : decode b_T_ruleOfParts 47 = .ok (.invokestatic 230, 3) := by decide +kernel
theorem d_T_ruleOfParts_50 : decode b_T_ruleOfParts 50 = .ok (.istore 5, 2) := by decide +kernel
theorem d_T_ruleOfParts_52 : decode b_T_ruleOfParts 52 = .ok (.iload 5, 2) := by decide +kernel
theorem d_T_ruleOfParts_54 : decode b_T_ruleOfParts 54 = .ok (.aload_n 0, 1) := by decide +kernel
theorem d_T_ruleOfParts_55 : decode b_T_ruleOfParts 55 = .ok (.aload_n 3, 1) := by decide +kernel
theorem d_T_ruleOfParts_56 : decode b_T_ruleOfParts 56 = .ok (.aload_n 3, 1) := by decide +kernel
theorem d_T_ruleOfParts_57 : decode b_T_ruleOfParts 57 = .ok (.getfield 246, 3) := by decide +kernel
theorem d_T_ruleOfParts_60 : decode b_T_ruleOfParts 60 = .ok (.aload 4, 2) := by decide +kernel
theorem d_T_ruleOfParts_62 : decode b_T_ruleOfParts 62 = .ok (.aload 4, 2) := by decide +kernel
theorem d_T_ruleOfParts_64 : decode b_T_ruleOfParts 64 = .ok (.getfield 239, 3) := by decide +kernel
theorem d_T_ruleOfParts_67 : decode b_T_ruleOfParts 67 = .ok (.invokevirtual 242, 3) := by decide +kernel
theorem d_T_ruleOfParts_70 : decode b_T_ruleOfParts 70 = .ok (.invokestatic 230, 3) := by decide +kernel
theorem d_T_ruleOfParts_73 : decode b_T_ruleOfParts 73 = .ok (.istore 5, 2) := by decide +kernel
theorem d_T_ruleOfParts_75 : decode b_T_ruleOfParts 75 = .ok (.iload 5, 2) := by decide +kernel
theorem d_T_ruleOfParts_77 : decode b_T_ruleOfParts 77 = .ok (.aload_n 0, 1) := by decide +kernel
theorem d_T_ruleOfParts_78 : decode b_T_ruleOfParts 78 = .ok (.aload_n 3, 1) := by decide +kernel
theorem d_T_ruleOfParts_79 : decode b_T_ruleOfParts 79 = .ok (.aload_n 3, 1) := by decide +kernel
theorem d_T_ruleOfParts_80 : decode b_T_ruleOfParts 80 = .ok (.getfield 246, 3) := by decide +kernel
theorem d_T_ruleOfParts_83 : decode b_T_ruleOfParts 83 = .ok (.aload 4, 2) := by decide +kernel
theorem d_T_ruleOfParts_85 : decode b_T_ruleOfParts 85 = .ok (.aload 4, 2) := by decide +kernel
theorem d_T_ruleOfParts_87 : decode b_T_ruleOfParts 87 = .ok (.getfield 246, 3) := by decide +kernel
theorem d_T_ruleOfParts_90 : decode b_T_ruleOfParts 90 = .ok (.invokevirtual 242, 3) := by decide +kernel
theorem d_T_ruleOfParts_93 : decode b_T_ruleOfParts 93 = .ok (.invokestatic 230, 3) := by decide +kernel
theorem d_T_ruleOfParts_96 : decode b_T_ruleOfParts 96 = .ok (.istore 5, 2) := by decide +kernel
theorem d_T_ruleOfParts_98 : decode b_T_ruleOfParts 98 = .ok (.aload_n 1, 1) := by decide +kernel
theorem d_T_ruleOfParts_99 : decode b_T_ruleOfParts 99 = .ok (.invokevirtual 249, 3) := by decide +kernel
theorem d_T_ruleOfParts_102 : decode b_T_ruleOfParts 102 = .ok (.ifCond .ne 10, 3) := by decide +kernel
theorem d_T_ruleOfParts_105 : decode b_T_ruleOfParts 105 = .ok (.aload_n 2, 1) := by decide +kernel
theorem d_T_ruleOfParts_106 : decode b_T_ruleOfParts 106 = .ok (.invokevirtual 249, 3) := by decide +kernel
theorem d_T_ruleOfParts_109 : decode b_T_ruleOfParts 109 = .ok (.ifCond .eq 12, 3) := by decide +kernel
theorem d_T_ruleOfParts_112 : decode b_T_ruleOfParts 112 = .ok (.iload 5, 2) := by decide +kernel
theorem d_T_ruleOfParts_114 : decode b_T_ruleOfParts 114 = .ok (.iconst 1, 1) := by decide +kernel
theorem d_T_ruleOfParts_115 : decode b_T_ruleOfParts 115 = .ok (.invokestatic 252, 3) := by decide +kernel
theorem d_T_ruleOfParts_118 : decode b_T_ruleOfParts 118 = .ok (.goto 5, 3) := by decide +kernel
theorem d_T_ruleOfParts_121 : decode b_T_ruleOfParts 121 = .ok (.iload 5, 2) := by decide +kernel
theorem d_T_ruleOfParts_123 : decode b_T_ruleOfParts 123 = .ok (.ireturn, 1) := by decide +kernel
theorem d_T_ruleOfClasses_0 : decode b_T_ruleOfClasses 0 = .ok (.iload_n 2, 1) := by decide +kernel
theorem d_T_ruleOfClasses_1 : decode b_T_ruleOfClasses 1 = .ok (.ifCond .eq 8, 3) := by decide +kernel
theorem d_T_ruleOfClasses_4 : decode b_T_ruleOfClasses 4 = .ok (.iload 4, 2) := by decide +kernel
theorem d_T_ruleOfClasses_6 : decode b_T_ruleOfClasses 6 = .ok (.ifCond .ne 5, 3) := by decide +kernel
theorem d_T_ruleOfClasses_9 : decode b_T_ruleOfClasses 9 = .ok (.iconst 0, 1) := by decide +kernel
theorem d_T_ruleOfClasses_10 : decode b_T_ruleOfClasses 10 = .ok (.ireturn, 1) := by decide +kernel
theorem d_T_ruleOfClasses_11 : decode b_T_ruleOfClasses 11 = .ok (.iload_n 2, 1) := by decide +kernel
theorem d_T_ruleOfClasses_12 : decode b_T_ruleOfClasses 12 = .ok (.iload 4, 2) := by decide +kernel
theorem d_T_ruleOfClasses_14 : decode b_T_ruleOfClasses 14 = .ok (.invokestatic 71, 3) := by decide +kernel
theorem d_T_ruleOfClasses_17 : decode b_T_ruleOfClasses 17 = .ok (.istore 5, 2) := by decide +kernel
theorem d_T_ruleOfClasses_19 : decode b_T_ruleOfClasses 19 = .ok (.aload_n 1, 1) := by decide +kernel
theorem d_T_ruleOfClasses_20 : decode b_T_ruleOfClasses 20 = .ok (.iload 5, 2) := by decide +kernel
theorem d_T_ruleOfClasses_22 : decode b_T_ruleOfClasses 22 = .ok (.invokevirtual 255, 3) := by decide +kernel
theorem d_T_ruleOfClasses_25 : decode b_T_ruleOfClasses 25 = .ok (.ifCond .ne 12, 3) := by decide +kernel
theorem d_T_ruleOfClasses_28 : decode b_T_ruleOfClasses 28 = .ok (.aload_n 3, 1) := by decide +kernel
theorem d_T_ruleOfClasses_29 : decode b_T_ruleOfClasses 29 = .ok (.iload 5, 2) := by decide +kernel
theorem d_T_ruleOfClasses_31 : decode b_T_ruleOfClasses 31 = .ok (.invokevirtual 255, 3) := by decide +kernel
theorem d_T_ruleOfClasses_34 : decode b_T_ruleOfClasses 34 = .ok (.ifCond .eq 7, 3) := by decide +kernel
theorem d_T_ruleOfClasses_37 : decode b_T_ruleOfClasses 37 = .ok (.iconst 0, 1) := by decide +kernel
theorem d_T_ruleOfClasses_38 : decode b_T_ruleOfClasses 38 = .ok (.goto 10, 3) := by decide +kernel
theorem d_T_ruleOfClasses_41 : decode b_T_ruleOfClasses 41 = .ok (.aload_n 0, 1) := by decide +kernel
theorem d_T_ruleOfClasses_42 : decode b_T_ruleOfClasses 42 = .ok (.getfield 16, 3) := by decide +kernel
theorem d_T_ruleOfClasses_45 : decode b_T_ruleOfClasses 45 = .ok (.iload 5, 2) := by decide +kernel
theorem d_T_ruleOfClasses_47 : decode b_T_ruleOfClasses 47 = .ok (.iaload, 1) := by decide +kernel
theorem d_T_ruleOfClasses_48 : decode b_T_ruleOfClasses 48 = .ok (.ireturn, 1) := by decide +kernel
theorem d_P_isLimited_0 : decode b_P_isLimited 0 = .ok (.aload_n 0, 1) := by decide +kernel
theorem d_P_isLimited_1 : decode b_P_isLimited 1 = .ok (.getfield 19, 3) := by decide +kernel
theorem d_P_isLimited_4 : decode b_P_isLimited 4 = .ok (.aload_n 0, 1) := by decide +kernel
theorem d_P_isLimited_5 : decode b_P_isLimited 5 = .ok (.getfield 9, 3) := by decide +kernel
theorem d_P_isLimited_8 : decode b_P_isLimited 8 = .ok (.getfield 22, 3) := by decide +kernel
theorem d_P_isLimited_11 : decode b_P_isLimited 11 = .ok (.if_icmp .gt 7, 3) := by decide +kernel
theorem d_P_isLimited_14 : decode b_P_isLimited 14 = .ok (.iconst 1, 1) := by decide +kernel
theorem d_P_isLimited_15 : decode b_P_isLimited 15 = .ok (.goto 4, 3) := by decide +kernel
theorem d_P_isLimited_18 : decode b_P_isLimited 18 = .ok (.iconst 0, 1) := by decide +kernel
theorem d_P_isLimited_19 : decode b_P_isLimited 19 = .ok (.ireturn, 1) := by decide +kernel
theorem d_L_ship_0 : decode b_L_ship 0 = .ok (.aload 4, 2) := by decide +kernel
theorem d_L_ship_2 : decode b_L_ship 2 = .ok (.iconst 0, 1) := by decide +kernel
theorem d_L_ship_3 : decode b_L_ship 3 = .ok (.aload_n 0, 1) := by decide +kernel
theorem d_L_ship_4 : decode b_L_ship 4 = .ok (.iload_n 1, 1) := by decide +kernel
theorem d_L_ship_5 : decode b_L_ship 5 = .ok (.iload_n 2, 1) := by decide +kernel
theorem d_L_ship_6 : decode b_L_ship 6 = .ok (.iload_n 3, 1) := by decide +kernel
theorem d_L_ship_7 : decode b_L_ship 7 = .ok (.invokevirtual 31, 3) := by decide +kernel
theorem d_L_ship_10 : decode b_L_ship 10 = .ok (.ifCond .eq 7, 3) := by decide +kernel
theorem d_L_ship_13 : decode b_L_ship 13 = .ok (.lconst 1, 1) := by decide +kernel
theorem d_L_ship_14 : decode b_L_ship 14 = .ok (.goto 4, 3) := by decide +kernel
theorem d_L_ship_17 : decode b_L_ship 17 = .ok (.lconst 0, 1) := by decide +kernel
theorem d_L_ship_18 : decode b_L_ship 18 = .ok (.lastore, 1) := by decide +kernel
theorem d_L_ship_19 : decode b_L_ship 19 = .ok (.goto 7, 3) := by decide +kernel
theorem d_L_ship_22 : decode b_L_ship 22 = .ok (.astore 5, 2) := by decide +kernel
theorem d_L_ship_24 : decode b_L_ship 24 = .ok (.iconst 1, 1) := by decide +kernel
theorem d_L_ship_25 : decode b_L_ship 25 = .ok (.ireturn, 1) := by decide +kernel
theorem d_L_ship_26 : decode b_L_ship 26 = .ok (.iconst 0, 1) := by decide +kernel
theorem d_L_ship_27 : decode b_L_ship 27 = .ok (.ireturn, 1) := by decide +kernel
theorem d_T_ship_0 : decode b_T_ship 0 = .ok (.aload_n 0, 1) := by decide +kernel
theorem d_T_ship_1 : decode b_T_ship 1 = .ok (.iload_n 1, 1) := by decide +kernel
theorem d_T_ship_2 : decode b_T_ship 2 = .ok (.iload_n 2, 1) := by decide +kernel
theorem d_T_ship_3 : decode b_T_ship 3 = .ok (.invokevirtual 146, 3) := by decide +kernel
theorem d_T_ship_6 : decode b_T_ship 6 = .ok (.ifCond .ne 13, 3) := by decide +kernel
theorem d_T_ship_9 : decode b_T_ship 9 = .ok (.new 64, 3) := by decide +kernel
theorem d_T_ship_12 : decode b_T_ship 12 = .ok (.dup, 1) := by decide +kernel
theorem d_T_ship_13 : decode b_T_ship 13 = .ok (.ldc 149, 2) := by decide +kernel
theorem d_T_ship_15 : decode b_T_ship 15 = .ok (.invokespecial 68, 3) := by decide +kernel
theorem d_T_ship_18 : decode b_T_ship 18 = .ok (.athrow, 1) := by decide +kernel
theorem d_T_ship_19 : decode b_T_ship 19 = .ok (.iload_n 3, 1) := by decide +kernel
theorem d_T_ship_20 : decode b_T_ship 20 = .ok (.ifCond .lt 9, 3) := by decide +kernel
theorem d_T_ship_23 : decode b_T_ship 23 = .ok (.iload_n 3, 1) := by decide +kernel
theorem d_T_ship_24 : decode b_T_ship 24 = .ok (.bipush 100, 2) := by decide +kernel
theorem d_T_ship_26 : decode b_T_ship 26 = .ok (.if_icmp .le 13, 3) := by decide +kernel
theorem d_T_ship_29 : decode b_T_ship 29 = .ok (.new 64, 3) := by decide +kernel
theorem d_T_ship_32 : decode b_T_ship 32 = .ok (.dup, 1) := by decide +kernel
theorem d_T_ship_33 : decode b_T_ship 33 = .ok (.ldc 155, 2) := by decide +kernel
theorem d_T_ship_35 : decode b_T_ship 35 = .ok (.invokespecial 68, 3) := by decide +kernel
theorem d_T_ship_38 : decode b_T_ship 38 = .ok (.athrow, 1) := by decide +kernel
theorem d_T_ship_39 : decode b_T_ship 39 = .ok (.iload_n 3, 1) := by decide +kernel
theorem d_T_ship_40 : decode b_T_ship 40 = .ok (.getstatic 157, 3) := by decide +kernel
theorem d_T_ship_43 : decode b_T_ship 43 = .ok (.aload_n 0, 1) := by decide +kernel
theorem d_T_ship_44 : decode b_T_ship 44 = .ok (.aload_n 0, 1) := by decide +kernel
theorem d_T_ship_45 : decode b_T_ship 45 = .ok (.getfield 33, 3) := by decide +kernel
theorem d_T_ship_48 : decode b_T_ship 48 = .ok (.iload_n 1, 1) := by decide +kernel
theorem d_T_ship_49 : decode b_T_ship 49 = .ok (.invokevirtual 107, 3) := by decide +kernel
theorem d_T_ship_52 : decode b_T_ship 52 = .ok (.checkcast 121, 3) := by decide +kernel
theorem d_T_ship_55 : decode b_T_ship 55 = .ok (.aload_n 0, 1) := by decide +kernel
theorem d_T_ship_56 : decode b_T_ship 56 = .ok (.getfield 33, 3) := by decide +kernel
theorem d_T_ship_59 : decode b_T_ship 59 = .ok (.iload_n 2, 1) := by decide +kernel
theorem d_T_ship_60 : decode b_T_ship 60 = .ok (.invokevirtual 107, 3) := by decide +kernel
theorem d_T_ship_63 : decode b_T_ship 63 = .ok (.checkcast 121, 3) := by decide +kernel
theorem d_T_ship_66 : decode b_T_ship 66 = .ok (.invokevirtual 151, 3) := by decide +kernel
theorem d_T_ship_69 : decode b_T_ship 69 = .ok (.iaload, 1) := by decide +kernel
theorem d_T_ship_70 : decode b_T_ship 70 = .ok (.if_icmp .lt 7, 3) := by decide +kernel
theorem d_T_ship_73 : decode b_T_ship 73 = .ok (.iconst 1, 1) := by decide +kernel
theorem d_T_ship_74 : decode b_T_ship 74 = .ok (.goto 4, 3) := by decide +kernel
theorem d_T_ship_77 : decode b_T_ship 77 = .ok (.iconst 0, 1) := by decide +kernel
theorem d_T_ship_78 : decode b_T_ship 78 = .ok (.ireturn, 1) := by decide +kernel
theorem d_L_zone_0 : decode b_L_zone 0 = .ok (.aload_n 3, 1) := by decide +kernel
theorem d_L_zone_1 : decode b_L_zone 1 = .ok (.iconst 0, 1) := by decide +kernel
theorem d_L_zone_2 : decode b_L_zone 2 = .ok (.aload_n 0, 1) := by decide +kernel
theorem d_L_zone_3 : decode b_L_zone 3 = .ok (.iload_n 1, 1) := by decide +kernel
theorem d_L_zone_4 : decode b_L_zone 4 = .ok (.iload_n 2, 1) := by decide +kernel
theorem d_L_zone_5 : decode b_L_zone 5 = .ok (.invokevirtual 35, 3) := by decide +kernel
theorem d_L_zone_8 : decode b_L_zone 8 = .ok (.i2l, 1) := by decide +kernel
theorem d_L_zone_9 : decode b_L_zone 9 = .ok (.lastore, 1) := by decide +kernel
theorem d_L_zone_10 : decode b_L_zone 10 = .ok (.goto 7, 3) := by decide +kernel
theorem d_L_zone_13 : decode b_L_zone 13 = .ok (.astore 4, 2) := by decide +kernel
theorem d_L_zone_15 : decode b_L_zone 15 = .ok (.iconst 1, 1) := by decide +kernel
theorem d_L_zone_16 : decode b_L_zone 16 = .ok (.ireturn, 1) := by decide +kernel
theorem d_L_zone_17 : decode b_L_zone 17 = .ok (.iconst 0, 1) := by decide +kernel
theorem d_L_zone_18 : decode b_L_zone 18 = .ok (.ireturn, 1) := by decide +kernel
theorem d_T_zone_0 : decode b_T_zone 0 = .ok (.iload_n 1, 1) := by decide +kernel
theorem d_T_zone_1 : decode b_T_zone 1 = .ok (.invokestatic 160, 3) := by decide +kernel
theorem d_T_zone_4 : decode b_T_zone 4 = .ok (.ifCond .eq 10, 3) := by decide +kernel
theorem d_T_zone_7 : decode b_T_zone 7 = .ok (.iload_n 2, 1) := by decide +kernel
theorem d_T_zone_8 : decode b_T_zone 8 = .ok (.invokestatic 61, 3) := by decide +kernel
theorem d_T_zone_11 : decode b_T_zone 11 = .ok (.ifCond .ne 13, 3) := by decide +kernel
theorem d_T_zone_14 : decode b_T_zone 14 = .ok (.new 64, 3) := by decide +kernel
theorem d_T_zone_17 : decode b_T_zone 17 = .ok (.dup, 1) := by decide +kernel
theorem d_T_zone_18 : decode b_T_zone 18 = .ok (.ldc 163, 2) := by decide +kernel
theorem d_T_zone_20 : decode b_T_zone 20 = .ok (.invokespecial 68, 3) := by decide +kernel
theorem d_T_zone_23 : decode b_T_zone 23 = .ok (.athrow, 1) := by decide +kernel
theorem d_T_zone_24 : decode b_T_zone 24 = .ok (.aload_n 0, 1) := by decide +kernel
theorem d_T_zone_25 : decode b_T_zone 25 = .ok (.iload_n 1, 1) := by decide +kernel
theorem d_T_zone_26 : decode b_T_zone 26 = .ok (.iload_n 2, 1) := by decide +kernel
theorem d_T_zone_27 : decode b_T_zone 27 = .ok (.invokevirtual 165, 3) := by decide +kernel
theorem d_T_zone_30 : decode b_T_zone 30 = .ok (.ireturn, 1) := by decide +kernel
theorem d_T_kilogramsInZone_0 : decode b_T_kilogramsInZone 0 = .ok (.iconst 0, 1) := by decide +kernel
theorem d_T_kilogramsInZone_1 : decode b_T_kilogramsInZone 1 = .ok (.istore_n 3, 1) := by decide +kernel
theorem d_T_kilogramsInZone_2 : decode b_T_kilogramsInZone 2 = .ok (.iconst 0, 1) := by decide +kernel
theorem d_T_kilogramsInZone_3 : decode b_T_kilogramsInZone 3 = .ok (.istore 4, 2) := by decide +kernel
theorem d_T_kilogramsInZone_5 : decode b_T_kilogramsInZone 5 = .ok (.iload 4, 2) := by decide +kernel
theorem d_T_kilogramsInZone_7 : decode b_T_kilogramsInZone 7 = .ok (.aload_n 0, 1) := by decide +kernel
theorem d_T_kilogramsInZone_8 : decode b_T_kilogramsInZone 8 = .ok (.getfield 33, 3) := by decide +kernel
theorem d_T_kilogramsInZone_11 : decode b_T_kilogramsInZone 11 = .ok (.invokevirtual 83, 3) := by decide +kernel
theorem d_T_kilogramsInZone_14 : decode b_T_kilogramsInZone 14 = .ok (.if_icmp .ge 41, 3) := by decide +kernel
theorem d_T_kilogramsInZone_17 : decode b_T_kilogramsInZone 17 = .ok (.aload_n 0, 1) := by decide +kernel
theorem d_T_kilogramsInZone_18 : decode b_T_kilogramsInZone 18 = .ok (.getfield 33, 3) := by decide +kernel
theorem d_T_kilogramsInZone_21 : decode b_T_kilogramsInZone 21 = .ok (.iload 4, 2) := by decide +kernel
theorem d_T_kilogramsInZone_23 : decode b_T_kilogramsInZone 23 = .ok (.invokevirtual 107, 3) := by decide +kernel
theorem d_T_kilogramsInZone_26 : decode b_T_kilogramsInZone 26 = .ok (.checkcast 121, 3) := by decide +kernel
theorem d_T_kilogramsInZone_29 : decode b_T_kilogramsInZone 29 = .ok (.astore 5, 2) := by decide +kernel
theorem d_T_kilogramsInZone_31 : decode b_T_kilogramsInZone 31 = .ok (.aload 5, 2) := by decide +kernel
theorem d_T_kilogramsInZone_33 : decode b_T_kilogramsInZone 33 = .ok (.getfield 185, 3) := by decide +kernel
theorem d_T_kilogramsInZone_36 : decode b_T_kilogramsInZone 36 = .ok (.iload_n 1, 1) := by decide +kernel
theorem d_T_kilogramsInZone_37 : decode b_T_kilogramsInZone 37 = .ok (.if_icmp .ne 12, 3) := by decide +kernel
theorem d_T_kilogramsInZone_40 : decode b_T_kilogramsInZone 40 = .ok (.iload_n 3, 1) := by decide +kernel
theorem d_T_kilogramsInZone_41 : decode b_T_kilogramsInZone 41 = .ok (.aload 5, 2) := by decide +kernel
theorem d_T_kilogramsInZone_43 : decode b_T_kilogramsInZone 43 = .ok (.iload_n 2, 1) := by decide +kernel
theorem d_T_kilogramsInZone_44 : decode b_T_kilogramsInZone 44 = .ok (.invokevirtual 258, 3) := by decide +kernel
theorem d_T_kilogramsInZone_47 : decode b_T_kilogramsInZone 47 = .ok (.iadd, 1) := by decide +kernel
theorem d_T_kilogramsInZone_48 : decode b_T_kilogramsInZone 48 = .ok (.istore_n 3, 1) := by decide +kernel
theorem d_T_kilogramsInZone_49 : decode b_T_kilogramsInZone 49 = .ok (.iinc 4 1, 3) := by decide +kernel
theorem d_T_kilogramsInZone_52 : decode b_T_kilogramsInZone 52 = .ok (.goto (-47), 3) := by decide +kernel
theorem d_T_kilogramsInZone_55 : decode b_T_kilogramsInZone 55 = .ok (.iload_n 3, 1) := by decide +kernel
theorem d_T_kilogramsInZone_56 : decode b_T_kilogramsInZone 56 = .ok (.ireturn, 1) := by decide +kernel
theorem d_X_kilogramsOf_0 : decode b_X_kilogramsOf 0 = .ok (.iconst 0, 1) := by decide +kernel
theorem d_X_kilogramsOf_1 : decode b_X_kilogramsOf 1 = .ok (.istore_n 2, 1) := by decide +kernel
theorem d_X_kilogramsOf_2 : decode b_X_kilogramsOf 2 = .ok (.iconst 0, 1) := by decide +kernel
theorem d_X_kilogramsOf_3 : decode b_X_kilogramsOf 3 = .ok (.istore_n 3, 1) := by decide +kernel
theorem d_X_kilogramsOf_4 : decode b_X_kilogramsOf 4 = .ok (.iload_n 3, 1) := by decide +kernel
theorem d_X_kilogramsOf_5 : decode b_X_kilogramsOf 5 = .ok (.aload_n 0, 1) := by decide +kernel
theorem d_X_kilogramsOf_6 : decode b_X_kilogramsOf 6 = .ok (.getfield 12, 3) := by decide +kernel
theorem d_X_kilogramsOf_9 : decode b_X_kilogramsOf 9 = .ok (.invokevirtual 37, 3) := by decide +kernel
theorem d_X_kilogramsOf_12 : decode b_X_kilogramsOf 12 = .ok (.if_icmp .ge 42, 3) := by decide +kernel
theorem d_X_kilogramsOf_15 : decode b_X_kilogramsOf 15 = .ok (.aload_n 0, 1) := by decide +kernel
theorem d_X_kilogramsOf_16 : decode b_X_kilogramsOf 16 = .ok (.getfield 12, 3) := by decide +kernel
theorem d_X_kilogramsOf_19 : decode b_X_kilogramsOf 19 = .ok (.iload_n 3, 1) := by decide +kernel
theorem d_X_kilogramsOf_20 : decode b_X_kilogramsOf 20 = .ok (.invokevirtual 41, 3) := by decide +kernel
theorem d_X_kilogramsOf_23 : decode b_X_kilogramsOf 23 = .ok (.checkcast 28, 3) := by decide +kernel
theorem d_X_kilogramsOf_26 : decode b_X_kilogramsOf 26 = .ok (.astore 4, 2) := by decide +kernel
theorem d_X_kilogramsOf_28 : decode b_X_kilogramsOf 28 = .ok (.aload 4, 2) := by decide +kernel
theorem d_X_kilogramsOf_30 : decode b_X_kilogramsOf 30 = .ok (.getfield 57, 3) := by decide +kernel
theorem d_X_kilogramsOf_33 : decode b_X_kilogramsOf 33 = .ok (.iload_n 1, 1) := by decide +kernel
theorem d_X_kilogramsOf_34 : decode b_X_kilogramsOf 34 = .ok (.invokevirtual 61, 3) := by decide +kernel
theorem d_X_kilogramsOf_37 : decode b_X_kilogramsOf 37 = .ok (.ifCond .eq 11, 3) := by decide +kernel
theorem d_X_kilogramsOf_40 : decode b_X_kilogramsOf 40 = .ok (.iload_n 2, 1) := by decide +kernel
theorem d_X_kilogramsOf_41 : decode b_X_kilogramsOf 41 = .ok (.aload 4, 2) := by decide +kernel
theorem d_X_kilogramsOf_43 : decode b_X_kilogramsOf 43 = .ok (.getfield 54, 3) := by decide +kernel
theorem d_X_kilogramsOf_46 : decode b_X_kilogramsOf 46 = .ok (.iadd, 1) := by decide +kernel
theorem d_X_kilogramsOf_47 : decode b_X_kilogramsOf 47 = .ok (.istore_n 2, 1) := by decide +kernel
theorem d_X_kilogramsOf_48 : decode b_X_kilogramsOf 48 = .ok (.iinc 3 1, 3) := by decide +kernel
theorem d_X_kilogramsOf_51 : decode b_X_kilogramsOf 51 = .ok (.goto (-47), 3) := by decide +kernel
theorem d_X_kilogramsOf_54 : decode b_X_kilogramsOf 54 = .ok (.iload_n 2, 1) := by decide +kernel
theorem d_X_kilogramsOf_55 : decode b_X_kilogramsOf 55 = .ok (.ireturn, 1) := by decide +kernel
theorem d_G_hasClass_0 : decode b_G_hasClass 0 = .ok (.aload_n 0, 1) := by decide +kernel
theorem d_G_hasClass_1 : decode b_G_hasClass 1 = .ok (.getfield 7, 3) := by decide +kernel
theorem d_G_hasClass_4 : decode b_G_hasClass 4 = .ok (.iload_n 1, 1) := by decide +kernel
theorem d_G_hasClass_5 : decode b_G_hasClass 5 = .ok (.if_icmp .eq 11, 3) := by decide +kernel
theorem d_G_hasClass_8 : decode b_G_hasClass 8 = .ok (.aload_n 0, 1) := by decide +kernel
theorem d_G_hasClass_9 : decode b_G_hasClass 9 = .ok (.getfield 13, 3) := by decide +kernel
theorem d_G_hasClass_12 : decode b_G_hasClass 12 = .ok (.iload_n 1, 1) := by decide +kernel
theorem d_G_hasClass_13 : decode b_G_hasClass 13 = .ok (.if_icmp .ne 7, 3) := by decide +kernel
theorem d_G_hasClass_16 : decode b_G_hasClass 16 = .ok (.iconst 1, 1) := by decide +kernel
theorem d_G_hasClass_17 : decode b_G_hasClass 17 = .ok (.goto 4, 3) := by decide +kernel
theorem d_G_hasClass_20 : decode b_G_hasClass 20 = .ok (.iconst 0, 1) := by decide +kernel
theorem d_G_hasClass_21 : decode b_G_hasClass 21 = .ok (.ireturn, 1) := by decide +kernel
theorem d_L_put_0 : decode b_L_put 0 = .ok (.aload 5, 2) := by decide +kernel
theorem d_L_put_2 : decode b_L_put 2 = .ok (.iconst 0, 1) := by decide +kernel
theorem d_L_put_3 : decode b_L_put 3 = .ok (.aload_n 0, 1) := by decide +kernel
theorem d_L_put_4 : decode b_L_put 4 = .ok (.iload_n 1, 1) := by decide +kernel
theorem d_L_put_5 : decode b_L_put 5 = .ok (.iload_n 2, 1) := by decide +kernel
theorem d_L_put_6 : decode b_L_put 6 = .ok (.iload_n 3, 1) := by decide +kernel
theorem d_L_put_7 : decode b_L_put 7 = .ok (.iload 4, 2) := by decide +kernel
theorem d_L_put_9 : decode b_L_put 9 = .ok (.invokevirtual 38, 3) := by decide +kernel
theorem d_L_put_12 : decode b_L_put 12 = .ok (.i2l, 1) := by decide +kernel
theorem d_L_put_13 : decode b_L_put 13 = .ok (.lastore, 1) := by decide +kernel
theorem d_L_put_14 : decode b_L_put 14 = .ok (.goto 11, 3) := by decide +kernel
theorem d_L_put_17 : decode b_L_put 17 = .ok (.astore 6, 2) := by decide +kernel
theorem d_L_put_19 : decode b_L_put 19 = .ok (.iconst 1, 1) := by decide +kernel
theorem d_L_put_20 : decode b_L_put 20 = .ok (.ireturn, 1) := by decide +kernel
theorem d_L_put_21 : decode b_L_put 21 = .ok (.astore 6, 2) := by decide +kernel
theorem d_L_put_23 : decode b_L_put 23 = .ok (.iconst 2, 1) := by decide +kernel
theorem d_L_put_24 : decode b_L_put 24 = .ok (.ireturn, 1) := by decide +kernel
theorem d_L_put_25 : decode b_L_put 25 = .ok (.iconst 0, 1) := by decide +kernel
theorem d_L_put_26 : decode b_L_put 26 = .ok (.ireturn, 1) := by decide +kernel
theorem d_T_put_0 : decode b_T_put 0 = .ok (.iload_n 1, 1) := by decide +kernel
theorem d_T_put_1 : decode b_T_put 1 = .ok (.invokestatic 160, 3) := by decide +kernel
theorem d_T_put_4 : decode b_T_put 4 = .ok (.ifCond .eq 20, 3) := by decide +kernel
theorem d_T_put_7 : decode b_T_put 7 = .ok (.aload_n 0, 1) := by decide +kernel
theorem d_T_put_8 : decode b_T_put 8 = .ok (.iload_n 2, 1) := by decide +kernel
theorem d_T_put_9 : decode b_T_put 9 = .ok (.invokevirtual 127, 3) := by decide +kernel
theorem d_T_put_12 : decode b_T_put 12 = .ok (.ifCond .eq 12, 3) := by decide +kernel
theorem d_T_put_15 : decode b_T_put 15 = .ok (.iload_n 3, 1) := by decide +kernel
theorem d_T_put_16 : decode b_T_put 16 = .ok (.iload 4, 2) := by decide +kernel
theorem d_T_put_18 : decode b_T_put 18 = .ok (.invokestatic 168, 3) := by decide +kernel
theorem d_T_put_21 : decode b_T_put 21 = .ok (.ifCond .ne 13, 3) := by decide +kernel
theorem d_T_put_24 : decode b_T_put 24 = .ok (.new 64, 3) := by decide +kernel
theorem d_T_put_27 : decode b_T_put 27 = .ok (.dup, 1) := by decide +kernel
theorem d_T_put_28 : decode b_T_put 28 = .ok (.ldc 171, 2) := by decide +kernel
theorem d_T_put_30 : decode b_T_put 30 = .ok (.invokespecial 68, 3) := by decide +kernel
theorem d_T_put_33 : decode b_T_put 33 = .ok (.athrow, 1) := by decide +kernel
theorem d_T_put_34 : decode b_T_put 34 = .ok (.aload_n 0, 1) := by decide +kernel
theorem d_T_put_35 : decode b_T_put 35 = .ok (.getfield 33, 3) := by decide +kernel
theorem d_T_put_38 : decode b_T_put 38 = .ok (.iload_n 2, 1) := by decide +kernel
theorem d_T_put_39 : decode b_T_put 39 = .ok (.invokevirtual 107, 3) := by decide +kernel
theorem d_T_put_42 : decode b_T_put 42 = .ok (.checkcast 121, 3) := by decide +kernel
theorem d_T_put_45 : decode b_T_put 45 = .ok (.astore 5, 2) := by decide +kernel
theorem d_T_put_47 : decode b_T_put 47 = .ok (.aload 5, 2) := by decide +kernel
theorem d_T_put_49 : decode b_T_put 49 = .ok (.invokevirtual 137, 3) := by decide +kernel
theorem d_T_put_52 : decode b_T_put 52 = .ok (.ifCond .eq 13, 3) := by decide +kernel
theorem d_T_put_55 : decode b_T_put 55 = .ok (.new 86, 3) := by decide +kernel
theorem d_T_put_58 : decode b_T_put 58 = .ok (.dup, 1) := by decide +kernel
theorem d_T_put_59 : decode b_T_put 59 = .ok (.ldc 173, 2) := by decide +kernel
theorem d_T_put_61 : decode b_T_put 61 = .ok (.invokespecial 90, 3) := by decide +kernel
theorem d_T_put_64 : decode b_T_put 64 = .ok (.athrow, 1) := by decide +kernel
theorem d_T_put_65 : decode b_T_put 65 = .ok (.aload_n 0, 1) := by decide +kernel
theorem d_T_put_66 : decode b_T_put 66 = .ok (.aload 5, 2) := by decide +kernel
theorem d_T_put_68 : decode b_T_put 68 = .ok (.iload_n 1, 1) := by decide +kernel
theorem d_T_put_69 : decode b_T_put 69 = .ok (.iload_n 3, 1) := by decide +kernel
theorem d_T_put_70 : decode b_T_put 70 = .ok (.iload 4, 2) := by decide +kernel
theorem d_T_put_72 : decode b_T_put 72 = .ok (.invokevirtual 175, 3) := by decide +kernel
theorem d_T_put_75 : decode b_T_put 75 = .ok (.istore 6, 2) := by decide +kernel
theorem d_T_put_77 : decode b_T_put 77 = .ok (.iload 6, 2) := by decide +kernel
theorem d_T_put_79 : decode b_T_put 79 = .ok (.ifCond .ne 12, 3) := by decide +kernel
theorem d_T_put_82 : decode b_T_put 82 = .ok (.aload 5, 2) := by decide +kernel
theorem d_T_put_84 : decode b_T_put 84 = .ok (.iload_n 1, 1) := by decide +kernel
theorem d_T_put_85 : decode b_T_put 85 = .ok (.iload_n 3, 1) := by decide +kernel
theorem d_T_put_86 : decode b_T_put 86 = .ok (.iload 4, 2) := by decide +kernel
theorem d_T_put_88 : decode b_T_put 88 = .ok (.invokevirtual 179, 3) := by decide +kernel
theorem d_T_put_91 : decode b_T_put 91 = .ok (.iload 6, 2) := by decide +kernel
theorem d_T_put_93 : decode b_T_put 93 = .ok (.ireturn, 1) := by decide +kernel
theorem d_T_isSlot_0 : decode b_T_isSlot 0 = .ok (.iload_n 0, 1) := by decide +kernel
theorem d_T_isSlot_1 : decode b_T_isSlot 1 = .ok (.ifCond .lt 23, 3) := by decide +kernel
theorem d_T_isSlot_4 : decode b_T_isSlot 4 = .ok (.iload_n 0, 1) := by decide +kernel
theorem d_T_isSlot_5 : decode b_T_isSlot 5 = .ok (.bipush 20, 2) := by decide +kernel
theorem d_T_isSlot_7 : decode b_T_isSlot 7 = .ok (.if_icmp .ge 17, 3) := by decide +kernel
theorem d_T_isSlot_10 : decode b_T_isSlot 10 = .ok (.iload_n 1, 1) := by decide +kernel
theorem d_T_isSlot_11 : decode b_T_isSlot 11 = .ok (.ifCond .lt 13, 3) := by decide +kernel
theorem d_T_isSlot_14 : decode b_T_isSlot 14 = .ok (.iload_n 1, 1) := by decide +kernel
theorem d_T_isSlot_15 : decode b_T_isSlot 15 = .ok (.bipush 20, 2) := by decide +kernel
theorem d_T_isSlot_17 : decode b_T_isSlot 17 = .ok (.if_icmp .ge 7, 3) := by decide +kernel
theorem d_T_isSlot_20 : decode b_T_isSlot 20 = .ok (.iconst 1, 1) := by decide +kernel
theorem d_T_isSlot_21 : decode b_T_isSlot 21 = .ok (.goto 4, 3) := by decide +kernel
theorem d_T_isSlot_24 : decode b_T_isSlot 24 = .ok (.iconst 0, 1) := by decide +kernel
theorem d_T_isSlot_25 : decode b_T_isSlot 25 = .ok (.ireturn, 1) := by decide +kernel
theorem d_T_firstBar_0 : decode b_T_firstBar 0 = .ok (.aload_n 1, 1) := by decide +kernel
theorem d_T_firstBar_1 : decode b_T_firstBar 1 = .ok (.invokevirtual 192, 3) := by decide +kernel
theorem d_T_firstBar_4 : decode b_T_firstBar 4 = .ok (.ifCond .eq 6, 3) := by decide +kernel
theorem d_T_firstBar_7 : decode b_T_firstBar 7 = .ok (.bipush 16, 2) := by decide +kernel
theorem d_T_firstBar_9 : decode b_T_firstBar 9 = .ok (.ireturn, 1) := by decide +kernel
theorem d_T_firstBar_10 : decode b_T_firstBar 10 = .ok (.aload_n 0, 1) := by decide +kernel
theorem d_T_firstBar_11 : decode b_T_firstBar 11 = .ok (.iload_n 2, 1) := by decide +kernel
theorem d_T_firstBar_12 : decode b_T_firstBar 12 = .ok (.iload_n 3, 1) := by decide +kernel
theorem d_T_firstBar_13 : decode b_T_firstBar 13 = .ok (.iload 4, 2) := by decide +kernel
theorem d_T_firstBar_15 : decode b_T_firstBar 15 = .ok (.invokevirtual 262, 3) := by decide +kernel
theorem d_T_firstBar_18 : decode b_T_firstBar 18 = .ok (.ifCond .eq 6, 3) := by decide +kernel
theorem d_T_firstBar_21 : decode b_T_firstBar 21 = .ok (.bipush 32, 2) := by decide +kernel
theorem d_T_firstBar_23 : decode b_T_firstBar 23 = .ok (.ireturn, 1) := by decide +kernel
theorem d_T_firstBar_24 : decode b_T_firstBar 24 = .ok (.aload_n 0, 1) := by decide +kernel
theorem d_T_firstBar_25 : decode b_T_firstBar 25 = .ok (.aload_n 1, 1) := by decide +kernel
theorem d_T_firstBar_26 : decode b_T_firstBar 26 = .ok (.iload_n 2, 1) := by decide +kernel
theorem d_T_firstBar_27 : decode b_T_firstBar 27 = .ok (.invokevirtual 266, 3) := by decide +kernel
theorem d_T_firstBar_30 : decode b_T_firstBar 30 = .ok (.istore 5, 2) := by decide +kernel
theorem d_T_firstBar_32 : decode b_T_firstBar 32 = .ok (.iload 5, 2) := by decide +kernel
theorem d_T_firstBar_34 : decode b_T_firstBar 34 = .ok (.iconst (-1), 1) := by decide +kernel
theorem d_T_firstBar_35 : decode b_T_firstBar 35 = .ok (.if_icmp .eq 9, 3) := by decide +kernel
theorem d_T_firstBar_38 : decode b_T_firstBar 38 = .ok (.bipush 48, 2) := by decide +kernel
theorem d_T_firstBar_40 : decode b_T_firstBar 40 = .ok (.iload 5, 2) := by decide +kernel
theorem d_T_firstBar_42 : decode b_T_firstBar 42 = .ok (.iadd, 1) := by decide +kernel
theorem d_T_firstBar_43 : decode b_T_firstBar 43 = .ok (.ireturn, 1) := by decide +kernel
theorem d_T_firstBar_44 : decode b_T_firstBar 44 = .ok (.aload_n 0, 1) := by decide +kernel
theorem d_T_firstBar_45 : decode b_T_firstBar 45 = .ok (.aload_n 1, 1) := by decide +kernel
theorem d_T_firstBar_46 : decode b_T_firstBar 46 = .ok (.iload_n 2, 1) := by decide +kernel
theorem d_T_firstBar_47 : decode b_T_firstBar 47 = .ok (.iload_n 3, 1) := by decide +kernel
theorem d_T_firstBar_48 : decode b_T_firstBar 48 = .ok (.iload 4, 2) := by decide +kernel
theorem d_T_firstBar_50 : decode b_T_firstBar 50 = .ok (.invokevirtual 270, 3) := by decide +kernel
theorem d_T_firstBar_53 : decode b_T_firstBar 53 = .ok (.istore 6, 2) := by decide +kernel
theorem d_T_firstBar_55 : decode b_T_firstBar 55 = .ok (.iload 6, 2) := by decide +kernel
theorem d_T_firstBar_57 : decode b_T_firstBar 57 = .ok (.iconst (-1), 1) := by decide +kernel
theorem d_T_firstBar_58 : decode b_T_firstBar 58 = .ok (.if_icmp .ne 7, 3) := by decide +kernel
theorem d_T_firstBar_61 : decode b_T_firstBar 61 = .ok (.iconst 0, 1) := by decide +kernel
theorem d_T_firstBar_62 : decode b_T_firstBar 62 = .ok (.goto 8, 3) := by decide +kernel
theorem d_T_firstBar_65 : decode b_T_firstBar 65 = .ok (.bipush 64, 2) := by decide +kernel
theorem d_T_firstBar_67 : decode b_T_firstBar 67 = .ok (.iload 6, 2) := by decide +kernel
theorem d_T_firstBar_69 : decode b_T_firstBar 69 = .ok (.iadd, 1) := by decide +kernel
theorem d_T_firstBar_70 : decode b_T_firstBar 70 = .ok (.ireturn, 1) := by decide +kernel
theorem d_X_untoldFields_0 : decode b_X_untoldFields 0 = .ok (.iconst 0, 1) := by decide +kernel
theorem d_X_untoldFields_1 : decode b_X_untoldFields 1 = .ok (.istore_n 1, 1) := by decide +kernel
theorem d_X_untoldFields_2 : decode b_X_untoldFields 2 = .ok (.iconst 0, 1) := by decide +kernel
theorem d_X_untoldFields_3 : decode b_X_untoldFields 3 = .ok (.istore_n 2, 1) := by decide +kernel
theorem d_X_untoldFields_4 : decode b_X_untoldFields 4 = .ok (.iload_n 2, 1) := by decide +kernel
theorem d_X_untoldFields_5 : decode b_X_untoldFields 5 = .ok (.aload_n 0, 1) := by decide +kernel
theorem d_X_untoldFields_6 : decode b_X_untoldFields 6 = .ok (.getfield 12, 3) := by decide +kernel
theorem d_X_untoldFields_9 : decode b_X_untoldFields 9 = .ok (.invokevirtual 37, 3) := by decide +kernel
theorem d_X_untoldFields_12 : decode b_X_untoldFields 12 = .ok (.if_icmp .ge 26, 3) := by decide +kernel
theorem d_X_untoldFields_15 : decode b_X_untoldFields 15 = .ok (.iload_n 1, 1) := by decide +kernel
theorem d_X_untoldFields_16 : decode b_X_untoldFields 16 = .ok (.aload_n 0, 1) := by decide +kernel
theorem d_X_untoldFields_17 : decode b_X_untoldFields 17 = .ok (.getfield 12, 3) := by decide +kernel
theorem d_X_untoldFields_20 : decode b_X_untoldFields 20 = .ok (.iload_n 2, 1) := by decide +kernel
theorem d_X_untoldFields_21 : decode b_X_untoldFields 21 = .ok (.invokevirtual 41, 3) := by decide +kernel
theorem d_X_untoldFields_24 : decode b_X_untoldFields 24 = .ok (.checkcast 28, 3) := by decide +kernel
theorem d_X_untoldFields_27 : decode b_X_untoldFields 27 = .ok (.invokevirtual 74, 3) := by decide +kernel
theorem d_X_untoldFields_30 : decode b_X_untoldFields 30 = .ok (.ior, 1) := by decide +kernel
theorem d_X_untoldFields_31 : decode b_X_untoldFields 31 = .ok (.istore_n 1, 1) := by decide +kernel
theorem d_X_untoldFields_32 : decode b_X_untoldFields 32 = .ok (.iinc 2 1, 3) := by decide +kernel
theorem d_X_untoldFields_35 : decode b_X_untoldFields 35 = .ok (.goto (-31), 3) := by decide +kernel
theorem d_X_untoldFields_38 : decode b_X_untoldFields 38 = .ok (.iload_n 1, 1) := by decide +kernel
theorem d_X_untoldFields_39 : decode b_X_untoldFields 39 = .ok (.aload_n 0, 1) := by decide +kernel
theorem d_X_untoldFields_40 : decode b_X_untoldFields 40 = .ok (.getfield 71, 3) := by decide +kernel
theorem d_X_untoldFields_43 : decode b_X_untoldFields 43 = .ok (.iconst (-1), 1) := by decide +kernel
theorem d_X_untoldFields_44 : decode b_X_untoldFields 44 = .ok (.ixor, 1) := by decide +kernel
theorem d_X_untoldFields_45 : decode b_X_untoldFields 45 = .ok (.iand, 1) := by decide +kernel
theorem d_X_untoldFields_46 : decode b_X_untoldFields 46 = .ok (.ireturn, 1) := by decide +kernel
theorem d_P_wantedFields_0 : decode b_P_wantedFields 0 = .ok (.aload_n 0, 1) := by decide +kernel
theorem d_P_wantedFields_1 : decode b_P_wantedFields 1 = .ok (.invokevirtual 27, 3) := by decide +kernel
theorem d_P_wantedFields_4 : decode b_P_wantedFields 4 = .ok (.ifCond .eq 13, 3) := by decide +kernel
theorem d_P_wantedFields_7 : decode b_P_wantedFields 7 = .ok (.aload_n 0, 1) := by decide +kernel
theorem d_P_wantedFields_8 : decode b_P_wantedFields 8 = .ok (.getfield 9, 3) := by decide +kernel
theorem d_P_wantedFields_11 : decode b_P_wantedFields 11 = .ok (.getfield 31, 3) := by decide +kernel
theorem d_P_wantedFields_14 : decode b_P_wantedFields 14 = .ok (.goto 13, 3) := by decide +kernel
theorem d_P_wantedFields_17 : decode b_P_wantedFields 17 = .ok (.aload_n 0, 1) := by decide +kernel
theorem d_P_wantedFields_18 : decode b_P_wantedFields 18 = .ok (.getfield 9, 3) := by decide +kernel
theorem d_P_wantedFields_21 : decode b_P_wantedFields 21 = .ok (.getfield 31, 3) := by decide +kernel
theorem d_P_wantedFields_24 : decode b_P_wantedFields 24 = .ok (.bipush 16, 2) := by decide +kernel
theorem d_P_wantedFields_26 : decode b_P_wantedFields 26 = .ok (.ior, 1) := by decide +kernel
theorem d_P_wantedFields_27 : decode b_P_wantedFields 27 = .ok (.ireturn, 1) := by decide +kernel
theorem d_T_isTaken_0 : decode b_T_isTaken 0 = .ok (.iconst 0, 1) := by decide +kernel
theorem d_T_isTaken_1 : decode b_T_isTaken 1 = .ok (.istore 4, 2) := by decide +kernel
theorem d_T_isTaken_3 : decode b_T_isTaken 3 = .ok (.iload 4, 2) := by decide +kernel
theorem d_T_isTaken_5 : decode b_T_isTaken 5 = .ok (.aload_n 0, 1) := by decide +kernel
theorem d_T_isTaken_6 : decode b_T_isTaken 6 = .ok (.getfield 33, 3) := by decide +kernel
end
section
theorem d_T_isTaken_9 : decode b_T_isTaken 9 = .ok (.invokevirtual 83, 3) := by decide +kernel
theorem d_T_isTaken_12 : decode b_T_isTaken 12 = .ok (.if_icmp .ge 52, 3) := by decide +kernel
theorem d_T_isTaken_15 : decode b_T_isTaken 15 = .ok (.aload_n 0, 1) := by decide +kernel
theorem d_T_isTaken_16 : decode b_T_isTaken 16 = .ok (.getfield 33, 3) := by decide +kernel
theorem d_T_isTaken_19 : decode b_T_isTaken 19 = .ok (.iload 4, 2) := by decide +kernel
theorem d_T_isTaken_21 : decode b_T_isTaken 21 = .ok (.invokevirtual 107, 3) := by decide +kernel
theorem d_T_isTaken_24 : decode b_T_isTaken 24 = .ok (.checkcast 121, 3) := by decide +kernel
theorem d_T_isTaken_27 : decode b_T_isTaken 27 = .ok (.astore 5, 2) := by decide +kernel
theorem d_T_isTaken_29 : decode b_T_isTaken 29 = .ok (.aload 5, 2) := by decide +kernel
theorem d_T_isTaken_31 : decode b_T_isTaken 31 = .ok (.getfield 185, 3) := by decide +kernel
theorem d_T_isTaken_34 : decode b_T_isTaken 34 = .ok (.iload_n 1, 1) := by decide +kernel
theorem d_T_isTaken_35 : decode b_T_isTaken 35 = .ok (.if_icmp .ne 23, 3) := by decide +kernel
theorem d_T_isTaken_38 : decode b_T_isTaken 38 = .ok (.aload 5, 2) := by decide +kernel
theorem d_T_isTaken_40 : decode b_T_isTaken 40 = .ok (.getfield 200, 3) := by decide +kernel
theorem d_T_isTaken_43 : decode b_T_isTaken 43 = .ok (.iload_n 2, 1) := by decide +kernel
theorem d_T_isTaken_44 : decode b_T_isTaken 44 = .ok (.if_icmp .ne 14, 3) := by decide +kernel
theorem d_T_isTaken_47 : decode b_T_isTaken 47 = .ok (.aload 5, 2) := by decide +kernel
theorem d_T_isTaken_49 : decode b_T_isTaken 49 = .ok (.getfield 203, 3) := by decide +kernel
theorem d_T_isTaken_52 : decode b_T_isTaken 52 = .ok (.iload_n 3, 1) := by decide +kernel
theorem d_T_isTaken_53 : decode b_T_isTaken 53 = .ok (.if_icmp .ne 5, 3) := by decide +kernel
theorem d_T_isTaken_56 : decode b_T_isTaken 56 = .ok (.iconst 1, 1) := by decide +kernel
theorem d_T_isTaken_57 : decode b_T_isTaken 57 = .ok (.ireturn, 1) := by decide +kernel
theorem d_T_isTaken_58 : decode b_T_isTaken 58 = .ok (.iinc 4 1, 3) := by decide +kernel
theorem d_T_isTaken_61 : decode b_T_isTaken 61 = .ok (.goto (-58), 3) := by decide +kernel
theorem d_T_isTaken_64 : decode b_T_isTaken 64 = .ok (.iconst 0, 1) := by decide +kernel
theorem d_T_isTaken_65 : decode b_T_isTaken 65 = .ok (.ireturn, 1) := by decide +kernel
theorem d_T_leastPassedClass_0 : decode b_T_leastPassedClass 0 = .ok (.iconst 1, 1) := by decide +kernel
theorem d_T_leastPassedClass_1 : decode b_T_leastPassedClass 1 = .ok (.istore_n 3, 1) := by decide +kernel
theorem d_T_leastPassedClass_2 : decode b_T_leastPassedClass 2 = .ok (.iload_n 3, 1) := by decide +kernel
theorem d_T_leastPassedClass_3 : decode b_T_leastPassedClass 3 = .ok (.bipush 9, 2) := by decide +kernel
theorem d_T_leastPassedClass_5 : decode b_T_leastPassedClass 5 = .ok (.if_icmp .gt 43, 3) := by decide +kernel
theorem d_T_leastPassedClass_8 : decode b_T_leastPassedClass 8 = .ok (.aload_n 1, 1) := by decide +kernel
theorem d_T_leastPassedClass_9 : decode b_T_leastPassedClass 9 = .ok (.iload_n 3, 1) := by decide +kernel
theorem d_T_leastPassedClass_10 : decode b_T_leastPassedClass 10 = .ok (.invokevirtual 258, 3) := by decide +kernel
theorem d_T_leastPassedClass_13 : decode b_T_leastPassedClass 13 = .ok (.istore 4, 2) := by decide +kernel
theorem d_T_leastPassedClass_15 : decode b_T_leastPassedClass 15 = .ok (.iload 4, 2) := by decide +kernel
theorem d_T_leastPassedClass_17 : decode b_T_leastPassedClass 17 = .ok (.ifCond .le 25, 3) := by decide +kernel
theorem d_T_leastPassedClass_20 : decode b_T_leastPassedClass 20 = .ok (.iload 4, 2) := by decide +kernel
theorem d_T_leastPassedClass_22 : decode b_T_leastPassedClass 22 = .ok (.aload_n 0, 1) := by decide +kernel
theorem d_T_leastPassedClass_23 : decode b_T_leastPassedClass 23 = .ok (.iload_n 2, 1) := by decide +kernel
theorem d_T_leastPassedClass_24 : decode b_T_leastPassedClass 24 = .ok (.iload_n 3, 1) := by decide +kernel
theorem d_T_leastPassedClass_25 : decode b_T_leastPassedClass 25 = .ok (.invokevirtual 165, 3) := by decide +kernel
theorem d_T_leastPassedClass_28 : decode b_T_leastPassedClass 28 = .ok (.iadd, 1) := by decide +kernel
theorem d_T_leastPassedClass_29 : decode b_T_leastPassedClass 29 = .ok (.aload_n 0, 1) := by decide +kernel
theorem d_T_leastPassedClass_30 : decode b_T_leastPassedClass 30 = .ok (.getfield 38, 3) := by decide +kernel
theorem d_T_leastPassedClass_33 : decode b_T_leastPassedClass 33 = .ok (.iload_n 2, 1) := by decide +kernel
theorem d_T_leastPassedClass_34 : decode b_T_leastPassedClass 34 = .ok (.aaload, 1) := by decide +kernel
theorem d_T_leastPassedClass_35 : decode b_T_leastPassedClass 35 = .ok (.iload_n 3, 1) := by decide +kernel
theorem d_T_leastPassedClass_36 : decode b_T_leastPassedClass 36 = .ok (.iaload, 1) := by decide +kernel
theorem d_T_leastPassedClass_37 : decode b_T_leastPassedClass 37 = .ok (.if_icmp .le 5, 3) := by decide +kernel
theorem d_T_leastPassedClass_40 : decode b_T_leastPassedClass 40 = .ok (.iload_n 3, 1) := by decide +kernel
theorem d_T_leastPassedClass_41 : decode b_T_leastPassedClass 41 = .ok (.ireturn, 1) := by decide +kernel
theorem d_T_leastPassedClass_42 : decode b_T_leastPassedClass 42 = .ok (.iinc 3 1, 3) := by decide +kernel
theorem d_T_leastPassedClass_45 : decode b_T_leastPassedClass 45 = .ok (.goto (-43), 3) := by decide +kernel
theorem d_T_leastPassedClass_48 : decode b_T_leastPassedClass 48 = .ok (.iconst (-1), 1) := by decide +kernel
theorem d_T_leastPassedClass_49 : decode b_T_leastPassedClass 49 = .ok (.ireturn, 1) := by decide +kernel
theorem d_T_leastTooNear_0 : decode b_T_leastTooNear 0 = .ok (.iconst 0, 1) := by decide +kernel
theorem d_T_leastTooNear_1 : decode b_T_leastTooNear 1 = .ok (.istore 5, 2) := by decide +kernel
theorem d_T_leastTooNear_3 : decode b_T_leastTooNear 3 = .ok (.iload 5, 2) := by decide +kernel
theorem d_T_leastTooNear_5 : decode b_T_leastTooNear 5 = .ok (.aload_n 0, 1) := by decide +kernel
theorem d_T_leastTooNear_6 : decode b_T_leastTooNear 6 = .ok (.getfield 33, 3) := by decide +kernel
theorem d_T_leastTooNear_9 : decode b_T_leastTooNear 9 = .ok (.invokevirtual 83, 3) := by decide +kernel
theorem d_T_leastTooNear_12 : decode b_T_leastTooNear 12 = .ok (.if_icmp .ge 56, 3) := by decide +kernel
theorem d_T_leastTooNear_15 : decode b_T_leastTooNear 15 = .ok (.aload_n 0, 1) := by decide +kernel
theorem d_T_leastTooNear_16 : decode b_T_leastTooNear 16 = .ok (.getfield 33, 3) := by decide +kernel
theorem d_T_leastTooNear_19 : decode b_T_leastTooNear 19 = .ok (.iload 5, 2) := by decide +kernel
theorem d_T_leastTooNear_21 : decode b_T_leastTooNear 21 = .ok (.invokevirtual 107, 3) := by decide +kernel
theorem d_T_leastTooNear_24 : decode b_T_leastTooNear 24 = .ok (.checkcast 121, 3) := by decide +kernel
theorem d_T_leastTooNear_27 : decode b_T_leastTooNear 27 = .ok (.astore 6, 2) := by decide +kernel
theorem d_T_leastTooNear_29 : decode b_T_leastTooNear 29 = .ok (.aload 6, 2) := by decide +kernel
theorem d_T_leastTooNear_31 : decode b_T_leastTooNear 31 = .ok (.getfield 185, 3) := by decide +kernel
theorem d_T_leastTooNear_34 : decode b_T_leastTooNear 34 = .ok (.iload_n 2, 1) := by decide +kernel
theorem d_T_leastTooNear_35 : decode b_T_leastTooNear 35 = .ok (.if_icmp .ne 27, 3) := by decide +kernel
theorem d_T_leastTooNear_38 : decode b_T_leastTooNear 38 = .ok (.aload_n 0, 1) := by decide +kernel
theorem d_T_leastTooNear_39 : decode b_T_leastTooNear 39 = .ok (.aload_n 1, 1) := by decide +kernel
theorem d_T_leastTooNear_40 : decode b_T_leastTooNear 40 = .ok (.aload 6, 2) := by decide +kernel
theorem d_T_leastTooNear_42 : decode b_T_leastTooNear 42 = .ok (.invokevirtual 151, 3) := by decide +kernel
theorem d_T_leastTooNear_45 : decode b_T_leastTooNear 45 = .ok (.aload 6, 2) := by decide +kernel
theorem d_T_leastTooNear_47 : decode b_T_leastTooNear 47 = .ok (.iload_n 3, 1) := by decide +kernel
theorem d_T_leastTooNear_48 : decode b_T_leastTooNear 48 = .ok (.iload 4, 2) := by decide +kernel
theorem d_T_leastTooNear_50 : decode b_T_leastTooNear 50 = .ok (.invokevirtual 273, 3) := by decide +kernel
theorem d_T_leastTooNear_53 : decode b_T_leastTooNear 53 = .ok (.invokestatic 276, 3) := by decide +kernel
theorem d_T_leastTooNear_56 : decode b_T_leastTooNear 56 = .ok (.ifCond .eq 6, 3) := by decide +kernel
theorem d_T_leastTooNear_59 : decode b_T_leastTooNear 59 = .ok (.iload 5, 2) := by decide +kernel
theorem d_T_leastTooNear_61 : decode b_T_leastTooNear 61 = .ok (.ireturn, 1) := by decide +kernel
theorem d_T_leastTooNear_62 : decode b_T_leastTooNear 62 = .ok (.iinc 5 1, 3) := by decide +kernel
theorem d_T_leastTooNear_65 : decode b_T_leastTooNear 65 = .ok (.goto (-62), 3) := by decide +kernel
theorem d_T_leastTooNear_68 : decode b_T_leastTooNear 68 = .ok (.iconst (-1), 1) := by decide +kernel
theorem d_T_leastTooNear_69 : decode b_T_leastTooNear 69 = .ok (.ireturn, 1) := by decide +kernel
theorem d_X_distanceTo_0 : decode b_X_distanceTo 0 = .ok (.aload_n 0, 1) := by decide +kernel
theorem d_X_distanceTo_1 : decode b_X_distanceTo 1 = .ok (.getfield 22, 3) := by decide +kernel
theorem d_X_distanceTo_4 : decode b_X_distanceTo 4 = .ok (.iload_n 1, 1) := by decide +kernel
theorem d_X_distanceTo_5 : decode b_X_distanceTo 5 = .ok (.isub, 1) := by decide +kernel
theorem d_X_distanceTo_6 : decode b_X_distanceTo 6 = .ok (.invokestatic 48, 3) := by decide +kernel
theorem d_X_distanceTo_9 : decode b_X_distanceTo 9 = .ok (.aload_n 0, 1) := by decide +kernel
theorem d_X_distanceTo_10 : decode b_X_distanceTo 10 = .ok (.getfield 25, 3) := by decide +kernel
theorem d_X_distanceTo_13 : decode b_X_distanceTo 13 = .ok (.iload_n 2, 1) := by decide +kernel
theorem d_X_distanceTo_14 : decode b_X_distanceTo 14 = .ok (.isub, 1) := by decide +kernel
theorem d_X_distanceTo_15 : decode b_X_distanceTo 15 = .ok (.invokestatic 48, 3) := by decide +kernel
theorem d_X_distanceTo_18 : decode b_X_distanceTo 18 = .ok (.iadd, 1) := by decide +kernel
theorem d_X_distanceTo_19 : decode b_X_distanceTo 19 = .ok (.ireturn, 1) := by decide +kernel
theorem d_T_isTooNear_0 : decode b_T_isTooNear 0 = .ok (.iload_n 0, 1) := by decide +kernel
theorem d_T_isTooNear_1 : decode b_T_isTooNear 1 = .ok (.iconst 4, 1) := by decide +kernel
theorem d_T_isTooNear_2 : decode b_T_isTooNear 2 = .ok (.if_icmp .ge 12, 3) := by decide +kernel
theorem d_T_isTooNear_5 : decode b_T_isTooNear 5 = .ok (.iload_n 1, 1) := by decide +kernel
theorem d_T_isTooNear_6 : decode b_T_isTooNear 6 = .ok (.getstatic 279, 3) := by decide +kernel
theorem d_T_isTooNear_9 : decode b_T_isTooNear 9 = .ok (.iload_n 0, 1) := by decide +kernel
theorem d_T_isTooNear_10 : decode b_T_isTooNear 10 = .ok (.iaload, 1) := by decide +kernel
theorem d_T_isTooNear_11 : decode b_T_isTooNear 11 = .ok (.if_icmp .ge 7, 3) := by decide +kernel
theorem d_T_isTooNear_14 : decode b_T_isTooNear 14 = .ok (.iconst 1, 1) := by decide +kernel
theorem d_T_isTooNear_15 : decode b_T_isTooNear 15 = .ok (.goto 4, 3) := by decide +kernel
theorem d_T_isTooNear_18 : decode b_T_isTooNear 18 = .ok (.iconst 0, 1) := by decide +kernel
theorem d_T_isTooNear_19 : decode b_T_isTooNear 19 = .ok (.ireturn, 1) := by decide +kernel
theorem d_X_lay_0 : decode b_X_lay 0 = .ok (.aload_n 0, 1) := by decide +kernel
theorem d_X_lay_1 : decode b_X_lay 1 = .ok (.iload_n 1, 1) := by decide +kernel
theorem d_X_lay_2 : decode b_X_lay 2 = .ok (.putfield 18, 3) := by decide +kernel
theorem d_X_lay_5 : decode b_X_lay 5 = .ok (.aload_n 0, 1) := by decide +kernel
theorem d_X_lay_6 : decode b_X_lay 6 = .ok (.iload_n 2, 1) := by decide +kernel
theorem d_X_lay_7 : decode b_X_lay 7 = .ok (.putfield 22, 3) := by decide +kernel
theorem d_X_lay_10 : decode b_X_lay 10 = .ok (.aload_n 0, 1) := by decide +kernel
theorem d_X_lay_11 : decode b_X_lay 11 = .ok (.iload_n 3, 1) := by decide +kernel
theorem d_X_lay_12 : decode b_X_lay 12 = .ok (.putfield 25, 3) := by decide +kernel
theorem d_X_lay_15 : decode b_X_lay 15 = .ok (.return_, 1) := by decide +kernel
theorem d_L_take_0 : decode b_L_take 0 = .ok (.aload_n 2, 1) := by decide +kernel
theorem d_L_take_1 : decode b_L_take 1 = .ok (.iconst 0, 1) := by decide +kernel
theorem d_L_take_2 : decode b_L_take 2 = .ok (.aload_n 0, 1) := by decide +kernel
theorem d_L_take_3 : decode b_L_take 3 = .ok (.iload_n 1, 1) := by decide +kernel
theorem d_L_take_4 : decode b_L_take 4 = .ok (.invokevirtual 42, 3) := by decide +kernel
theorem d_L_take_7 : decode b_L_take 7 = .ok (.i2l, 1) := by decide +kernel
theorem d_L_take_8 : decode b_L_take 8 = .ok (.lastore, 1) := by decide +kernel
theorem d_L_take_9 : decode b_L_take 9 = .ok (.goto 6, 3) := by decide +kernel
theorem d_L_take_12 : decode b_L_take 12 = .ok (.astore_n 3, 1) := by decide +kernel
theorem d_L_take_13 : decode b_L_take 13 = .ok (.iconst 1, 1) := by decide +kernel
theorem d_L_take_14 : decode b_L_take 14 = .ok (.ireturn, 1) := by decide +kernel
theorem d_L_take_15 : decode b_L_take 15 = .ok (.iconst 0, 1) := by decide +kernel
theorem d_L_take_16 : decode b_L_take 16 = .ok (.ireturn, 1) := by decide +kernel
theorem d_T_take_0 : decode b_T_take 0 = .ok (.aload_n 0, 1) := by decide +kernel
theorem d_T_take_1 : decode b_T_take 1 = .ok (.iload_n 1, 1) := by decide +kernel
theorem d_T_take_2 : decode b_T_take 2 = .ok (.invokevirtual 127, 3) := by decide +kernel
theorem d_T_take_5 : decode b_T_take 5 = .ok (.ifCond .ne 13, 3) := by decide +kernel
theorem d_T_take_8 : decode b_T_take 8 = .ok (.new 64, 3) := by decide +kernel
theorem d_T_take_11 : decode b_T_take 11 = .ok (.dup, 1) := by decide +kernel
theorem d_T_take_12 : decode b_T_take 12 = .ok (.ldc 183, 2) := by decide +kernel
theorem d_T_take_14 : decode b_T_take 14 = .ok (.invokespecial 68, 3) := by decide +kernel
theorem d_T_take_17 : decode b_T_take 17 = .ok (.athrow, 1) := by decide +kernel
theorem d_T_take_18 : decode b_T_take 18 = .ok (.aload_n 0, 1) := by decide +kernel
theorem d_T_take_19 : decode b_T_take 19 = .ok (.getfield 33, 3) := by decide +kernel
theorem d_T_take_22 : decode b_T_take 22 = .ok (.iload_n 1, 1) := by decide +kernel
theorem d_T_take_23 : decode b_T_take 23 = .ok (.invokevirtual 107, 3) := by decide +kernel
theorem d_T_take_26 : decode b_T_take 26 = .ok (.checkcast 121, 3) := by decide +kernel
theorem d_T_take_29 : decode b_T_take 29 = .ok (.astore_n 2, 1) := by decide +kernel
theorem d_T_take_30 : decode b_T_take 30 = .ok (.aload_n 2, 1) := by decide +kernel
theorem d_T_take_31 : decode b_T_take 31 = .ok (.getfield 185, 3) := by decide +kernel
theorem d_T_take_34 : decode b_T_take 34 = .ok (.istore_n 3, 1) := by decide +kernel
theorem d_T_take_35 : decode b_T_take 35 = .ok (.aload_n 2, 1) := by decide +kernel
theorem d_T_take_36 : decode b_T_take 36 = .ok (.iconst (-1), 1) := by decide +kernel
theorem d_T_take_37 : decode b_T_take 37 = .ok (.iconst (-1), 1) := by decide +kernel
theorem d_T_take_38 : decode b_T_take 38 = .ok (.iconst (-1), 1) := by decide +kernel
theorem d_T_take_39 : decode b_T_take 39 = .ok (.invokevirtual 179, 3) := by decide +kernel
theorem d_T_take_42 : decode b_T_take 42 = .ok (.iload_n 3, 1) := by decide +kernel
theorem d_T_take_43 : decode b_T_take 43 = .ok (.ireturn, 1) := by decide +kernel
theorem d_L_missing_0 : decode b_L_missing 0 = .ok (.aload_n 2, 1) := by decide +kernel
theorem d_L_missing_1 : decode b_L_missing 1 = .ok (.iconst 0, 1) := by decide +kernel
theorem d_L_missing_2 : decode b_L_missing 2 = .ok (.aload_n 0, 1) := by decide +kernel
theorem d_L_missing_3 : decode b_L_missing 3 = .ok (.iload_n 1, 1) := by decide +kernel
theorem d_L_missing_4 : decode b_L_missing 4 = .ok (.invokevirtual 46, 3) := by decide +kernel
theorem d_L_missing_7 : decode b_L_missing 7 = .ok (.i2l, 1) := by decide +kernel
theorem d_L_missing_8 : decode b_L_missing 8 = .ok (.lastore, 1) := by decide +kernel
theorem d_L_missing_9 : decode b_L_missing 9 = .ok (.goto 6, 3) := by decide +kernel
theorem d_L_missing_12 : decode b_L_missing 12 = .ok (.astore_n 3, 1) := by decide +kernel
theorem d_L_missing_13 : decode b_L_missing 13 = .ok (.iconst 1, 1) := by decide +kernel
theorem d_L_missing_14 : decode b_L_missing 14 = .ok (.ireturn, 1) := by decide +kernel
theorem d_L_missing_15 : decode b_L_missing 15 = .ok (.iconst 0, 1) := by decide +kernel
theorem d_L_missing_16 : decode b_L_missing 16 = .ok (.ireturn, 1) := by decide +kernel
theorem d_T_missing_0 : decode b_T_missing 0 = .ok (.aload_n 0, 1) := by decide +kernel
theorem d_T_missing_1 : decode b_T_missing 1 = .ok (.iload_n 1, 1) := by decide +kernel
theorem d_T_missing_2 : decode b_T_missing 2 = .ok (.invokevirtual 127, 3) := by decide +kernel
theorem d_T_missing_5 : decode b_T_missing 5 = .ok (.ifCond .ne 13, 3) := by decide +kernel
theorem d_T_missing_8 : decode b_T_missing 8 = .ok (.new 64, 3) := by decide +kernel
theorem d_T_missing_11 : decode b_T_missing 11 = .ok (.dup, 1) := by decide +kernel
theorem d_T_missing_12 : decode b_T_missing 12 = .ok (.ldc 183, 2) := by decide +kernel
theorem d_T_missing_14 : decode b_T_missing 14 = .ok (.invokespecial 68, 3) := by decide +kernel
theorem d_T_missing_17 : decode b_T_missing 17 = .ok (.athrow, 1) := by decide +kernel
theorem d_T_missing_18 : decode b_T_missing 18 = .ok (.aload_n 0, 1) := by decide +kernel
theorem d_T_missing_19 : decode b_T_missing 19 = .ok (.getfield 33, 3) := by decide +kernel
theorem d_T_missing_22 : decode b_T_missing 22 = .ok (.iload_n 1, 1) := by decide +kernel
theorem d_T_missing_23 : decode b_T_missing 23 = .ok (.invokevirtual 107, 3) := by decide +kernel
theorem d_T_missing_26 : decode b_T_missing 26 = .ok (.checkcast 121, 3) := by decide +kernel
theorem d_T_missing_29 : decode b_T_missing 29 = .ok (.invokevirtual 192, 3) := by decide +kernel
theorem d_T_missing_32 : decode b_T_missing 32 = .ok (.ireturn, 1) := by decide +kernel
theorem d_L_look_0 : decode b_L_look 0 = .ok (.aload_n 3, 1) := by decide +kernel
theorem d_L_look_1 : decode b_L_look 1 = .ok (.iconst 0, 1) := by decide +kernel
theorem d_L_look_2 : decode b_L_look 2 = .ok (.aload_n 0, 1) := by decide +kernel
theorem d_L_look_3 : decode b_L_look 3 = .ok (.iload_n 1, 1) := by decide +kernel
theorem d_L_look_4 : decode b_L_look 4 = .ok (.iload_n 2, 1) := by decide +kernel
theorem d_L_look_5 : decode b_L_look 5 = .ok (.invokevirtual 49, 3) := by decide +kernel
theorem d_L_look_8 : decode b_L_look 8 = .ok (.i2l, 1) := by decide +kernel
theorem d_L_look_9 : decode b_L_look 9 = .ok (.lastore, 1) := by decide +kernel
theorem d_L_look_10 : decode b_L_look 10 = .ok (.goto 7, 3) := by decide +kernel
theorem d_L_look_13 : decode b_L_look 13 = .ok (.astore 4, 2) := by decide +kernel
theorem d_L_look_15 : decode b_L_look 15 = .ok (.iconst 1, 1) := by decide +kernel
theorem d_L_look_16 : decode b_L_look 16 = .ok (.ireturn, 1) := by decide +kernel
theorem d_L_look_17 : decode b_L_look 17 = .ok (.iconst 0, 1) := by decide +kernel
theorem d_L_look_18 : decode b_L_look 18 = .ok (.ireturn, 1) := by decide +kernel
theorem d_T_look_0 : decode b_T_look 0 = .ok (.aload_n 0, 1) := by decide +kernel
theorem d_T_look_1 : decode b_T_look 1 = .ok (.iload_n 1, 1) := by decide +kernel
theorem d_T_look_2 : decode b_T_look 2 = .ok (.invokevirtual 127, 3) := by decide +kernel
theorem d_T_look_5 : decode b_T_look 5 = .ok (.ifCond .eq 13, 3) := by decide +kernel
theorem d_T_look_8 : decode b_T_look 8 = .ok (.iload_n 2, 1) := by decide +kernel
theorem d_T_look_9 : decode b_T_look 9 = .ok (.ifCond .lt 9, 3) := by decide +kernel
theorem d_T_look_12 : decode b_T_look 12 = .ok (.iload_n 2, 1) := by decide +kernel
theorem d_T_look_13 : decode b_T_look 13 = .ok (.bipush 7, 2) := by decide +kernel
theorem d_T_look_15 : decode b_T_look 15 = .ok (.if_icmp .lt 13, 3) := by decide +kernel
theorem d_T_look_18 : decode b_T_look 18 = .ok (.new 195, 3) := by decide +kernel
theorem d_T_look_21 : decode b_T_look 21 = .ok (.dup, 1) := by decide +kernel
theorem d_T_look_22 : decode b_T_look 22 = .ok (.ldc 197, 2) := by decide +kernel
theorem d_T_look_24 : decode b_T_look 24 = .ok (.invokespecial 199, 3) := by decide +kernel
theorem d_T_look_27 : decode b_T_look 27 = .ok (.athrow, 1) := by decide +kernel
theorem d_T_look_28 : decode b_T_look 28 = .ok (.aload_n 0, 1) := by decide +kernel
theorem d_T_look_29 : decode b_T_look 29 = .ok (.getfield 33, 3) := by decide +kernel
theorem d_T_look_32 : decode b_T_look 32 = .ok (.iload_n 1, 1) := by decide +kernel
theorem d_T_look_33 : decode b_T_look 33 = .ok (.invokevirtual 107, 3) := by decide +kernel
theorem d_T_look_36 : decode b_T_look 36 = .ok (.checkcast 121, 3) := by decide +kernel
theorem d_T_look_39 : decode b_T_look 39 = .ok (.astore_n 3, 1) := by decide +kernel
theorem d_T_look_40 : decode b_T_look 40 = .ok (.iload_n 2, 1) := by decide +kernel
theorem d_T_look_41 : decode b_T_look 41 = .ok (.tableswitch 69 0 5 #[39, 44, 49, 54, 59, 64], 39) := by decide +kernel
theorem d_T_look_80 : decode b_T_look 80 = .ok (.aload_n 3, 1) := by decide +kernel
theorem d_T_look_81 : decode b_T_look 81 = .ok (.invokevirtual 141, 3) := by decide +kernel
theorem d_T_look_84 : decode b_T_look 84 = .ok (.ireturn, 1) := by decide +kernel
theorem d_T_look_85 : decode b_T_look 85 = .ok (.aload_n 3, 1) := by decide +kernel
theorem d_T_look_86 : decode b_T_look 86 = .ok (.getfield 185, 3) := by decide +kernel
theorem d_T_look_89 : decode b_T_look 89 = .ok (.ireturn, 1) := by decide +kernel
theorem d_T_look_90 : decode b_T_look 90 = .ok (.aload_n 3, 1) := by decide +kernel
theorem d_T_look_91 : decode b_T_look 91 = .ok (.getfield 200, 3) := by decide +kernel
theorem d_T_look_94 : decode b_T_look 94 = .ok (.ireturn, 1) := by decide +kernel
theorem d_T_look_95 : decode b_T_look 95 = .ok (.aload_n 3, 1) := by decide +kernel
theorem d_T_look_96 : decode b_T_look 96 = .ok (.getfield 203, 3) := by decide +kernel
theorem d_T_look_99 : decode b_T_look 99 = .ok (.ireturn, 1) := by decide +kernel
theorem d_T_look_100 : decode b_T_look 100 = .ok (.aload_n 3, 1) := by decide +kernel
theorem d_T_look_101 : decode b_T_look 101 = .ok (.invokevirtual 206, 3) := by decide +kernel
theorem d_T_look_104 : decode b_T_look 104 = .ok (.ireturn, 1) := by decide +kernel
theorem d_T_look_105 : decode b_T_look 105 = .ok (.aload_n 3, 1) := by decide +kernel
theorem d_T_look_106 : decode b_T_look 106 = .ok (.invokevirtual 209, 3) := by decide +kernel
theorem d_T_look_109 : decode b_T_look 109 = .ok (.ireturn, 1) := by decide +kernel
theorem d_T_look_110 : decode b_T_look 110 = .ok (.aload_n 3, 1) := by decide +kernel
theorem d_T_look_111 : decode b_T_look 111 = .ok (.getfield 212, 3) := by decide +kernel
theorem d_T_look_114 : decode b_T_look 114 = .ok (.ireturn, 1) := by decide +kernel
theorem d_X_kilograms_0 : decode b_X_kilograms 0 = .ok (.iconst 0, 1) := by decide +kernel
theorem d_X_kilograms_1 : decode b_X_kilograms 1 = .ok (.istore_n 1, 1) := by decide +kernel
theorem d_X_kilograms_2 : decode b_X_kilograms 2 = .ok (.iconst 0, 1) := by decide +kernel
theorem d_X_kilograms_3 : decode b_X_kilograms 3 = .ok (.istore_n 2, 1) := by decide +kernel
theorem d_X_kilograms_4 : decode b_X_kilograms 4 = .ok (.iload_n 2, 1) := by decide +kernel
theorem d_X_kilograms_5 : decode b_X_kilograms 5 = .ok (.aload_n 0, 1) := by decide +kernel
theorem d_X_kilograms_6 : decode b_X_kilograms 6 = .ok (.getfield 12, 3) := by decide +kernel
theorem d_X_kilograms_9 : decode b_X_kilograms 9 = .ok (.invokevirtual 37, 3) := by decide +kernel
theorem d_X_kilograms_12 : decode b_X_kilograms 12 = .ok (.if_icmp .ge 26, 3) := by decide +kernel
theorem d_X_kilograms_15 : decode b_X_kilograms 15 = .ok (.iload_n 1, 1) := by decide +kernel
theorem d_X_kilograms_16 : decode b_X_kilograms 16 = .ok (.aload_n 0, 1) := by decide +kernel
theorem d_X_kilograms_17 : decode b_X_kilograms 17 = .ok (.getfield 12, 3) := by decide +kernel
theorem d_X_kilograms_20 : decode b_X_kilograms 20 = .ok (.iload_n 2, 1) := by decide +kernel
theorem d_X_kilograms_21 : decode b_X_kilograms 21 = .ok (.invokevirtual 41, 3) := by decide +kernel
theorem d_X_kilograms_24 : decode b_X_kilograms 24 = .ok (.checkcast 28, 3) := by decide +kernel
theorem d_X_kilograms_27 : decode b_X_kilograms 27 = .ok (.getfield 54, 3) := by decide +kernel
theorem d_X_kilograms_30 : decode b_X_kilograms 30 = .ok (.iadd, 1) := by decide +kernel
theorem d_X_kilograms_31 : decode b_X_kilograms 31 = .ok (.istore_n 1, 1) := by decide +kernel
theorem d_X_kilograms_32 : decode b_X_kilograms 32 = .ok (.iinc 2 1, 3) := by decide +kernel
theorem d_X_kilograms_35 : decode b_X_kilograms 35 = .ok (.goto (-31), 3) := by decide +kernel
theorem d_X_kilograms_38 : decode b_X_kilograms 38 = .ok (.iload_n 1, 1) := by decide +kernel
theorem d_X_kilograms_39 : decode b_X_kilograms 39 = .ok (.ireturn, 1) := by decide +kernel
theorem d_X_limitedCount_0 : decode b_X_limitedCount 0 = .ok (.iconst 0, 1) := by decide +kernel
theorem d_X_limitedCount_1 : decode b_X_limitedCount 1 = .ok (.istore_n 1, 1) := by decide +kernel
theorem d_X_limitedCount_2 : decode b_X_limitedCount 2 = .ok (.iconst 0, 1) := by decide +kernel
theorem d_X_limitedCount_3 : decode b_X_limitedCount 3 = .ok (.istore_n 2, 1) := by decide +kernel
theorem d_X_limitedCount_4 : decode b_X_limitedCount 4 = .ok (.iload_n 2, 1) := by decide +kernel
theorem d_X_limitedCount_5 : decode b_X_limitedCount 5 = .ok (.aload_n 0, 1) := by decide +kernel
theorem d_X_limitedCount_6 : decode b_X_limitedCount 6 = .ok (.getfield 12, 3) := by decide +kernel
theorem d_X_limitedCount_9 : decode b_X_limitedCount 9 = .ok (.invokevirtual 37, 3) := by decide +kernel
theorem d_X_limitedCount_12 : decode b_X_limitedCount 12 = .ok (.if_icmp .ge 29, 3) := by decide +kernel
theorem d_X_limitedCount_15 : decode b_X_limitedCount 15 = .ok (.aload_n 0, 1) := by decide +kernel
theorem d_X_limitedCount_16 : decode b_X_limitedCount 16 = .ok (.getfield 12, 3) := by decide +kernel
theorem d_X_limitedCount_19 : decode b_X_limitedCount 19 = .ok (.iload_n 2, 1) := by decide +kernel
theorem d_X_limitedCount_20 : decode b_X_limitedCount 20 = .ok (.invokevirtual 41, 3) := by decide +kernel
theorem d_X_limitedCount_23 : decode b_X_limitedCount 23 = .ok (.checkcast 28, 3) := by decide +kernel
theorem d_X_limitedCount_26 : decode b_X_limitedCount 26 = .ok (.invokevirtual 67, 3) := by decide +kernel
theorem d_X_limitedCount_29 : decode b_X_limitedCount 29 = .ok (.ifCond .eq 6, 3) := by decide +kernel
theorem d_X_limitedCount_32 : decode b_X_limitedCount 32 = .ok (.iinc 1 1, 3) := by decide +kernel
theorem d_X_limitedCount_35 : decode b_X_limitedCount 35 = .ok (.iinc 2 1, 3) := by decide +kernel
theorem d_X_limitedCount_38 : decode b_X_limitedCount 38 = .ok (.goto (-34), 3) := by decide +kernel
theorem d_X_limitedCount_41 : decode b_X_limitedCount 41 = .ok (.iload_n 1, 1) := by decide +kernel
theorem d_X_limitedCount_42 : decode b_X_limitedCount 42 = .ok (.ireturn, 1) := by decide +kernel
theorem d_M_init_0 : decode b_M_init 0 = .ok (.aload_n 0, 1) := by decide +kernel
theorem d_M_init_1 : decode b_M_init 1 = .ok (.invokespecial 1, 3) := by decide +kernel
theorem d_M_init_4 : decode b_M_init 4 = .ok (.aload_n 0, 1) := by decide +kernel
theorem d_M_init_5 : decode b_M_init 5 = .ok (.sipush 300, 3) := by decide +kernel
theorem d_M_init_8 : decode b_M_init 8 = .ok (.newarray .int, 2) := by decide +kernel
theorem d_M_init_10 : decode b_M_init 10 = .ok (.putfield 7, 3) := by decide +kernel
theorem d_M_init_13 : decode b_M_init 13 = .ok (.aload_n 0, 1) := by decide +kernel
theorem d_M_init_14 : decode b_M_init 14 = .ok (.sipush 162, 3) := by decide +kernel
theorem d_M_init_17 : decode b_M_init 17 = .ok (.newarray .int, 2) := by decide +kernel
theorem d_M_init_19 : decode b_M_init 19 = .ok (.putfield 13, 3) := by decide +kernel
theorem d_M_init_22 : decode b_M_init 22 = .ok (.aload_n 0, 1) := by decide +kernel
theorem d_M_init_23 : decode b_M_init 23 = .ok (.bipush 16, 2) := by decide +kernel
theorem d_M_init_25 : decode b_M_init 25 = .ok (.newarray .int, 2) := by decide +kernel
theorem d_M_init_27 : decode b_M_init 27 = .ok (.putfield 16, 3) := by decide +kernel
theorem d_M_init_30 : decode b_M_init 30 = .ok (.aload_n 0, 1) := by decide +kernel
theorem d_M_init_31 : decode b_M_init 31 = .ok (.bipush 16, 2) := by decide +kernel
theorem d_M_init_33 : decode b_M_init 33 = .ok (.newarray .int, 2) := by decide +kernel
theorem d_M_init_35 : decode b_M_init 35 = .ok (.putfield 19, 3) := by decide +kernel
theorem d_M_init_38 : decode b_M_init 38 = .ok (.aload_n 0, 1) := by decide +kernel
theorem d_M_init_39 : decode b_M_init 39 = .ok (.bipush 16, 2) := by decide +kernel
theorem d_M_init_41 : decode b_M_init 41 = .ok (.newarray .int, 2) := by decide +kernel
theorem d_M_init_43 : decode b_M_init 43 = .ok (.putfield 22, 3) := by decide +kernel
theorem d_M_init_46 : decode b_M_init 46 = .ok (.aload_n 0, 1) := by decide +kernel
theorem d_M_init_47 : decode b_M_init 47 = .ok (.bipush 16, 2) := by decide +kernel
theorem d_M_init_49 : decode b_M_init 49 = .ok (.newarray .int, 2) := by decide +kernel
theorem d_M_init_51 : decode b_M_init 51 = .ok (.putfield 25, 3) := by decide +kernel
theorem d_M_init_54 : decode b_M_init 54 = .ok (.aload_n 0, 1) := by decide +kernel
theorem d_M_init_55 : decode b_M_init 55 = .ok (.bipush 16, 2) := by decide +kernel
theorem d_M_init_57 : decode b_M_init 57 = .ok (.newarray .boolean, 2) := by decide +kernel
theorem d_M_init_59 : decode b_M_init 59 = .ok (.putfield 28, 3) := by decide +kernel
theorem d_M_init_62 : decode b_M_init 62 = .ok (.aload_n 0, 1) := by decide +kernel
theorem d_M_init_63 : decode b_M_init 63 = .ok (.bipush 16, 2) := by decide +kernel
theorem d_M_init_65 : decode b_M_init 65 = .ok (.newarray .boolean, 2) := by decide +kernel
theorem d_M_init_67 : decode b_M_init 67 = .ok (.putfield 32, 3) := by decide +kernel
theorem d_M_init_70 : decode b_M_init 70 = .ok (.aload_n 0, 1) := by decide +kernel
theorem d_M_init_71 : decode b_M_init 71 = .ok (.sipush 1296, 3) := by decide +kernel
theorem d_M_init_74 : decode b_M_init 74 = .ok (.newarray .boolean, 2) := by decide +kernel
theorem d_M_init_76 : decode b_M_init 76 = .ok (.putfield 35, 3) := by decide +kernel
theorem d_M_init_79 : decode b_M_init 79 = .ok (.aload_n 0, 1) := by decide +kernel
theorem d_M_init_80 : decode b_M_init 80 = .ok (.bipush 12, 2) := by decide +kernel
theorem d_M_init_82 : decode b_M_init 82 = .ok (.newarray .int, 2) := by decide +kernel
theorem d_M_init_84 : decode b_M_init 84 = .ok (.putfield 38, 3) := by decide +kernel
theorem d_M_init_87 : decode b_M_init 87 = .ok (.aload_n 0, 1) := by decide +kernel
theorem d_M_init_88 : decode b_M_init 88 = .ok (.bipush 12, 2) := by decide +kernel
theorem d_M_init_90 : decode b_M_init 90 = .ok (.newarray .int, 2) := by decide +kernel
theorem d_M_init_92 : decode b_M_init 92 = .ok (.putfield 41, 3) := by decide +kernel
theorem d_M_init_95 : decode b_M_init 95 = .ok (.aload_n 0, 1) := by decide +kernel
theorem d_M_init_96 : decode b_M_init 96 = .ok (.bipush 12, 2) := by decide +kernel
theorem d_M_init_98 : decode b_M_init 98 = .ok (.newarray .int, 2) := by decide +kernel
theorem d_M_init_100 : decode b_M_init 100 = .ok (.putfield 44, 3) := by decide +kernel
theorem d_M_init_103 : decode b_M_init 103 = .ok (.aload_n 0, 1) := by decide +kernel
theorem d_M_init_104 : decode b_M_init 104 = .ok (.bipush 12, 2) := by decide +kernel
theorem d_M_init_106 : decode b_M_init 106 = .ok (.newarray .int, 2) := by decide +kernel
theorem d_M_init_108 : decode b_M_init 108 = .ok (.putfield 47, 3) := by decide +kernel
theorem d_M_init_111 : decode b_M_init 111 = .ok (.aload_n 0, 1) := by decide +kernel
theorem d_M_init_112 : decode b_M_init 112 = .ok (.bipush 12, 2) := by decide +kernel
theorem d_M_init_114 : decode b_M_init 114 = .ok (.newarray .int, 2) := by decide +kernel
theorem d_M_init_116 : decode b_M_init 116 = .ok (.putfield 50, 3) := by decide +kernel
theorem d_M_init_119 : decode b_M_init 119 = .ok (.aload_n 0, 1) := by decide +kernel
theorem d_M_init_120 : decode b_M_init 120 = .ok (.bipush 48, 2) := by decide +kernel
theorem d_M_init_122 : decode b_M_init 122 = .ok (.newarray .int, 2) := by decide +kernel
theorem d_M_init_124 : decode b_M_init 124 = .ok (.putfield 53, 3) := by decide +kernel
theorem d_M_init_127 : decode b_M_init 127 = .ok (.aload_n 0, 1) := by decide +kernel
theorem d_M_init_128 : decode b_M_init 128 = .ok (.bipush 48, 2) := by decide +kernel
theorem d_M_init_130 : decode b_M_init 130 = .ok (.newarray .int, 2) := by decide +kernel
theorem d_M_init_132 : decode b_M_init 132 = .ok (.putfield 56, 3) := by decide +kernel
theorem d_M_init_135 : decode b_M_init 135 = .ok (.aload_n 0, 1) := by decide +kernel
theorem d_M_init_136 : decode b_M_init 136 = .ok (.bipush 36, 2) := by decide +kernel
theorem d_M_init_138 : decode b_M_init 138 = .ok (.newarray .int, 2) := by decide +kernel
theorem d_M_init_140 : decode b_M_init 140 = .ok (.putfield 59, 3) := by decide +kernel
theorem d_M_init_143 : decode b_M_init 143 = .ok (.iconst 0, 1) := by decide +kernel
theorem d_M_init_144 : decode b_M_init 144 = .ok (.istore_n 1, 1) := by decide +kernel
theorem d_M_init_145 : decode b_M_init 145 = .ok (.iload_n 1, 1) := by decide +kernel
theorem d_M_init_146 : decode b_M_init 146 = .ok (.bipush 81, 2) := by decide +kernel
theorem d_M_init_148 : decode b_M_init 148 = .ok (.if_icmp .ge 16, 3) := by decide +kernel
theorem d_M_init_151 : decode b_M_init 151 = .ok (.aload_n 0, 1) := by decide +kernel
theorem d_M_init_152 : decode b_M_init 152 = .ok (.getfield 13, 3) := by decide +kernel
theorem d_M_init_155 : decode b_M_init 155 = .ok (.iload_n 1, 1) := by decide +kernel
theorem d_M_init_156 : decode b_M_init 156 = .ok (.iconst 4, 1) := by decide +kernel
theorem d_M_init_157 : decode b_M_init 157 = .ok (.iastore, 1) := by decide +kernel
theorem d_M_init_158 : decode b_M_init 158 = .ok (.iinc 1 1, 3) := by decide +kernel
theorem d_M_init_161 : decode b_M_init 161 = .ok (.goto (-16), 3) := by decide +kernel
theorem d_M_init_164 : decode b_M_init 164 = .ok (.iconst 0, 1) := by decide +kernel
theorem d_M_init_165 : decode b_M_init 165 = .ok (.istore_n 1, 1) := by decide +kernel
theorem d_M_init_166 : decode b_M_init 166 = .ok (.iload_n 1, 1) := by decide +kernel
theorem d_M_init_167 : decode b_M_init 167 = .ok (.bipush 36, 2) := by decide +kernel
theorem d_M_init_169 : decode b_M_init 169 = .ok (.if_icmp .ge 17, 3) := by decide +kernel
theorem d_M_init_172 : decode b_M_init 172 = .ok (.aload_n 0, 1) := by decide +kernel
theorem d_M_init_173 : decode b_M_init 173 = .ok (.getfield 59, 3) := by decide +kernel
theorem d_M_init_176 : decode b_M_init 176 = .ok (.iload_n 1, 1) := by decide +kernel
theorem d_M_init_177 : decode b_M_init 177 = .ok (.ldc 62, 2) := by decide +kernel
theorem d_M_init_179 : decode b_M_init 179 = .ok (.iastore, 1) := by decide +kernel
theorem d_M_init_180 : decode b_M_init 180 = .ok (.iinc 1 1, 3) := by decide +kernel
theorem d_M_init_183 : decode b_M_init 183 = .ok (.goto (-17), 3) := by decide +kernel
theorem d_M_init_186 : decode b_M_init 186 = .ok (.iconst 0, 1) := by decide +kernel
theorem d_M_init_187 : decode b_M_init 187 = .ok (.istore_n 1, 1) := by decide +kernel
theorem d_M_init_188 : decode b_M_init 188 = .ok (.iload_n 1, 1) := by decide +kernel
theorem d_M_init_189 : decode b_M_init 189 = .ok (.bipush 12, 2) := by decide +kernel
theorem d_M_init_191 : decode b_M_init 191 = .ok (.if_icmp .ge 16, 3) := by decide +kernel
theorem d_M_init_194 : decode b_M_init 194 = .ok (.aload_n 0, 1) := by decide +kernel
theorem d_M_init_195 : decode b_M_init 195 = .ok (.getfield 41, 3) := by decide +kernel
theorem d_M_init_198 : decode b_M_init 198 = .ok (.iload_n 1, 1) := by decide +kernel
theorem d_M_init_199 : decode b_M_init 199 = .ok (.iconst (-1), 1) := by decide +kernel
theorem d_M_init_200 : decode b_M_init 200 = .ok (.iastore, 1) := by decide +kernel
theorem d_M_init_201 : decode b_M_init 201 = .ok (.iinc 1 1, 3) := by decide +kernel
theorem d_M_init_204 : decode b_M_init 204 = .ok (.goto (-16), 3) := by decide +kernel
theorem d_M_init_207 : decode b_M_init 207 = .ok (.return_, 1) := by decide +kernel
theorem d_M_thrown_0 : decode b_M_thrown 0 = .ok (.aload_n 0, 1) := by decide +kernel
theorem d_M_thrown_1 : decode b_M_thrown 1 = .ok (.getfield 63, 3) := by decide +kernel
theorem d_M_thrown_4 : decode b_M_thrown 4 = .ok (.ireturn, 1) := by decide +kernel
theorem d_M_sign_0 : decode b_M_sign 0 = .ok (.aload_n 0, 1) := by decide +kernel
theorem d_M_sign_1 : decode b_M_sign 1 = .ok (.iconst 0, 1) := by decide +kernel
theorem d_M_sign_2 : decode b_M_sign 2 = .ok (.putfield 63, 3) := by decide +kernel
theorem d_M_sign_5 : decode b_M_sign 5 = .ok (.iload_n 1, 1) := by decide +kernel
theorem d_M_sign_6 : decode b_M_sign 6 = .ok (.bipush 48, 2) := by decide +kernel
theorem d_M_sign_8 : decode b_M_sign 8 = .ok (.bipush 57, 2) := by decide +kernel
theorem d_M_sign_10 : decode b_M_sign 10 = .ok (.invokestatic 73, 3) := by decide +kernel
theorem d_M_sign_13 : decode b_M_sign 13 = .ok (.ifCond .ne 9, 3) := by decide +kernel
theorem d_M_sign_16 : decode b_M_sign 16 = .ok (.iload_n 1, 1) := by decide +kernel
theorem d_M_sign_17 : decode b_M_sign 17 = .ok (.bipush 59, 2) := by decide +kernel
theorem d_M_sign_19 : decode b_M_sign 19 = .ok (.if_icmp .ne 13, 3) := by decide +kernel
theorem d_M_sign_22 : decode b_M_sign 22 = .ok (.aload_n 0, 1) := by decide +kernel
theorem d_M_sign_23 : decode b_M_sign 23 = .ok (.getfield 77, 3) := by decide +kernel
theorem d_M_sign_26 : decode b_M_sign 26 = .ok (.sipush 300, 3) := by decide +kernel
theorem d_M_sign_29 : decode b_M_sign 29 = .ok (.if_icmp .ne 5, 3) := by decide +kernel
theorem d_M_sign_32 : decode b_M_sign 32 = .ok (.iconst 0, 1) := by decide +kernel
theorem d_M_sign_33 : decode b_M_sign 33 = .ok (.ireturn, 1) := by decide +kernel
theorem d_M_sign_34 : decode b_M_sign 34 = .ok (.aload_n 0, 1) := by decide +kernel
theorem d_M_sign_35 : decode b_M_sign 35 = .ok (.getfield 7, 3) := by decide +kernel
theorem d_M_sign_38 : decode b_M_sign 38 = .ok (.aload_n 0, 1) := by decide +kernel
theorem d_M_sign_39 : decode b_M_sign 39 = .ok (.getfield 77, 3) := by decide +kernel
theorem d_M_sign_42 : decode b_M_sign 42 = .ok (.iload_n 1, 1) := by decide +kernel
theorem d_M_sign_43 : decode b_M_sign 43 = .ok (.iastore, 1) := by decide +kernel
theorem d_M_sign_44 : decode b_M_sign 44 = .ok (.aload_n 0, 1) := by decide +kernel
theorem d_M_sign_45 : decode b_M_sign 45 = .ok (.dup, 1) := by decide +kernel
theorem d_M_sign_46 : decode b_M_sign 46 = .ok (.getfield 77, 3) := by decide +kernel
theorem d_M_sign_49 : decode b_M_sign 49 = .ok (.iconst 1, 1) := by decide +kernel
theorem d_M_sign_50 : decode b_M_sign 50 = .ok (.iadd, 1) := by decide +kernel
theorem d_M_sign_51 : decode b_M_sign 51 = .ok (.putfield 77, 3) := by decide +kernel
theorem d_M_sign_54 : decode b_M_sign 54 = .ok (.iconst 1, 1) := by decide +kernel
theorem d_M_sign_55 : decode b_M_sign 55 = .ok (.ireturn, 1) := by decide +kernel
theorem d_M_in_0 : decode b_M_in 0 = .ok (.iload_n 0, 1) := by decide +kernel
theorem d_M_in_1 : decode b_M_in 1 = .ok (.iload_n 1, 1) := by decide +kernel
theorem d_M_in_2 : decode b_M_in 2 = .ok (.if_icmp .lt 12, 3) := by decide +kernel
theorem d_M_in_5 : decode b_M_in 5 = .ok (.iload_n 0, 1) := by decide +kernel
theorem d_M_in_6 : decode b_M_in 6 = .ok (.iload_n 2, 1) := by decide +kernel
theorem d_M_in_7 : decode b_M_in 7 = .ok (.if_icmp .gt 7, 3) := by decide +kernel
theorem d_M_in_10 : decode b_M_in 10 = .ok (.iconst 1, 1) := by decide +kernel
theorem d_M_in_11 : decode b_M_in 11 = .ok (.goto 4, 3) := by decide +kernel
theorem d_M_in_14 : decode b_M_in 14 = .ok (.iconst 0, 1) := by decide +kernel
theorem d_M_in_15 : decode b_M_in 15 = .ok (.ireturn, 1) := by decide +kernel
theorem d_M_read_0 : decode b_M_read 0 = .ok (.aload_n 0, 1) := by decide +kernel
theorem d_M_read_1 : decode b_M_read 1 = .ok (.iconst 0, 1) := by decide +kernel
theorem d_M_read_2 : decode b_M_read 2 = .ok (.putfield 63, 3) := by decide +kernel
theorem d_M_read_5 : decode b_M_read 5 = .ok (.bipush 81, 2) := by decide +kernel
theorem d_M_read_7 : decode b_M_read 7 = .ok (.istore_n 1, 1) := by decide +kernel
theorem d_M_read_8 : decode b_M_read 8 = .ok (.iload_n 1, 1) := by decide +kernel
theorem d_M_read_9 : decode b_M_read 9 = .ok (.sipush 162, 3) := by decide +kernel
theorem d_M_read_12 : decode b_M_read 12 = .ok (.if_icmp .ge 16, 3) := by decide +kernel
theorem d_M_read_15 : decode b_M_read 15 = .ok (.aload_n 0, 1) := by decide +kernel
theorem d_M_read_16 : decode b_M_read 16 = .ok (.getfield 13, 3) := by decide +kernel
theorem d_M_read_19 : decode b_M_read 19 = .ok (.iload_n 1, 1) := by decide +kernel
theorem d_M_read_20 : decode b_M_read 20 = .ok (.iconst 0, 1) := by decide +kernel
theorem d_M_read_21 : decode b_M_read 21 = .ok (.iastore, 1) := by decide +kernel
theorem d_M_read_22 : decode b_M_read 22 = .ok (.iinc 1 1, 3) := by decide +kernel
theorem d_M_read_25 : decode b_M_read 25 = .ok (.goto (-17), 3) := by decide +kernel
theorem d_M_read_28 : decode b_M_read 28 = .ok (.iconst (-1), 1) := by decide +kernel
theorem d_M_read_29 : decode b_M_read 29 = .ok (.istore_n 1, 1) := by decide +kernel
theorem d_M_read_30 : decode b_M_read 30 = .ok (.iconst 0, 1) := by decide +kernel
theorem d_M_read_31 : decode b_M_read 31 = .ok (.istore_n 2, 1) := by decide +kernel
theorem d_M_read_32 : decode b_M_read 32 = .ok (.iload_n 2, 1) := by decide +kernel
theorem d_M_read_33 : decode b_M_read 33 = .ok (.aload_n 0, 1) := by decide +kernel
theorem d_M_read_34 : decode b_M_read 34 = .ok (.getfield 77, 3) := by decide +kernel
theorem d_M_read_37 : decode b_M_read 37 = .ok (.if_icmp .ge 113, 3) := by decide +kernel
theorem d_M_read_40 : decode b_M_read 40 = .ok (.iload_n 1, 1) := by decide +kernel
theorem d_M_read_41 : decode b_M_read 41 = .ok (.ifCond .ge 109, 3) := by decide +kernel
theorem d_M_read_44 : decode b_M_read 44 = .ok (.aload_n 0, 1) := by decide +kernel
theorem d_M_read_45 : decode b_M_read 45 = .ok (.iload_n 2, 1) := by decide +kernel
theorem d_M_read_46 : decode b_M_read 46 = .ok (.invokevirtual 88, 3) := by decide +kernel
theorem d_M_read_49 : decode b_M_read 49 = .ok (.ifCond .eq 7, 3) := by decide +kernel
theorem d_M_read_52 : decode b_M_read 52 = .ok (.iconst (-1), 1) := by decide +kernel
theorem d_M_read_53 : decode b_M_read 53 = .ok (.goto 4, 3) := by decide +kernel
theorem d_M_read_56 : decode b_M_read 56 = .ok (.iload_n 2, 1) := by decide +kernel
theorem d_M_read_57 : decode b_M_read 57 = .ok (.istore_n 1, 1) := by decide +kernel
theorem d_M_read_58 : decode b_M_read 58 = .ok (.iload_n 1, 1) := by decide +kernel
theorem d_M_read_59 : decode b_M_read 59 = .ok (.ifCond .ge 85, 3) := by decide +kernel
theorem d_M_read_62 : decode b_M_read 62 = .ok (.iload_n 2, 1) := by decide +kernel
theorem d_M_read_63 : decode b_M_read 63 = .ok (.iconst 4, 1) := by decide +kernel
theorem d_M_read_64 : decode b_M_read 64 = .ok (.irem, 1) := by decide +kernel
theorem d_M_read_65 : decode b_M_read 65 = .ok (.iconst 2, 1) := by decide +kernel
theorem d_M_read_66 : decode b_M_read 66 = .ok (.if_icmp .ne 78, 3) := by decide +kernel
theorem d_M_read_69 : decode b_M_read 69 = .ok (.aload_n 0, 1) := by decide +kernel
theorem d_M_read_70 : decode b_M_read 70 = .ok (.getfield 7, 3) := by decide +kernel
theorem d_M_read_73 : decode b_M_read 73 = .ok (.iload_n 2, 1) := by decide +kernel
theorem d_M_read_74 : decode b_M_read 74 = .ok (.iconst 2, 1) := by decide +kernel
theorem d_M_read_75 : decode b_M_read 75 = .ok (.isub, 1) := by decide +kernel
theorem d_M_read_76 : decode b_M_read 76 = .ok (.iaload, 1) := by decide +kernel
theorem d_M_read_77 : decode b_M_read 77 = .ok (.bipush 48, 2) := by decide +kernel
theorem d_M_read_79 : decode b_M_read 79 = .ok (.isub, 1) := by decide +kernel
theorem d_M_read_80 : decode b_M_read 80 = .ok (.istore_n 3, 1) := by decide +kernel
theorem d_M_read_81 : decode b_M_read 81 = .ok (.aload_n 0, 1) := by decide +kernel
theorem d_M_read_82 : decode b_M_read 82 = .ok (.getfield 7, 3) := by decide +kernel
theorem d_M_read_85 : decode b_M_read 85 = .ok (.iload_n 2, 1) := by decide +kernel
theorem d_M_read_86 : decode b_M_read 86 = .ok (.iconst 1, 1) := by decide +kernel
theorem d_M_read_87 : decode b_M_read 87 = .ok (.isub, 1) := by decide +kernel
theorem d_M_read_88 : decode b_M_read 88 = .ok (.iaload, 1) := by decide +kernel
theorem d_M_read_89 : decode b_M_read 89 = .ok (.bipush 48, 2) := by decide +kernel
theorem d_M_read_91 : decode b_M_read 91 = .ok (.isub, 1) := by decide +kernel
theorem d_M_read_92 : decode b_M_read 92 = .ok (.istore 4, 2) := by decide +kernel
theorem d_M_read_94 : decode b_M_read 94 = .ok (.aload_n 0, 1) := by decide +kernel
theorem d_M_read_95 : decode b_M_read 95 = .ok (.getfield 13, 3) := by decide +kernel
theorem d_M_read_98 : decode b_M_read 98 = .ok (.bipush 81, 2) := by decide +kernel
theorem d_M_read_100 : decode b_M_read 100 = .ok (.iload_n 3, 1) := by decide +kernel
theorem d_M_read_101 : decode b_M_read 101 = .ok (.iload 4, 2) := by decide +kernel
theorem d_M_read_103 : decode b_M_read 103 = .ok (.invokestatic 84, 3) := by decide +kernel
theorem d_M_read_106 : decode b_M_read 106 = .ok (.iadd, 1) := by decide +kernel
theorem d_M_read_107 : decode b_M_read 107 = .ok (.aload_n 0, 1) := by decide +kernel
theorem d_M_read_108 : decode b_M_read 108 = .ok (.getfield 7, 3) := by decide +kernel
theorem d_M_read_111 : decode b_M_read 111 = .ok (.iload_n 2, 1) := by decide +kernel
theorem d_M_read_112 : decode b_M_read 112 = .ok (.iaload, 1) := by decide +kernel
theorem d_M_read_113 : decode b_M_read 113 = .ok (.bipush 48, 2) := by decide +kernel
theorem d_M_read_115 : decode b_M_read 115 = .ok (.isub, 1) := by decide +kernel
theorem d_M_read_116 : decode b_M_read 116 = .ok (.iconst 1, 1) := by decide +kernel
theorem d_M_read_117 : decode b_M_read 117 = .ok (.iadd, 1) := by decide +kernel
theorem d_M_read_118 : decode b_M_read 118 = .ok (.iastore, 1) := by decide +kernel
theorem d_M_read_119 : decode b_M_read 119 = .ok (.aload_n 0, 1) := by decide +kernel
theorem d_M_read_120 : decode b_M_read 120 = .ok (.getfield 13, 3) := by decide +kernel
theorem d_M_read_123 : decode b_M_read 123 = .ok (.bipush 81, 2) := by decide +kernel
theorem d_M_read_125 : decode b_M_read 125 = .ok (.iload 4, 2) := by decide +kernel
theorem d_M_read_127 : decode b_M_read 127 = .ok (.iload_n 3, 1) := by decide +kernel
theorem d_M_read_128 : decode b_M_read 128 = .ok (.invokestatic 84, 3) := by decide +kernel
theorem d_M_read_131 : decode b_M_read 131 = .ok (.iadd, 1) := by decide +kernel
theorem d_M_read_132 : decode b_M_read 132 = .ok (.aload_n 0, 1) := by decide +kernel
theorem d_M_read_133 : decode b_M_read 133 = .ok (.getfield 7, 3) := by decide +kernel
theorem d_M_read_136 : decode b_M_read 136 = .ok (.iload_n 2, 1) := by decide +kernel
theorem d_M_read_137 : decode b_M_read 137 = .ok (.iaload, 1) := by decide +kernel
end
section
theorem d_M_read_138 : decode b_M_read 138 = .ok (.bipush 48, 2) := by decide +kernel
theorem d_M_read_140 : decode b_M_read 140 = .ok (.isub, 1) := by decide +kernel
theorem d_M_read_141 : decode b_M_read 141 = .ok (.iconst 1, 1) := by decide +kernel
theorem d_M_read_142 : decode b_M_read 142 = .ok (.iadd, 1) := by decide +kernel
theorem d_M_read_143 : decode b_M_read 143 = .ok (.iastore, 1) := by decide +kernel
theorem d_M_read_144 : decode b_M_read 144 = .ok (.iinc 2 1, 3) := by decide +kernel
theorem d_M_read_147 : decode b_M_read 147 = .ok (.goto (-115), 3) := by decide +kernel
theorem d_M_read_150 : decode b_M_read 150 = .ok (.iload_n 1, 1) := by decide +kernel
theorem d_M_read_151 : decode b_M_read 151 = .ok (.ifCond .ge 18, 3) := by decide +kernel
theorem d_M_read_154 : decode b_M_read 154 = .ok (.aload_n 0, 1) := by decide +kernel
theorem d_M_read_155 : decode b_M_read 155 = .ok (.getfield 77, 3) := by decide +kernel
theorem d_M_read_158 : decode b_M_read 158 = .ok (.sipush 180, 3) := by decide +kernel
theorem d_M_read_161 : decode b_M_read 161 = .ok (.if_icmp .eq 8, 3) := by decide +kernel
theorem d_M_read_164 : decode b_M_read 164 = .ok (.aload_n 0, 1) := by decide +kernel
theorem d_M_read_165 : decode b_M_read 165 = .ok (.getfield 77, 3) := by decide +kernel
theorem d_M_read_168 : decode b_M_read 168 = .ok (.istore_n 1, 1) := by decide +kernel
theorem d_M_read_169 : decode b_M_read 169 = .ok (.aload_n 0, 1) := by decide +kernel
theorem d_M_read_170 : decode b_M_read 170 = .ok (.iconst 0, 1) := by decide +kernel
theorem d_M_read_171 : decode b_M_read 171 = .ok (.putfield 77, 3) := by decide +kernel
theorem d_M_read_174 : decode b_M_read 174 = .ok (.iload_n 1, 1) := by decide +kernel
theorem d_M_read_175 : decode b_M_read 175 = .ok (.ifCond .lt 7, 3) := by decide +kernel
theorem d_M_read_178 : decode b_M_read 178 = .ok (.iconst (-1), 1) := by decide +kernel
theorem d_M_read_179 : decode b_M_read 179 = .ok (.iload_n 1, 1) := by decide +kernel
theorem d_M_read_180 : decode b_M_read 180 = .ok (.isub, 1) := by decide +kernel
theorem d_M_read_181 : decode b_M_read 181 = .ok (.ireturn, 1) := by decide +kernel
theorem d_M_read_182 : decode b_M_read 182 = .ok (.aload_n 0, 1) := by decide +kernel
theorem d_M_read_183 : decode b_M_read 183 = .ok (.iconst 1, 1) := by decide +kernel
theorem d_M_read_184 : decode b_M_read 184 = .ok (.putfield 91, 3) := by decide +kernel
theorem d_M_read_187 : decode b_M_read 187 = .ok (.iconst 0, 1) := by decide +kernel
theorem d_M_read_188 : decode b_M_read 188 = .ok (.istore_n 2, 1) := by decide +kernel
theorem d_M_read_189 : decode b_M_read 189 = .ok (.iload_n 2, 1) := by decide +kernel
theorem d_M_read_190 : decode b_M_read 190 = .ok (.bipush 81, 2) := by decide +kernel
theorem d_M_read_192 : decode b_M_read 192 = .ok (.if_icmp .ge 26, 3) := by decide +kernel
theorem d_M_read_195 : decode b_M_read 195 = .ok (.aload_n 0, 1) := by decide +kernel
theorem d_M_read_196 : decode b_M_read 196 = .ok (.getfield 13, 3) := by decide +kernel
theorem d_M_read_199 : decode b_M_read 199 = .ok (.iload_n 2, 1) := by decide +kernel
theorem d_M_read_200 : decode b_M_read 200 = .ok (.aload_n 0, 1) := by decide +kernel
theorem d_M_read_201 : decode b_M_read 201 = .ok (.getfield 13, 3) := by decide +kernel
theorem d_M_read_204 : decode b_M_read 204 = .ok (.bipush 81, 2) := by decide +kernel
theorem d_M_read_206 : decode b_M_read 206 = .ok (.iload_n 2, 1) := by decide +kernel
theorem d_M_read_207 : decode b_M_read 207 = .ok (.iadd, 1) := by decide +kernel
theorem d_M_read_208 : decode b_M_read 208 = .ok (.iaload, 1) := by decide +kernel
theorem d_M_read_209 : decode b_M_read 209 = .ok (.iconst 1, 1) := by decide +kernel
theorem d_M_read_210 : decode b_M_read 210 = .ok (.isub, 1) := by decide +kernel
theorem d_M_read_211 : decode b_M_read 211 = .ok (.iastore, 1) := by decide +kernel
theorem d_M_read_212 : decode b_M_read 212 = .ok (.iinc 2 1, 3) := by decide +kernel
theorem d_M_read_215 : decode b_M_read 215 = .ok (.goto (-26), 3) := by decide +kernel
theorem d_M_read_218 : decode b_M_read 218 = .ok (.bipush 45, 2) := by decide +kernel
theorem d_M_read_220 : decode b_M_read 220 = .ok (.ireturn, 1) := by decide +kernel
theorem d_M_stands_0 : decode b_M_stands 0 = .ok (.aload_n 0, 1) := by decide +kernel
theorem d_M_stands_1 : decode b_M_stands 1 = .ok (.getfield 7, 3) := by decide +kernel
theorem d_M_stands_4 : decode b_M_stands 4 = .ok (.iload_n 1, 1) := by decide +kernel
theorem d_M_stands_5 : decode b_M_stands 5 = .ok (.iaload, 1) := by decide +kernel
theorem d_M_stands_6 : decode b_M_stands 6 = .ok (.bipush 48, 2) := by decide +kernel
theorem d_M_stands_8 : decode b_M_stands 8 = .ok (.isub, 1) := by decide +kernel
theorem d_M_stands_9 : decode b_M_stands 9 = .ok (.istore_n 2, 1) := by decide +kernel
theorem d_M_stands_10 : decode b_M_stands 10 = .ok (.aload_n 0, 1) := by decide +kernel
theorem d_M_stands_11 : decode b_M_stands 11 = .ok (.getfield 7, 3) := by decide +kernel
theorem d_M_stands_14 : decode b_M_stands 14 = .ok (.iload_n 1, 1) := by decide +kernel
theorem d_M_stands_15 : decode b_M_stands 15 = .ok (.iload_n 1, 1) := by decide +kernel
theorem d_M_stands_16 : decode b_M_stands 16 = .ok (.iconst 4, 1) := by decide +kernel
theorem d_M_stands_17 : decode b_M_stands 17 = .ok (.irem, 1) := by decide +kernel
theorem d_M_stands_18 : decode b_M_stands 18 = .ok (.isub, 1) := by decide +kernel
theorem d_M_stands_19 : decode b_M_stands 19 = .ok (.iaload, 1) := by decide +kernel
theorem d_M_stands_20 : decode b_M_stands 20 = .ok (.bipush 48, 2) := by decide +kernel
theorem d_M_stands_22 : decode b_M_stands 22 = .ok (.isub, 1) := by decide +kernel
theorem d_M_stands_23 : decode b_M_stands 23 = .ok (.istore_n 3, 1) := by decide +kernel
theorem d_M_stands_24 : decode b_M_stands 24 = .ok (.iload_n 1, 1) := by decide +kernel
theorem d_M_stands_25 : decode b_M_stands 25 = .ok (.iconst 4, 1) := by decide +kernel
theorem d_M_stands_26 : decode b_M_stands 26 = .ok (.irem, 1) := by decide +kernel
theorem d_M_stands_27 : decode b_M_stands 27 = .ok (.tableswitch 77 0 2 #[25, 30, 70], 25) := by decide +kernel
theorem d_M_stands_52 : decode b_M_stands 52 = .ok (.iload_n 2, 1) := by decide +kernel
theorem d_M_stands_53 : decode b_M_stands 53 = .ok (.invokestatic 80, 3) := by decide +kernel
theorem d_M_stands_56 : decode b_M_stands 56 = .ok (.ireturn, 1) := by decide +kernel
theorem d_M_stands_57 : decode b_M_stands 57 = .ok (.iload_n 2, 1) := by decide +kernel
theorem d_M_stands_58 : decode b_M_stands 58 = .ok (.invokestatic 80, 3) := by decide +kernel
theorem d_M_stands_61 : decode b_M_stands 61 = .ok (.ifCond .eq 34, 3) := by decide +kernel
theorem d_M_stands_64 : decode b_M_stands 64 = .ok (.aload_n 0, 1) := by decide +kernel
theorem d_M_stands_65 : decode b_M_stands 65 = .ok (.getfield 13, 3) := by decide +kernel
theorem d_M_stands_68 : decode b_M_stands 68 = .ok (.bipush 81, 2) := by decide +kernel
theorem d_M_stands_70 : decode b_M_stands 70 = .ok (.iload_n 3, 1) := by decide +kernel
theorem d_M_stands_71 : decode b_M_stands 71 = .ok (.iload_n 2, 1) := by decide +kernel
theorem d_M_stands_72 : decode b_M_stands 72 = .ok (.invokestatic 80, 3) := by decide +kernel
theorem d_M_stands_75 : decode b_M_stands 75 = .ok (.ifCond .eq 7, 3) := by decide +kernel
theorem d_M_stands_78 : decode b_M_stands 78 = .ok (.iload_n 2, 1) := by decide +kernel
theorem d_M_stands_79 : decode b_M_stands 79 = .ok (.goto 4, 3) := by decide +kernel
theorem d_M_stands_82 : decode b_M_stands 82 = .ok (.iconst 1, 1) := by decide +kernel
theorem d_M_stands_83 : decode b_M_stands 83 = .ok (.invokestatic 84, 3) := by decide +kernel
theorem d_M_stands_86 : decode b_M_stands 86 = .ok (.iadd, 1) := by decide +kernel
theorem d_M_stands_87 : decode b_M_stands 87 = .ok (.iaload, 1) := by decide +kernel
theorem d_M_stands_88 : decode b_M_stands 88 = .ok (.ifCond .ne 7, 3) := by decide +kernel
theorem d_M_stands_91 : decode b_M_stands 91 = .ok (.iconst 1, 1) := by decide +kernel
theorem d_M_stands_92 : decode b_M_stands 92 = .ok (.goto 4, 3) := by decide +kernel
theorem d_M_stands_95 : decode b_M_stands 95 = .ok (.iconst 0, 1) := by decide +kernel
theorem d_M_stands_96 : decode b_M_stands 96 = .ok (.ireturn, 1) := by decide +kernel
theorem d_M_stands_97 : decode b_M_stands 97 = .ok (.iload_n 2, 1) := by decide +kernel
theorem d_M_stands_98 : decode b_M_stands 98 = .ok (.iconst 0, 1) := by decide +kernel
theorem d_M_stands_99 : decode b_M_stands 99 = .ok (.iconst 4, 1) := by decide +kernel
theorem d_M_stands_100 : decode b_M_stands 100 = .ok (.invokestatic 73, 3) := by decide +kernel
theorem d_M_stands_103 : decode b_M_stands 103 = .ok (.ireturn, 1) := by decide +kernel
theorem d_M_stands_104 : decode b_M_stands 104 = .ok (.aload_n 0, 1) := by decide +kernel
theorem d_M_stands_105 : decode b_M_stands 105 = .ok (.getfield 7, 3) := by decide +kernel
theorem d_M_stands_108 : decode b_M_stands 108 = .ok (.iload_n 1, 1) := by decide +kernel
theorem d_M_stands_109 : decode b_M_stands 109 = .ok (.iaload, 1) := by decide +kernel
theorem d_M_stands_110 : decode b_M_stands 110 = .ok (.bipush 59, 2) := by decide +kernel
theorem d_M_stands_112 : decode b_M_stands 112 = .ok (.if_icmp .ne 7, 3) := by decide +kernel
theorem d_M_stands_115 : decode b_M_stands 115 = .ok (.iconst 1, 1) := by decide +kernel
theorem d_M_stands_116 : decode b_M_stands 116 = .ok (.goto 4, 3) := by decide +kernel
theorem d_M_stands_119 : decode b_M_stands 119 = .ok (.iconst 0, 1) := by decide +kernel
theorem d_M_stands_120 : decode b_M_stands 120 = .ok (.ireturn, 1) := by decide +kernel
theorem d_M_isClass_0 : decode b_M_isClass 0 = .ok (.iload_n 0, 1) := by decide +kernel
theorem d_M_isClass_1 : decode b_M_isClass 1 = .ok (.iconst 1, 1) := by decide +kernel
theorem d_M_isClass_2 : decode b_M_isClass 2 = .ok (.if_icmp .lt 13, 3) := by decide +kernel
theorem d_M_isClass_5 : decode b_M_isClass 5 = .ok (.iload_n 0, 1) := by decide +kernel
theorem d_M_isClass_6 : decode b_M_isClass 6 = .ok (.bipush 9, 2) := by decide +kernel
theorem d_M_isClass_8 : decode b_M_isClass 8 = .ok (.if_icmp .gt 7, 3) := by decide +kernel
theorem d_M_isClass_11 : decode b_M_isClass 11 = .ok (.iconst 1, 1) := by decide +kernel
theorem d_M_isClass_12 : decode b_M_isClass 12 = .ok (.goto 4, 3) := by decide +kernel
theorem d_M_isClass_15 : decode b_M_isClass 15 = .ok (.iconst 0, 1) := by decide +kernel
theorem d_M_isClass_16 : decode b_M_isClass 16 = .ok (.ireturn, 1) := by decide +kernel
theorem d_M_pair_0 : decode b_M_pair 0 = .ok (.bipush 9, 2) := by decide +kernel
theorem d_M_pair_2 : decode b_M_pair 2 = .ok (.iload_n 0, 1) := by decide +kernel
theorem d_M_pair_3 : decode b_M_pair 3 = .ok (.iconst 1, 1) := by decide +kernel
theorem d_M_pair_4 : decode b_M_pair 4 = .ok (.isub, 1) := by decide +kernel
theorem d_M_pair_5 : decode b_M_pair 5 = .ok (.imul, 1) := by decide +kernel
theorem d_M_pair_6 : decode b_M_pair 6 = .ok (.iload_n 1, 1) := by decide +kernel
theorem d_M_pair_7 : decode b_M_pair 7 = .ok (.iadd, 1) := by decide +kernel
theorem d_M_pair_8 : decode b_M_pair 8 = .ok (.iconst 1, 1) := by decide +kernel
theorem d_M_pair_9 : decode b_M_pair 9 = .ok (.isub, 1) := by decide +kernel
theorem d_M_pair_10 : decode b_M_pair 10 = .ok (.ireturn, 1) := by decide +kernel
theorem d_M_rule_0 : decode b_M_rule 0 = .ok (.aload_n 0, 1) := by decide +kernel
theorem d_M_rule_1 : decode b_M_rule 1 = .ok (.iload_n 1, 1) := by decide +kernel
theorem d_M_rule_2 : decode b_M_rule 2 = .ok (.invokestatic 80, 3) := by decide +kernel
theorem d_M_rule_5 : decode b_M_rule 5 = .ok (.ifCond .eq 14, 3) := by decide +kernel
theorem d_M_rule_8 : decode b_M_rule 8 = .ok (.iload_n 2, 1) := by decide +kernel
theorem d_M_rule_9 : decode b_M_rule 9 = .ok (.invokestatic 80, 3) := by decide +kernel
theorem d_M_rule_12 : decode b_M_rule 12 = .ok (.ifCond .eq 7, 3) := by decide +kernel
theorem d_M_rule_15 : decode b_M_rule 15 = .ok (.iconst 0, 1) := by decide +kernel
theorem d_M_rule_16 : decode b_M_rule 16 = .ok (.goto 4, 3) := by decide +kernel
theorem d_M_rule_19 : decode b_M_rule 19 = .ok (.iconst 1, 1) := by decide +kernel
theorem d_M_rule_20 : decode b_M_rule 20 = .ok (.putfield 63, 3) := by decide +kernel
theorem d_M_rule_23 : decode b_M_rule 23 = .ok (.aload_n 0, 1) := by decide +kernel
theorem d_M_rule_24 : decode b_M_rule 24 = .ok (.getfield 63, 3) := by decide +kernel
theorem d_M_rule_27 : decode b_M_rule 27 = .ok (.ifCond .le 7, 3) := by decide +kernel
theorem d_M_rule_30 : decode b_M_rule 30 = .ok (.iconst 0, 1) := by decide +kernel
theorem d_M_rule_31 : decode b_M_rule 31 = .ok (.goto 13, 3) := by decide +kernel
theorem d_M_rule_34 : decode b_M_rule 34 = .ok (.aload_n 0, 1) := by decide +kernel
theorem d_M_rule_35 : decode b_M_rule 35 = .ok (.getfield 13, 3) := by decide +kernel
theorem d_M_rule_38 : decode b_M_rule 38 = .ok (.iload_n 1, 1) := by decide +kernel
theorem d_M_rule_39 : decode b_M_rule 39 = .ok (.iload_n 2, 1) := by decide +kernel
theorem d_M_rule_40 : decode b_M_rule 40 = .ok (.invokestatic 84, 3) := by decide +kernel
theorem d_M_rule_43 : decode b_M_rule 43 = .ok (.iaload, 1) := by decide +kernel
theorem d_M_rule_44 : decode b_M_rule 44 = .ok (.ireturn, 1) := by decide +kernel
theorem d_M_good_0 : decode b_M_good 0 = .ok (.iload_n 1, 1) := by decide +kernel
theorem d_M_good_1 : decode b_M_good 1 = .ok (.invokestatic 80, 3) := by decide +kernel
theorem d_M_good_4 : decode b_M_good 4 = .ok (.ifCond .eq 39, 3) := by decide +kernel
theorem d_M_good_7 : decode b_M_good 7 = .ok (.iload_n 2, 1) := by decide +kernel
theorem d_M_good_8 : decode b_M_good 8 = .ok (.iconst 0, 1) := by decide +kernel
theorem d_M_good_9 : decode b_M_good 9 = .ok (.bipush 9, 2) := by decide +kernel
theorem d_M_good_11 : decode b_M_good 11 = .ok (.invokestatic 73, 3) := by decide +kernel
theorem d_M_good_14 : decode b_M_good 14 = .ok (.ifCond .eq 29, 3) := by decide +kernel
theorem d_M_good_17 : decode b_M_good 17 = .ok (.iload_n 2, 1) := by decide +kernel
theorem d_M_good_18 : decode b_M_good 18 = .ok (.iload_n 1, 1) := by decide +kernel
theorem d_M_good_19 : decode b_M_good 19 = .ok (.if_icmp .eq 24, 3) := by decide +kernel
theorem d_M_good_22 : decode b_M_good 22 = .ok (.iload_n 3, 1) := by decide +kernel
theorem d_M_good_23 : decode b_M_good 23 = .ok (.iconst 1, 1) := by decide +kernel
theorem d_M_good_24 : decode b_M_good 24 = .ok (.iconst 3, 1) := by decide +kernel
theorem d_M_good_25 : decode b_M_good 25 = .ok (.invokestatic 73, 3) := by decide +kernel
theorem d_M_good_28 : decode b_M_good 28 = .ok (.ifCond .eq 15, 3) := by decide +kernel
theorem d_M_good_31 : decode b_M_good 31 = .ok (.iload 4, 2) := by decide +kernel
theorem d_M_good_33 : decode b_M_good 33 = .ok (.iconst 0, 1) := by decide +kernel
theorem d_M_good_34 : decode b_M_good 34 = .ok (.sipush 1000, 3) := by decide +kernel
theorem d_M_good_37 : decode b_M_good 37 = .ok (.invokestatic 73, 3) := by decide +kernel
theorem d_M_good_40 : decode b_M_good 40 = .ok (.ifCond .ne 9, 3) := by decide +kernel
theorem d_M_good_43 : decode b_M_good 43 = .ok (.aload_n 0, 1) := by decide +kernel
theorem d_M_good_44 : decode b_M_good 44 = .ok (.iconst 1, 1) := by decide +kernel
theorem d_M_good_45 : decode b_M_good 45 = .ok (.invokevirtual 95, 3) := by decide +kernel
theorem d_M_good_48 : decode b_M_good 48 = .ok (.ireturn, 1) := by decide +kernel
theorem d_M_good_49 : decode b_M_good 49 = .ok (.aload_n 0, 1) := by decide +kernel
theorem d_M_good_50 : decode b_M_good 50 = .ok (.getfield 67, 3) := by decide +kernel
theorem d_M_good_53 : decode b_M_good 53 = .ok (.bipush 16, 2) := by decide +kernel
theorem d_M_good_55 : decode b_M_good 55 = .ok (.if_icmp .ne 9, 3) := by decide +kernel
theorem d_M_good_58 : decode b_M_good 58 = .ok (.aload_n 0, 1) := by decide +kernel
theorem d_M_good_59 : decode b_M_good 59 = .ok (.iconst 2, 1) := by decide +kernel
theorem d_M_good_60 : decode b_M_good 60 = .ok (.invokevirtual 95, 3) := by decide +kernel
theorem d_M_good_63 : decode b_M_good 63 = .ok (.ireturn, 1) := by decide +kernel
theorem d_M_good_64 : decode b_M_good 64 = .ok (.aload_n 0, 1) := by decide +kernel
theorem d_M_good_65 : decode b_M_good 65 = .ok (.iconst 0, 1) := by decide +kernel
theorem d_M_good_66 : decode b_M_good 66 = .ok (.putfield 63, 3) := by decide +kernel
theorem d_M_good_69 : decode b_M_good 69 = .ok (.aload_n 0, 1) := by decide +kernel
theorem d_M_good_70 : decode b_M_good 70 = .ok (.getfield 16, 3) := by decide +kernel
theorem d_M_good_73 : decode b_M_good 73 = .ok (.aload_n 0, 1) := by decide +kernel
theorem d_M_good_74 : decode b_M_good 74 = .ok (.getfield 67, 3) := by decide +kernel
theorem d_M_good_77 : decode b_M_good 77 = .ok (.iload_n 1, 1) := by decide +kernel
theorem d_M_good_78 : decode b_M_good 78 = .ok (.iastore, 1) := by decide +kernel
theorem d_M_good_79 : decode b_M_good 79 = .ok (.aload_n 0, 1) := by decide +kernel
theorem d_M_good_80 : decode b_M_good 80 = .ok (.getfield 19, 3) := by decide +kernel
theorem d_M_good_83 : decode b_M_good 83 = .ok (.aload_n 0, 1) := by decide +kernel
theorem d_M_good_84 : decode b_M_good 84 = .ok (.getfield 67, 3) := by decide +kernel
theorem d_M_good_87 : decode b_M_good 87 = .ok (.iload_n 2, 1) := by decide +kernel
theorem d_M_good_88 : decode b_M_good 88 = .ok (.iastore, 1) := by decide +kernel
theorem d_M_good_89 : decode b_M_good 89 = .ok (.aload_n 0, 1) := by decide +kernel
theorem d_M_good_90 : decode b_M_good 90 = .ok (.getfield 22, 3) := by decide +kernel
theorem d_M_good_93 : decode b_M_good 93 = .ok (.aload_n 0, 1) := by decide +kernel
theorem d_M_good_94 : decode b_M_good 94 = .ok (.getfield 67, 3) := by decide +kernel
theorem d_M_good_97 : decode b_M_good 97 = .ok (.iload_n 3, 1) := by decide +kernel
theorem d_M_good_98 : decode b_M_good 98 = .ok (.iastore, 1) := by decide +kernel
theorem d_M_good_99 : decode b_M_good 99 = .ok (.aload_n 0, 1) := by decide +kernel
theorem d_M_good_100 : decode b_M_good 100 = .ok (.getfield 25, 3) := by decide +kernel
theorem d_M_good_103 : decode b_M_good 103 = .ok (.aload_n 0, 1) := by decide +kernel
theorem d_M_good_104 : decode b_M_good 104 = .ok (.getfield 67, 3) := by decide +kernel
theorem d_M_good_107 : decode b_M_good 107 = .ok (.iload 4, 2) := by decide +kernel
theorem d_M_good_109 : decode b_M_good 109 = .ok (.iastore, 1) := by decide +kernel
theorem d_M_good_110 : decode b_M_good 110 = .ok (.aload_n 0, 1) := by decide +kernel
theorem d_M_good_111 : decode b_M_good 111 = .ok (.getfield 28, 3) := by decide +kernel
theorem d_M_good_114 : decode b_M_good 114 = .ok (.aload_n 0, 1) := by decide +kernel
theorem d_M_good_115 : decode b_M_good 115 = .ok (.getfield 67, 3) := by decide +kernel
theorem d_M_good_118 : decode b_M_good 118 = .ok (.iload 5, 2) := by decide +kernel
theorem d_M_good_120 : decode b_M_good 120 = .ok (.bastore, 1) := by decide +kernel
theorem d_M_good_121 : decode b_M_good 121 = .ok (.aload_n 0, 1) := by decide +kernel
theorem d_M_good_122 : decode b_M_good 122 = .ok (.getfield 32, 3) := by decide +kernel
theorem d_M_good_125 : decode b_M_good 125 = .ok (.aload_n 0, 1) := by decide +kernel
theorem d_M_good_126 : decode b_M_good 126 = .ok (.getfield 67, 3) := by decide +kernel
theorem d_M_good_129 : decode b_M_good 129 = .ok (.iload 6, 2) := by decide +kernel
theorem d_M_good_131 : decode b_M_good 131 = .ok (.bastore, 1) := by decide +kernel
theorem d_M_good_132 : decode b_M_good 132 = .ok (.aload_n 0, 1) := by decide +kernel
theorem d_M_good_133 : decode b_M_good 133 = .ok (.dup, 1) := by decide +kernel
theorem d_M_good_134 : decode b_M_good 134 = .ok (.getfield 67, 3) := by decide +kernel
theorem d_M_good_137 : decode b_M_good 137 = .ok (.iconst 1, 1) := by decide +kernel
theorem d_M_good_138 : decode b_M_good 138 = .ok (.iadd, 1) := by decide +kernel
theorem d_M_good_139 : decode b_M_good 139 = .ok (.putfield 67, 3) := by decide +kernel
theorem d_M_good_142 : decode b_M_good 142 = .ok (.aload_n 0, 1) := by decide +kernel
theorem d_M_good_143 : decode b_M_good 143 = .ok (.getfield 67, 3) := by decide +kernel
theorem d_M_good_146 : decode b_M_good 146 = .ok (.iconst 1, 1) := by decide +kernel
theorem d_M_good_147 : decode b_M_good 147 = .ok (.isub, 1) := by decide +kernel
theorem d_M_good_148 : decode b_M_good 148 = .ok (.ireturn, 1) := by decide +kernel
theorem d_M_refuse_0 : decode b_M_refuse 0 = .ok (.aload_n 0, 1) := by decide +kernel
theorem d_M_refuse_1 : decode b_M_refuse 1 = .ok (.iload_n 1, 1) := by decide +kernel
theorem d_M_refuse_2 : decode b_M_refuse 2 = .ok (.putfield 63, 3) := by decide +kernel
theorem d_M_refuse_5 : decode b_M_refuse 5 = .ok (.iconst 0, 1) := by decide +kernel
theorem d_M_refuse_6 : decode b_M_refuse 6 = .ok (.ireturn, 1) := by decide +kernel
theorem d_M_exempt_0 : decode b_M_exempt 0 = .ok (.aload_n 0, 1) := by decide +kernel
theorem d_M_exempt_1 : decode b_M_exempt 1 = .ok (.iconst 0, 1) := by decide +kernel
theorem d_M_exempt_2 : decode b_M_exempt 2 = .ok (.putfield 63, 3) := by decide +kernel
theorem d_M_exempt_5 : decode b_M_exempt 5 = .ok (.aload_n 0, 1) := by decide +kernel
theorem d_M_exempt_6 : decode b_M_exempt 6 = .ok (.iload_n 1, 1) := by decide +kernel
theorem d_M_exempt_7 : decode b_M_exempt 7 = .ok (.invokevirtual 99, 3) := by decide +kernel
theorem d_M_exempt_10 : decode b_M_exempt 10 = .ok (.ifCond .eq 35, 3) := by decide +kernel
theorem d_M_exempt_13 : decode b_M_exempt 13 = .ok (.iload_n 2, 1) := by decide +kernel
theorem d_M_exempt_14 : decode b_M_exempt 14 = .ok (.invokestatic 80, 3) := by decide +kernel
theorem d_M_exempt_17 : decode b_M_exempt 17 = .ok (.ifCond .eq 28, 3) := by decide +kernel
theorem d_M_exempt_20 : decode b_M_exempt 20 = .ok (.iload_n 3, 1) := by decide +kernel
theorem d_M_exempt_21 : decode b_M_exempt 21 = .ok (.invokestatic 80, 3) := by decide +kernel
theorem d_M_exempt_24 : decode b_M_exempt 24 = .ok (.ifCond .eq 21, 3) := by decide +kernel
theorem d_M_exempt_27 : decode b_M_exempt 27 = .ok (.aload_n 0, 1) := by decide +kernel
theorem d_M_exempt_28 : decode b_M_exempt 28 = .ok (.getfield 35, 3) := by decide +kernel
theorem d_M_exempt_31 : decode b_M_exempt 31 = .ok (.bipush 81, 2) := by decide +kernel
theorem d_M_exempt_33 : decode b_M_exempt 33 = .ok (.iload_n 1, 1) := by decide +kernel
theorem d_M_exempt_34 : decode b_M_exempt 34 = .ok (.imul, 1) := by decide +kernel
theorem d_M_exempt_35 : decode b_M_exempt 35 = .ok (.iload_n 2, 1) := by decide +kernel
theorem d_M_exempt_36 : decode b_M_exempt 36 = .ok (.iload_n 3, 1) := by decide +kernel
theorem d_M_exempt_37 : decode b_M_exempt 37 = .ok (.invokestatic 84, 3) := by decide +kernel
theorem d_M_exempt_40 : decode b_M_exempt 40 = .ok (.iadd, 1) := by decide +kernel
theorem d_M_exempt_41 : decode b_M_exempt 41 = .ok (.baload, 1) := by decide +kernel
theorem d_M_exempt_42 : decode b_M_exempt 42 = .ok (.ifCond .eq 5, 3) := by decide +kernel
theorem d_M_exempt_45 : decode b_M_exempt 45 = .ok (.iconst 0, 1) := by decide +kernel
theorem d_M_exempt_46 : decode b_M_exempt 46 = .ok (.ireturn, 1) := by decide +kernel
theorem d_M_exempt_47 : decode b_M_exempt 47 = .ok (.aload_n 0, 1) := by decide +kernel
theorem d_M_exempt_48 : decode b_M_exempt 48 = .ok (.getfield 35, 3) := by decide +kernel
theorem d_M_exempt_51 : decode b_M_exempt 51 = .ok (.bipush 81, 2) := by decide +kernel
theorem d_M_exempt_53 : decode b_M_exempt 53 = .ok (.iload_n 1, 1) := by decide +kernel
theorem d_M_exempt_54 : decode b_M_exempt 54 = .ok (.imul, 1) := by decide +kernel
theorem d_M_exempt_55 : decode b_M_exempt 55 = .ok (.iload_n 2, 1) := by decide +kernel
theorem d_M_exempt_56 : decode b_M_exempt 56 = .ok (.iload_n 3, 1) := by decide +kernel
theorem d_M_exempt_57 : decode b_M_exempt 57 = .ok (.invokestatic 84, 3) := by decide +kernel
theorem d_M_exempt_60 : decode b_M_exempt 60 = .ok (.iadd, 1) := by decide +kernel
theorem d_M_exempt_61 : decode b_M_exempt 61 = .ok (.iconst 1, 1) := by decide +kernel
theorem d_M_exempt_62 : decode b_M_exempt 62 = .ok (.bastore, 1) := by decide +kernel
theorem d_M_exempt_63 : decode b_M_exempt 63 = .ok (.aload_n 0, 1) := by decide +kernel
theorem d_M_exempt_64 : decode b_M_exempt 64 = .ok (.getfield 35, 3) := by decide +kernel
theorem d_M_exempt_67 : decode b_M_exempt 67 = .ok (.bipush 81, 2) := by decide +kernel
theorem d_M_exempt_69 : decode b_M_exempt 69 = .ok (.iload_n 1, 1) := by decide +kernel
theorem d_M_exempt_70 : decode b_M_exempt 70 = .ok (.imul, 1) := by decide +kernel
theorem d_M_exempt_71 : decode b_M_exempt 71 = .ok (.iload_n 3, 1) := by decide +kernel
theorem d_M_exempt_72 : decode b_M_exempt 72 = .ok (.iload_n 2, 1) := by decide +kernel
theorem d_M_exempt_73 : decode b_M_exempt 73 = .ok (.invokestatic 84, 3) := by decide +kernel
theorem d_M_exempt_76 : decode b_M_exempt 76 = .ok (.iadd, 1) := by decide +kernel
theorem d_M_exempt_77 : decode b_M_exempt 77 = .ok (.iconst 1, 1) := by decide +kernel
theorem d_M_exempt_78 : decode b_M_exempt 78 = .ok (.bastore, 1) := by decide +kernel
theorem d_M_exempt_79 : decode b_M_exempt 79 = .ok (.iconst 1, 1) := by decide +kernel
theorem d_M_exempt_80 : decode b_M_exempt 80 = .ok (.ireturn, 1) := by decide +kernel
theorem d_M_isGood_0 : decode b_M_isGood 0 = .ok (.iload_n 1, 1) := by decide +kernel
theorem d_M_isGood_1 : decode b_M_isGood 1 = .ok (.ifCond .lt 15, 3) := by decide +kernel
theorem d_M_isGood_4 : decode b_M_isGood 4 = .ok (.iload_n 1, 1) := by decide +kernel
theorem d_M_isGood_5 : decode b_M_isGood 5 = .ok (.aload_n 0, 1) := by decide +kernel
theorem d_M_isGood_6 : decode b_M_isGood 6 = .ok (.getfield 67, 3) := by decide +kernel
theorem d_M_isGood_9 : decode b_M_isGood 9 = .ok (.if_icmp .ge 7, 3) := by decide +kernel
theorem d_M_isGood_12 : decode b_M_isGood 12 = .ok (.iconst 1, 1) := by decide +kernel
theorem d_M_isGood_13 : decode b_M_isGood 13 = .ok (.goto 4, 3) := by decide +kernel
theorem d_M_isGood_16 : decode b_M_isGood 16 = .ok (.iconst 0, 1) := by decide +kernel
theorem d_M_isGood_17 : decode b_M_isGood 17 = .ok (.ireturn, 1) := by decide +kernel
theorem d_M_box_0 : decode b_M_box 0 = .ok (.aload_n 0, 1) := by decide +kernel
theorem d_M_box_1 : decode b_M_box 1 = .ok (.iload_n 1, 1) := by decide +kernel
theorem d_M_box_2 : decode b_M_box 2 = .ok (.invokevirtual 99, 3) := by decide +kernel
theorem d_M_box_5 : decode b_M_box 5 = .ok (.ifCond .eq 14, 3) := by decide +kernel
theorem d_M_box_8 : decode b_M_box 8 = .ok (.iload_n 2, 1) := by decide +kernel
theorem d_M_box_9 : decode b_M_box 9 = .ok (.iconst 1, 1) := by decide +kernel
theorem d_M_box_10 : decode b_M_box 10 = .ok (.sipush 30000, 3) := by decide +kernel
theorem d_M_box_13 : decode b_M_box 13 = .ok (.invokestatic 73, 3) := by decide +kernel
theorem d_M_box_16 : decode b_M_box 16 = .ok (.ifCond .ne 9, 3) := by decide +kernel
theorem d_M_box_19 : decode b_M_box 19 = .ok (.aload_n 0, 1) := by decide +kernel
theorem d_M_box_20 : decode b_M_box 20 = .ok (.iconst 1, 1) := by decide +kernel
theorem d_M_box_21 : decode b_M_box 21 = .ok (.invokevirtual 95, 3) := by decide +kernel
theorem d_M_box_24 : decode b_M_box 24 = .ok (.ireturn, 1) := by decide +kernel
theorem d_M_box_25 : decode b_M_box 25 = .ok (.aload_n 0, 1) := by decide +kernel
theorem d_M_box_26 : decode b_M_box 26 = .ok (.getfield 70, 3) := by decide +kernel
theorem d_M_box_29 : decode b_M_box 29 = .ok (.bipush 12, 2) := by decide +kernel
theorem d_M_box_31 : decode b_M_box 31 = .ok (.if_icmp .ne 9, 3) := by decide +kernel
theorem d_M_box_34 : decode b_M_box 34 = .ok (.aload_n 0, 1) := by decide +kernel
theorem d_M_box_35 : decode b_M_box 35 = .ok (.iconst 2, 1) := by decide +kernel
theorem d_M_box_36 : decode b_M_box 36 = .ok (.invokevirtual 95, 3) := by decide +kernel
theorem d_M_box_39 : decode b_M_box 39 = .ok (.ireturn, 1) := by decide +kernel
theorem d_M_box_40 : decode b_M_box 40 = .ok (.aload_n 0, 1) := by decide +kernel
theorem d_M_box_41 : decode b_M_box 41 = .ok (.iconst 0, 1) := by decide +kernel
theorem d_M_box_42 : decode b_M_box 42 = .ok (.putfield 63, 3) := by decide +kernel
theorem d_M_box_45 : decode b_M_box 45 = .ok (.aload_n 0, 1) := by decide +kernel
theorem d_M_box_46 : decode b_M_box 46 = .ok (.aload_n 0, 1) := by decide +kernel
theorem d_M_box_47 : decode b_M_box 47 = .ok (.getfield 70, 3) := by decide +kernel
theorem d_M_box_50 : decode b_M_box 50 = .ok (.iload_n 1, 1) := by decide +kernel
theorem d_M_box_51 : decode b_M_box 51 = .ok (.iload_n 2, 1) := by decide +kernel
theorem d_M_box_52 : decode b_M_box 52 = .ok (.invokevirtual 102, 3) := by decide +kernel
theorem d_M_box_55 : decode b_M_box 55 = .ok (.aload_n 0, 1) := by decide +kernel
theorem d_M_box_56 : decode b_M_box 56 = .ok (.dup, 1) := by decide +kernel
theorem d_M_box_57 : decode b_M_box 57 = .ok (.getfield 70, 3) := by decide +kernel
theorem d_M_box_60 : decode b_M_box 60 = .ok (.iconst 1, 1) := by decide +kernel
theorem d_M_box_61 : decode b_M_box 61 = .ok (.iadd, 1) := by decide +kernel
theorem d_M_box_62 : decode b_M_box 62 = .ok (.putfield 70, 3) := by decide +kernel
theorem d_M_box_65 : decode b_M_box 65 = .ok (.aload_n 0, 1) := by decide +kernel
theorem d_M_box_66 : decode b_M_box 66 = .ok (.getfield 70, 3) := by decide +kernel
theorem d_M_box_69 : decode b_M_box 69 = .ok (.iconst 1, 1) := by decide +kernel
theorem d_M_box_70 : decode b_M_box 70 = .ok (.isub, 1) := by decide +kernel
theorem d_M_box_71 : decode b_M_box 71 = .ok (.ireturn, 1) := by decide +kernel
theorem d_M_adds_0 : decode b_M_adds 0 = .ok (.aload_n 0, 1) := by decide +kernel
theorem d_M_adds_1 : decode b_M_adds 1 = .ok (.getfield 53, 3) := by decide +kernel
theorem d_M_adds_4 : decode b_M_adds 4 = .ok (.iconst 4, 1) := by decide +kernel
theorem d_M_adds_5 : decode b_M_adds 5 = .ok (.iload_n 1, 1) := by decide +kernel
theorem d_M_adds_6 : decode b_M_adds 6 = .ok (.imul, 1) := by decide +kernel
theorem d_M_adds_7 : decode b_M_adds 7 = .ok (.aload_n 0, 1) := by decide +kernel
theorem d_M_adds_8 : decode b_M_adds 8 = .ok (.getfield 38, 3) := by decide +kernel
theorem d_M_adds_11 : decode b_M_adds 11 = .ok (.iload_n 1, 1) := by decide +kernel
theorem d_M_adds_12 : decode b_M_adds 12 = .ok (.iaload, 1) := by decide +kernel
theorem d_M_adds_13 : decode b_M_adds 13 = .ok (.iadd, 1) := by decide +kernel
theorem d_M_adds_14 : decode b_M_adds 14 = .ok (.iload_n 2, 1) := by decide +kernel
theorem d_M_adds_15 : decode b_M_adds 15 = .ok (.iastore, 1) := by decide +kernel
theorem d_M_adds_16 : decode b_M_adds 16 = .ok (.aload_n 0, 1) := by decide +kernel
theorem d_M_adds_17 : decode b_M_adds 17 = .ok (.getfield 56, 3) := by decide +kernel
theorem d_M_adds_20 : decode b_M_adds 20 = .ok (.iconst 4, 1) := by decide +kernel
theorem d_M_adds_21 : decode b_M_adds 21 = .ok (.iload_n 1, 1) := by decide +kernel
theorem d_M_adds_22 : decode b_M_adds 22 = .ok (.imul, 1) := by decide +kernel
theorem d_M_adds_23 : decode b_M_adds 23 = .ok (.aload_n 0, 1) := by decide +kernel
theorem d_M_adds_24 : decode b_M_adds 24 = .ok (.getfield 38, 3) := by decide +kernel
theorem d_M_adds_27 : decode b_M_adds 27 = .ok (.iload_n 1, 1) := by decide +kernel
theorem d_M_adds_28 : decode b_M_adds 28 = .ok (.iaload, 1) := by decide +kernel
theorem d_M_adds_29 : decode b_M_adds 29 = .ok (.iadd, 1) := by decide +kernel
theorem d_M_adds_30 : decode b_M_adds 30 = .ok (.iload_n 3, 1) := by decide +kernel
theorem d_M_adds_31 : decode b_M_adds 31 = .ok (.iastore, 1) := by decide +kernel
theorem d_M_adds_32 : decode b_M_adds 32 = .ok (.aload_n 0, 1) := by decide +kernel
theorem d_M_adds_33 : decode b_M_adds 33 = .ok (.getfield 38, 3) := by decide +kernel
theorem d_M_adds_36 : decode b_M_adds 36 = .ok (.iload_n 1, 1) := by decide +kernel
theorem d_M_adds_37 : decode b_M_adds 37 = .ok (.dup2, 1) := by decide +kernel
theorem d_M_adds_38 : decode b_M_adds 38 = .ok (.iaload, 1) := by decide +kernel
theorem d_M_adds_39 : decode b_M_adds 39 = .ok (.iconst 1, 1) := by decide +kernel
theorem d_M_adds_40 : decode b_M_adds 40 = .ok (.iadd, 1) := by decide +kernel
theorem d_M_adds_41 : decode b_M_adds 41 = .ok (.iastore, 1) := by decide +kernel
theorem d_M_adds_42 : decode b_M_adds 42 = .ok (.return_, 1) := by decide +kernel
theorem d_M_also_0 : decode b_M_also 0 = .ok (.aload_n 0, 1) := by decide +kernel
theorem d_M_also_1 : decode b_M_also 1 = .ok (.iload_n 1, 1) := by decide +kernel
theorem d_M_also_2 : decode b_M_also 2 = .ok (.invokevirtual 106, 3) := by decide +kernel
theorem d_M_also_5 : decode b_M_also 5 = .ok (.ifCond .eq 31, 3) := by decide +kernel
theorem d_M_also_8 : decode b_M_also 8 = .ok (.aload_n 0, 1) := by decide +kernel
theorem d_M_also_9 : decode b_M_also 9 = .ok (.iload_n 2, 1) := by decide +kernel
theorem d_M_also_10 : decode b_M_also 10 = .ok (.invokevirtual 99, 3) := by decide +kernel
theorem d_M_also_13 : decode b_M_also 13 = .ok (.ifCond .eq 23, 3) := by decide +kernel
theorem d_M_also_16 : decode b_M_also 16 = .ok (.iload_n 3, 1) := by decide +kernel
theorem d_M_also_17 : decode b_M_also 17 = .ok (.iconst 1, 1) := by decide +kernel
theorem d_M_also_18 : decode b_M_also 18 = .ok (.sipush 30000, 3) := by decide +kernel
theorem d_M_also_21 : decode b_M_also 21 = .ok (.invokestatic 73, 3) := by decide +kernel
theorem d_M_also_24 : decode b_M_also 24 = .ok (.ifCond .eq 12, 3) := by decide +kernel
theorem d_M_also_27 : decode b_M_also 27 = .ok (.aload_n 0, 1) := by decide +kernel
theorem d_M_also_28 : decode b_M_also 28 = .ok (.iload_n 1, 1) := by decide +kernel
theorem d_M_also_29 : decode b_M_also 29 = .ok (.iload_n 2, 1) := by decide +kernel
theorem d_M_also_30 : decode b_M_also 30 = .ok (.invokevirtual 109, 3) := by decide +kernel
theorem d_M_also_33 : decode b_M_also 33 = .ok (.ifCond .eq 9, 3) := by decide +kernel
theorem d_M_also_36 : decode b_M_also 36 = .ok (.aload_n 0, 1) := by decide +kernel
theorem d_M_also_37 : decode b_M_also 37 = .ok (.iconst 1, 1) := by decide +kernel
theorem d_M_also_38 : decode b_M_also 38 = .ok (.invokevirtual 95, 3) := by decide +kernel
theorem d_M_also_41 : decode b_M_also 41 = .ok (.ireturn, 1) := by decide +kernel
theorem d_M_also_42 : decode b_M_also 42 = .ok (.aload_n 0, 1) := by decide +kernel
theorem d_M_also_43 : decode b_M_also 43 = .ok (.getfield 41, 3) := by decide +kernel
theorem d_M_also_46 : decode b_M_also 46 = .ok (.iload_n 1, 1) := by decide +kernel
theorem d_M_also_47 : decode b_M_also 47 = .ok (.iaload, 1) := by decide +kernel
theorem d_M_also_48 : decode b_M_also 48 = .ok (.iconst (-1), 1) := by decide +kernel
theorem d_M_also_49 : decode b_M_also 49 = .ok (.if_icmp .ne 13, 3) := by decide +kernel
theorem d_M_also_52 : decode b_M_also 52 = .ok (.aload_n 0, 1) := by decide +kernel
theorem d_M_also_53 : decode b_M_also 53 = .ok (.getfield 38, 3) := by decide +kernel
theorem d_M_also_56 : decode b_M_also 56 = .ok (.iload_n 1, 1) := by decide +kernel
theorem d_M_also_57 : decode b_M_also 57 = .ok (.iaload, 1) := by decide +kernel
theorem d_M_also_58 : decode b_M_also 58 = .ok (.iconst 4, 1) := by decide +kernel
theorem d_M_also_59 : decode b_M_also 59 = .ok (.if_icmp .ne 9, 3) := by decide +kernel
theorem d_M_also_62 : decode b_M_also 62 = .ok (.aload_n 0, 1) := by decide +kernel
theorem d_M_also_63 : decode b_M_also 63 = .ok (.iconst 2, 1) := by decide +kernel
theorem d_M_also_64 : decode b_M_also 64 = .ok (.invokevirtual 95, 3) := by decide +kernel
theorem d_M_also_67 : decode b_M_also 67 = .ok (.ireturn, 1) := by decide +kernel
theorem d_M_also_68 : decode b_M_also 68 = .ok (.aload_n 0, 1) := by decide +kernel
theorem d_M_also_69 : decode b_M_also 69 = .ok (.iconst 0, 1) := by decide +kernel
theorem d_M_also_70 : decode b_M_also 70 = .ok (.putfield 63, 3) := by decide +kernel
theorem d_M_also_73 : decode b_M_also 73 = .ok (.aload_n 0, 1) := by decide +kernel
theorem d_M_also_74 : decode b_M_also 74 = .ok (.iload_n 1, 1) := by decide +kernel
theorem d_M_also_75 : decode b_M_also 75 = .ok (.iload_n 2, 1) := by decide +kernel
theorem d_M_also_76 : decode b_M_also 76 = .ok (.iload_n 3, 1) := by decide +kernel
theorem d_M_also_77 : decode b_M_also 77 = .ok (.invokevirtual 102, 3) := by decide +kernel
theorem d_M_also_80 : decode b_M_also 80 = .ok (.aload_n 0, 1) := by decide +kernel
theorem d_M_also_81 : decode b_M_also 81 = .ok (.getfield 38, 3) := by decide +kernel
theorem d_M_also_84 : decode b_M_also 84 = .ok (.iload_n 1, 1) := by decide +kernel
theorem d_M_also_85 : decode b_M_also 85 = .ok (.iaload, 1) := by decide +kernel
theorem d_M_also_86 : decode b_M_also 86 = .ok (.ireturn, 1) := by decide +kernel
theorem d_M_isBox_0 : decode b_M_isBox 0 = .ok (.iload_n 1, 1) := by decide +kernel
theorem d_M_isBox_1 : decode b_M_isBox 1 = .ok (.ifCond .lt 15, 3) := by decide +kernel
theorem d_M_isBox_4 : decode b_M_isBox 4 = .ok (.iload_n 1, 1) := by decide +kernel
theorem d_M_isBox_5 : decode b_M_isBox 5 = .ok (.aload_n 0, 1) := by decide +kernel
theorem d_M_isBox_6 : decode b_M_isBox 6 = .ok (.getfield 70, 3) := by decide +kernel
theorem d_M_isBox_9 : decode b_M_isBox 9 = .ok (.if_icmp .ge 7, 3) := by decide +kernel
theorem d_M_isBox_12 : decode b_M_isBox 12 = .ok (.iconst 1, 1) := by decide +kernel
theorem d_M_isBox_13 : decode b_M_isBox 13 = .ok (.goto 4, 3) := by decide +kernel
theorem d_M_isBox_16 : decode b_M_isBox 16 = .ok (.iconst 0, 1) := by decide +kernel
theorem d_M_isBox_17 : decode b_M_isBox 17 = .ok (.ireturn, 1) := by decide +kernel
theorem d_M_has_0 : decode b_M_has 0 = .ok (.iconst 0, 1) := by decide +kernel
theorem d_M_has_1 : decode b_M_has 1 = .ok (.istore_n 3, 1) := by decide +kernel
theorem d_M_has_2 : decode b_M_has 2 = .ok (.iconst 4, 1) := by decide +kernel
theorem d_M_has_3 : decode b_M_has 3 = .ok (.iload_n 1, 1) := by decide +kernel
theorem d_M_has_4 : decode b_M_has 4 = .ok (.imul, 1) := by decide +kernel
theorem d_M_has_5 : decode b_M_has 5 = .ok (.istore 4, 2) := by decide +kernel
theorem d_M_has_7 : decode b_M_has 7 = .ok (.iload 4, 2) := by decide +kernel
theorem d_M_has_9 : decode b_M_has 9 = .ok (.iconst 4, 1) := by decide +kernel
theorem d_M_has_10 : decode b_M_has 10 = .ok (.iload_n 1, 1) := by decide +kernel
theorem d_M_has_11 : decode b_M_has 11 = .ok (.imul, 1) := by decide +kernel
theorem d_M_has_12 : decode b_M_has 12 = .ok (.aload_n 0, 1) := by decide +kernel
theorem d_M_has_13 : decode b_M_has 13 = .ok (.getfield 38, 3) := by decide +kernel
theorem d_M_has_16 : decode b_M_has 16 = .ok (.iload_n 1, 1) := by decide +kernel
theorem d_M_has_17 : decode b_M_has 17 = .ok (.iaload, 1) := by decide +kernel
theorem d_M_has_18 : decode b_M_has 18 = .ok (.iadd, 1) := by decide +kernel
theorem d_M_has_19 : decode b_M_has 19 = .ok (.if_icmp .ge 30, 3) := by decide +kernel
theorem d_M_has_22 : decode b_M_has 22 = .ok (.iload_n 3, 1) := by decide +kernel
theorem d_M_has_23 : decode b_M_has 23 = .ok (.ifCond .ne 14, 3) := by decide +kernel
theorem d_M_has_26 : decode b_M_has 26 = .ok (.aload_n 0, 1) := by decide +kernel
theorem d_M_has_27 : decode b_M_has 27 = .ok (.getfield 53, 3) := by decide +kernel
theorem d_M_has_30 : decode b_M_has 30 = .ok (.iload 4, 2) := by decide +kernel
theorem d_M_has_32 : decode b_M_has 32 = .ok (.iaload, 1) := by decide +kernel
theorem d_M_has_33 : decode b_M_has 33 = .ok (.iload_n 2, 1) := by decide +kernel
theorem d_M_has_34 : decode b_M_has 34 = .ok (.if_icmp .ne 7, 3) := by decide +kernel
theorem d_M_has_37 : decode b_M_has 37 = .ok (.iconst 1, 1) := by decide +kernel
theorem d_M_has_38 : decode b_M_has 38 = .ok (.goto 4, 3) := by decide +kernel
theorem d_M_has_41 : decode b_M_has 41 = .ok (.iconst 0, 1) := by decide +kernel
theorem d_M_has_42 : decode b_M_has 42 = .ok (.istore_n 3, 1) := by decide +kernel
theorem d_M_has_43 : decode b_M_has 43 = .ok (.iinc 4 1, 3) := by decide +kernel
theorem d_M_has_46 : decode b_M_has 46 = .ok (.goto (-39), 3) := by decide +kernel
theorem d_M_has_49 : decode b_M_has 49 = .ok (.iload_n 3, 1) := by decide +kernel
theorem d_M_has_50 : decode b_M_has 50 = .ok (.ireturn, 1) := by decide +kernel
theorem d_M_apart_0 : decode b_M_apart 0 = .ok (.aload_n 0, 1) := by decide +kernel
theorem d_M_apart_1 : decode b_M_apart 1 = .ok (.aload_n 0, 1) := by decide +kernel
theorem d_M_apart_2 : decode b_M_apart 2 = .ok (.iload_n 1, 1) := by decide +kernel
theorem d_M_apart_3 : decode b_M_apart 3 = .ok (.invokevirtual 106, 3) := by decide +kernel
theorem d_M_apart_6 : decode b_M_apart 6 = .ok (.ifCond .eq 20, 3) := by decide +kernel
theorem d_M_apart_9 : decode b_M_apart 9 = .ok (.aload_n 0, 1) := by decide +kernel
theorem d_M_apart_10 : decode b_M_apart 10 = .ok (.iload_n 2, 1) := by decide +kernel
theorem d_M_apart_11 : decode b_M_apart 11 = .ok (.invokevirtual 106, 3) := by decide +kernel
theorem d_M_apart_14 : decode b_M_apart 14 = .ok (.ifCond .eq 12, 3) := by decide +kernel
theorem d_M_apart_17 : decode b_M_apart 17 = .ok (.iload_n 1, 1) := by decide +kernel
theorem d_M_apart_18 : decode b_M_apart 18 = .ok (.iload_n 2, 1) := by decide +kernel
theorem d_M_apart_19 : decode b_M_apart 19 = .ok (.if_icmp .eq 7, 3) := by decide +kernel
theorem d_M_apart_22 : decode b_M_apart 22 = .ok (.iconst 0, 1) := by decide +kernel
theorem d_M_apart_23 : decode b_M_apart 23 = .ok (.goto 4, 3) := by decide +kernel
theorem d_M_apart_26 : decode b_M_apart 26 = .ok (.iconst 1, 1) := by decide +kernel
theorem d_M_apart_27 : decode b_M_apart 27 = .ok (.putfield 63, 3) := by decide +kernel
theorem d_M_apart_30 : decode b_M_apart 30 = .ok (.aload_n 0, 1) := by decide +kernel
theorem d_M_apart_31 : decode b_M_apart 31 = .ok (.getfield 63, 3) := by decide +kernel
theorem d_M_apart_34 : decode b_M_apart 34 = .ok (.ifCond .le 7, 3) := by decide +kernel
theorem d_M_apart_37 : decode b_M_apart 37 = .ok (.iconst 0, 1) := by decide +kernel
theorem d_M_apart_38 : decode b_M_apart 38 = .ok (.goto 9, 3) := by decide +kernel
theorem d_M_apart_41 : decode b_M_apart 41 = .ok (.aload_n 0, 1) := by decide +kernel
theorem d_M_apart_42 : decode b_M_apart 42 = .ok (.iload_n 1, 1) := by decide +kernel
theorem d_M_apart_43 : decode b_M_apart 43 = .ok (.iload_n 2, 1) := by decide +kernel
theorem d_M_apart_44 : decode b_M_apart 44 = .ok (.invokevirtual 126, 3) := by decide +kernel
theorem d_M_apart_47 : decode b_M_apart 47 = .ok (.ireturn, 1) := by decide +kernel
theorem d_M_strictest_0 : decode b_M_strictest 0 = .ok (.iconst 0, 1) := by decide +kernel
theorem d_M_strictest_1 : decode b_M_strictest 1 = .ok (.istore_n 3, 1) := by decide +kernel
theorem d_M_strictest_2 : decode b_M_strictest 2 = .ok (.iconst 4, 1) := by decide +kernel
theorem d_M_strictest_3 : decode b_M_strictest 3 = .ok (.iload_n 1, 1) := by decide +kernel
theorem d_M_strictest_4 : decode b_M_strictest 4 = .ok (.imul, 1) := by decide +kernel
theorem d_M_strictest_5 : decode b_M_strictest 5 = .ok (.istore 4, 2) := by decide +kernel
theorem d_M_strictest_7 : decode b_M_strictest 7 = .ok (.iload 4, 2) := by decide +kernel
theorem d_M_strictest_9 : decode b_M_strictest 9 = .ok (.iconst 4, 1) := by decide +kernel
theorem d_M_strictest_10 : decode b_M_strictest 10 = .ok (.iload_n 1, 1) := by decide +kernel
theorem d_M_strictest_11 : decode b_M_strictest 11 = .ok (.imul, 1) := by decide +kernel
theorem d_M_strictest_12 : decode b_M_strictest 12 = .ok (.aload_n 0, 1) := by decide +kernel
theorem d_M_strictest_13 : decode b_M_strictest 13 = .ok (.getfield 38, 3) := by decide +kernel
theorem d_M_strictest_16 : decode b_M_strictest 16 = .ok (.iload_n 1, 1) := by decide +kernel
theorem d_M_strictest_17 : decode b_M_strictest 17 = .ok (.iaload, 1) := by decide +kernel
theorem d_M_strictest_18 : decode b_M_strictest 18 = .ok (.iadd, 1) := by decide +kernel
theorem d_M_strictest_19 : decode b_M_strictest 19 = .ok (.if_icmp .ge 48, 3) := by decide +kernel
theorem d_M_strictest_22 : decode b_M_strictest 22 = .ok (.iconst 4, 1) := by decide +kernel
theorem d_M_strictest_23 : decode b_M_strictest 23 = .ok (.iload_n 2, 1) := by decide +kernel
theorem d_M_strictest_24 : decode b_M_strictest 24 = .ok (.imul, 1) := by decide +kernel
theorem d_M_strictest_25 : decode b_M_strictest 25 = .ok (.istore 5, 2) := by decide +kernel
theorem d_M_strictest_27 : decode b_M_strictest 27 = .ok (.iload 5, 2) := by decide +kernel
theorem d_M_strictest_29 : decode b_M_strictest 29 = .ok (.iconst 4, 1) := by decide +kernel
theorem d_M_strictest_30 : decode b_M_strictest 30 = .ok (.iload_n 2, 1) := by decide +kernel
theorem d_M_strictest_31 : decode b_M_strictest 31 = .ok (.imul, 1) := by decide +kernel
theorem d_M_strictest_32 : decode b_M_strictest 32 = .ok (.aload_n 0, 1) := by decide +kernel
theorem d_M_strictest_33 : decode b_M_strictest 33 = .ok (.getfield 38, 3) := by decide +kernel
theorem d_M_strictest_36 : decode b_M_strictest 36 = .ok (.iload_n 2, 1) := by decide +kernel
theorem d_M_strictest_37 : decode b_M_strictest 37 = .ok (.iaload, 1) := by decide +kernel
theorem d_M_strictest_38 : decode b_M_strictest 38 = .ok (.iadd, 1) := by decide +kernel
theorem d_M_strictest_39 : decode b_M_strictest 39 = .ok (.if_icmp .ge 22, 3) := by decide +kernel
theorem d_M_strictest_42 : decode b_M_strictest 42 = .ok (.iload_n 3, 1) := by decide +kernel
theorem d_M_strictest_43 : decode b_M_strictest 43 = .ok (.aload_n 0, 1) := by decide +kernel
end
section
theorem d_M_strictest_44 : decode b_M_strictest 44 = .ok (.iload 4, 2) := by decide +kernel
theorem d_M_strictest_46 : decode b_M_strictest 46 = .ok (.iload 5, 2) := by decide +kernel
theorem d_M_strictest_48 : decode b_M_strictest 48 = .ok (.invokevirtual 123, 3) := by decide +kernel
theorem d_M_strictest_51 : decode b_M_strictest 51 = .ok (.invokestatic 117, 3) := by decide +kernel
theorem d_M_strictest_54 : decode b_M_strictest 54 = .ok (.istore_n 3, 1) := by decide +kernel
theorem d_M_strictest_55 : decode b_M_strictest 55 = .ok (.iinc 5 1, 3) := by decide +kernel
theorem d_M_strictest_58 : decode b_M_strictest 58 = .ok (.goto (-31), 3) := by decide +kernel
theorem d_M_strictest_61 : decode b_M_strictest 61 = .ok (.iinc 4 1, 3) := by decide +kernel
theorem d_M_strictest_64 : decode b_M_strictest 64 = .ok (.goto (-57), 3) := by decide +kernel
theorem d_M_strictest_67 : decode b_M_strictest 67 = .ok (.iload_n 3, 1) := by decide +kernel
theorem d_M_strictest_68 : decode b_M_strictest 68 = .ok (.ireturn, 1) := by decide +kernel
theorem d_M_between_0 : decode b_M_between 0 = .ok (.aload_n 0, 1) := by decide +kernel
theorem d_M_between_1 : decode b_M_between 1 = .ok (.getfield 53, 3) := by decide +kernel
theorem d_M_between_4 : decode b_M_between 4 = .ok (.iload_n 1, 1) := by decide +kernel
theorem d_M_between_5 : decode b_M_between 5 = .ok (.iaload, 1) := by decide +kernel
theorem d_M_between_6 : decode b_M_between 6 = .ok (.istore_n 3, 1) := by decide +kernel
theorem d_M_between_7 : decode b_M_between 7 = .ok (.aload_n 0, 1) := by decide +kernel
theorem d_M_between_8 : decode b_M_between 8 = .ok (.getfield 53, 3) := by decide +kernel
theorem d_M_between_11 : decode b_M_between 11 = .ok (.iload_n 2, 1) := by decide +kernel
theorem d_M_between_12 : decode b_M_between 12 = .ok (.iaload, 1) := by decide +kernel
theorem d_M_between_13 : decode b_M_between 13 = .ok (.istore 4, 2) := by decide +kernel
theorem d_M_between_15 : decode b_M_between 15 = .ok (.aload_n 0, 1) := by decide +kernel
theorem d_M_between_16 : decode b_M_between 16 = .ok (.iload_n 3, 1) := by decide +kernel
theorem d_M_between_17 : decode b_M_between 17 = .ok (.iload 4, 2) := by decide +kernel
theorem d_M_between_19 : decode b_M_between 19 = .ok (.aload_n 0, 1) := by decide +kernel
theorem d_M_between_20 : decode b_M_between 20 = .ok (.getfield 16, 3) := by decide +kernel
theorem d_M_between_23 : decode b_M_between 23 = .ok (.iload_n 3, 1) := by decide +kernel
theorem d_M_between_24 : decode b_M_between 24 = .ok (.iaload, 1) := by decide +kernel
theorem d_M_between_25 : decode b_M_between 25 = .ok (.aload_n 0, 1) := by decide +kernel
theorem d_M_between_26 : decode b_M_between 26 = .ok (.getfield 16, 3) := by decide +kernel
theorem d_M_between_29 : decode b_M_between 29 = .ok (.iload 4, 2) := by decide +kernel
theorem d_M_between_31 : decode b_M_between 31 = .ok (.iaload, 1) := by decide +kernel
theorem d_M_between_32 : decode b_M_between 32 = .ok (.invokevirtual 113, 3) := by decide +kernel
theorem d_M_between_35 : decode b_M_between 35 = .ok (.aload_n 0, 1) := by decide +kernel
theorem d_M_between_36 : decode b_M_between 36 = .ok (.iload_n 3, 1) := by decide +kernel
theorem d_M_between_37 : decode b_M_between 37 = .ok (.iload 4, 2) := by decide +kernel
theorem d_M_between_39 : decode b_M_between 39 = .ok (.aload_n 0, 1) := by decide +kernel
theorem d_M_between_40 : decode b_M_between 40 = .ok (.getfield 16, 3) := by decide +kernel
theorem d_M_between_43 : decode b_M_between 43 = .ok (.iload_n 3, 1) := by decide +kernel
theorem d_M_between_44 : decode b_M_between 44 = .ok (.iaload, 1) := by decide +kernel
theorem d_M_between_45 : decode b_M_between 45 = .ok (.aload_n 0, 1) := by decide +kernel
theorem d_M_between_46 : decode b_M_between 46 = .ok (.getfield 19, 3) := by decide +kernel
theorem d_M_between_49 : decode b_M_between 49 = .ok (.iload 4, 2) := by decide +kernel
theorem d_M_between_51 : decode b_M_between 51 = .ok (.iaload, 1) := by decide +kernel
theorem d_M_between_52 : decode b_M_between 52 = .ok (.invokevirtual 113, 3) := by decide +kernel
theorem d_M_between_55 : decode b_M_between 55 = .ok (.invokestatic 117, 3) := by decide +kernel
theorem d_M_between_58 : decode b_M_between 58 = .ok (.istore 5, 2) := by decide +kernel
theorem d_M_between_60 : decode b_M_between 60 = .ok (.iload 5, 2) := by decide +kernel
theorem d_M_between_62 : decode b_M_between 62 = .ok (.aload_n 0, 1) := by decide +kernel
theorem d_M_between_63 : decode b_M_between 63 = .ok (.iload_n 3, 1) := by decide +kernel
theorem d_M_between_64 : decode b_M_between 64 = .ok (.iload 4, 2) := by decide +kernel
theorem d_M_between_66 : decode b_M_between 66 = .ok (.aload_n 0, 1) := by decide +kernel
theorem d_M_between_67 : decode b_M_between 67 = .ok (.getfield 19, 3) := by decide +kernel
theorem d_M_between_70 : decode b_M_between 70 = .ok (.iload_n 3, 1) := by decide +kernel
theorem d_M_between_71 : decode b_M_between 71 = .ok (.iaload, 1) := by decide +kernel
theorem d_M_between_72 : decode b_M_between 72 = .ok (.aload_n 0, 1) := by decide +kernel
theorem d_M_between_73 : decode b_M_between 73 = .ok (.getfield 16, 3) := by decide +kernel
theorem d_M_between_76 : decode b_M_between 76 = .ok (.iload 4, 2) := by decide +kernel
theorem d_M_between_78 : decode b_M_between 78 = .ok (.iaload, 1) := by decide +kernel
theorem d_M_between_79 : decode b_M_between 79 = .ok (.invokevirtual 113, 3) := by decide +kernel
theorem d_M_between_82 : decode b_M_between 82 = .ok (.aload_n 0, 1) := by decide +kernel
theorem d_M_between_83 : decode b_M_between 83 = .ok (.iload_n 3, 1) := by decide +kernel
theorem d_M_between_84 : decode b_M_between 84 = .ok (.iload 4, 2) := by decide +kernel
theorem d_M_between_86 : decode b_M_between 86 = .ok (.aload_n 0, 1) := by decide +kernel
theorem d_M_between_87 : decode b_M_between 87 = .ok (.getfield 19, 3) := by decide +kernel
theorem d_M_between_90 : decode b_M_between 90 = .ok (.iload_n 3, 1) := by decide +kernel
theorem d_M_between_91 : decode b_M_between 91 = .ok (.iaload, 1) := by decide +kernel
theorem d_M_between_92 : decode b_M_between 92 = .ok (.aload_n 0, 1) := by decide +kernel
theorem d_M_between_93 : decode b_M_between 93 = .ok (.getfield 19, 3) := by decide +kernel
theorem d_M_between_96 : decode b_M_between 96 = .ok (.iload 4, 2) := by decide +kernel
theorem d_M_between_98 : decode b_M_between 98 = .ok (.iaload, 1) := by decide +kernel
theorem d_M_between_99 : decode b_M_between 99 = .ok (.invokevirtual 113, 3) := by decide +kernel
theorem d_M_between_102 : decode b_M_between 102 = .ok (.invokestatic 117, 3) := by decide +kernel
theorem d_M_between_105 : decode b_M_between 105 = .ok (.invokestatic 117, 3) := by decide +kernel
theorem d_M_between_108 : decode b_M_between 108 = .ok (.istore 5, 2) := by decide +kernel
theorem d_M_between_110 : decode b_M_between 110 = .ok (.iload 5, 2) := by decide +kernel
theorem d_M_between_112 : decode b_M_between 112 = .ok (.iconst 1, 1) := by decide +kernel
theorem d_M_between_113 : decode b_M_between 113 = .ok (.if_icmp .le 23, 3) := by decide +kernel
theorem d_M_between_116 : decode b_M_between 116 = .ok (.aload_n 0, 1) := by decide +kernel
theorem d_M_between_117 : decode b_M_between 117 = .ok (.iload_n 1, 1) := by decide +kernel
theorem d_M_between_118 : decode b_M_between 118 = .ok (.invokevirtual 120, 3) := by decide +kernel
theorem d_M_between_121 : decode b_M_between 121 = .ok (.ifCond .ne 11, 3) := by decide +kernel
theorem d_M_between_124 : decode b_M_between 124 = .ok (.aload_n 0, 1) := by decide +kernel
theorem d_M_between_125 : decode b_M_between 125 = .ok (.iload_n 2, 1) := by decide +kernel
theorem d_M_between_126 : decode b_M_between 126 = .ok (.invokevirtual 120, 3) := by decide +kernel
theorem d_M_between_129 : decode b_M_between 129 = .ok (.ifCond .eq 7, 3) := by decide +kernel
theorem d_M_between_132 : decode b_M_between 132 = .ok (.iconst 1, 1) := by decide +kernel
theorem d_M_between_133 : decode b_M_between 133 = .ok (.goto 5, 3) := by decide +kernel
theorem d_M_between_136 : decode b_M_between 136 = .ok (.iload 5, 2) := by decide +kernel
theorem d_M_between_138 : decode b_M_between 138 = .ok (.ireturn, 1) := by decide +kernel
theorem d_M_ruleFor_0 : decode b_M_ruleFor 0 = .ok (.iload_n 3, 1) := by decide +kernel
theorem d_M_ruleFor_1 : decode b_M_ruleFor 1 = .ok (.ifCond .eq 8, 3) := by decide +kernel
theorem d_M_ruleFor_4 : decode b_M_ruleFor 4 = .ok (.iload 4, 2) := by decide +kernel
theorem d_M_ruleFor_6 : decode b_M_ruleFor 6 = .ok (.ifCond .ne 5, 3) := by decide +kernel
theorem d_M_ruleFor_9 : decode b_M_ruleFor 9 = .ok (.iconst 0, 1) := by decide +kernel
theorem d_M_ruleFor_10 : decode b_M_ruleFor 10 = .ok (.ireturn, 1) := by decide +kernel
theorem d_M_ruleFor_11 : decode b_M_ruleFor 11 = .ok (.aload_n 0, 1) := by decide +kernel
theorem d_M_ruleFor_12 : decode b_M_ruleFor 12 = .ok (.getfield 35, 3) := by decide +kernel
theorem d_M_ruleFor_15 : decode b_M_ruleFor 15 = .ok (.bipush 81, 2) := by decide +kernel
theorem d_M_ruleFor_17 : decode b_M_ruleFor 17 = .ok (.iload_n 1, 1) := by decide +kernel
theorem d_M_ruleFor_18 : decode b_M_ruleFor 18 = .ok (.imul, 1) := by decide +kernel
theorem d_M_ruleFor_19 : decode b_M_ruleFor 19 = .ok (.iload_n 3, 1) := by decide +kernel
theorem d_M_ruleFor_20 : decode b_M_ruleFor 20 = .ok (.iload 4, 2) := by decide +kernel
theorem d_M_ruleFor_22 : decode b_M_ruleFor 22 = .ok (.invokestatic 84, 3) := by decide +kernel
theorem d_M_ruleFor_25 : decode b_M_ruleFor 25 = .ok (.iadd, 1) := by decide +kernel
theorem d_M_ruleFor_26 : decode b_M_ruleFor 26 = .ok (.baload, 1) := by decide +kernel
theorem d_M_ruleFor_27 : decode b_M_ruleFor 27 = .ok (.ifCond .ne 22, 3) := by decide +kernel
theorem d_M_ruleFor_30 : decode b_M_ruleFor 30 = .ok (.aload_n 0, 1) := by decide +kernel
theorem d_M_ruleFor_31 : decode b_M_ruleFor 31 = .ok (.getfield 35, 3) := by decide +kernel
theorem d_M_ruleFor_34 : decode b_M_ruleFor 34 = .ok (.bipush 81, 2) := by decide +kernel
theorem d_M_ruleFor_36 : decode b_M_ruleFor 36 = .ok (.iload_n 2, 1) := by decide +kernel
theorem d_M_ruleFor_37 : decode b_M_ruleFor 37 = .ok (.imul, 1) := by decide +kernel
theorem d_M_ruleFor_38 : decode b_M_ruleFor 38 = .ok (.iload_n 3, 1) := by decide +kernel
theorem d_M_ruleFor_39 : decode b_M_ruleFor 39 = .ok (.iload 4, 2) := by decide +kernel
theorem d_M_ruleFor_41 : decode b_M_ruleFor 41 = .ok (.invokestatic 84, 3) := by decide +kernel
theorem d_M_ruleFor_44 : decode b_M_ruleFor 44 = .ok (.iadd, 1) := by decide +kernel
theorem d_M_ruleFor_45 : decode b_M_ruleFor 45 = .ok (.baload, 1) := by decide +kernel
theorem d_M_ruleFor_46 : decode b_M_ruleFor 46 = .ok (.ifCond .eq 7, 3) := by decide +kernel
theorem d_M_ruleFor_49 : decode b_M_ruleFor 49 = .ok (.iconst 1, 1) := by decide +kernel
theorem d_M_ruleFor_50 : decode b_M_ruleFor 50 = .ok (.goto 4, 3) := by decide +kernel
theorem d_M_ruleFor_53 : decode b_M_ruleFor 53 = .ok (.iconst 0, 1) := by decide +kernel
theorem d_M_ruleFor_54 : decode b_M_ruleFor 54 = .ok (.istore 5, 2) := by decide +kernel
theorem d_M_ruleFor_56 : decode b_M_ruleFor 56 = .ok (.iload 5, 2) := by decide +kernel
theorem d_M_ruleFor_58 : decode b_M_ruleFor 58 = .ok (.ifCond .eq 7, 3) := by decide +kernel
theorem d_M_ruleFor_61 : decode b_M_ruleFor 61 = .ok (.iconst 0, 1) := by decide +kernel
theorem d_M_ruleFor_62 : decode b_M_ruleFor 62 = .ok (.goto 14, 3) := by decide +kernel
theorem d_M_ruleFor_65 : decode b_M_ruleFor 65 = .ok (.aload_n 0, 1) := by decide +kernel
theorem d_M_ruleFor_66 : decode b_M_ruleFor 66 = .ok (.getfield 13, 3) := by decide +kernel
theorem d_M_ruleFor_69 : decode b_M_ruleFor 69 = .ok (.iload_n 3, 1) := by decide +kernel
theorem d_M_ruleFor_70 : decode b_M_ruleFor 70 = .ok (.iload 4, 2) := by decide +kernel
theorem d_M_ruleFor_72 : decode b_M_ruleFor 72 = .ok (.invokestatic 84, 3) := by decide +kernel
theorem d_M_ruleFor_75 : decode b_M_ruleFor 75 = .ok (.iaload, 1) := by decide +kernel
theorem d_M_ruleFor_76 : decode b_M_ruleFor 76 = .ok (.ireturn, 1) := by decide +kernel
theorem d_M_greater_0 : decode b_M_greater 0 = .ok (.iload_n 0, 1) := by decide +kernel
theorem d_M_greater_1 : decode b_M_greater 1 = .ok (.iload_n 1, 1) := by decide +kernel
theorem d_M_greater_2 : decode b_M_greater 2 = .ok (.if_icmp .le 7, 3) := by decide +kernel
theorem d_M_greater_5 : decode b_M_greater 5 = .ok (.iload_n 0, 1) := by decide +kernel
theorem d_M_greater_6 : decode b_M_greater 6 = .ok (.goto 4, 3) := by decide +kernel
theorem d_M_greater_9 : decode b_M_greater 9 = .ok (.iload_n 1, 1) := by decide +kernel
theorem d_M_greater_10 : decode b_M_greater 10 = .ok (.ireturn, 1) := by decide +kernel
theorem d_M_isLimited_0 : decode b_M_isLimited 0 = .ok (.aload_n 0, 1) := by decide +kernel
theorem d_M_isLimited_1 : decode b_M_isLimited 1 = .ok (.getfield 56, 3) := by decide +kernel
theorem d_M_isLimited_4 : decode b_M_isLimited 4 = .ok (.iload_n 1, 1) := by decide +kernel
theorem d_M_isLimited_5 : decode b_M_isLimited 5 = .ok (.iaload, 1) := by decide +kernel
theorem d_M_isLimited_6 : decode b_M_isLimited 6 = .ok (.aload_n 0, 1) := by decide +kernel
theorem d_M_isLimited_7 : decode b_M_isLimited 7 = .ok (.getfield 25, 3) := by decide +kernel
theorem d_M_isLimited_10 : decode b_M_isLimited 10 = .ok (.aload_n 0, 1) := by decide +kernel
theorem d_M_isLimited_11 : decode b_M_isLimited 11 = .ok (.getfield 53, 3) := by decide +kernel
theorem d_M_isLimited_14 : decode b_M_isLimited 14 = .ok (.iload_n 1, 1) := by decide +kernel
theorem d_M_isLimited_15 : decode b_M_isLimited 15 = .ok (.iaload, 1) := by decide +kernel
theorem d_M_isLimited_16 : decode b_M_isLimited 16 = .ok (.iaload, 1) := by decide +kernel
theorem d_M_isLimited_17 : decode b_M_isLimited 17 = .ok (.if_icmp .gt 7, 3) := by decide +kernel
theorem d_M_isLimited_20 : decode b_M_isLimited 20 = .ok (.iconst 1, 1) := by decide +kernel
theorem d_M_isLimited_21 : decode b_M_isLimited 21 = .ok (.goto 4, 3) := by decide +kernel
theorem d_M_isLimited_24 : decode b_M_isLimited 24 = .ok (.iconst 0, 1) := by decide +kernel
theorem d_M_isLimited_25 : decode b_M_isLimited 25 = .ok (.ireturn, 1) := by decide +kernel
theorem d_M_ship_0 : decode b_M_ship 0 = .ok (.aload_n 0, 1) := by decide +kernel
theorem d_M_ship_1 : decode b_M_ship 1 = .ok (.aload_n 0, 1) := by decide +kernel
theorem d_M_ship_2 : decode b_M_ship 2 = .ok (.iload_n 1, 1) := by decide +kernel
theorem d_M_ship_3 : decode b_M_ship 3 = .ok (.invokevirtual 106, 3) := by decide +kernel
theorem d_M_ship_6 : decode b_M_ship 6 = .ok (.ifCond .eq 30, 3) := by decide +kernel
theorem d_M_ship_9 : decode b_M_ship 9 = .ok (.aload_n 0, 1) := by decide +kernel
theorem d_M_ship_10 : decode b_M_ship 10 = .ok (.iload_n 2, 1) := by decide +kernel
theorem d_M_ship_11 : decode b_M_ship 11 = .ok (.invokevirtual 106, 3) := by decide +kernel
theorem d_M_ship_14 : decode b_M_ship 14 = .ok (.ifCond .eq 22, 3) := by decide +kernel
theorem d_M_ship_17 : decode b_M_ship 17 = .ok (.iload_n 1, 1) := by decide +kernel
theorem d_M_ship_18 : decode b_M_ship 18 = .ok (.iload_n 2, 1) := by decide +kernel
theorem d_M_ship_19 : decode b_M_ship 19 = .ok (.if_icmp .eq 17, 3) := by decide +kernel
theorem d_M_ship_22 : decode b_M_ship 22 = .ok (.iload_n 3, 1) := by decide +kernel
theorem d_M_ship_23 : decode b_M_ship 23 = .ok (.iconst 0, 1) := by decide +kernel
theorem d_M_ship_24 : decode b_M_ship 24 = .ok (.bipush 100, 2) := by decide +kernel
theorem d_M_ship_26 : decode b_M_ship 26 = .ok (.invokestatic 73, 3) := by decide +kernel
theorem d_M_ship_29 : decode b_M_ship 29 = .ok (.ifCond .eq 7, 3) := by decide +kernel
theorem d_M_ship_32 : decode b_M_ship 32 = .ok (.iconst 0, 1) := by decide +kernel
theorem d_M_ship_33 : decode b_M_ship 33 = .ok (.goto 4, 3) := by decide +kernel
theorem d_M_ship_36 : decode b_M_ship 36 = .ok (.iconst 1, 1) := by decide +kernel
theorem d_M_ship_37 : decode b_M_ship 37 = .ok (.putfield 63, 3) := by decide +kernel
theorem d_M_ship_40 : decode b_M_ship 40 = .ok (.aload_n 0, 1) := by decide +kernel
theorem d_M_ship_41 : decode b_M_ship 41 = .ok (.getfield 63, 3) := by decide +kernel
theorem d_M_ship_44 : decode b_M_ship 44 = .ok (.ifCond .le 5, 3) := by decide +kernel
theorem d_M_ship_47 : decode b_M_ship 47 = .ok (.iconst 0, 1) := by decide +kernel
theorem d_M_ship_48 : decode b_M_ship 48 = .ok (.ireturn, 1) := by decide +kernel
theorem d_M_ship_49 : decode b_M_ship 49 = .ok (.aload_n 0, 1) := by decide +kernel
theorem d_M_ship_50 : decode b_M_ship 50 = .ok (.iload_n 1, 1) := by decide +kernel
theorem d_M_ship_51 : decode b_M_ship 51 = .ok (.iload_n 2, 1) := by decide +kernel
theorem d_M_ship_52 : decode b_M_ship 52 = .ok (.invokevirtual 126, 3) := by decide +kernel
theorem d_M_ship_55 : decode b_M_ship 55 = .ok (.istore 4, 2) := by decide +kernel
theorem d_M_ship_57 : decode b_M_ship 57 = .ok (.iload_n 3, 1) := by decide +kernel
theorem d_M_ship_58 : decode b_M_ship 58 = .ok (.iload 4, 2) := by decide +kernel
theorem d_M_ship_60 : decode b_M_ship 60 = .ok (.ifCond .ne 7, 3) := by decide +kernel
theorem d_M_ship_63 : decode b_M_ship 63 = .ok (.iconst 0, 1) := by decide +kernel
theorem d_M_ship_64 : decode b_M_ship 64 = .ok (.goto 9, 3) := by decide +kernel
theorem d_M_ship_67 : decode b_M_ship 67 = .ok (.iconst 1, 1) := by decide +kernel
theorem d_M_ship_68 : decode b_M_ship 68 = .ok (.iload 4, 2) := by decide +kernel
theorem d_M_ship_70 : decode b_M_ship 70 = .ok (.iconst 1, 1) := by decide +kernel
theorem d_M_ship_71 : decode b_M_ship 71 = .ok (.isub, 1) := by decide +kernel
theorem d_M_ship_72 : decode b_M_ship 72 = .ok (.ishl, 1) := by decide +kernel
theorem d_M_ship_73 : decode b_M_ship 73 = .ok (.if_icmp .lt 7, 3) := by decide +kernel
theorem d_M_ship_76 : decode b_M_ship 76 = .ok (.iconst 1, 1) := by decide +kernel
theorem d_M_ship_77 : decode b_M_ship 77 = .ok (.goto 4, 3) := by decide +kernel
theorem d_M_ship_80 : decode b_M_ship 80 = .ok (.iconst 0, 1) := by decide +kernel
theorem d_M_ship_81 : decode b_M_ship 81 = .ok (.ireturn, 1) := by decide +kernel
theorem d_M_most_0 : decode b_M_most 0 = .ok (.aload_n 0, 1) := by decide +kernel
theorem d_M_most_1 : decode b_M_most 1 = .ok (.iconst 0, 1) := by decide +kernel
theorem d_M_most_2 : decode b_M_most 2 = .ok (.putfield 63, 3) := by decide +kernel
theorem d_M_most_5 : decode b_M_most 5 = .ok (.iload_n 1, 1) := by decide +kernel
theorem d_M_most_6 : decode b_M_most 6 = .ok (.iconst 0, 1) := by decide +kernel
theorem d_M_most_7 : decode b_M_most 7 = .ok (.iconst 3, 1) := by decide +kernel
theorem d_M_most_8 : decode b_M_most 8 = .ok (.invokestatic 73, 3) := by decide +kernel
theorem d_M_most_11 : decode b_M_most 11 = .ok (.ifCond .eq 20, 3) := by decide +kernel
theorem d_M_most_14 : decode b_M_most 14 = .ok (.iload_n 2, 1) := by decide +kernel
theorem d_M_most_15 : decode b_M_most 15 = .ok (.invokestatic 80, 3) := by decide +kernel
theorem d_M_most_18 : decode b_M_most 18 = .ok (.ifCond .eq 13, 3) := by decide +kernel
theorem d_M_most_21 : decode b_M_most 21 = .ok (.iload_n 3, 1) := by decide +kernel
theorem d_M_most_22 : decode b_M_most 22 = .ok (.iconst 0, 1) := by decide +kernel
theorem d_M_most_23 : decode b_M_most 23 = .ok (.ldc 62, 2) := by decide +kernel
theorem d_M_most_25 : decode b_M_most 25 = .ok (.invokestatic 73, 3) := by decide +kernel
theorem d_M_most_28 : decode b_M_most 28 = .ok (.ifCond .ne 5, 3) := by decide +kernel
theorem d_M_most_31 : decode b_M_most 31 = .ok (.iconst 0, 1) := by decide +kernel
theorem d_M_most_32 : decode b_M_most 32 = .ok (.ireturn, 1) := by decide +kernel
theorem d_M_most_33 : decode b_M_most 33 = .ok (.aload_n 0, 1) := by decide +kernel
theorem d_M_most_34 : decode b_M_most 34 = .ok (.getfield 59, 3) := by decide +kernel
theorem d_M_most_37 : decode b_M_most 37 = .ok (.bipush 9, 2) := by decide +kernel
theorem d_M_most_39 : decode b_M_most 39 = .ok (.iload_n 1, 1) := by decide +kernel
theorem d_M_most_40 : decode b_M_most 40 = .ok (.imul, 1) := by decide +kernel
theorem d_M_most_41 : decode b_M_most 41 = .ok (.iload_n 2, 1) := by decide +kernel
theorem d_M_most_42 : decode b_M_most 42 = .ok (.iadd, 1) := by decide +kernel
theorem d_M_most_43 : decode b_M_most 43 = .ok (.iconst 1, 1) := by decide +kernel
theorem d_M_most_44 : decode b_M_most 44 = .ok (.isub, 1) := by decide +kernel
theorem d_M_most_45 : decode b_M_most 45 = .ok (.iload_n 3, 1) := by decide +kernel
theorem d_M_most_46 : decode b_M_most 46 = .ok (.iastore, 1) := by decide +kernel
theorem d_M_most_47 : decode b_M_most 47 = .ok (.iconst 1, 1) := by decide +kernel
theorem d_M_most_48 : decode b_M_most 48 = .ok (.ireturn, 1) := by decide +kernel
theorem d_M_zone_0 : decode b_M_zone 0 = .ok (.aload_n 0, 1) := by decide +kernel
theorem d_M_zone_1 : decode b_M_zone 1 = .ok (.iload_n 1, 1) := by decide +kernel
theorem d_M_zone_2 : decode b_M_zone 2 = .ok (.iconst 0, 1) := by decide +kernel
theorem d_M_zone_3 : decode b_M_zone 3 = .ok (.iconst 3, 1) := by decide +kernel
theorem d_M_zone_4 : decode b_M_zone 4 = .ok (.invokestatic 73, 3) := by decide +kernel
theorem d_M_zone_7 : decode b_M_zone 7 = .ok (.ifCond .eq 14, 3) := by decide +kernel
theorem d_M_zone_10 : decode b_M_zone 10 = .ok (.iload_n 2, 1) := by decide +kernel
theorem d_M_zone_11 : decode b_M_zone 11 = .ok (.invokestatic 80, 3) := by decide +kernel
theorem d_M_zone_14 : decode b_M_zone 14 = .ok (.ifCond .eq 7, 3) := by decide +kernel
theorem d_M_zone_17 : decode b_M_zone 17 = .ok (.iconst 0, 1) := by decide +kernel
theorem d_M_zone_18 : decode b_M_zone 18 = .ok (.goto 4, 3) := by decide +kernel
theorem d_M_zone_21 : decode b_M_zone 21 = .ok (.iconst 1, 1) := by decide +kernel
theorem d_M_zone_22 : decode b_M_zone 22 = .ok (.putfield 63, 3) := by decide +kernel
theorem d_M_zone_25 : decode b_M_zone 25 = .ok (.aload_n 0, 1) := by decide +kernel
theorem d_M_zone_26 : decode b_M_zone 26 = .ok (.getfield 63, 3) := by decide +kernel
theorem d_M_zone_29 : decode b_M_zone 29 = .ok (.ifCond .le 7, 3) := by decide +kernel
theorem d_M_zone_32 : decode b_M_zone 32 = .ok (.iconst 0, 1) := by decide +kernel
theorem d_M_zone_33 : decode b_M_zone 33 = .ok (.goto 9, 3) := by decide +kernel
theorem d_M_zone_36 : decode b_M_zone 36 = .ok (.aload_n 0, 1) := by decide +kernel
theorem d_M_zone_37 : decode b_M_zone 37 = .ok (.iload_n 1, 1) := by decide +kernel
theorem d_M_zone_38 : decode b_M_zone 38 = .ok (.iload_n 2, 1) := by decide +kernel
theorem d_M_zone_39 : decode b_M_zone 39 = .ok (.invokevirtual 132, 3) := by decide +kernel
theorem d_M_zone_42 : decode b_M_zone 42 = .ok (.ireturn, 1) := by decide +kernel
theorem d_M_inZone_0 : decode b_M_inZone 0 = .ok (.iconst 0, 1) := by decide +kernel
theorem d_M_inZone_1 : decode b_M_inZone 1 = .ok (.istore_n 3, 1) := by decide +kernel
theorem d_M_inZone_2 : decode b_M_inZone 2 = .ok (.iconst 0, 1) := by decide +kernel
theorem d_M_inZone_3 : decode b_M_inZone 3 = .ok (.istore 4, 2) := by decide +kernel
theorem d_M_inZone_5 : decode b_M_inZone 5 = .ok (.iload 4, 2) := by decide +kernel
theorem d_M_inZone_7 : decode b_M_inZone 7 = .ok (.aload_n 0, 1) := by decide +kernel
theorem d_M_inZone_8 : decode b_M_inZone 8 = .ok (.getfield 70, 3) := by decide +kernel
theorem d_M_inZone_11 : decode b_M_inZone 11 = .ok (.if_icmp .ge 34, 3) := by decide +kernel
theorem d_M_inZone_14 : decode b_M_inZone 14 = .ok (.iload_n 3, 1) := by decide +kernel
theorem d_M_inZone_15 : decode b_M_inZone 15 = .ok (.aload_n 0, 1) := by decide +kernel
theorem d_M_inZone_16 : decode b_M_inZone 16 = .ok (.getfield 41, 3) := by decide +kernel
theorem d_M_inZone_19 : decode b_M_inZone 19 = .ok (.iload 4, 2) := by decide +kernel
theorem d_M_inZone_21 : decode b_M_inZone 21 = .ok (.iaload, 1) := by decide +kernel
theorem d_M_inZone_22 : decode b_M_inZone 22 = .ok (.iload_n 1, 1) := by decide +kernel
theorem d_M_inZone_23 : decode b_M_inZone 23 = .ok (.if_icmp .ne 13, 3) := by decide +kernel
theorem d_M_inZone_26 : decode b_M_inZone 26 = .ok (.aload_n 0, 1) := by decide +kernel
theorem d_M_inZone_27 : decode b_M_inZone 27 = .ok (.iload 4, 2) := by decide +kernel
theorem d_M_inZone_29 : decode b_M_inZone 29 = .ok (.iload_n 2, 1) := by decide +kernel
theorem d_M_inZone_30 : decode b_M_inZone 30 = .ok (.invokevirtual 129, 3) := by decide +kernel
theorem d_M_inZone_33 : decode b_M_inZone 33 = .ok (.goto 4, 3) := by decide +kernel
theorem d_M_inZone_36 : decode b_M_inZone 36 = .ok (.iconst 0, 1) := by decide +kernel
theorem d_M_inZone_37 : decode b_M_inZone 37 = .ok (.iadd, 1) := by decide +kernel
theorem d_M_inZone_38 : decode b_M_inZone 38 = .ok (.istore_n 3, 1) := by decide +kernel
theorem d_M_inZone_39 : decode b_M_inZone 39 = .ok (.iinc 4 1, 3) := by decide +kernel
theorem d_M_inZone_42 : decode b_M_inZone 42 = .ok (.goto (-37), 3) := by decide +kernel
theorem d_M_inZone_45 : decode b_M_inZone 45 = .ok (.iload_n 3, 1) := by decide +kernel
theorem d_M_inZone_46 : decode b_M_inZone 46 = .ok (.ireturn, 1) := by decide +kernel
theorem d_M_inBox_0 : decode b_M_inBox 0 = .ok (.iconst 0, 1) := by decide +kernel
theorem d_M_inBox_1 : decode b_M_inBox 1 = .ok (.istore_n 3, 1) := by decide +kernel
theorem d_M_inBox_2 : decode b_M_inBox 2 = .ok (.iconst 4, 1) := by decide +kernel
theorem d_M_inBox_3 : decode b_M_inBox 3 = .ok (.iload_n 1, 1) := by decide +kernel
theorem d_M_inBox_4 : decode b_M_inBox 4 = .ok (.imul, 1) := by decide +kernel
theorem d_M_inBox_5 : decode b_M_inBox 5 = .ok (.istore 4, 2) := by decide +kernel
theorem d_M_inBox_7 : decode b_M_inBox 7 = .ok (.iload 4, 2) := by decide +kernel
theorem d_M_inBox_9 : decode b_M_inBox 9 = .ok (.iconst 4, 1) := by decide +kernel
theorem d_M_inBox_10 : decode b_M_inBox 10 = .ok (.iload_n 1, 1) := by decide +kernel
theorem d_M_inBox_11 : decode b_M_inBox 11 = .ok (.imul, 1) := by decide +kernel
theorem d_M_inBox_12 : decode b_M_inBox 12 = .ok (.aload_n 0, 1) := by decide +kernel
theorem d_M_inBox_13 : decode b_M_inBox 13 = .ok (.getfield 38, 3) := by decide +kernel
theorem d_M_inBox_16 : decode b_M_inBox 16 = .ok (.iload_n 1, 1) := by decide +kernel
theorem d_M_inBox_17 : decode b_M_inBox 17 = .ok (.iaload, 1) := by decide +kernel
theorem d_M_inBox_18 : decode b_M_inBox 18 = .ok (.iadd, 1) := by decide +kernel
theorem d_M_inBox_19 : decode b_M_inBox 19 = .ok (.if_icmp .ge 55, 3) := by decide +kernel
theorem d_M_inBox_22 : decode b_M_inBox 22 = .ok (.iload_n 3, 1) := by decide +kernel
theorem d_M_inBox_23 : decode b_M_inBox 23 = .ok (.aload_n 0, 1) := by decide +kernel
theorem d_M_inBox_24 : decode b_M_inBox 24 = .ok (.getfield 16, 3) := by decide +kernel
theorem d_M_inBox_27 : decode b_M_inBox 27 = .ok (.aload_n 0, 1) := by decide +kernel
theorem d_M_inBox_28 : decode b_M_inBox 28 = .ok (.getfield 53, 3) := by decide +kernel
theorem d_M_inBox_31 : decode b_M_inBox 31 = .ok (.iload 4, 2) := by decide +kernel
theorem d_M_inBox_33 : decode b_M_inBox 33 = .ok (.iaload, 1) := by decide +kernel
theorem d_M_inBox_34 : decode b_M_inBox 34 = .ok (.iaload, 1) := by decide +kernel
theorem d_M_inBox_35 : decode b_M_inBox 35 = .ok (.iload_n 2, 1) := by decide +kernel
theorem d_M_inBox_36 : decode b_M_inBox 36 = .ok (.if_icmp .eq 19, 3) := by decide +kernel
theorem d_M_inBox_39 : decode b_M_inBox 39 = .ok (.aload_n 0, 1) := by decide +kernel
theorem d_M_inBox_40 : decode b_M_inBox 40 = .ok (.getfield 19, 3) := by decide +kernel
theorem d_M_inBox_43 : decode b_M_inBox 43 = .ok (.aload_n 0, 1) := by decide +kernel
theorem d_M_inBox_44 : decode b_M_inBox 44 = .ok (.getfield 53, 3) := by decide +kernel
theorem d_M_inBox_47 : decode b_M_inBox 47 = .ok (.iload 4, 2) := by decide +kernel
theorem d_M_inBox_49 : decode b_M_inBox 49 = .ok (.iaload, 1) := by decide +kernel
theorem d_M_inBox_50 : decode b_M_inBox 50 = .ok (.iaload, 1) := by decide +kernel
theorem d_M_inBox_51 : decode b_M_inBox 51 = .ok (.iload_n 2, 1) := by decide +kernel
theorem d_M_inBox_52 : decode b_M_inBox 52 = .ok (.if_icmp .ne 13, 3) := by decide +kernel
theorem d_M_inBox_55 : decode b_M_inBox 55 = .ok (.aload_n 0, 1) := by decide +kernel
theorem d_M_inBox_56 : decode b_M_inBox 56 = .ok (.getfield 56, 3) := by decide +kernel
theorem d_M_inBox_59 : decode b_M_inBox 59 = .ok (.iload 4, 2) := by decide +kernel
theorem d_M_inBox_61 : decode b_M_inBox 61 = .ok (.iaload, 1) := by decide +kernel
theorem d_M_inBox_62 : decode b_M_inBox 62 = .ok (.goto 4, 3) := by decide +kernel
theorem d_M_inBox_65 : decode b_M_inBox 65 = .ok (.iconst 0, 1) := by decide +kernel
theorem d_M_inBox_66 : decode b_M_inBox 66 = .ok (.iadd, 1) := by decide +kernel
theorem d_M_inBox_67 : decode b_M_inBox 67 = .ok (.istore_n 3, 1) := by decide +kernel
theorem d_M_inBox_68 : decode b_M_inBox 68 = .ok (.iinc 4 1, 3) := by decide +kernel
theorem d_M_inBox_71 : decode b_M_inBox 71 = .ok (.goto (-64), 3) := by decide +kernel
theorem d_M_inBox_74 : decode b_M_inBox 74 = .ok (.iload_n 3, 1) := by decide +kernel
theorem d_M_inBox_75 : decode b_M_inBox 75 = .ok (.ireturn, 1) := by decide +kernel
theorem d_M_put_0 : decode b_M_put 0 = .ok (.iload_n 1, 1) := by decide +kernel
theorem d_M_put_1 : decode b_M_put 1 = .ok (.iconst 0, 1) := by decide +kernel
theorem d_M_put_2 : decode b_M_put 2 = .ok (.iconst 3, 1) := by decide +kernel
theorem d_M_put_3 : decode b_M_put 3 = .ok (.invokestatic 73, 3) := by decide +kernel
theorem d_M_put_6 : decode b_M_put 6 = .ok (.ifCond .eq 32, 3) := by decide +kernel
theorem d_M_put_9 : decode b_M_put 9 = .ok (.aload_n 0, 1) := by decide +kernel
theorem d_M_put_10 : decode b_M_put 10 = .ok (.iload_n 2, 1) := by decide +kernel
theorem d_M_put_11 : decode b_M_put 11 = .ok (.invokevirtual 106, 3) := by decide +kernel
theorem d_M_put_14 : decode b_M_put 14 = .ok (.ifCond .eq 24, 3) := by decide +kernel
theorem d_M_put_17 : decode b_M_put 17 = .ok (.iload_n 3, 1) := by decide +kernel
theorem d_M_put_18 : decode b_M_put 18 = .ok (.iconst 0, 1) := by decide +kernel
theorem d_M_put_19 : decode b_M_put 19 = .ok (.bipush 19, 2) := by decide +kernel
theorem d_M_put_21 : decode b_M_put 21 = .ok (.invokestatic 73, 3) := by decide +kernel
theorem d_M_put_24 : decode b_M_put 24 = .ok (.ifCond .eq 14, 3) := by decide +kernel
theorem d_M_put_27 : decode b_M_put 27 = .ok (.iload 4, 2) := by decide +kernel
theorem d_M_put_29 : decode b_M_put 29 = .ok (.iconst 0, 1) := by decide +kernel
theorem d_M_put_30 : decode b_M_put 30 = .ok (.bipush 19, 2) := by decide +kernel
theorem d_M_put_32 : decode b_M_put 32 = .ok (.invokestatic 73, 3) := by decide +kernel
theorem d_M_put_35 : decode b_M_put 35 = .ok (.ifCond .ne 9, 3) := by decide +kernel
theorem d_M_put_38 : decode b_M_put 38 = .ok (.aload_n 0, 1) := by decide +kernel
theorem d_M_put_39 : decode b_M_put 39 = .ok (.iconst 1, 1) := by decide +kernel
theorem d_M_put_40 : decode b_M_put 40 = .ok (.invokevirtual 95, 3) := by decide +kernel
theorem d_M_put_43 : decode b_M_put 43 = .ok (.ireturn, 1) := by decide +kernel
theorem d_M_put_44 : decode b_M_put 44 = .ok (.aload_n 0, 1) := by decide +kernel
theorem d_M_put_45 : decode b_M_put 45 = .ok (.getfield 41, 3) := by decide +kernel
theorem d_M_put_48 : decode b_M_put 48 = .ok (.iload_n 2, 1) := by decide +kernel
theorem d_M_put_49 : decode b_M_put 49 = .ok (.iaload, 1) := by decide +kernel
theorem d_M_put_50 : decode b_M_put 50 = .ok (.iconst (-1), 1) := by decide +kernel
theorem d_M_put_51 : decode b_M_put 51 = .ok (.if_icmp .eq 9, 3) := by decide +kernel
theorem d_M_put_54 : decode b_M_put 54 = .ok (.aload_n 0, 1) := by decide +kernel
theorem d_M_put_55 : decode b_M_put 55 = .ok (.iconst 2, 1) := by decide +kernel
theorem d_M_put_56 : decode b_M_put 56 = .ok (.invokevirtual 95, 3) := by decide +kernel
theorem d_M_put_59 : decode b_M_put 59 = .ok (.ireturn, 1) := by decide +kernel
theorem d_M_put_60 : decode b_M_put 60 = .ok (.aload_n 0, 1) := by decide +kernel
theorem d_M_put_61 : decode b_M_put 61 = .ok (.iconst 0, 1) := by decide +kernel
theorem d_M_put_62 : decode b_M_put 62 = .ok (.putfield 63, 3) := by decide +kernel
theorem d_M_put_65 : decode b_M_put 65 = .ok (.aload_n 0, 1) := by decide +kernel
theorem d_M_put_66 : decode b_M_put 66 = .ok (.iload_n 1, 1) := by decide +kernel
theorem d_M_put_67 : decode b_M_put 67 = .ok (.iload_n 2, 1) := by decide +kernel
theorem d_M_put_68 : decode b_M_put 68 = .ok (.iload_n 3, 1) := by decide +kernel
theorem d_M_put_69 : decode b_M_put 69 = .ok (.iload 4, 2) := by decide +kernel
theorem d_M_put_71 : decode b_M_put 71 = .ok (.invokevirtual 145, 3) := by decide +kernel
theorem d_M_put_74 : decode b_M_put 74 = .ok (.istore 5, 2) := by decide +kernel
theorem d_M_put_76 : decode b_M_put 76 = .ok (.iload 5, 2) := by decide +kernel
theorem d_M_put_78 : decode b_M_put 78 = .ok (.ifCond .ne 25, 3) := by decide +kernel
theorem d_M_put_81 : decode b_M_put 81 = .ok (.aload_n 0, 1) := by decide +kernel
theorem d_M_put_82 : decode b_M_put 82 = .ok (.getfield 41, 3) := by decide +kernel
theorem d_M_put_85 : decode b_M_put 85 = .ok (.iload_n 2, 1) := by decide +kernel
theorem d_M_put_86 : decode b_M_put 86 = .ok (.iload_n 1, 1) := by decide +kernel
theorem d_M_put_87 : decode b_M_put 87 = .ok (.iastore, 1) := by decide +kernel
theorem d_M_put_88 : decode b_M_put 88 = .ok (.aload_n 0, 1) := by decide +kernel
theorem d_M_put_89 : decode b_M_put 89 = .ok (.getfield 44, 3) := by decide +kernel
theorem d_M_put_92 : decode b_M_put 92 = .ok (.iload_n 2, 1) := by decide +kernel
theorem d_M_put_93 : decode b_M_put 93 = .ok (.iload_n 3, 1) := by decide +kernel
theorem d_M_put_94 : decode b_M_put 94 = .ok (.iastore, 1) := by decide +kernel
theorem d_M_put_95 : decode b_M_put 95 = .ok (.aload_n 0, 1) := by decide +kernel
theorem d_M_put_96 : decode b_M_put 96 = .ok (.getfield 47, 3) := by decide +kernel
theorem d_M_put_99 : decode b_M_put 99 = .ok (.iload_n 2, 1) := by decide +kernel
theorem d_M_put_100 : decode b_M_put 100 = .ok (.iload 4, 2) := by decide +kernel
theorem d_M_put_102 : decode b_M_put 102 = .ok (.iastore, 1) := by decide +kernel
theorem d_M_put_103 : decode b_M_put 103 = .ok (.iload 5, 2) := by decide +kernel
theorem d_M_put_105 : decode b_M_put 105 = .ok (.ireturn, 1) := by decide +kernel
theorem d_M_bars_0 : decode b_M_bars 0 = .ok (.aload_n 0, 1) := by decide +kernel
theorem d_M_bars_1 : decode b_M_bars 1 = .ok (.iload_n 2, 1) := by decide +kernel
theorem d_M_bars_2 : decode b_M_bars 2 = .ok (.invokevirtual 138, 3) := by decide +kernel
theorem d_M_bars_5 : decode b_M_bars 5 = .ok (.aload_n 0, 1) := by decide +kernel
theorem d_M_bars_6 : decode b_M_bars 6 = .ok (.getfield 50, 3) := by decide +kernel
theorem d_M_bars_9 : decode b_M_bars 9 = .ok (.iload_n 2, 1) := by decide +kernel
theorem d_M_bars_10 : decode b_M_bars 10 = .ok (.iaload, 1) := by decide +kernel
theorem d_M_bars_11 : decode b_M_bars 11 = .ok (.iconst (-1), 1) := by decide +kernel
theorem d_M_bars_12 : decode b_M_bars 12 = .ok (.ixor, 1) := by decide +kernel
theorem d_M_bars_13 : decode b_M_bars 13 = .ok (.iand, 1) := by decide +kernel
theorem d_M_bars_14 : decode b_M_bars 14 = .ok (.ifCond .eq 6, 3) := by decide +kernel
theorem d_M_bars_17 : decode b_M_bars 17 = .ok (.bipush 16, 2) := by decide +kernel
theorem d_M_bars_19 : decode b_M_bars 19 = .ok (.ireturn, 1) := by decide +kernel
theorem d_M_bars_20 : decode b_M_bars 20 = .ok (.iconst 0, 1) := by decide +kernel
theorem d_M_bars_21 : decode b_M_bars 21 = .ok (.istore 5, 2) := by decide +kernel
theorem d_M_bars_23 : decode b_M_bars 23 = .ok (.iload 5, 2) := by decide +kernel
theorem d_M_bars_25 : decode b_M_bars 25 = .ok (.aload_n 0, 1) := by decide +kernel
theorem d_M_bars_26 : decode b_M_bars 26 = .ok (.getfield 70, 3) := by decide +kernel
theorem d_M_bars_29 : decode b_M_bars 29 = .ok (.if_icmp .ge 46, 3) := by decide +kernel
theorem d_M_bars_32 : decode b_M_bars 32 = .ok (.aload_n 0, 1) := by decide +kernel
theorem d_M_bars_33 : decode b_M_bars 33 = .ok (.getfield 41, 3) := by decide +kernel
theorem d_M_bars_36 : decode b_M_bars 36 = .ok (.iload 5, 2) := by decide +kernel
theorem d_M_bars_38 : decode b_M_bars 38 = .ok (.iaload, 1) := by decide +kernel
theorem d_M_bars_39 : decode b_M_bars 39 = .ok (.iload_n 1, 1) := by decide +kernel
theorem d_M_bars_40 : decode b_M_bars 40 = .ok (.if_icmp .ne 29, 3) := by decide +kernel
theorem d_M_bars_43 : decode b_M_bars 43 = .ok (.aload_n 0, 1) := by decide +kernel
theorem d_M_bars_44 : decode b_M_bars 44 = .ok (.getfield 44, 3) := by decide +kernel
theorem d_M_bars_47 : decode b_M_bars 47 = .ok (.iload 5, 2) := by decide +kernel
theorem d_M_bars_49 : decode b_M_bars 49 = .ok (.iaload, 1) := by decide +kernel
theorem d_M_bars_50 : decode b_M_bars 50 = .ok (.iload_n 3, 1) := by decide +kernel
theorem d_M_bars_51 : decode b_M_bars 51 = .ok (.if_icmp .ne 18, 3) := by decide +kernel
theorem d_M_bars_54 : decode b_M_bars 54 = .ok (.aload_n 0, 1) := by decide +kernel
theorem d_M_bars_55 : decode b_M_bars 55 = .ok (.getfield 47, 3) := by decide +kernel
theorem d_M_bars_58 : decode b_M_bars 58 = .ok (.iload 5, 2) := by decide +kernel
theorem d_M_bars_60 : decode b_M_bars 60 = .ok (.iaload, 1) := by decide +kernel
theorem d_M_bars_61 : decode b_M_bars 61 = .ok (.iload 4, 2) := by decide +kernel
theorem d_M_bars_63 : decode b_M_bars 63 = .ok (.if_icmp .ne 6, 3) := by decide +kernel
theorem d_M_bars_66 : decode b_M_bars 66 = .ok (.bipush 32, 2) := by decide +kernel
theorem d_M_bars_68 : decode b_M_bars 68 = .ok (.ireturn, 1) := by decide +kernel
theorem d_M_bars_69 : decode b_M_bars 69 = .ok (.iinc 5 1, 3) := by decide +kernel
theorem d_M_bars_72 : decode b_M_bars 72 = .ok (.goto (-49), 3) := by decide +kernel
theorem d_M_bars_75 : decode b_M_bars 75 = .ok (.iconst 1, 1) := by decide +kernel
theorem d_M_bars_76 : decode b_M_bars 76 = .ok (.istore 5, 2) := by decide +kernel
theorem d_M_bars_78 : decode b_M_bars 78 = .ok (.iload 5, 2) := by decide +kernel
theorem d_M_bars_80 : decode b_M_bars 80 = .ok (.bipush 10, 2) := by decide +kernel
theorem d_M_bars_82 : decode b_M_bars 82 = .ok (.if_icmp .ge 57, 3) := by decide +kernel
theorem d_M_bars_85 : decode b_M_bars 85 = .ok (.aload_n 0, 1) := by decide +kernel
theorem d_M_bars_86 : decode b_M_bars 86 = .ok (.iload_n 2, 1) := by decide +kernel
theorem d_M_bars_87 : decode b_M_bars 87 = .ok (.iload 5, 2) := by decide +kernel
theorem d_M_bars_89 : decode b_M_bars 89 = .ok (.invokevirtual 129, 3) := by decide +kernel
theorem d_M_bars_92 : decode b_M_bars 92 = .ok (.ifCond .le 41, 3) := by decide +kernel
theorem d_M_bars_95 : decode b_M_bars 95 = .ok (.aload_n 0, 1) := by decide +kernel
theorem d_M_bars_96 : decode b_M_bars 96 = .ok (.iload_n 1, 1) := by decide +kernel
theorem d_M_bars_97 : decode b_M_bars 97 = .ok (.iload 5, 2) := by decide +kernel
theorem d_M_bars_99 : decode b_M_bars 99 = .ok (.invokevirtual 132, 3) := by decide +kernel
theorem d_M_bars_102 : decode b_M_bars 102 = .ok (.aload_n 0, 1) := by decide +kernel
theorem d_M_bars_103 : decode b_M_bars 103 = .ok (.iload_n 2, 1) := by decide +kernel
theorem d_M_bars_104 : decode b_M_bars 104 = .ok (.iload 5, 2) := by decide +kernel
theorem d_M_bars_106 : decode b_M_bars 106 = .ok (.invokevirtual 129, 3) := by decide +kernel
theorem d_M_bars_109 : decode b_M_bars 109 = .ok (.iadd, 1) := by decide +kernel
theorem d_M_bars_110 : decode b_M_bars 110 = .ok (.aload_n 0, 1) := by decide +kernel
theorem d_M_bars_111 : decode b_M_bars 111 = .ok (.getfield 59, 3) := by decide +kernel
theorem d_M_bars_114 : decode b_M_bars 114 = .ok (.bipush 9, 2) := by decide +kernel
theorem d_M_bars_116 : decode b_M_bars 116 = .ok (.iload_n 1, 1) := by decide +kernel
theorem d_M_bars_117 : decode b_M_bars 117 = .ok (.imul, 1) := by decide +kernel
theorem d_M_bars_118 : decode b_M_bars 118 = .ok (.iload 5, 2) := by decide +kernel
theorem d_M_bars_120 : decode b_M_bars 120 = .ok (.iadd, 1) := by decide +kernel
theorem d_M_bars_121 : decode b_M_bars 121 = .ok (.iconst 1, 1) := by decide +kernel
theorem d_M_bars_122 : decode b_M_bars 122 = .ok (.isub, 1) := by decide +kernel
theorem d_M_bars_123 : decode b_M_bars 123 = .ok (.iaload, 1) := by decide +kernel
theorem d_M_bars_124 : decode b_M_bars 124 = .ok (.if_icmp .le 9, 3) := by decide +kernel
theorem d_M_bars_127 : decode b_M_bars 127 = .ok (.bipush 48, 2) := by decide +kernel
theorem d_M_bars_129 : decode b_M_bars 129 = .ok (.iload 5, 2) := by decide +kernel
theorem d_M_bars_131 : decode b_M_bars 131 = .ok (.iadd, 1) := by decide +kernel
theorem d_M_bars_132 : decode b_M_bars 132 = .ok (.ireturn, 1) := by decide +kernel
theorem d_M_bars_133 : decode b_M_bars 133 = .ok (.iinc 5 1, 3) := by decide +kernel
theorem d_M_bars_136 : decode b_M_bars 136 = .ok (.goto (-58), 3) := by decide +kernel
theorem d_M_bars_139 : decode b_M_bars 139 = .ok (.iconst 0, 1) := by decide +kernel
theorem d_M_bars_140 : decode b_M_bars 140 = .ok (.istore 5, 2) := by decide +kernel
theorem d_M_bars_142 : decode b_M_bars 142 = .ok (.iload 5, 2) := by decide +kernel
theorem d_M_bars_144 : decode b_M_bars 144 = .ok (.aload_n 0, 1) := by decide +kernel
theorem d_M_bars_145 : decode b_M_bars 145 = .ok (.getfield 70, 3) := by decide +kernel
theorem d_M_bars_148 : decode b_M_bars 148 = .ok (.if_icmp .ge 39, 3) := by decide +kernel
theorem d_M_bars_151 : decode b_M_bars 151 = .ok (.aload_n 0, 1) := by decide +kernel
theorem d_M_bars_152 : decode b_M_bars 152 = .ok (.getfield 41, 3) := by decide +kernel
theorem d_M_bars_155 : decode b_M_bars 155 = .ok (.iload 5, 2) := by decide +kernel
theorem d_M_bars_157 : decode b_M_bars 157 = .ok (.iaload, 1) := by decide +kernel
theorem d_M_bars_158 : decode b_M_bars 158 = .ok (.iload_n 1, 1) := by decide +kernel
theorem d_M_bars_159 : decode b_M_bars 159 = .ok (.if_icmp .ne 22, 3) := by decide +kernel
theorem d_M_bars_162 : decode b_M_bars 162 = .ok (.aload_n 0, 1) := by decide +kernel
theorem d_M_bars_163 : decode b_M_bars 163 = .ok (.iload_n 2, 1) := by decide +kernel
theorem d_M_bars_164 : decode b_M_bars 164 = .ok (.iload 5, 2) := by decide +kernel
theorem d_M_bars_166 : decode b_M_bars 166 = .ok (.iload_n 3, 1) := by decide +kernel
theorem d_M_bars_167 : decode b_M_bars 167 = .ok (.iload 4, 2) := by decide +kernel
theorem d_M_bars_169 : decode b_M_bars 169 = .ok (.invokevirtual 141, 3) := by decide +kernel
theorem d_M_bars_172 : decode b_M_bars 172 = .ok (.ifCond .eq 9, 3) := by decide +kernel
theorem d_M_bars_175 : decode b_M_bars 175 = .ok (.bipush 64, 2) := by decide +kernel
theorem d_M_bars_177 : decode b_M_bars 177 = .ok (.iload 5, 2) := by decide +kernel
theorem d_M_bars_179 : decode b_M_bars 179 = .ok (.iadd, 1) := by decide +kernel
theorem d_M_bars_180 : decode b_M_bars 180 = .ok (.ireturn, 1) := by decide +kernel
theorem d_M_bars_181 : decode b_M_bars 181 = .ok (.iinc 5 1, 3) := by decide +kernel
theorem d_M_bars_184 : decode b_M_bars 184 = .ok (.goto (-42), 3) := by decide +kernel
theorem d_M_bars_187 : decode b_M_bars 187 = .ok (.iconst 0, 1) := by decide +kernel
theorem d_M_bars_188 : decode b_M_bars 188 = .ok (.ireturn, 1) := by decide +kernel
theorem d_M_wanted_0 : decode b_M_wanted 0 = .ok (.iconst 1, 1) := by decide +kernel
theorem d_M_wanted_1 : decode b_M_wanted 1 = .ok (.istore_n 2, 1) := by decide +kernel
theorem d_M_wanted_2 : decode b_M_wanted 2 = .ok (.iconst 4, 1) := by decide +kernel
theorem d_M_wanted_3 : decode b_M_wanted 3 = .ok (.iload_n 1, 1) := by decide +kernel
theorem d_M_wanted_4 : decode b_M_wanted 4 = .ok (.imul, 1) := by decide +kernel
theorem d_M_wanted_5 : decode b_M_wanted 5 = .ok (.istore_n 3, 1) := by decide +kernel
theorem d_M_wanted_6 : decode b_M_wanted 6 = .ok (.iload_n 3, 1) := by decide +kernel
theorem d_M_wanted_7 : decode b_M_wanted 7 = .ok (.iconst 4, 1) := by decide +kernel
theorem d_M_wanted_8 : decode b_M_wanted 8 = .ok (.iload_n 1, 1) := by decide +kernel
theorem d_M_wanted_9 : decode b_M_wanted 9 = .ok (.imul, 1) := by decide +kernel
theorem d_M_wanted_10 : decode b_M_wanted 10 = .ok (.aload_n 0, 1) := by decide +kernel
theorem d_M_wanted_11 : decode b_M_wanted 11 = .ok (.getfield 38, 3) := by decide +kernel
theorem d_M_wanted_14 : decode b_M_wanted 14 = .ok (.iload_n 1, 1) := by decide +kernel
theorem d_M_wanted_15 : decode b_M_wanted 15 = .ok (.iaload, 1) := by decide +kernel
theorem d_M_wanted_16 : decode b_M_wanted 16 = .ok (.iadd, 1) := by decide +kernel
theorem d_M_wanted_17 : decode b_M_wanted 17 = .ok (.if_icmp .ge 84, 3) := by decide +kernel
theorem d_M_wanted_20 : decode b_M_wanted 20 = .ok (.aload_n 0, 1) := by decide +kernel
theorem d_M_wanted_21 : decode b_M_wanted 21 = .ok (.getfield 53, 3) := by decide +kernel
theorem d_M_wanted_24 : decode b_M_wanted 24 = .ok (.iload_n 3, 1) := by decide +kernel
theorem d_M_wanted_25 : decode b_M_wanted 25 = .ok (.iaload, 1) := by decide +kernel
theorem d_M_wanted_26 : decode b_M_wanted 26 = .ok (.istore 4, 2) := by decide +kernel
theorem d_M_wanted_28 : decode b_M_wanted 28 = .ok (.iload_n 2, 1) := by decide +kernel
theorem d_M_wanted_29 : decode b_M_wanted 29 = .ok (.aload_n 0, 1) := by decide +kernel
theorem d_M_wanted_30 : decode b_M_wanted 30 = .ok (.getfield 22, 3) := by decide +kernel
theorem d_M_wanted_33 : decode b_M_wanted 33 = .ok (.iload 4, 2) := by decide +kernel
theorem d_M_wanted_35 : decode b_M_wanted 35 = .ok (.iaload, 1) := by decide +kernel
theorem d_M_wanted_36 : decode b_M_wanted 36 = .ok (.iconst 1, 1) := by decide +kernel
theorem d_M_wanted_37 : decode b_M_wanted 37 = .ok (.if_icmp .ne 7, 3) := by decide +kernel
theorem d_M_wanted_40 : decode b_M_wanted 40 = .ok (.iconst 2, 1) := by decide +kernel
theorem d_M_wanted_41 : decode b_M_wanted 41 = .ok (.goto 4, 3) := by decide +kernel
end
section
theorem d_M_wanted_44 : decode b_M_wanted 44 = .ok (.iconst 0, 1) := by decide +kernel
theorem d_M_wanted_45 : decode b_M_wanted 45 = .ok (.aload_n 0, 1) := by decide +kernel
theorem d_M_wanted_46 : decode b_M_wanted 46 = .ok (.getfield 28, 3) := by decide +kernel
theorem d_M_wanted_49 : decode b_M_wanted 49 = .ok (.iload 4, 2) := by decide +kernel
theorem d_M_wanted_51 : decode b_M_wanted 51 = .ok (.baload, 1) := by decide +kernel
theorem d_M_wanted_52 : decode b_M_wanted 52 = .ok (.ifCond .eq 7, 3) := by decide +kernel
theorem d_M_wanted_55 : decode b_M_wanted 55 = .ok (.iconst 4, 1) := by decide +kernel
theorem d_M_wanted_56 : decode b_M_wanted 56 = .ok (.goto 4, 3) := by decide +kernel
theorem d_M_wanted_59 : decode b_M_wanted 59 = .ok (.iconst 0, 1) := by decide +kernel
theorem d_M_wanted_60 : decode b_M_wanted 60 = .ok (.ior, 1) := by decide +kernel
theorem d_M_wanted_61 : decode b_M_wanted 61 = .ok (.aload_n 0, 1) := by decide +kernel
theorem d_M_wanted_62 : decode b_M_wanted 62 = .ok (.getfield 32, 3) := by decide +kernel
theorem d_M_wanted_65 : decode b_M_wanted 65 = .ok (.iload 4, 2) := by decide +kernel
theorem d_M_wanted_67 : decode b_M_wanted 67 = .ok (.baload, 1) := by decide +kernel
theorem d_M_wanted_68 : decode b_M_wanted 68 = .ok (.ifCond .eq 8, 3) := by decide +kernel
theorem d_M_wanted_71 : decode b_M_wanted 71 = .ok (.bipush 8, 2) := by decide +kernel
theorem d_M_wanted_73 : decode b_M_wanted 73 = .ok (.goto 4, 3) := by decide +kernel
theorem d_M_wanted_76 : decode b_M_wanted 76 = .ok (.iconst 0, 1) := by decide +kernel
theorem d_M_wanted_77 : decode b_M_wanted 77 = .ok (.ior, 1) := by decide +kernel
theorem d_M_wanted_78 : decode b_M_wanted 78 = .ok (.aload_n 0, 1) := by decide +kernel
theorem d_M_wanted_79 : decode b_M_wanted 79 = .ok (.iload_n 3, 1) := by decide +kernel
theorem d_M_wanted_80 : decode b_M_wanted 80 = .ok (.invokevirtual 120, 3) := by decide +kernel
theorem d_M_wanted_83 : decode b_M_wanted 83 = .ok (.ifCond .eq 7, 3) := by decide +kernel
theorem d_M_wanted_86 : decode b_M_wanted 86 = .ok (.iconst 0, 1) := by decide +kernel
theorem d_M_wanted_87 : decode b_M_wanted 87 = .ok (.goto 5, 3) := by decide +kernel
theorem d_M_wanted_90 : decode b_M_wanted 90 = .ok (.bipush 16, 2) := by decide +kernel
theorem d_M_wanted_92 : decode b_M_wanted 92 = .ok (.ior, 1) := by decide +kernel
theorem d_M_wanted_93 : decode b_M_wanted 93 = .ok (.ior, 1) := by decide +kernel
theorem d_M_wanted_94 : decode b_M_wanted 94 = .ok (.istore_n 2, 1) := by decide +kernel
theorem d_M_wanted_95 : decode b_M_wanted 95 = .ok (.iinc 3 1, 3) := by decide +kernel
theorem d_M_wanted_98 : decode b_M_wanted 98 = .ok (.goto (-92), 3) := by decide +kernel
theorem d_M_wanted_101 : decode b_M_wanted 101 = .ok (.iload_n 2, 1) := by decide +kernel
theorem d_M_wanted_102 : decode b_M_wanted 102 = .ok (.ireturn, 1) := by decide +kernel
theorem d_M_isNear_0 : decode b_M_isNear 0 = .ok (.aload_n 0, 1) := by decide +kernel
theorem d_M_isNear_1 : decode b_M_isNear 1 = .ok (.iload_n 1, 1) := by decide +kernel
theorem d_M_isNear_2 : decode b_M_isNear 2 = .ok (.iload_n 2, 1) := by decide +kernel
theorem d_M_isNear_3 : decode b_M_isNear 3 = .ok (.invokevirtual 126, 3) := by decide +kernel
theorem d_M_isNear_6 : decode b_M_isNear 6 = .ok (.istore 5, 2) := by decide +kernel
theorem d_M_isNear_8 : decode b_M_isNear 8 = .ok (.iload_n 3, 1) := by decide +kernel
theorem d_M_isNear_9 : decode b_M_isNear 9 = .ok (.aload_n 0, 1) := by decide +kernel
theorem d_M_isNear_10 : decode b_M_isNear 10 = .ok (.getfield 44, 3) := by decide +kernel
theorem d_M_isNear_13 : decode b_M_isNear 13 = .ok (.iload_n 2, 1) := by decide +kernel
theorem d_M_isNear_14 : decode b_M_isNear 14 = .ok (.iaload, 1) := by decide +kernel
theorem d_M_isNear_15 : decode b_M_isNear 15 = .ok (.isub, 1) := by decide +kernel
theorem d_M_isNear_16 : decode b_M_isNear 16 = .ok (.invokestatic 135, 3) := by decide +kernel
theorem d_M_isNear_19 : decode b_M_isNear 19 = .ok (.iload 4, 2) := by decide +kernel
theorem d_M_isNear_21 : decode b_M_isNear 21 = .ok (.aload_n 0, 1) := by decide +kernel
theorem d_M_isNear_22 : decode b_M_isNear 22 = .ok (.getfield 47, 3) := by decide +kernel
theorem d_M_isNear_25 : decode b_M_isNear 25 = .ok (.iload_n 2, 1) := by decide +kernel
theorem d_M_isNear_26 : decode b_M_isNear 26 = .ok (.iaload, 1) := by decide +kernel
theorem d_M_isNear_27 : decode b_M_isNear 27 = .ok (.isub, 1) := by decide +kernel
theorem d_M_isNear_28 : decode b_M_isNear 28 = .ok (.invokestatic 135, 3) := by decide +kernel
theorem d_M_isNear_31 : decode b_M_isNear 31 = .ok (.iadd, 1) := by decide +kernel
theorem d_M_isNear_32 : decode b_M_isNear 32 = .ok (.istore 6, 2) := by decide +kernel
theorem d_M_isNear_34 : decode b_M_isNear 34 = .ok (.iload 5, 2) := by decide +kernel
theorem d_M_isNear_36 : decode b_M_isNear 36 = .ok (.iconst 4, 1) := by decide +kernel
theorem d_M_isNear_37 : decode b_M_isNear 37 = .ok (.if_icmp .eq 19, 3) := by decide +kernel
theorem d_M_isNear_40 : decode b_M_isNear 40 = .ok (.iload 5, 2) := by decide +kernel
theorem d_M_isNear_42 : decode b_M_isNear 42 = .ok (.ifCond .le 18, 3) := by decide +kernel
theorem d_M_isNear_45 : decode b_M_isNear 45 = .ok (.iload 6, 2) := by decide +kernel
theorem d_M_isNear_47 : decode b_M_isNear 47 = .ok (.iconst 3, 1) := by decide +kernel
theorem d_M_isNear_48 : decode b_M_isNear 48 = .ok (.iload 5, 2) := by decide +kernel
theorem d_M_isNear_50 : decode b_M_isNear 50 = .ok (.iconst 1, 1) := by decide +kernel
theorem d_M_isNear_51 : decode b_M_isNear 51 = .ok (.isub, 1) := by decide +kernel
theorem d_M_isNear_52 : decode b_M_isNear 52 = .ok (.ishl, 1) := by decide +kernel
theorem d_M_isNear_53 : decode b_M_isNear 53 = .ok (.if_icmp .ge 7, 3) := by decide +kernel
theorem d_M_isNear_56 : decode b_M_isNear 56 = .ok (.iconst 1, 1) := by decide +kernel
theorem d_M_isNear_57 : decode b_M_isNear 57 = .ok (.goto 4, 3) := by decide +kernel
theorem d_M_isNear_60 : decode b_M_isNear 60 = .ok (.iconst 0, 1) := by decide +kernel
theorem d_M_isNear_61 : decode b_M_isNear 61 = .ok (.ireturn, 1) := by decide +kernel
theorem d_M_far_0 : decode b_M_far 0 = .ok (.iload_n 0, 1) := by decide +kernel
theorem d_M_far_1 : decode b_M_far 1 = .ok (.ifCond .ge 8, 3) := by decide +kernel
theorem d_M_far_4 : decode b_M_far 4 = .ok (.iload_n 0, 1) := by decide +kernel
theorem d_M_far_5 : decode b_M_far 5 = .ok (.ineg, 1) := by decide +kernel
theorem d_M_far_6 : decode b_M_far 6 = .ok (.goto 4, 3) := by decide +kernel
theorem d_M_far_9 : decode b_M_far 9 = .ok (.iload_n 0, 1) := by decide +kernel
theorem d_M_far_10 : decode b_M_far 10 = .ok (.ireturn, 1) := by decide +kernel
theorem d_M_take_0 : decode b_M_take 0 = .ok (.aload_n 0, 1) := by decide +kernel
theorem d_M_take_1 : decode b_M_take 1 = .ok (.iload_n 1, 1) := by decide +kernel
theorem d_M_take_2 : decode b_M_take 2 = .ok (.invokevirtual 106, 3) := by decide +kernel
theorem d_M_take_5 : decode b_M_take 5 = .ok (.ifCond .ne 9, 3) := by decide +kernel
theorem d_M_take_8 : decode b_M_take 8 = .ok (.aload_n 0, 1) := by decide +kernel
theorem d_M_take_9 : decode b_M_take 9 = .ok (.iconst 1, 1) := by decide +kernel
theorem d_M_take_10 : decode b_M_take 10 = .ok (.invokevirtual 95, 3) := by decide +kernel
theorem d_M_take_13 : decode b_M_take 13 = .ok (.ireturn, 1) := by decide +kernel
theorem d_M_take_14 : decode b_M_take 14 = .ok (.aload_n 0, 1) := by decide +kernel
theorem d_M_take_15 : decode b_M_take 15 = .ok (.iconst 0, 1) := by decide +kernel
theorem d_M_take_16 : decode b_M_take 16 = .ok (.putfield 63, 3) := by decide +kernel
theorem d_M_take_19 : decode b_M_take 19 = .ok (.aload_n 0, 1) := by decide +kernel
theorem d_M_take_20 : decode b_M_take 20 = .ok (.getfield 41, 3) := by decide +kernel
theorem d_M_take_23 : decode b_M_take 23 = .ok (.iload_n 1, 1) := by decide +kernel
theorem d_M_take_24 : decode b_M_take 24 = .ok (.iaload, 1) := by decide +kernel
theorem d_M_take_25 : decode b_M_take 25 = .ok (.istore_n 2, 1) := by decide +kernel
theorem d_M_take_26 : decode b_M_take 26 = .ok (.aload_n 0, 1) := by decide +kernel
theorem d_M_take_27 : decode b_M_take 27 = .ok (.getfield 41, 3) := by decide +kernel
theorem d_M_take_30 : decode b_M_take 30 = .ok (.iload_n 1, 1) := by decide +kernel
theorem d_M_take_31 : decode b_M_take 31 = .ok (.iconst (-1), 1) := by decide +kernel
theorem d_M_take_32 : decode b_M_take 32 = .ok (.iastore, 1) := by decide +kernel
theorem d_M_take_33 : decode b_M_take 33 = .ok (.iload_n 2, 1) := by decide +kernel
theorem d_M_take_34 : decode b_M_take 34 = .ok (.ireturn, 1) := by decide +kernel
theorem d_M_paper_0 : decode b_M_paper 0 = .ok (.aload_n 0, 1) := by decide +kernel
theorem d_M_paper_1 : decode b_M_paper 1 = .ok (.iconst 0, 1) := by decide +kernel
theorem d_M_paper_2 : decode b_M_paper 2 = .ok (.putfield 63, 3) := by decide +kernel
theorem d_M_paper_5 : decode b_M_paper 5 = .ok (.aload_n 0, 1) := by decide +kernel
theorem d_M_paper_6 : decode b_M_paper 6 = .ok (.iload_n 1, 1) := by decide +kernel
theorem d_M_paper_7 : decode b_M_paper 7 = .ok (.invokevirtual 106, 3) := by decide +kernel
theorem d_M_paper_10 : decode b_M_paper 10 = .ok (.ifCond .eq 26, 3) := by decide +kernel
theorem d_M_paper_13 : decode b_M_paper 13 = .ok (.iload_n 2, 1) := by decide +kernel
theorem d_M_paper_14 : decode b_M_paper 14 = .ok (.iconst 0, 1) := by decide +kernel
theorem d_M_paper_15 : decode b_M_paper 15 = .ok (.iconst 4, 1) := by decide +kernel
theorem d_M_paper_16 : decode b_M_paper 16 = .ok (.invokestatic 73, 3) := by decide +kernel
theorem d_M_paper_19 : decode b_M_paper 19 = .ok (.ifCond .eq 17, 3) := by decide +kernel
theorem d_M_paper_22 : decode b_M_paper 22 = .ok (.aload_n 0, 1) := by decide +kernel
theorem d_M_paper_23 : decode b_M_paper 23 = .ok (.getfield 50, 3) := by decide +kernel
theorem d_M_paper_26 : decode b_M_paper 26 = .ok (.iload_n 1, 1) := by decide +kernel
theorem d_M_paper_27 : decode b_M_paper 27 = .ok (.iaload, 1) := by decide +kernel
theorem d_M_paper_28 : decode b_M_paper 28 = .ok (.iload_n 2, 1) := by decide +kernel
theorem d_M_paper_29 : decode b_M_paper 29 = .ok (.ishr, 1) := by decide +kernel
theorem d_M_paper_30 : decode b_M_paper 30 = .ok (.iconst 1, 1) := by decide +kernel
theorem d_M_paper_31 : decode b_M_paper 31 = .ok (.iand, 1) := by decide +kernel
theorem d_M_paper_32 : decode b_M_paper 32 = .ok (.iconst 1, 1) := by decide +kernel
theorem d_M_paper_33 : decode b_M_paper 33 = .ok (.if_icmp .ne 5, 3) := by decide +kernel
theorem d_M_paper_36 : decode b_M_paper 36 = .ok (.iconst 0, 1) := by decide +kernel
theorem d_M_paper_37 : decode b_M_paper 37 = .ok (.ireturn, 1) := by decide +kernel
theorem d_M_paper_38 : decode b_M_paper 38 = .ok (.aload_n 0, 1) := by decide +kernel
theorem d_M_paper_39 : decode b_M_paper 39 = .ok (.getfield 50, 3) := by decide +kernel
theorem d_M_paper_42 : decode b_M_paper 42 = .ok (.iload_n 1, 1) := by decide +kernel
theorem d_M_paper_43 : decode b_M_paper 43 = .ok (.dup2, 1) := by decide +kernel
theorem d_M_paper_44 : decode b_M_paper 44 = .ok (.iaload, 1) := by decide +kernel
theorem d_M_paper_45 : decode b_M_paper 45 = .ok (.iconst 1, 1) := by decide +kernel
theorem d_M_paper_46 : decode b_M_paper 46 = .ok (.iload_n 2, 1) := by decide +kernel
theorem d_M_paper_47 : decode b_M_paper 47 = .ok (.ishl, 1) := by decide +kernel
theorem d_M_paper_48 : decode b_M_paper 48 = .ok (.ior, 1) := by decide +kernel
theorem d_M_paper_49 : decode b_M_paper 49 = .ok (.iastore, 1) := by decide +kernel
theorem d_M_paper_50 : decode b_M_paper 50 = .ok (.iconst 1, 1) := by decide +kernel
theorem d_M_paper_51 : decode b_M_paper 51 = .ok (.ireturn, 1) := by decide +kernel
theorem d_M_missing_0 : decode b_M_missing 0 = .ok (.aload_n 0, 1) := by decide +kernel
theorem d_M_missing_1 : decode b_M_missing 1 = .ok (.aload_n 0, 1) := by decide +kernel
theorem d_M_missing_2 : decode b_M_missing 2 = .ok (.iload_n 1, 1) := by decide +kernel
theorem d_M_missing_3 : decode b_M_missing 3 = .ok (.invokevirtual 106, 3) := by decide +kernel
theorem d_M_missing_6 : decode b_M_missing 6 = .ok (.ifCond .eq 7, 3) := by decide +kernel
theorem d_M_missing_9 : decode b_M_missing 9 = .ok (.iconst 0, 1) := by decide +kernel
theorem d_M_missing_10 : decode b_M_missing 10 = .ok (.goto 4, 3) := by decide +kernel
theorem d_M_missing_13 : decode b_M_missing 13 = .ok (.iconst 1, 1) := by decide +kernel
theorem d_M_missing_14 : decode b_M_missing 14 = .ok (.putfield 63, 3) := by decide +kernel
theorem d_M_missing_17 : decode b_M_missing 17 = .ok (.aload_n 0, 1) := by decide +kernel
theorem d_M_missing_18 : decode b_M_missing 18 = .ok (.getfield 63, 3) := by decide +kernel
theorem d_M_missing_21 : decode b_M_missing 21 = .ok (.ifCond .le 7, 3) := by decide +kernel
theorem d_M_missing_24 : decode b_M_missing 24 = .ok (.iconst 0, 1) := by decide +kernel
theorem d_M_missing_25 : decode b_M_missing 25 = .ok (.goto 17, 3) := by decide +kernel
theorem d_M_missing_28 : decode b_M_missing 28 = .ok (.aload_n 0, 1) := by decide +kernel
theorem d_M_missing_29 : decode b_M_missing 29 = .ok (.iload_n 1, 1) := by decide +kernel
theorem d_M_missing_30 : decode b_M_missing 30 = .ok (.invokevirtual 138, 3) := by decide +kernel
theorem d_M_missing_33 : decode b_M_missing 33 = .ok (.aload_n 0, 1) := by decide +kernel
theorem d_M_missing_34 : decode b_M_missing 34 = .ok (.getfield 50, 3) := by decide +kernel
theorem d_M_missing_37 : decode b_M_missing 37 = .ok (.iload_n 1, 1) := by decide +kernel
theorem d_M_missing_38 : decode b_M_missing 38 = .ok (.iaload, 1) := by decide +kernel
theorem d_M_missing_39 : decode b_M_missing 39 = .ok (.iconst (-1), 1) := by decide +kernel
theorem d_M_missing_40 : decode b_M_missing 40 = .ok (.ixor, 1) := by decide +kernel
theorem d_M_missing_41 : decode b_M_missing 41 = .ok (.iand, 1) := by decide +kernel
theorem d_M_missing_42 : decode b_M_missing 42 = .ok (.ireturn, 1) := by decide +kernel
theorem d_M_look_0 : decode b_M_look 0 = .ok (.aload_n 0, 1) := by decide +kernel
theorem d_M_look_1 : decode b_M_look 1 = .ok (.iload_n 1, 1) := by decide +kernel
theorem d_M_look_2 : decode b_M_look 2 = .ok (.invokevirtual 106, 3) := by decide +kernel
theorem d_M_look_5 : decode b_M_look 5 = .ok (.ifCond .eq 13, 3) := by decide +kernel
theorem d_M_look_8 : decode b_M_look 8 = .ok (.iload_n 2, 1) := by decide +kernel
theorem d_M_look_9 : decode b_M_look 9 = .ok (.iconst 0, 1) := by decide +kernel
theorem d_M_look_10 : decode b_M_look 10 = .ok (.bipush 6, 2) := by decide +kernel
theorem d_M_look_12 : decode b_M_look 12 = .ok (.invokestatic 73, 3) := by decide +kernel
theorem d_M_look_15 : decode b_M_look 15 = .ok (.ifCond .ne 9, 3) := by decide +kernel
theorem d_M_look_18 : decode b_M_look 18 = .ok (.aload_n 0, 1) := by decide +kernel
theorem d_M_look_19 : decode b_M_look 19 = .ok (.iconst 1, 1) := by decide +kernel
theorem d_M_look_20 : decode b_M_look 20 = .ok (.invokevirtual 95, 3) := by decide +kernel
theorem d_M_look_23 : decode b_M_look 23 = .ok (.ireturn, 1) := by decide +kernel
theorem d_M_look_24 : decode b_M_look 24 = .ok (.aload_n 0, 1) := by decide +kernel
theorem d_M_look_25 : decode b_M_look 25 = .ok (.iconst 0, 1) := by decide +kernel
theorem d_M_look_26 : decode b_M_look 26 = .ok (.putfield 63, 3) := by decide +kernel
theorem d_M_look_29 : decode b_M_look 29 = .ok (.iconst 0, 1) := by decide +kernel
theorem d_M_look_30 : decode b_M_look 30 = .ok (.istore_n 3, 1) := by decide +kernel
theorem d_M_look_31 : decode b_M_look 31 = .ok (.iconst 0, 1) := by decide +kernel
theorem d_M_look_32 : decode b_M_look 32 = .ok (.istore 4, 2) := by decide +kernel
theorem d_M_look_34 : decode b_M_look 34 = .ok (.iconst 4, 1) := by decide +kernel
theorem d_M_look_35 : decode b_M_look 35 = .ok (.iload_n 1, 1) := by decide +kernel
theorem d_M_look_36 : decode b_M_look 36 = .ok (.imul, 1) := by decide +kernel
theorem d_M_look_37 : decode b_M_look 37 = .ok (.istore 5, 2) := by decide +kernel
theorem d_M_look_39 : decode b_M_look 39 = .ok (.iload 5, 2) := by decide +kernel
theorem d_M_look_41 : decode b_M_look 41 = .ok (.iconst 4, 1) := by decide +kernel
theorem d_M_look_42 : decode b_M_look 42 = .ok (.iload_n 1, 1) := by decide +kernel
theorem d_M_look_43 : decode b_M_look 43 = .ok (.imul, 1) := by decide +kernel
theorem d_M_look_44 : decode b_M_look 44 = .ok (.aload_n 0, 1) := by decide +kernel
theorem d_M_look_45 : decode b_M_look 45 = .ok (.getfield 38, 3) := by decide +kernel
theorem d_M_look_48 : decode b_M_look 48 = .ok (.iload_n 1, 1) := by decide +kernel
theorem d_M_look_49 : decode b_M_look 49 = .ok (.iaload, 1) := by decide +kernel
theorem d_M_look_50 : decode b_M_look 50 = .ok (.iadd, 1) := by decide +kernel
theorem d_M_look_51 : decode b_M_look 51 = .ok (.if_icmp .ge 38, 3) := by decide +kernel
theorem d_M_look_54 : decode b_M_look 54 = .ok (.iload_n 3, 1) := by decide +kernel
theorem d_M_look_55 : decode b_M_look 55 = .ok (.aload_n 0, 1) := by decide +kernel
theorem d_M_look_56 : decode b_M_look 56 = .ok (.getfield 56, 3) := by decide +kernel
theorem d_M_look_59 : decode b_M_look 59 = .ok (.iload 5, 2) := by decide +kernel
theorem d_M_look_61 : decode b_M_look 61 = .ok (.iaload, 1) := by decide +kernel
theorem d_M_look_62 : decode b_M_look 62 = .ok (.iadd, 1) := by decide +kernel
theorem d_M_look_63 : decode b_M_look 63 = .ok (.istore_n 3, 1) := by decide +kernel
theorem d_M_look_64 : decode b_M_look 64 = .ok (.iload 4, 2) := by decide +kernel
theorem d_M_look_66 : decode b_M_look 66 = .ok (.aload_n 0, 1) := by decide +kernel
theorem d_M_look_67 : decode b_M_look 67 = .ok (.iload 5, 2) := by decide +kernel
theorem d_M_look_69 : decode b_M_look 69 = .ok (.invokevirtual 120, 3) := by decide +kernel
theorem d_M_look_72 : decode b_M_look 72 = .ok (.ifCond .eq 7, 3) := by decide +kernel
theorem d_M_look_75 : decode b_M_look 75 = .ok (.iconst 1, 1) := by decide +kernel
theorem d_M_look_76 : decode b_M_look 76 = .ok (.goto 4, 3) := by decide +kernel
theorem d_M_look_79 : decode b_M_look 79 = .ok (.iconst 0, 1) := by decide +kernel
theorem d_M_look_80 : decode b_M_look 80 = .ok (.iadd, 1) := by decide +kernel
theorem d_M_look_81 : decode b_M_look 81 = .ok (.istore 4, 2) := by decide +kernel
theorem d_M_look_83 : decode b_M_look 83 = .ok (.iinc 5 1, 3) := by decide +kernel
theorem d_M_look_86 : decode b_M_look 86 = .ok (.goto (-47), 3) := by decide +kernel
theorem d_M_look_89 : decode b_M_look 89 = .ok (.iload_n 2, 1) := by decide +kernel
theorem d_M_look_90 : decode b_M_look 90 = .ok (.tableswitch 97 0 5 #[38, 45, 52, 72, 92, 94], 38) := by decide +kernel
theorem d_M_look_128 : decode b_M_look 128 = .ok (.aload_n 0, 1) := by decide +kernel
theorem d_M_look_129 : decode b_M_look 129 = .ok (.getfield 38, 3) := by decide +kernel
theorem d_M_look_132 : decode b_M_look 132 = .ok (.iload_n 1, 1) := by decide +kernel
theorem d_M_look_133 : decode b_M_look 133 = .ok (.iaload, 1) := by decide +kernel
theorem d_M_look_134 : decode b_M_look 134 = .ok (.ireturn, 1) := by decide +kernel
theorem d_M_look_135 : decode b_M_look 135 = .ok (.aload_n 0, 1) := by decide +kernel
theorem d_M_look_136 : decode b_M_look 136 = .ok (.getfield 41, 3) := by decide +kernel
theorem d_M_look_139 : decode b_M_look 139 = .ok (.iload_n 1, 1) := by decide +kernel
theorem d_M_look_140 : decode b_M_look 140 = .ok (.iaload, 1) := by decide +kernel
theorem d_M_look_141 : decode b_M_look 141 = .ok (.ireturn, 1) := by decide +kernel
theorem d_M_look_142 : decode b_M_look 142 = .ok (.aload_n 0, 1) := by decide +kernel
theorem d_M_look_143 : decode b_M_look 143 = .ok (.getfield 41, 3) := by decide +kernel
theorem d_M_look_146 : decode b_M_look 146 = .ok (.iload_n 1, 1) := by decide +kernel
theorem d_M_look_147 : decode b_M_look 147 = .ok (.iaload, 1) := by decide +kernel
theorem d_M_look_148 : decode b_M_look 148 = .ok (.ifCond .ge 7, 3) := by decide +kernel
theorem d_M_look_151 : decode b_M_look 151 = .ok (.iconst (-1), 1) := by decide +kernel
theorem d_M_look_152 : decode b_M_look 152 = .ok (.goto 9, 3) := by decide +kernel
theorem d_M_look_155 : decode b_M_look 155 = .ok (.aload_n 0, 1) := by decide +kernel
theorem d_M_look_156 : decode b_M_look 156 = .ok (.getfield 44, 3) := by decide +kernel
theorem d_M_look_159 : decode b_M_look 159 = .ok (.iload_n 1, 1) := by decide +kernel
theorem d_M_look_160 : decode b_M_look 160 = .ok (.iaload, 1) := by decide +kernel
theorem d_M_look_161 : decode b_M_look 161 = .ok (.ireturn, 1) := by decide +kernel
theorem d_M_look_162 : decode b_M_look 162 = .ok (.aload_n 0, 1) := by decide +kernel
theorem d_M_look_163 : decode b_M_look 163 = .ok (.getfield 41, 3) := by decide +kernel
theorem d_M_look_166 : decode b_M_look 166 = .ok (.iload_n 1, 1) := by decide +kernel
theorem d_M_look_167 : decode b_M_look 167 = .ok (.iaload, 1) := by decide +kernel
theorem d_M_look_168 : decode b_M_look 168 = .ok (.ifCond .ge 7, 3) := by decide +kernel
theorem d_M_look_171 : decode b_M_look 171 = .ok (.iconst (-1), 1) := by decide +kernel
theorem d_M_look_172 : decode b_M_look 172 = .ok (.goto 9, 3) := by decide +kernel
theorem d_M_look_175 : decode b_M_look 175 = .ok (.aload_n 0, 1) := by decide +kernel
theorem d_M_look_176 : decode b_M_look 176 = .ok (.getfield 47, 3) := by decide +kernel
theorem d_M_look_179 : decode b_M_look 179 = .ok (.iload_n 1, 1) := by decide +kernel
theorem d_M_look_180 : decode b_M_look 180 = .ok (.iaload, 1) := by decide +kernel
theorem d_M_look_181 : decode b_M_look 181 = .ok (.ireturn, 1) := by decide +kernel
theorem d_M_look_182 : decode b_M_look 182 = .ok (.iload_n 3, 1) := by decide +kernel
theorem d_M_look_183 : decode b_M_look 183 = .ok (.ireturn, 1) := by decide +kernel
theorem d_M_look_184 : decode b_M_look 184 = .ok (.iload 4, 2) := by decide +kernel
theorem d_M_look_186 : decode b_M_look 186 = .ok (.ireturn, 1) := by decide +kernel
theorem d_M_look_187 : decode b_M_look 187 = .ok (.aload_n 0, 1) := by decide +kernel
theorem d_M_look_188 : decode b_M_look 188 = .ok (.getfield 50, 3) := by decide +kernel
theorem d_M_look_191 : decode b_M_look 191 = .ok (.iload_n 1, 1) := by decide +kernel
theorem d_M_look_192 : decode b_M_look 192 = .ok (.iaload, 1) := by decide +kernel
theorem d_M_look_193 : decode b_M_look 193 = .ok (.ireturn, 1) := by decide +kernel
theorem d_M_count_0 : decode b_M_count 0 = .ok (.aload_n 0, 1) := by decide +kernel
theorem d_M_count_1 : decode b_M_count 1 = .ok (.iconst 0, 1) := by decide +kernel
theorem d_M_count_2 : decode b_M_count 2 = .ok (.putfield 63, 3) := by decide +kernel
theorem d_M_count_5 : decode b_M_count 5 = .ok (.iconst 0, 1) := by decide +kernel
theorem d_M_count_6 : decode b_M_count 6 = .ok (.istore_n 2, 1) := by decide +kernel
theorem d_M_count_7 : decode b_M_count 7 = .ok (.iconst 0, 1) := by decide +kernel
theorem d_M_count_8 : decode b_M_count 8 = .ok (.istore_n 3, 1) := by decide +kernel
theorem d_M_count_9 : decode b_M_count 9 = .ok (.iload_n 3, 1) := by decide +kernel
theorem d_M_count_10 : decode b_M_count 10 = .ok (.aload_n 0, 1) := by decide +kernel
theorem d_M_count_11 : decode b_M_count 11 = .ok (.getfield 70, 3) := by decide +kernel
theorem d_M_count_14 : decode b_M_count 14 = .ok (.if_icmp .ge 26, 3) := by decide +kernel
theorem d_M_count_17 : decode b_M_count 17 = .ok (.iload_n 2, 1) := by decide +kernel
theorem d_M_count_18 : decode b_M_count 18 = .ok (.aload_n 0, 1) := by decide +kernel
theorem d_M_count_19 : decode b_M_count 19 = .ok (.getfield 41, 3) := by decide +kernel
theorem d_M_count_22 : decode b_M_count 22 = .ok (.iload_n 3, 1) := by decide +kernel
theorem d_M_count_23 : decode b_M_count 23 = .ok (.iaload, 1) := by decide +kernel
theorem d_M_count_24 : decode b_M_count 24 = .ok (.ifCond .lt 7, 3) := by decide +kernel
theorem d_M_count_27 : decode b_M_count 27 = .ok (.iconst 1, 1) := by decide +kernel
theorem d_M_count_28 : decode b_M_count 28 = .ok (.goto 4, 3) := by decide +kernel
theorem d_M_count_31 : decode b_M_count 31 = .ok (.iconst 0, 1) := by decide +kernel
theorem d_M_count_32 : decode b_M_count 32 = .ok (.iadd, 1) := by decide +kernel
theorem d_M_count_33 : decode b_M_count 33 = .ok (.istore_n 2, 1) := by decide +kernel
theorem d_M_count_34 : decode b_M_count 34 = .ok (.iinc 3 1, 3) := by decide +kernel
theorem d_M_count_37 : decode b_M_count 37 = .ok (.goto (-28), 3) := by decide +kernel
theorem d_M_count_40 : decode b_M_count 40 = .ok (.iload_n 1, 1) := by decide +kernel
theorem d_M_count_41 : decode b_M_count 41 = .ok (.tableswitch 65 0 4 #[35, 40, 45, 50, 52], 35) := by decide +kernel
theorem d_M_count_76 : decode b_M_count 76 = .ok (.aload_n 0, 1) := by decide +kernel
theorem d_M_count_77 : decode b_M_count 77 = .ok (.getfield 77, 3) := by decide +kernel
theorem d_M_count_80 : decode b_M_count 80 = .ok (.ireturn, 1) := by decide +kernel
theorem d_M_count_81 : decode b_M_count 81 = .ok (.aload_n 0, 1) := by decide +kernel
theorem d_M_count_82 : decode b_M_count 82 = .ok (.getfield 67, 3) := by decide +kernel
theorem d_M_count_85 : decode b_M_count 85 = .ok (.ireturn, 1) := by decide +kernel
theorem d_M_count_86 : decode b_M_count 86 = .ok (.aload_n 0, 1) := by decide +kernel
theorem d_M_count_87 : decode b_M_count 87 = .ok (.getfield 70, 3) := by decide +kernel
theorem d_M_count_90 : decode b_M_count 90 = .ok (.ireturn, 1) := by decide +kernel
theorem d_M_count_91 : decode b_M_count 91 = .ok (.iload_n 2, 1) := by decide +kernel
theorem d_M_count_92 : decode b_M_count 92 = .ok (.ireturn, 1) := by decide +kernel
theorem d_M_count_93 : decode b_M_count 93 = .ok (.aload_n 0, 1) := by decide +kernel
theorem d_M_count_94 : decode b_M_count 94 = .ok (.getfield 91, 3) := by decide +kernel
theorem d_M_count_97 : decode b_M_count 97 = .ok (.ifCond .eq 7, 3) := by decide +kernel
theorem d_M_count_100 : decode b_M_count 100 = .ok (.iconst 1, 1) := by decide +kernel
theorem d_M_count_101 : decode b_M_count 101 = .ok (.goto 4, 3) := by decide +kernel
theorem d_M_count_104 : decode b_M_count 104 = .ok (.iconst 0, 1) := by decide +kernel
theorem d_M_count_105 : decode b_M_count 105 = .ok (.ireturn, 1) := by decide +kernel
theorem d_M_count_106 : decode b_M_count 106 = .ok (.iconst (-1), 1) := by decide +kernel
theorem d_M_count_107 : decode b_M_count 107 = .ok (.ireturn, 1) := by decide +kernel
theorem d_L_law_0 : decode code 0 = .ok (.new 8, 3) := by decide +kernel
theorem d_L_law_3 : decode code 3 = .ok (.dup, 1) := by decide +kernel
theorem d_L_law_4 : decode code 4 = .ok (.invokespecial 54, 3) := by decide +kernel
theorem d_L_law_7 : decode code 7 = .ok (.astore_n 1, 1) := by decide +kernel
theorem d_L_law_8 : decode code 8 = .ok (.new 55, 3) := by decide +kernel
theorem d_L_law_11 : decode code 11 = .ok (.dup, 1) := by decide +kernel
theorem d_L_law_12 : decode code 12 = .ok (.invokespecial 57, 3) := by decide +kernel
theorem d_L_law_15 : decode code 15 = .ok (.astore_n 2, 1) := by decide +kernel
theorem d_L_law_16 : decode code 16 = .ok (.iconst 1, 1) := by decide +kernel
theorem d_L_law_17 : decode code 17 = .ok (.newarray .long, 2) := by decide +kernel
theorem d_L_law_19 : decode code 19 = .ok (.astore_n 3, 1) := by decide +kernel
theorem d_L_law_20 : decode code 20 = .ok (.iconst 0, 1) := by decide +kernel
theorem d_L_law_21 : decode code 21 = .ok (.istore 4, 2) := by decide +kernel
theorem d_L_law_23 : decode code 23 = .ok (.iload 4, 2) := by decide +kernel
theorem d_L_law_25 : decode code 25 = .ok (.aload_n 0, 1) := by decide +kernel
theorem d_L_law_26 : decode code 26 = .ok (.arraylength, 1) := by decide +kernel
theorem d_L_law_27 : decode code 27 = .ok (.bipush 7, 2) := by decide +kernel
theorem d_L_law_29 : decode code 29 = .ok (.isub, 1) := by decide +kernel
theorem d_L_law_30 : decode code 30 = .ok (.if_icmp .gt 1159, 3) := by decide +kernel
theorem d_L_law_33 : decode code 33 = .ok (.aload_n 0, 1) := by decide +kernel
theorem d_L_law_34 : decode code 34 = .ok (.iload 4, 2) := by decide +kernel
theorem d_L_law_36 : decode code 36 = .ok (.iaload, 1) := by decide +kernel
theorem d_L_law_37 : decode code 37 = .ok (.bipush 31, 2) := by decide +kernel
theorem d_L_law_39 : decode code 39 = .ok (.iand, 1) := by decide +kernel
theorem d_L_law_40 : decode code 40 = .ok (.tableswitch 1143 0 16 #[84, 109, 122, 190, 340, 389, 457, 537, 605, 692, 741, 809, 901, 957, 994, 1050, 1118], 84) := by decide +kernel
theorem d_L_law_124 : decode code 124 = .ok (.aload_n 1, 1) := by decide +kernel
theorem d_L_law_125 : decode code 125 = .ok (.aload_n 0, 1) := by decide +kernel
theorem d_L_law_126 : decode code 126 = .ok (.iload 4, 2) := by decide +kernel
theorem d_L_law_128 : decode code 128 = .ok (.iconst 1, 1) := by decide +kernel
theorem d_L_law_129 : decode code 129 = .ok (.iadd, 1) := by decide +kernel
theorem d_L_law_130 : decode code 130 = .ok (.iaload, 1) := by decide +kernel
theorem d_L_law_131 : decode code 131 = .ok (.invokevirtual 58, 3) := by decide +kernel
theorem d_L_law_134 : decode code 134 = .ok (.aload_n 2, 1) := by decide +kernel
theorem d_L_law_135 : decode code 135 = .ok (.aload_n 0, 1) := by decide +kernel
theorem d_L_law_136 : decode code 136 = .ok (.iload 4, 2) := by decide +kernel
theorem d_L_law_138 : decode code 138 = .ok (.iconst 1, 1) := by decide +kernel
theorem d_L_law_139 : decode code 139 = .ok (.iadd, 1) := by decide +kernel
theorem d_L_law_140 : decode code 140 = .ok (.iaload, 1) := by decide +kernel
theorem d_L_law_141 : decode code 141 = .ok (.invokevirtual 62, 3) := by decide +kernel
theorem d_L_law_144 : decode code 144 = .ok (.if_icmp .eq 1039, 3) := by decide +kernel
theorem d_L_law_147 : decode code 147 = .ok (.iconst 0, 1) := by decide +kernel
theorem d_L_law_148 : decode code 148 = .ok (.ireturn, 1) := by decide +kernel
theorem d_L_law_149 : decode code 149 = .ok (.aload_n 1, 1) := by decide +kernel
theorem d_L_law_150 : decode code 150 = .ok (.invokevirtual 63, 3) := by decide +kernel
theorem d_L_law_153 : decode code 153 = .ok (.aload_n 2, 1) := by decide +kernel
theorem d_L_law_154 : decode code 154 = .ok (.invokevirtual 67, 3) := by decide +kernel
theorem d_L_law_157 : decode code 157 = .ok (.if_icmp .eq 1026, 3) := by decide +kernel
theorem d_L_law_160 : decode code 160 = .ok (.iconst 0, 1) := by decide +kernel
theorem d_L_law_161 : decode code 161 = .ok (.ireturn, 1) := by decide +kernel
theorem d_L_law_162 : decode code 162 = .ok (.aload_n 1, 1) := by decide +kernel
theorem d_L_law_163 : decode code 163 = .ok (.aload_n 0, 1) := by decide +kernel
theorem d_L_law_164 : decode code 164 = .ok (.iload 4, 2) := by decide +kernel
theorem d_L_law_166 : decode code 166 = .ok (.iconst 1, 1) := by decide +kernel
theorem d_L_law_167 : decode code 167 = .ok (.iadd, 1) := by decide +kernel
theorem d_L_law_168 : decode code 168 = .ok (.iaload, 1) := by decide +kernel
theorem d_L_law_169 : decode code 169 = .ok (.aload_n 0, 1) := by decide +kernel
theorem d_L_law_170 : decode code 170 = .ok (.iload 4, 2) := by decide +kernel
theorem d_L_law_172 : decode code 172 = .ok (.iconst 2, 1) := by decide +kernel
theorem d_L_law_173 : decode code 173 = .ok (.iadd, 1) := by decide +kernel
theorem d_L_law_174 : decode code 174 = .ok (.iaload, 1) := by decide +kernel
theorem d_L_law_175 : decode code 175 = .ok (.aload_n 3, 1) := by decide +kernel
theorem d_L_law_176 : decode code 176 = .ok (.invokestatic 68, 3) := by decide +kernel
theorem d_L_law_179 : decode code 179 = .ok (.istore 5, 2) := by decide +kernel
theorem d_L_law_181 : decode code 181 = .ok (.aload_n 2, 1) := by decide +kernel
theorem d_L_law_182 : decode code 182 = .ok (.aload_n 0, 1) := by decide +kernel
theorem d_L_law_183 : decode code 183 = .ok (.iload 4, 2) := by decide +kernel
theorem d_L_law_185 : decode code 185 = .ok (.iconst 1, 1) := by decide +kernel
theorem d_L_law_186 : decode code 186 = .ok (.iadd, 1) := by decide +kernel
theorem d_L_law_187 : decode code 187 = .ok (.iaload, 1) := by decide +kernel
theorem d_L_law_188 : decode code 188 = .ok (.aload_n 0, 1) := by decide +kernel
theorem d_L_law_189 : decode code 189 = .ok (.iload 4, 2) := by decide +kernel
theorem d_L_law_191 : decode code 191 = .ok (.iconst 2, 1) := by decide +kernel
theorem d_L_law_192 : decode code 192 = .ok (.iadd, 1) := by decide +kernel
theorem d_L_law_193 : decode code 193 = .ok (.iaload, 1) := by decide +kernel
theorem d_L_law_194 : decode code 194 = .ok (.invokevirtual 73, 3) := by decide +kernel
theorem d_L_law_197 : decode code 197 = .ok (.istore 6, 2) := by decide +kernel
theorem d_L_law_199 : decode code 199 = .ok (.aload_n 2, 1) := by decide +kernel
theorem d_L_law_200 : decode code 200 = .ok (.invokevirtual 74, 3) := by decide +kernel
theorem d_L_law_203 : decode code 203 = .ok (.iload 5, 2) := by decide +kernel
theorem d_L_law_205 : decode code 205 = .ok (.if_icmp .eq 5, 3) := by decide +kernel
theorem d_L_law_208 : decode code 208 = .ok (.iconst 0, 1) := by decide +kernel
theorem d_L_law_209 : decode code 209 = .ok (.ireturn, 1) := by decide +kernel
theorem d_L_law_210 : decode code 210 = .ok (.iload 5, 2) := by decide +kernel
theorem d_L_law_212 : decode code 212 = .ok (.ifCond .ne 15, 3) := by decide +kernel
theorem d_L_law_215 : decode code 215 = .ok (.aload_n 3, 1) := by decide +kernel
theorem d_L_law_216 : decode code 216 = .ok (.iconst 0, 1) := by decide +kernel
theorem d_L_law_217 : decode code 217 = .ok (.laload, 1) := by decide +kernel
theorem d_L_law_218 : decode code 218 = .ok (.iload 6, 2) := by decide +kernel
theorem d_L_law_220 : decode code 220 = .ok (.i2l, 1) := by decide +kernel
theorem d_L_law_221 : decode code 221 = .ok (.lcmp, 1) := by decide +kernel
theorem d_L_law_222 : decode code 222 = .ok (.ifCond .eq 5, 3) := by decide +kernel
theorem d_L_law_225 : decode code 225 = .ok (.iconst 0, 1) := by decide +kernel
theorem d_L_law_226 : decode code 226 = .ok (.ireturn, 1) := by decide +kernel
theorem d_L_law_227 : decode code 227 = .ok (.goto 956, 3) := by decide +kernel
theorem d_L_law_230 : decode code 230 = .ok (.aload_n 1, 1) := by decide +kernel
theorem d_L_law_231 : decode code 231 = .ok (.aload_n 0, 1) := by decide +kernel
theorem d_L_law_232 : decode code 232 = .ok (.iload 4, 2) := by decide +kernel
theorem d_L_law_234 : decode code 234 = .ok (.iconst 1, 1) := by decide +kernel
theorem d_L_law_235 : decode code 235 = .ok (.iadd, 1) := by decide +kernel
theorem d_L_law_236 : decode code 236 = .ok (.iaload, 1) := by decide +kernel
theorem d_L_law_237 : decode code 237 = .ok (.aload_n 0, 1) := by decide +kernel
theorem d_L_law_238 : decode code 238 = .ok (.iload 4, 2) := by decide +kernel
theorem d_L_law_240 : decode code 240 = .ok (.iconst 2, 1) := by decide +kernel
theorem d_L_law_241 : decode code 241 = .ok (.iadd, 1) := by decide +kernel
theorem d_L_law_242 : decode code 242 = .ok (.iaload, 1) := by decide +kernel
theorem d_L_law_243 : decode code 243 = .ok (.aload_n 0, 1) := by decide +kernel
theorem d_L_law_244 : decode code 244 = .ok (.iload 4, 2) := by decide +kernel
theorem d_L_law_246 : decode code 246 = .ok (.iconst 3, 1) := by decide +kernel
theorem d_L_law_247 : decode code 247 = .ok (.iadd, 1) := by decide +kernel
theorem d_L_law_248 : decode code 248 = .ok (.iaload, 1) := by decide +kernel
theorem d_L_law_249 : decode code 249 = .ok (.aload_n 0, 1) := by decide +kernel
theorem d_L_law_250 : decode code 250 = .ok (.iload 4, 2) := by decide +kernel
theorem d_L_law_252 : decode code 252 = .ok (.iconst 4, 1) := by decide +kernel
theorem d_L_law_253 : decode code 253 = .ok (.iadd, 1) := by decide +kernel
theorem d_L_law_254 : decode code 254 = .ok (.iaload, 1) := by decide +kernel
theorem d_L_law_255 : decode code 255 = .ok (.aload_n 0, 1) := by decide +kernel
theorem d_L_law_256 : decode code 256 = .ok (.iload 4, 2) := by decide +kernel
theorem d_L_law_258 : decode code 258 = .ok (.iconst 5, 1) := by decide +kernel
theorem d_L_law_259 : decode code 259 = .ok (.iadd, 1) := by decide +kernel
theorem d_L_law_260 : decode code 260 = .ok (.iaload, 1) := by decide +kernel
theorem d_L_law_261 : decode code 261 = .ok (.ifCond .eq 7, 3) := by decide +kernel
theorem d_L_law_264 : decode code 264 = .ok (.iconst 1, 1) := by decide +kernel
theorem d_L_law_265 : decode code 265 = .ok (.goto 4, 3) := by decide +kernel
theorem d_L_law_268 : decode code 268 = .ok (.iconst 0, 1) := by decide +kernel
theorem d_L_law_269 : decode code 269 = .ok (.aload_n 0, 1) := by decide +kernel
theorem d_L_law_270 : decode code 270 = .ok (.iload 4, 2) := by decide +kernel
theorem d_L_law_272 : decode code 272 = .ok (.bipush 6, 2) := by decide +kernel
theorem d_L_law_274 : decode code 274 = .ok (.iadd, 1) := by decide +kernel
theorem d_L_law_275 : decode code 275 = .ok (.iaload, 1) := by decide +kernel
theorem d_L_law_276 : decode code 276 = .ok (.ifCond .eq 7, 3) := by decide +kernel
theorem d_L_law_279 : decode code 279 = .ok (.iconst 1, 1) := by decide +kernel
theorem d_L_law_280 : decode code 280 = .ok (.goto 4, 3) := by decide +kernel
theorem d_L_law_283 : decode code 283 = .ok (.iconst 0, 1) := by decide +kernel
theorem d_L_law_284 : decode code 284 = .ok (.aload_n 3, 1) := by decide +kernel
theorem d_L_law_285 : decode code 285 = .ok (.invokestatic 77, 3) := by decide +kernel
theorem d_L_law_288 : decode code 288 = .ok (.istore 5, 2) := by decide +kernel
theorem d_L_law_290 : decode code 290 = .ok (.aload_n 2, 1) := by decide +kernel
theorem d_L_law_291 : decode code 291 = .ok (.aload_n 0, 1) := by decide +kernel
theorem d_L_law_292 : decode code 292 = .ok (.iload 4, 2) := by decide +kernel
theorem d_L_law_294 : decode code 294 = .ok (.iconst 1, 1) := by decide +kernel
theorem d_L_law_295 : decode code 295 = .ok (.iadd, 1) := by decide +kernel
theorem d_L_law_296 : decode code 296 = .ok (.iaload, 1) := by decide +kernel
theorem d_L_law_297 : decode code 297 = .ok (.aload_n 0, 1) := by decide +kernel
theorem d_L_law_298 : decode code 298 = .ok (.iload 4, 2) := by decide +kernel
theorem d_L_law_300 : decode code 300 = .ok (.iconst 2, 1) := by decide +kernel
theorem d_L_law_301 : decode code 301 = .ok (.iadd, 1) := by decide +kernel
theorem d_L_law_302 : decode code 302 = .ok (.iaload, 1) := by decide +kernel
theorem d_L_law_303 : decode code 303 = .ok (.aload_n 0, 1) := by decide +kernel
theorem d_L_law_304 : decode code 304 = .ok (.iload 4, 2) := by decide +kernel
theorem d_L_law_306 : decode code 306 = .ok (.iconst 3, 1) := by decide +kernel
theorem d_L_law_307 : decode code 307 = .ok (.iadd, 1) := by decide +kernel
theorem d_L_law_308 : decode code 308 = .ok (.iaload, 1) := by decide +kernel
theorem d_L_law_309 : decode code 309 = .ok (.aload_n 0, 1) := by decide +kernel
theorem d_L_law_310 : decode code 310 = .ok (.iload 4, 2) := by decide +kernel
theorem d_L_law_312 : decode code 312 = .ok (.iconst 4, 1) := by decide +kernel
theorem d_L_law_313 : decode code 313 = .ok (.iadd, 1) := by decide +kernel
theorem d_L_law_314 : decode code 314 = .ok (.iaload, 1) := by decide +kernel
theorem d_L_law_315 : decode code 315 = .ok (.aload_n 0, 1) := by decide +kernel
theorem d_L_law_316 : decode code 316 = .ok (.iload 4, 2) := by decide +kernel
theorem d_L_law_318 : decode code 318 = .ok (.iconst 5, 1) := by decide +kernel
theorem d_L_law_319 : decode code 319 = .ok (.iadd, 1) := by decide +kernel
theorem d_L_law_320 : decode code 320 = .ok (.iaload, 1) := by decide +kernel
theorem d_L_law_321 : decode code 321 = .ok (.ifCond .eq 7, 3) := by decide +kernel
theorem d_L_law_324 : decode code 324 = .ok (.iconst 1, 1) := by decide +kernel
theorem d_L_law_325 : decode code 325 = .ok (.goto 4, 3) := by decide +kernel
theorem d_L_law_328 : decode code 328 = .ok (.iconst 0, 1) := by decide +kernel
theorem d_L_law_329 : decode code 329 = .ok (.aload_n 0, 1) := by decide +kernel
theorem d_L_law_330 : decode code 330 = .ok (.iload 4, 2) := by decide +kernel
theorem d_L_law_332 : decode code 332 = .ok (.bipush 6, 2) := by decide +kernel
theorem d_L_law_334 : decode code 334 = .ok (.iadd, 1) := by decide +kernel
theorem d_L_law_335 : decode code 335 = .ok (.iaload, 1) := by decide +kernel
theorem d_L_law_336 : decode code 336 = .ok (.ifCond .eq 7, 3) := by decide +kernel
theorem d_L_law_339 : decode code 339 = .ok (.iconst 1, 1) := by decide +kernel
theorem d_L_law_340 : decode code 340 = .ok (.goto 4, 3) := by decide +kernel
theorem d_L_law_343 : decode code 343 = .ok (.iconst 0, 1) := by decide +kernel
theorem d_L_law_344 : decode code 344 = .ok (.invokevirtual 80, 3) := by decide +kernel
theorem d_L_law_347 : decode code 347 = .ok (.istore 6, 2) := by decide +kernel
theorem d_L_law_349 : decode code 349 = .ok (.aload_n 2, 1) := by decide +kernel
theorem d_L_law_350 : decode code 350 = .ok (.invokevirtual 74, 3) := by decide +kernel
theorem d_L_law_353 : decode code 353 = .ok (.iload 5, 2) := by decide +kernel
theorem d_L_law_355 : decode code 355 = .ok (.if_icmp .eq 5, 3) := by decide +kernel
theorem d_L_law_358 : decode code 358 = .ok (.iconst 0, 1) := by decide +kernel
theorem d_L_law_359 : decode code 359 = .ok (.ireturn, 1) := by decide +kernel
theorem d_L_law_360 : decode code 360 = .ok (.iload 5, 2) := by decide +kernel
theorem d_L_law_362 : decode code 362 = .ok (.ifCond .ne 15, 3) := by decide +kernel
theorem d_L_law_365 : decode code 365 = .ok (.aload_n 3, 1) := by decide +kernel
theorem d_L_law_366 : decode code 366 = .ok (.iconst 0, 1) := by decide +kernel
theorem d_L_law_367 : decode code 367 = .ok (.laload, 1) := by decide +kernel
theorem d_L_law_368 : decode code 368 = .ok (.iload 6, 2) := by decide +kernel
theorem d_L_law_370 : decode code 370 = .ok (.i2l, 1) := by decide +kernel
theorem d_L_law_371 : decode code 371 = .ok (.lcmp, 1) := by decide +kernel
theorem d_L_law_372 : decode code 372 = .ok (.ifCond .eq 5, 3) := by decide +kernel
theorem d_L_law_375 : decode code 375 = .ok (.iconst 0, 1) := by decide +kernel
theorem d_L_law_376 : decode code 376 = .ok (.ireturn, 1) := by decide +kernel
theorem d_L_law_377 : decode code 377 = .ok (.goto 806, 3) := by decide +kernel
theorem d_L_law_380 : decode code 380 = .ok (.aload_n 1, 1) := by decide +kernel
theorem d_L_law_381 : decode code 381 = .ok (.aload_n 0, 1) := by decide +kernel
theorem d_L_law_382 : decode code 382 = .ok (.iload 4, 2) := by decide +kernel
theorem d_L_law_384 : decode code 384 = .ok (.iconst 1, 1) := by decide +kernel
theorem d_L_law_385 : decode code 385 = .ok (.iadd, 1) := by decide +kernel
theorem d_L_law_386 : decode code 386 = .ok (.iaload, 1) := by decide +kernel
theorem d_L_law_387 : decode code 387 = .ok (.aload_n 0, 1) := by decide +kernel
theorem d_L_law_388 : decode code 388 = .ok (.iload 4, 2) := by decide +kernel
theorem d_L_law_390 : decode code 390 = .ok (.iconst 2, 1) := by decide +kernel
theorem d_L_law_391 : decode code 391 = .ok (.iadd, 1) := by decide +kernel
theorem d_L_law_392 : decode code 392 = .ok (.iaload, 1) := by decide +kernel
theorem d_L_law_393 : decode code 393 = .ok (.aload_n 0, 1) := by decide +kernel
theorem d_L_law_394 : decode code 394 = .ok (.iload 4, 2) := by decide +kernel
theorem d_L_law_396 : decode code 396 = .ok (.iconst 3, 1) := by decide +kernel
theorem d_L_law_397 : decode code 397 = .ok (.iadd, 1) := by decide +kernel
theorem d_L_law_398 : decode code 398 = .ok (.iaload, 1) := by decide +kernel
theorem d_L_law_399 : decode code 399 = .ok (.invokevirtual 81, 3) := by decide +kernel
theorem d_L_law_402 : decode code 402 = .ok (.aload_n 2, 1) := by decide +kernel
theorem d_L_law_403 : decode code 403 = .ok (.aload_n 0, 1) := by decide +kernel
theorem d_L_law_404 : decode code 404 = .ok (.iload 4, 2) := by decide +kernel
theorem d_L_law_406 : decode code 406 = .ok (.iconst 1, 1) := by decide +kernel
theorem d_L_law_407 : decode code 407 = .ok (.iadd, 1) := by decide +kernel
theorem d_L_law_408 : decode code 408 = .ok (.iaload, 1) := by decide +kernel
theorem d_L_law_409 : decode code 409 = .ok (.aload_n 0, 1) := by decide +kernel
theorem d_L_law_410 : decode code 410 = .ok (.iload 4, 2) := by decide +kernel
theorem d_L_law_412 : decode code 412 = .ok (.iconst 2, 1) := by decide +kernel
end
section
theorem d_L_law_413 : decode code 413 = .ok (.iadd, 1) := by decide +kernel
theorem d_L_law_414 : decode code 414 = .ok (.iaload, 1) := by decide +kernel
theorem d_L_law_415 : decode code 415 = .ok (.aload_n 0, 1) := by decide +kernel
theorem d_L_law_416 : decode code 416 = .ok (.iload 4, 2) := by decide +kernel
theorem d_L_law_418 : decode code 418 = .ok (.iconst 3, 1) := by decide +kernel
theorem d_L_law_419 : decode code 419 = .ok (.iadd, 1) := by decide +kernel
theorem d_L_law_420 : decode code 420 = .ok (.iaload, 1) := by decide +kernel
theorem d_L_law_421 : decode code 421 = .ok (.invokevirtual 84, 3) := by decide +kernel
theorem d_L_law_424 : decode code 424 = .ok (.if_icmp .eq 759, 3) := by decide +kernel
theorem d_L_law_427 : decode code 427 = .ok (.iconst 0, 1) := by decide +kernel
theorem d_L_law_428 : decode code 428 = .ok (.ireturn, 1) := by decide +kernel
theorem d_L_law_429 : decode code 429 = .ok (.aload_n 1, 1) := by decide +kernel
theorem d_L_law_430 : decode code 430 = .ok (.aload_n 0, 1) := by decide +kernel
theorem d_L_law_431 : decode code 431 = .ok (.iload 4, 2) := by decide +kernel
theorem d_L_law_433 : decode code 433 = .ok (.iconst 1, 1) := by decide +kernel
theorem d_L_law_434 : decode code 434 = .ok (.iadd, 1) := by decide +kernel
theorem d_L_law_435 : decode code 435 = .ok (.iaload, 1) := by decide +kernel
theorem d_L_law_436 : decode code 436 = .ok (.aload_n 0, 1) := by decide +kernel
theorem d_L_law_437 : decode code 437 = .ok (.iload 4, 2) := by decide +kernel
theorem d_L_law_439 : decode code 439 = .ok (.iconst 2, 1) := by decide +kernel
theorem d_L_law_440 : decode code 440 = .ok (.iadd, 1) := by decide +kernel
theorem d_L_law_441 : decode code 441 = .ok (.iaload, 1) := by decide +kernel
theorem d_L_law_442 : decode code 442 = .ok (.aload_n 3, 1) := by decide +kernel
theorem d_L_law_443 : decode code 443 = .ok (.invokestatic 85, 3) := by decide +kernel
theorem d_L_law_446 : decode code 446 = .ok (.istore 5, 2) := by decide +kernel
theorem d_L_law_448 : decode code 448 = .ok (.aload_n 2, 1) := by decide +kernel
theorem d_L_law_449 : decode code 449 = .ok (.aload_n 0, 1) := by decide +kernel
theorem d_L_law_450 : decode code 450 = .ok (.iload 4, 2) := by decide +kernel
theorem d_L_law_452 : decode code 452 = .ok (.iconst 1, 1) := by decide +kernel
theorem d_L_law_453 : decode code 453 = .ok (.iadd, 1) := by decide +kernel
theorem d_L_law_454 : decode code 454 = .ok (.iaload, 1) := by decide +kernel
theorem d_L_law_455 : decode code 455 = .ok (.aload_n 0, 1) := by decide +kernel
theorem d_L_law_456 : decode code 456 = .ok (.iload 4, 2) := by decide +kernel
theorem d_L_law_458 : decode code 458 = .ok (.iconst 2, 1) := by decide +kernel
theorem d_L_law_459 : decode code 459 = .ok (.iadd, 1) := by decide +kernel
theorem d_L_law_460 : decode code 460 = .ok (.iaload, 1) := by decide +kernel
theorem d_L_law_461 : decode code 461 = .ok (.invokevirtual 87, 3) := by decide +kernel
theorem d_L_law_464 : decode code 464 = .ok (.istore 6, 2) := by decide +kernel
theorem d_L_law_466 : decode code 466 = .ok (.aload_n 2, 1) := by decide +kernel
theorem d_L_law_467 : decode code 467 = .ok (.invokevirtual 74, 3) := by decide +kernel
theorem d_L_law_470 : decode code 470 = .ok (.iload 5, 2) := by decide +kernel
theorem d_L_law_472 : decode code 472 = .ok (.if_icmp .eq 5, 3) := by decide +kernel
theorem d_L_law_475 : decode code 475 = .ok (.iconst 0, 1) := by decide +kernel
theorem d_L_law_476 : decode code 476 = .ok (.ireturn, 1) := by decide +kernel
theorem d_L_law_477 : decode code 477 = .ok (.iload 5, 2) := by decide +kernel
theorem d_L_law_479 : decode code 479 = .ok (.ifCond .ne 15, 3) := by decide +kernel
theorem d_L_law_482 : decode code 482 = .ok (.aload_n 3, 1) := by decide +kernel
theorem d_L_law_483 : decode code 483 = .ok (.iconst 0, 1) := by decide +kernel
theorem d_L_law_484 : decode code 484 = .ok (.laload, 1) := by decide +kernel
theorem d_L_law_485 : decode code 485 = .ok (.iload 6, 2) := by decide +kernel
theorem d_L_law_487 : decode code 487 = .ok (.i2l, 1) := by decide +kernel
theorem d_L_law_488 : decode code 488 = .ok (.lcmp, 1) := by decide +kernel
theorem d_L_law_489 : decode code 489 = .ok (.ifCond .eq 5, 3) := by decide +kernel
theorem d_L_law_492 : decode code 492 = .ok (.iconst 0, 1) := by decide +kernel
theorem d_L_law_493 : decode code 493 = .ok (.ireturn, 1) := by decide +kernel
theorem d_L_law_494 : decode code 494 = .ok (.goto 689, 3) := by decide +kernel
theorem d_L_law_497 : decode code 497 = .ok (.aload_n 1, 1) := by decide +kernel
theorem d_L_law_498 : decode code 498 = .ok (.aload_n 0, 1) := by decide +kernel
theorem d_L_law_499 : decode code 499 = .ok (.iload 4, 2) := by decide +kernel
theorem d_L_law_501 : decode code 501 = .ok (.iconst 1, 1) := by decide +kernel
theorem d_L_law_502 : decode code 502 = .ok (.iadd, 1) := by decide +kernel
theorem d_L_law_503 : decode code 503 = .ok (.iaload, 1) := by decide +kernel
theorem d_L_law_504 : decode code 504 = .ok (.aload_n 0, 1) := by decide +kernel
theorem d_L_law_505 : decode code 505 = .ok (.iload 4, 2) := by decide +kernel
theorem d_L_law_507 : decode code 507 = .ok (.iconst 2, 1) := by decide +kernel
theorem d_L_law_508 : decode code 508 = .ok (.iadd, 1) := by decide +kernel
theorem d_L_law_509 : decode code 509 = .ok (.iaload, 1) := by decide +kernel
theorem d_L_law_510 : decode code 510 = .ok (.aload_n 0, 1) := by decide +kernel
theorem d_L_law_511 : decode code 511 = .ok (.iload 4, 2) := by decide +kernel
theorem d_L_law_513 : decode code 513 = .ok (.iconst 3, 1) := by decide +kernel
theorem d_L_law_514 : decode code 514 = .ok (.iadd, 1) := by decide +kernel
theorem d_L_law_515 : decode code 515 = .ok (.iaload, 1) := by decide +kernel
theorem d_L_law_516 : decode code 516 = .ok (.aload_n 3, 1) := by decide +kernel
theorem d_L_law_517 : decode code 517 = .ok (.invokestatic 88, 3) := by decide +kernel
theorem d_L_law_520 : decode code 520 = .ok (.istore 5, 2) := by decide +kernel
theorem d_L_law_522 : decode code 522 = .ok (.aload_n 2, 1) := by decide +kernel
theorem d_L_law_523 : decode code 523 = .ok (.aload_n 0, 1) := by decide +kernel
theorem d_L_law_524 : decode code 524 = .ok (.iload 4, 2) := by decide +kernel
theorem d_L_law_526 : decode code 526 = .ok (.iconst 1, 1) := by decide +kernel
theorem d_L_law_527 : decode code 527 = .ok (.iadd, 1) := by decide +kernel
theorem d_L_law_528 : decode code 528 = .ok (.iaload, 1) := by decide +kernel
theorem d_L_law_529 : decode code 529 = .ok (.aload_n 0, 1) := by decide +kernel
theorem d_L_law_530 : decode code 530 = .ok (.iload 4, 2) := by decide +kernel
theorem d_L_law_532 : decode code 532 = .ok (.iconst 2, 1) := by decide +kernel
theorem d_L_law_533 : decode code 533 = .ok (.iadd, 1) := by decide +kernel
theorem d_L_law_534 : decode code 534 = .ok (.iaload, 1) := by decide +kernel
theorem d_L_law_535 : decode code 535 = .ok (.aload_n 0, 1) := by decide +kernel
theorem d_L_law_536 : decode code 536 = .ok (.iload 4, 2) := by decide +kernel
theorem d_L_law_538 : decode code 538 = .ok (.iconst 3, 1) := by decide +kernel
theorem d_L_law_539 : decode code 539 = .ok (.iadd, 1) := by decide +kernel
theorem d_L_law_540 : decode code 540 = .ok (.iaload, 1) := by decide +kernel
theorem d_L_law_541 : decode code 541 = .ok (.invokevirtual 91, 3) := by decide +kernel
theorem d_L_law_544 : decode code 544 = .ok (.istore 6, 2) := by decide +kernel
theorem d_L_law_546 : decode code 546 = .ok (.aload_n 2, 1) := by decide +kernel
theorem d_L_law_547 : decode code 547 = .ok (.invokevirtual 74, 3) := by decide +kernel
theorem d_L_law_550 : decode code 550 = .ok (.iload 5, 2) := by decide +kernel
theorem d_L_law_552 : decode code 552 = .ok (.if_icmp .eq 5, 3) := by decide +kernel
theorem d_L_law_555 : decode code 555 = .ok (.iconst 0, 1) := by decide +kernel
theorem d_L_law_556 : decode code 556 = .ok (.ireturn, 1) := by decide +kernel
theorem d_L_law_557 : decode code 557 = .ok (.iload 5, 2) := by decide +kernel
theorem d_L_law_559 : decode code 559 = .ok (.ifCond .ne 15, 3) := by decide +kernel
theorem d_L_law_562 : decode code 562 = .ok (.aload_n 3, 1) := by decide +kernel
theorem d_L_law_563 : decode code 563 = .ok (.iconst 0, 1) := by decide +kernel
theorem d_L_law_564 : decode code 564 = .ok (.laload, 1) := by decide +kernel
theorem d_L_law_565 : decode code 565 = .ok (.iload 6, 2) := by decide +kernel
theorem d_L_law_567 : decode code 567 = .ok (.i2l, 1) := by decide +kernel
theorem d_L_law_568 : decode code 568 = .ok (.lcmp, 1) := by decide +kernel
theorem d_L_law_569 : decode code 569 = .ok (.ifCond .eq 5, 3) := by decide +kernel
theorem d_L_law_572 : decode code 572 = .ok (.iconst 0, 1) := by decide +kernel
theorem d_L_law_573 : decode code 573 = .ok (.ireturn, 1) := by decide +kernel
theorem d_L_law_574 : decode code 574 = .ok (.goto 609, 3) := by decide +kernel
theorem d_L_law_577 : decode code 577 = .ok (.aload_n 1, 1) := by decide +kernel
theorem d_L_law_578 : decode code 578 = .ok (.aload_n 0, 1) := by decide +kernel
theorem d_L_law_579 : decode code 579 = .ok (.iload 4, 2) := by decide +kernel
theorem d_L_law_581 : decode code 581 = .ok (.iconst 1, 1) := by decide +kernel
theorem d_L_law_582 : decode code 582 = .ok (.iadd, 1) := by decide +kernel
theorem d_L_law_583 : decode code 583 = .ok (.iaload, 1) := by decide +kernel
theorem d_L_law_584 : decode code 584 = .ok (.aload_n 0, 1) := by decide +kernel
theorem d_L_law_585 : decode code 585 = .ok (.iload 4, 2) := by decide +kernel
theorem d_L_law_587 : decode code 587 = .ok (.iconst 2, 1) := by decide +kernel
theorem d_L_law_588 : decode code 588 = .ok (.iadd, 1) := by decide +kernel
theorem d_L_law_589 : decode code 589 = .ok (.iaload, 1) := by decide +kernel
theorem d_L_law_590 : decode code 590 = .ok (.aload_n 3, 1) := by decide +kernel
theorem d_L_law_591 : decode code 591 = .ok (.invokestatic 92, 3) := by decide +kernel
theorem d_L_law_594 : decode code 594 = .ok (.istore 5, 2) := by decide +kernel
theorem d_L_law_596 : decode code 596 = .ok (.aload_n 2, 1) := by decide +kernel
theorem d_L_law_597 : decode code 597 = .ok (.aload_n 0, 1) := by decide +kernel
theorem d_L_law_598 : decode code 598 = .ok (.iload 4, 2) := by decide +kernel
theorem d_L_law_600 : decode code 600 = .ok (.iconst 1, 1) := by decide +kernel
theorem d_L_law_601 : decode code 601 = .ok (.iadd, 1) := by decide +kernel
theorem d_L_law_602 : decode code 602 = .ok (.iaload, 1) := by decide +kernel
theorem d_L_law_603 : decode code 603 = .ok (.aload_n 0, 1) := by decide +kernel
theorem d_L_law_604 : decode code 604 = .ok (.iload 4, 2) := by decide +kernel
theorem d_L_law_606 : decode code 606 = .ok (.iconst 2, 1) := by decide +kernel
theorem d_L_law_607 : decode code 607 = .ok (.iadd, 1) := by decide +kernel
theorem d_L_law_608 : decode code 608 = .ok (.iaload, 1) := by decide +kernel
theorem d_L_law_609 : decode code 609 = .ok (.invokevirtual 94, 3) := by decide +kernel
theorem d_L_law_612 : decode code 612 = .ok (.istore 6, 2) := by decide +kernel
theorem d_L_law_614 : decode code 614 = .ok (.aload_n 2, 1) := by decide +kernel
theorem d_L_law_615 : decode code 615 = .ok (.invokevirtual 74, 3) := by decide +kernel
theorem d_L_law_618 : decode code 618 = .ok (.iload 5, 2) := by decide +kernel
theorem d_L_law_620 : decode code 620 = .ok (.if_icmp .eq 5, 3) := by decide +kernel
theorem d_L_law_623 : decode code 623 = .ok (.iconst 0, 1) := by decide +kernel
theorem d_L_law_624 : decode code 624 = .ok (.ireturn, 1) := by decide +kernel
theorem d_L_law_625 : decode code 625 = .ok (.iload 5, 2) := by decide +kernel
theorem d_L_law_627 : decode code 627 = .ok (.ifCond .ne 15, 3) := by decide +kernel
theorem d_L_law_630 : decode code 630 = .ok (.aload_n 3, 1) := by decide +kernel
theorem d_L_law_631 : decode code 631 = .ok (.iconst 0, 1) := by decide +kernel
theorem d_L_law_632 : decode code 632 = .ok (.laload, 1) := by decide +kernel
theorem d_L_law_633 : decode code 633 = .ok (.iload 6, 2) := by decide +kernel
theorem d_L_law_635 : decode code 635 = .ok (.i2l, 1) := by decide +kernel
theorem d_L_law_636 : decode code 636 = .ok (.lcmp, 1) := by decide +kernel
theorem d_L_law_637 : decode code 637 = .ok (.ifCond .eq 5, 3) := by decide +kernel
theorem d_L_law_640 : decode code 640 = .ok (.iconst 0, 1) := by decide +kernel
theorem d_L_law_641 : decode code 641 = .ok (.ireturn, 1) := by decide +kernel
theorem d_L_law_642 : decode code 642 = .ok (.goto 541, 3) := by decide +kernel
theorem d_L_law_645 : decode code 645 = .ok (.aload_n 1, 1) := by decide +kernel
theorem d_L_law_646 : decode code 646 = .ok (.aload_n 0, 1) := by decide +kernel
theorem d_L_law_647 : decode code 647 = .ok (.iload 4, 2) := by decide +kernel
theorem d_L_law_649 : decode code 649 = .ok (.iconst 1, 1) := by decide +kernel
theorem d_L_law_650 : decode code 650 = .ok (.iadd, 1) := by decide +kernel
theorem d_L_law_651 : decode code 651 = .ok (.iaload, 1) := by decide +kernel
theorem d_L_law_652 : decode code 652 = .ok (.aload_n 0, 1) := by decide +kernel
theorem d_L_law_653 : decode code 653 = .ok (.iload 4, 2) := by decide +kernel
theorem d_L_law_655 : decode code 655 = .ok (.iconst 2, 1) := by decide +kernel
theorem d_L_law_656 : decode code 656 = .ok (.iadd, 1) := by decide +kernel
theorem d_L_law_657 : decode code 657 = .ok (.iaload, 1) := by decide +kernel
theorem d_L_law_658 : decode code 658 = .ok (.aload_n 0, 1) := by decide +kernel
theorem d_L_law_659 : decode code 659 = .ok (.iload 4, 2) := by decide +kernel
theorem d_L_law_661 : decode code 661 = .ok (.iconst 3, 1) := by decide +kernel
theorem d_L_law_662 : decode code 662 = .ok (.iadd, 1) := by decide +kernel
theorem d_L_law_663 : decode code 663 = .ok (.iaload, 1) := by decide +kernel
theorem d_L_law_664 : decode code 664 = .ok (.aload_n 3, 1) := by decide +kernel
theorem d_L_law_665 : decode code 665 = .ok (.invokestatic 95, 3) := by decide +kernel
theorem d_L_law_668 : decode code 668 = .ok (.istore 5, 2) := by decide +kernel
theorem d_L_law_670 : decode code 670 = .ok (.aload_n 2, 1) := by decide +kernel
theorem d_L_law_671 : decode code 671 = .ok (.aload_n 0, 1) := by decide +kernel
theorem d_L_law_672 : decode code 672 = .ok (.iload 4, 2) := by decide +kernel
theorem d_L_law_674 : decode code 674 = .ok (.iconst 1, 1) := by decide +kernel
theorem d_L_law_675 : decode code 675 = .ok (.iadd, 1) := by decide +kernel
theorem d_L_law_676 : decode code 676 = .ok (.iaload, 1) := by decide +kernel
theorem d_L_law_677 : decode code 677 = .ok (.aload_n 0, 1) := by decide +kernel
theorem d_L_law_678 : decode code 678 = .ok (.iload 4, 2) := by decide +kernel
theorem d_L_law_680 : decode code 680 = .ok (.iconst 2, 1) := by decide +kernel
theorem d_L_law_681 : decode code 681 = .ok (.iadd, 1) := by decide +kernel
theorem d_L_law_682 : decode code 682 = .ok (.iaload, 1) := by decide +kernel
theorem d_L_law_683 : decode code 683 = .ok (.aload_n 0, 1) := by decide +kernel
theorem d_L_law_684 : decode code 684 = .ok (.iload 4, 2) := by decide +kernel
theorem d_L_law_686 : decode code 686 = .ok (.iconst 3, 1) := by decide +kernel
theorem d_L_law_687 : decode code 687 = .ok (.iadd, 1) := by decide +kernel
theorem d_L_law_688 : decode code 688 = .ok (.iaload, 1) := by decide +kernel
theorem d_L_law_689 : decode code 689 = .ok (.invokevirtual 97, 3) := by decide +kernel
theorem d_L_law_692 : decode code 692 = .ok (.istore 6, 2) := by decide +kernel
theorem d_L_law_694 : decode code 694 = .ok (.aload_n 2, 1) := by decide +kernel
theorem d_L_law_695 : decode code 695 = .ok (.invokevirtual 74, 3) := by decide +kernel
theorem d_L_law_698 : decode code 698 = .ok (.iload 5, 2) := by decide +kernel
theorem d_L_law_700 : decode code 700 = .ok (.if_icmp .eq 5, 3) := by decide +kernel
theorem d_L_law_703 : decode code 703 = .ok (.iconst 0, 1) := by decide +kernel
theorem d_L_law_704 : decode code 704 = .ok (.ireturn, 1) := by decide +kernel
theorem d_L_law_705 : decode code 705 = .ok (.iload 5, 2) := by decide +kernel
theorem d_L_law_707 : decode code 707 = .ok (.ifCond .ne 22, 3) := by decide +kernel
theorem d_L_law_710 : decode code 710 = .ok (.aload_n 3, 1) := by decide +kernel
theorem d_L_law_711 : decode code 711 = .ok (.iconst 0, 1) := by decide +kernel
theorem d_L_law_712 : decode code 712 = .ok (.laload, 1) := by decide +kernel
theorem d_L_law_713 : decode code 713 = .ok (.iload 6, 2) := by decide +kernel
theorem d_L_law_715 : decode code 715 = .ok (.ifCond .eq 7, 3) := by decide +kernel
theorem d_L_law_718 : decode code 718 = .ok (.lconst 1, 1) := by decide +kernel
theorem d_L_law_719 : decode code 719 = .ok (.goto 4, 3) := by decide +kernel
theorem d_L_law_722 : decode code 722 = .ok (.lconst 0, 1) := by decide +kernel
theorem d_L_law_723 : decode code 723 = .ok (.lcmp, 1) := by decide +kernel
theorem d_L_law_724 : decode code 724 = .ok (.ifCond .eq 5, 3) := by decide +kernel
theorem d_L_law_727 : decode code 727 = .ok (.iconst 0, 1) := by decide +kernel
theorem d_L_law_728 : decode code 728 = .ok (.ireturn, 1) := by decide +kernel
theorem d_L_law_729 : decode code 729 = .ok (.goto 454, 3) := by decide +kernel
theorem d_L_law_732 : decode code 732 = .ok (.aload_n 1, 1) := by decide +kernel
theorem d_L_law_733 : decode code 733 = .ok (.aload_n 0, 1) := by decide +kernel
theorem d_L_law_734 : decode code 734 = .ok (.iload 4, 2) := by decide +kernel
theorem d_L_law_736 : decode code 736 = .ok (.iconst 1, 1) := by decide +kernel
theorem d_L_law_737 : decode code 737 = .ok (.iadd, 1) := by decide +kernel
theorem d_L_law_738 : decode code 738 = .ok (.iaload, 1) := by decide +kernel
theorem d_L_law_739 : decode code 739 = .ok (.aload_n 0, 1) := by decide +kernel
theorem d_L_law_740 : decode code 740 = .ok (.iload 4, 2) := by decide +kernel
theorem d_L_law_742 : decode code 742 = .ok (.iconst 2, 1) := by decide +kernel
theorem d_L_law_743 : decode code 743 = .ok (.iadd, 1) := by decide +kernel
theorem d_L_law_744 : decode code 744 = .ok (.iaload, 1) := by decide +kernel
theorem d_L_law_745 : decode code 745 = .ok (.aload_n 0, 1) := by decide +kernel
theorem d_L_law_746 : decode code 746 = .ok (.iload 4, 2) := by decide +kernel
theorem d_L_law_748 : decode code 748 = .ok (.iconst 3, 1) := by decide +kernel
theorem d_L_law_749 : decode code 749 = .ok (.iadd, 1) := by decide +kernel
theorem d_L_law_750 : decode code 750 = .ok (.iaload, 1) := by decide +kernel
theorem d_L_law_751 : decode code 751 = .ok (.invokevirtual 98, 3) := by decide +kernel
theorem d_L_law_754 : decode code 754 = .ok (.aload_n 2, 1) := by decide +kernel
theorem d_L_law_755 : decode code 755 = .ok (.aload_n 0, 1) := by decide +kernel
theorem d_L_law_756 : decode code 756 = .ok (.iload 4, 2) := by decide +kernel
theorem d_L_law_758 : decode code 758 = .ok (.iconst 1, 1) := by decide +kernel
theorem d_L_law_759 : decode code 759 = .ok (.iadd, 1) := by decide +kernel
theorem d_L_law_760 : decode code 760 = .ok (.iaload, 1) := by decide +kernel
theorem d_L_law_761 : decode code 761 = .ok (.aload_n 0, 1) := by decide +kernel
theorem d_L_law_762 : decode code 762 = .ok (.iload 4, 2) := by decide +kernel
theorem d_L_law_764 : decode code 764 = .ok (.iconst 2, 1) := by decide +kernel
theorem d_L_law_765 : decode code 765 = .ok (.iadd, 1) := by decide +kernel
theorem d_L_law_766 : decode code 766 = .ok (.iaload, 1) := by decide +kernel
theorem d_L_law_767 : decode code 767 = .ok (.aload_n 0, 1) := by decide +kernel
theorem d_L_law_768 : decode code 768 = .ok (.iload 4, 2) := by decide +kernel
theorem d_L_law_770 : decode code 770 = .ok (.iconst 3, 1) := by decide +kernel
theorem d_L_law_771 : decode code 771 = .ok (.iadd, 1) := by decide +kernel
theorem d_L_law_772 : decode code 772 = .ok (.iaload, 1) := by decide +kernel
theorem d_L_law_773 : decode code 773 = .ok (.invokevirtual 101, 3) := by decide +kernel
theorem d_L_law_776 : decode code 776 = .ok (.if_icmp .eq 407, 3) := by decide +kernel
theorem d_L_law_779 : decode code 779 = .ok (.iconst 0, 1) := by decide +kernel
theorem d_L_law_780 : decode code 780 = .ok (.ireturn, 1) := by decide +kernel
theorem d_L_law_781 : decode code 781 = .ok (.aload_n 1, 1) := by decide +kernel
theorem d_L_law_782 : decode code 782 = .ok (.aload_n 0, 1) := by decide +kernel
theorem d_L_law_783 : decode code 783 = .ok (.iload 4, 2) := by decide +kernel
theorem d_L_law_785 : decode code 785 = .ok (.iconst 1, 1) := by decide +kernel
theorem d_L_law_786 : decode code 786 = .ok (.iadd, 1) := by decide +kernel
theorem d_L_law_787 : decode code 787 = .ok (.iaload, 1) := by decide +kernel
theorem d_L_law_788 : decode code 788 = .ok (.aload_n 0, 1) := by decide +kernel
theorem d_L_law_789 : decode code 789 = .ok (.iload 4, 2) := by decide +kernel
theorem d_L_law_791 : decode code 791 = .ok (.iconst 2, 1) := by decide +kernel
theorem d_L_law_792 : decode code 792 = .ok (.iadd, 1) := by decide +kernel
theorem d_L_law_793 : decode code 793 = .ok (.iaload, 1) := by decide +kernel
theorem d_L_law_794 : decode code 794 = .ok (.aload_n 3, 1) := by decide +kernel
theorem d_L_law_795 : decode code 795 = .ok (.invokestatic 102, 3) := by decide +kernel
theorem d_L_law_798 : decode code 798 = .ok (.istore 5, 2) := by decide +kernel
theorem d_L_law_800 : decode code 800 = .ok (.aload_n 2, 1) := by decide +kernel
theorem d_L_law_801 : decode code 801 = .ok (.aload_n 0, 1) := by decide +kernel
theorem d_L_law_802 : decode code 802 = .ok (.iload 4, 2) := by decide +kernel
theorem d_L_law_804 : decode code 804 = .ok (.iconst 1, 1) := by decide +kernel
theorem d_L_law_805 : decode code 805 = .ok (.iadd, 1) := by decide +kernel
theorem d_L_law_806 : decode code 806 = .ok (.iaload, 1) := by decide +kernel
theorem d_L_law_807 : decode code 807 = .ok (.aload_n 0, 1) := by decide +kernel
theorem d_L_law_808 : decode code 808 = .ok (.iload 4, 2) := by decide +kernel
theorem d_L_law_810 : decode code 810 = .ok (.iconst 2, 1) := by decide +kernel
theorem d_L_law_811 : decode code 811 = .ok (.iadd, 1) := by decide +kernel
theorem d_L_law_812 : decode code 812 = .ok (.iaload, 1) := by decide +kernel
theorem d_L_law_813 : decode code 813 = .ok (.invokevirtual 104, 3) := by decide +kernel
theorem d_L_law_816 : decode code 816 = .ok (.istore 6, 2) := by decide +kernel
theorem d_L_law_818 : decode code 818 = .ok (.aload_n 2, 1) := by decide +kernel
theorem d_L_law_819 : decode code 819 = .ok (.invokevirtual 74, 3) := by decide +kernel
theorem d_L_law_822 : decode code 822 = .ok (.iload 5, 2) := by decide +kernel
theorem d_L_law_824 : decode code 824 = .ok (.if_icmp .eq 5, 3) := by decide +kernel
theorem d_L_law_827 : decode code 827 = .ok (.iconst 0, 1) := by decide +kernel
theorem d_L_law_828 : decode code 828 = .ok (.ireturn, 1) := by decide +kernel
theorem d_L_law_829 : decode code 829 = .ok (.iload 5, 2) := by decide +kernel
theorem d_L_law_831 : decode code 831 = .ok (.ifCond .ne 15, 3) := by decide +kernel
theorem d_L_law_834 : decode code 834 = .ok (.aload_n 3, 1) := by decide +kernel
theorem d_L_law_835 : decode code 835 = .ok (.iconst 0, 1) := by decide +kernel
theorem d_L_law_836 : decode code 836 = .ok (.laload, 1) := by decide +kernel
theorem d_L_law_837 : decode code 837 = .ok (.iload 6, 2) := by decide +kernel
theorem d_L_law_839 : decode code 839 = .ok (.i2l, 1) := by decide +kernel
theorem d_L_law_840 : decode code 840 = .ok (.lcmp, 1) := by decide +kernel
theorem d_L_law_841 : decode code 841 = .ok (.ifCond .eq 5, 3) := by decide +kernel
theorem d_L_law_844 : decode code 844 = .ok (.iconst 0, 1) := by decide +kernel
theorem d_L_law_845 : decode code 845 = .ok (.ireturn, 1) := by decide +kernel
theorem d_L_law_846 : decode code 846 = .ok (.goto 337, 3) := by decide +kernel
theorem d_L_law_849 : decode code 849 = .ok (.aload_n 1, 1) := by decide +kernel
theorem d_L_law_850 : decode code 850 = .ok (.aload_n 0, 1) := by decide +kernel
theorem d_L_law_851 : decode code 851 = .ok (.iload 4, 2) := by decide +kernel
theorem d_L_law_853 : decode code 853 = .ok (.iconst 1, 1) := by decide +kernel
theorem d_L_law_854 : decode code 854 = .ok (.iadd, 1) := by decide +kernel
theorem d_L_law_855 : decode code 855 = .ok (.iaload, 1) := by decide +kernel
theorem d_L_law_856 : decode code 856 = .ok (.aload_n 0, 1) := by decide +kernel
theorem d_L_law_857 : decode code 857 = .ok (.iload 4, 2) := by decide +kernel
theorem d_L_law_859 : decode code 859 = .ok (.iconst 2, 1) := by decide +kernel
theorem d_L_law_860 : decode code 860 = .ok (.iadd, 1) := by decide +kernel
theorem d_L_law_861 : decode code 861 = .ok (.iaload, 1) := by decide +kernel
theorem d_L_law_862 : decode code 862 = .ok (.aload_n 0, 1) := by decide +kernel
theorem d_L_law_863 : decode code 863 = .ok (.iload 4, 2) := by decide +kernel
theorem d_L_law_865 : decode code 865 = .ok (.iconst 3, 1) := by decide +kernel
theorem d_L_law_866 : decode code 866 = .ok (.iadd, 1) := by decide +kernel
theorem d_L_law_867 : decode code 867 = .ok (.iaload, 1) := by decide +kernel
theorem d_L_law_868 : decode code 868 = .ok (.aload_n 0, 1) := by decide +kernel
theorem d_L_law_869 : decode code 869 = .ok (.iload 4, 2) := by decide +kernel
theorem d_L_law_871 : decode code 871 = .ok (.iconst 4, 1) := by decide +kernel
theorem d_L_law_872 : decode code 872 = .ok (.iadd, 1) := by decide +kernel
theorem d_L_law_873 : decode code 873 = .ok (.iaload, 1) := by decide +kernel
theorem d_L_law_874 : decode code 874 = .ok (.aload_n 3, 1) := by decide +kernel
theorem d_L_law_875 : decode code 875 = .ok (.invokestatic 105, 3) := by decide +kernel
theorem d_L_law_878 : decode code 878 = .ok (.istore 5, 2) := by decide +kernel
theorem d_L_law_880 : decode code 880 = .ok (.aload_n 2, 1) := by decide +kernel
theorem d_L_law_881 : decode code 881 = .ok (.aload_n 0, 1) := by decide +kernel
theorem d_L_law_882 : decode code 882 = .ok (.iload 4, 2) := by decide +kernel
theorem d_L_law_884 : decode code 884 = .ok (.iconst 1, 1) := by decide +kernel
theorem d_L_law_885 : decode code 885 = .ok (.iadd, 1) := by decide +kernel
theorem d_L_law_886 : decode code 886 = .ok (.iaload, 1) := by decide +kernel
theorem d_L_law_887 : decode code 887 = .ok (.aload_n 0, 1) := by decide +kernel
theorem d_L_law_888 : decode code 888 = .ok (.iload 4, 2) := by decide +kernel
theorem d_L_law_890 : decode code 890 = .ok (.iconst 2, 1) := by decide +kernel
theorem d_L_law_891 : decode code 891 = .ok (.iadd, 1) := by decide +kernel
theorem d_L_law_892 : decode code 892 = .ok (.iaload, 1) := by decide +kernel
theorem d_L_law_893 : decode code 893 = .ok (.aload_n 0, 1) := by decide +kernel
theorem d_L_law_894 : decode code 894 = .ok (.iload 4, 2) := by decide +kernel
theorem d_L_law_896 : decode code 896 = .ok (.iconst 3, 1) := by decide +kernel
theorem d_L_law_897 : decode code 897 = .ok (.iadd, 1) := by decide +kernel
theorem d_L_law_898 : decode code 898 = .ok (.iaload, 1) := by decide +kernel
theorem d_L_law_899 : decode code 899 = .ok (.aload_n 0, 1) := by decide +kernel
theorem d_L_law_900 : decode code 900 = .ok (.iload 4, 2) := by decide +kernel
theorem d_L_law_902 : decode code 902 = .ok (.iconst 4, 1) := by decide +kernel
theorem d_L_law_903 : decode code 903 = .ok (.iadd, 1) := by decide +kernel
theorem d_L_law_904 : decode code 904 = .ok (.iaload, 1) := by decide +kernel
theorem d_L_law_905 : decode code 905 = .ok (.invokevirtual 108, 3) := by decide +kernel
theorem d_L_law_908 : decode code 908 = .ok (.istore 6, 2) := by decide +kernel
theorem d_L_law_910 : decode code 910 = .ok (.aload_n 2, 1) := by decide +kernel
theorem d_L_law_911 : decode code 911 = .ok (.invokevirtual 74, 3) := by decide +kernel
theorem d_L_law_914 : decode code 914 = .ok (.iload 5, 2) := by decide +kernel
theorem d_L_law_916 : decode code 916 = .ok (.if_icmp .eq 5, 3) := by decide +kernel
theorem d_L_law_919 : decode code 919 = .ok (.iconst 0, 1) := by decide +kernel
theorem d_L_law_920 : decode code 920 = .ok (.ireturn, 1) := by decide +kernel
theorem d_L_law_921 : decode code 921 = .ok (.iload 5, 2) := by decide +kernel
theorem d_L_law_923 : decode code 923 = .ok (.ifCond .ne 15, 3) := by decide +kernel
theorem d_L_law_926 : decode code 926 = .ok (.aload_n 3, 1) := by decide +kernel
theorem d_L_law_927 : decode code 927 = .ok (.iconst 0, 1) := by decide +kernel
theorem d_L_law_928 : decode code 928 = .ok (.laload, 1) := by decide +kernel
theorem d_L_law_929 : decode code 929 = .ok (.iload 6, 2) := by decide +kernel
theorem d_L_law_931 : decode code 931 = .ok (.i2l, 1) := by decide +kernel
theorem d_L_law_932 : decode code 932 = .ok (.lcmp, 1) := by decide +kernel
theorem d_L_law_933 : decode code 933 = .ok (.ifCond .eq 5, 3) := by decide +kernel
theorem d_L_law_936 : decode code 936 = .ok (.iconst 0, 1) := by decide +kernel
theorem d_L_law_937 : decode code 937 = .ok (.ireturn, 1) := by decide +kernel
theorem d_L_law_938 : decode code 938 = .ok (.goto 245, 3) := by decide +kernel
theorem d_L_law_941 : decode code 941 = .ok (.aload_n 1, 1) := by decide +kernel
theorem d_L_law_942 : decode code 942 = .ok (.aload_n 0, 1) := by decide +kernel
theorem d_L_law_943 : decode code 943 = .ok (.iload 4, 2) := by decide +kernel
theorem d_L_law_945 : decode code 945 = .ok (.iconst 1, 1) := by decide +kernel
theorem d_L_law_946 : decode code 946 = .ok (.iadd, 1) := by decide +kernel
theorem d_L_law_947 : decode code 947 = .ok (.iaload, 1) := by decide +kernel
theorem d_L_law_948 : decode code 948 = .ok (.aload_n 3, 1) := by decide +kernel
theorem d_L_law_949 : decode code 949 = .ok (.invokestatic 109, 3) := by decide +kernel
theorem d_L_law_952 : decode code 952 = .ok (.istore 5, 2) := by decide +kernel
theorem d_L_law_954 : decode code 954 = .ok (.aload_n 2, 1) := by decide +kernel
theorem d_L_law_955 : decode code 955 = .ok (.aload_n 0, 1) := by decide +kernel
theorem d_L_law_956 : decode code 956 = .ok (.iload 4, 2) := by decide +kernel
theorem d_L_law_958 : decode code 958 = .ok (.iconst 1, 1) := by decide +kernel
theorem d_L_law_959 : decode code 959 = .ok (.iadd, 1) := by decide +kernel
theorem d_L_law_960 : decode code 960 = .ok (.iaload, 1) := by decide +kernel
theorem d_L_law_961 : decode code 961 = .ok (.invokevirtual 112, 3) := by decide +kernel
theorem d_L_law_964 : decode code 964 = .ok (.istore 6, 2) := by decide +kernel
theorem d_L_law_966 : decode code 966 = .ok (.aload_n 2, 1) := by decide +kernel
theorem d_L_law_967 : decode code 967 = .ok (.invokevirtual 74, 3) := by decide +kernel
theorem d_L_law_970 : decode code 970 = .ok (.iload 5, 2) := by decide +kernel
theorem d_L_law_972 : decode code 972 = .ok (.if_icmp .eq 5, 3) := by decide +kernel
theorem d_L_law_975 : decode code 975 = .ok (.iconst 0, 1) := by decide +kernel
theorem d_L_law_976 : decode code 976 = .ok (.ireturn, 1) := by decide +kernel
theorem d_L_law_977 : decode code 977 = .ok (.iload 5, 2) := by decide +kernel
theorem d_L_law_979 : decode code 979 = .ok (.ifCond .ne 15, 3) := by decide +kernel
theorem d_L_law_982 : decode code 982 = .ok (.aload_n 3, 1) := by decide +kernel
theorem d_L_law_983 : decode code 983 = .ok (.iconst 0, 1) := by decide +kernel
theorem d_L_law_984 : decode code 984 = .ok (.laload, 1) := by decide +kernel
theorem d_L_law_985 : decode code 985 = .ok (.iload 6, 2) := by decide +kernel
theorem d_L_law_987 : decode code 987 = .ok (.i2l, 1) := by decide +kernel
theorem d_L_law_988 : decode code 988 = .ok (.lcmp, 1) := by decide +kernel
theorem d_L_law_989 : decode code 989 = .ok (.ifCond .eq 5, 3) := by decide +kernel
theorem d_L_law_992 : decode code 992 = .ok (.iconst 0, 1) := by decide +kernel
theorem d_L_law_993 : decode code 993 = .ok (.ireturn, 1) := by decide +kernel
theorem d_L_law_994 : decode code 994 = .ok (.goto 189, 3) := by decide +kernel
theorem d_L_law_997 : decode code 997 = .ok (.aload_n 1, 1) := by decide +kernel
theorem d_L_law_998 : decode code 998 = .ok (.aload_n 0, 1) := by decide +kernel
theorem d_L_law_999 : decode code 999 = .ok (.iload 4, 2) := by decide +kernel
theorem d_L_law_1001 : decode code 1001 = .ok (.iconst 1, 1) := by decide +kernel
theorem d_L_law_1002 : decode code 1002 = .ok (.iadd, 1) := by decide +kernel
theorem d_L_law_1003 : decode code 1003 = .ok (.iaload, 1) := by decide +kernel
theorem d_L_law_1004 : decode code 1004 = .ok (.aload_n 0, 1) := by decide +kernel
theorem d_L_law_1005 : decode code 1005 = .ok (.iload 4, 2) := by decide +kernel
theorem d_L_law_1007 : decode code 1007 = .ok (.iconst 2, 1) := by decide +kernel
theorem d_L_law_1008 : decode code 1008 = .ok (.iadd, 1) := by decide +kernel
theorem d_L_law_1009 : decode code 1009 = .ok (.iaload, 1) := by decide +kernel
theorem d_L_law_1010 : decode code 1010 = .ok (.invokevirtual 113, 3) := by decide +kernel
theorem d_L_law_1013 : decode code 1013 = .ok (.aload_n 2, 1) := by decide +kernel
theorem d_L_law_1014 : decode code 1014 = .ok (.aload_n 0, 1) := by decide +kernel
theorem d_L_law_1015 : decode code 1015 = .ok (.iload 4, 2) := by decide +kernel
theorem d_L_law_1017 : decode code 1017 = .ok (.iconst 1, 1) := by decide +kernel
theorem d_L_law_1018 : decode code 1018 = .ok (.iadd, 1) := by decide +kernel
theorem d_L_law_1019 : decode code 1019 = .ok (.iaload, 1) := by decide +kernel
theorem d_L_law_1020 : decode code 1020 = .ok (.aload_n 0, 1) := by decide +kernel
theorem d_L_law_1021 : decode code 1021 = .ok (.iload 4, 2) := by decide +kernel
theorem d_L_law_1023 : decode code 1023 = .ok (.iconst 2, 1) := by decide +kernel
theorem d_L_law_1024 : decode code 1024 = .ok (.iadd, 1) := by decide +kernel
theorem d_L_law_1025 : decode code 1025 = .ok (.iaload, 1) := by decide +kernel
theorem d_L_law_1026 : decode code 1026 = .ok (.invokevirtual 117, 3) := by decide +kernel
theorem d_L_law_1029 : decode code 1029 = .ok (.if_icmp .eq 154, 3) := by decide +kernel
theorem d_L_law_1032 : decode code 1032 = .ok (.iconst 0, 1) := by decide +kernel
theorem d_L_law_1033 : decode code 1033 = .ok (.ireturn, 1) := by decide +kernel
theorem d_L_law_1034 : decode code 1034 = .ok (.aload_n 1, 1) := by decide +kernel
theorem d_L_law_1035 : decode code 1035 = .ok (.aload_n 0, 1) := by decide +kernel
theorem d_L_law_1036 : decode code 1036 = .ok (.iload 4, 2) := by decide +kernel
theorem d_L_law_1038 : decode code 1038 = .ok (.iconst 1, 1) := by decide +kernel
theorem d_L_law_1039 : decode code 1039 = .ok (.iadd, 1) := by decide +kernel
theorem d_L_law_1040 : decode code 1040 = .ok (.iaload, 1) := by decide +kernel
theorem d_L_law_1041 : decode code 1041 = .ok (.aload_n 3, 1) := by decide +kernel
theorem d_L_law_1042 : decode code 1042 = .ok (.invokestatic 118, 3) := by decide +kernel
theorem d_L_law_1045 : decode code 1045 = .ok (.istore 5, 2) := by decide +kernel
theorem d_L_law_1047 : decode code 1047 = .ok (.aload_n 2, 1) := by decide +kernel
theorem d_L_law_1048 : decode code 1048 = .ok (.aload_n 0, 1) := by decide +kernel
theorem d_L_law_1049 : decode code 1049 = .ok (.iload 4, 2) := by decide +kernel
theorem d_L_law_1051 : decode code 1051 = .ok (.iconst 1, 1) := by decide +kernel
theorem d_L_law_1052 : decode code 1052 = .ok (.iadd, 1) := by decide +kernel
theorem d_L_law_1053 : decode code 1053 = .ok (.iaload, 1) := by decide +kernel
theorem d_L_law_1054 : decode code 1054 = .ok (.invokevirtual 120, 3) := by decide +kernel
theorem d_L_law_1057 : decode code 1057 = .ok (.istore 6, 2) := by decide +kernel
theorem d_L_law_1059 : decode code 1059 = .ok (.aload_n 2, 1) := by decide +kernel
theorem d_L_law_1060 : decode code 1060 = .ok (.invokevirtual 74, 3) := by decide +kernel
theorem d_L_law_1063 : decode code 1063 = .ok (.iload 5, 2) := by decide +kernel
theorem d_L_law_1065 : decode code 1065 = .ok (.if_icmp .eq 5, 3) := by decide +kernel
theorem d_L_law_1068 : decode code 1068 = .ok (.iconst 0, 1) := by decide +kernel
theorem d_L_law_1069 : decode code 1069 = .ok (.ireturn, 1) := by decide +kernel
theorem d_L_law_1070 : decode code 1070 = .ok (.iload 5, 2) := by decide +kernel
theorem d_L_law_1072 : decode code 1072 = .ok (.ifCond .ne 15, 3) := by decide +kernel
theorem d_L_law_1075 : decode code 1075 = .ok (.aload_n 3, 1) := by decide +kernel
theorem d_L_law_1076 : decode code 1076 = .ok (.iconst 0, 1) := by decide +kernel
theorem d_L_law_1077 : decode code 1077 = .ok (.laload, 1) := by decide +kernel
theorem d_L_law_1078 : decode code 1078 = .ok (.iload 6, 2) := by decide +kernel
theorem d_L_law_1080 : decode code 1080 = .ok (.i2l, 1) := by decide +kernel
theorem d_L_law_1081 : decode code 1081 = .ok (.lcmp, 1) := by decide +kernel
theorem d_L_law_1082 : decode code 1082 = .ok (.ifCond .eq 5, 3) := by decide +kernel
theorem d_L_law_1085 : decode code 1085 = .ok (.iconst 0, 1) := by decide +kernel
theorem d_L_law_1086 : decode code 1086 = .ok (.ireturn, 1) := by decide +kernel
theorem d_L_law_1087 : decode code 1087 = .ok (.goto 96, 3) := by decide +kernel
theorem d_L_law_1090 : decode code 1090 = .ok (.aload_n 1, 1) := by decide +kernel
theorem d_L_law_1091 : decode code 1091 = .ok (.aload_n 0, 1) := by decide +kernel
theorem d_L_law_1092 : decode code 1092 = .ok (.iload 4, 2) := by decide +kernel
theorem d_L_law_1094 : decode code 1094 = .ok (.iconst 1, 1) := by decide +kernel
theorem d_L_law_1095 : decode code 1095 = .ok (.iadd, 1) := by decide +kernel
theorem d_L_law_1096 : decode code 1096 = .ok (.iaload, 1) := by decide +kernel
theorem d_L_law_1097 : decode code 1097 = .ok (.aload_n 0, 1) := by decide +kernel
theorem d_L_law_1098 : decode code 1098 = .ok (.iload 4, 2) := by decide +kernel
theorem d_L_law_1100 : decode code 1100 = .ok (.iconst 2, 1) := by decide +kernel
theorem d_L_law_1101 : decode code 1101 = .ok (.iadd, 1) := by decide +kernel
theorem d_L_law_1102 : decode code 1102 = .ok (.iaload, 1) := by decide +kernel
theorem d_L_law_1103 : decode code 1103 = .ok (.aload_n 3, 1) := by decide +kernel
theorem d_L_law_1104 : decode code 1104 = .ok (.invokestatic 121, 3) := by decide +kernel
theorem d_L_law_1107 : decode code 1107 = .ok (.istore 5, 2) := by decide +kernel
theorem d_L_law_1109 : decode code 1109 = .ok (.aload_n 2, 1) := by decide +kernel
theorem d_L_law_1110 : decode code 1110 = .ok (.aload_n 0, 1) := by decide +kernel
theorem d_L_law_1111 : decode code 1111 = .ok (.iload 4, 2) := by decide +kernel
theorem d_L_law_1113 : decode code 1113 = .ok (.iconst 1, 1) := by decide +kernel
theorem d_L_law_1114 : decode code 1114 = .ok (.iadd, 1) := by decide +kernel
theorem d_L_law_1115 : decode code 1115 = .ok (.iaload, 1) := by decide +kernel
theorem d_L_law_1116 : decode code 1116 = .ok (.aload_n 0, 1) := by decide +kernel
theorem d_L_law_1117 : decode code 1117 = .ok (.iload 4, 2) := by decide +kernel
theorem d_L_law_1119 : decode code 1119 = .ok (.iconst 2, 1) := by decide +kernel
theorem d_L_law_1120 : decode code 1120 = .ok (.iadd, 1) := by decide +kernel
theorem d_L_law_1121 : decode code 1121 = .ok (.iaload, 1) := by decide +kernel
theorem d_L_law_1122 : decode code 1122 = .ok (.invokevirtual 123, 3) := by decide +kernel
theorem d_L_law_1125 : decode code 1125 = .ok (.istore 6, 2) := by decide +kernel
theorem d_L_law_1127 : decode code 1127 = .ok (.aload_n 2, 1) := by decide +kernel
theorem d_L_law_1128 : decode code 1128 = .ok (.invokevirtual 74, 3) := by decide +kernel
theorem d_L_law_1131 : decode code 1131 = .ok (.iload 5, 2) := by decide +kernel
theorem d_L_law_1133 : decode code 1133 = .ok (.if_icmp .eq 5, 3) := by decide +kernel
theorem d_L_law_1136 : decode code 1136 = .ok (.iconst 0, 1) := by decide +kernel
theorem d_L_law_1137 : decode code 1137 = .ok (.ireturn, 1) := by decide +kernel
theorem d_L_law_1138 : decode code 1138 = .ok (.iload 5, 2) := by decide +kernel
theorem d_L_law_1140 : decode code 1140 = .ok (.ifCond .ne 15, 3) := by decide +kernel
theorem d_L_law_1143 : decode code 1143 = .ok (.aload_n 3, 1) := by decide +kernel
theorem d_L_law_1144 : decode code 1144 = .ok (.iconst 0, 1) := by decide +kernel
theorem d_L_law_1145 : decode code 1145 = .ok (.laload, 1) := by decide +kernel
theorem d_L_law_1146 : decode code 1146 = .ok (.iload 6, 2) := by decide +kernel
theorem d_L_law_1148 : decode code 1148 = .ok (.i2l, 1) := by decide +kernel
theorem d_L_law_1149 : decode code 1149 = .ok (.lcmp, 1) := by decide +kernel
theorem d_L_law_1150 : decode code 1150 = .ok (.ifCond .eq 5, 3) := by decide +kernel
theorem d_L_law_1153 : decode code 1153 = .ok (.iconst 0, 1) := by decide +kernel
theorem d_L_law_1154 : decode code 1154 = .ok (.ireturn, 1) := by decide +kernel
theorem d_L_law_1155 : decode code 1155 = .ok (.goto 28, 3) := by decide +kernel
theorem d_L_law_1158 : decode code 1158 = .ok (.aload_n 1, 1) := by decide +kernel
theorem d_L_law_1159 : decode code 1159 = .ok (.aload_n 0, 1) := by decide +kernel
theorem d_L_law_1160 : decode code 1160 = .ok (.iload 4, 2) := by decide +kernel
theorem d_L_law_1162 : decode code 1162 = .ok (.iconst 1, 1) := by decide +kernel
theorem d_L_law_1163 : decode code 1163 = .ok (.iadd, 1) := by decide +kernel
theorem d_L_law_1164 : decode code 1164 = .ok (.iaload, 1) := by decide +kernel
theorem d_L_law_1165 : decode code 1165 = .ok (.invokevirtual 124, 3) := by decide +kernel
theorem d_L_law_1168 : decode code 1168 = .ok (.aload_n 2, 1) := by decide +kernel
theorem d_L_law_1169 : decode code 1169 = .ok (.aload_n 0, 1) := by decide +kernel
theorem d_L_law_1170 : decode code 1170 = .ok (.iload 4, 2) := by decide +kernel
theorem d_L_law_1172 : decode code 1172 = .ok (.iconst 1, 1) := by decide +kernel
theorem d_L_law_1173 : decode code 1173 = .ok (.iadd, 1) := by decide +kernel
theorem d_L_law_1174 : decode code 1174 = .ok (.iaload, 1) := by decide +kernel
theorem d_L_law_1175 : decode code 1175 = .ok (.invokevirtual 127, 3) := by decide +kernel
theorem d_L_law_1178 : decode code 1178 = .ok (.if_icmp .eq 5, 3) := by decide +kernel
theorem d_L_law_1181 : decode code 1181 = .ok (.iconst 0, 1) := by decide +kernel
theorem d_L_law_1182 : decode code 1182 = .ok (.ireturn, 1) := by decide +kernel
theorem d_L_law_1183 : decode code 1183 = .ok (.iinc 4 7, 3) := by decide +kernel
theorem d_L_law_1186 : decode code 1186 = .ok (.goto (-1163), 3) := by decide +kernel
theorem d_L_law_1189 : decode code 1189 = .ok (.iconst 1, 1) := by decide +kernel
theorem d_L_law_1190 : decode code 1190 = .ok (.ireturn, 1) := by decide +kernel
end
section
/-! THE WORLD AS A FUNCTION: 'ww D cl A w H': the heap H holds at each address a with w a = some e the cell e; all such addresses lie in A. Over the kit's lists of cells: some list of cells is the graph of w. -/
def ww_is (L : va_W) (w : Nat → Option va_E) : Prop := ∀ (a : Nat) (e : va_E), w a = some e ↔ ∃ k : Nat, L[k]? = some (a, e)
def ww (D : va_G) (cl : List vw_C) (A : Nat → Prop) (w : Nat → Option va_E) (H : Heap) : Prop := ∃ L : va_W, va_P D cl L H ∧ va_D A L ∧ ww_is L w
theorem ww_is.set {L : va_W} {w : Nat → Option va_E} {A : Nat → Prop} {k a : Nat} {e0 e : va_E} (h : ww_is L w) (hD : va_D A L) (hk : L[k]? = some (a, e0)) : ww_is (L.set k (a, e)) (va_up w a (some e)) := by
  intro b x
  have hl : k < L.length := (List.getElem?_eq_some_iff.mp hk).1
  by_cases hb : b = a
  · subst hb
    rw [va_up_self]
    constructor
    · intro q
      cases q
      exact ⟨k, List.getElem?_set_self hl⟩
    · rintro ⟨j, hj⟩
      by_cases hjk : j = k
      · subst hjk
        rw [List.getElem?_set_self hl] at hj
        cases hj
        rfl
      · rw [List.getElem?_set_ne (Ne.symm hjk)] at hj
        exact absurd (hD.1 j k _ _ hj hk rfl) hjk
  · rw [va_up_ne _ _ hb, h b x]
    constructor
    · rintro ⟨j, hj⟩
      refine ⟨j, ?_⟩
      by_cases hjk : j = k
      · subst hjk
        rw [hk] at hj
        cases hj
        exact absurd rfl hb
      · rw [List.getElem?_set_ne (Ne.symm hjk)]
        exact hj
    · rintro ⟨j, hj⟩
      refine ⟨j, ?_⟩
      by_cases hjk : j = k
      · subst hjk
        rw [List.getElem?_set_self hl] at hj
        cases hj
        exact absurd rfl hb
      · rw [List.getElem?_set_ne (Ne.symm hjk)] at hj
        exact hj
theorem ww_new_out {L : va_W} {w : Nat → Option va_E} {A : Nat → Prop} {q : Nat} {e : va_E} (h : ww_is L w) (hD : va_D A (L ++ [(q, e)])) : w q = none := by
  cases hq : w q with
  | none => rfl
  | some x =>
    obtain ⟨k, hk⟩ := (h q x).mp hq
    have hl : k < L.length := (List.getElem?_eq_some_iff.mp hk).1
    have h1 : (L ++ [(q, e)])[k]? = some (q, x) := by rw [List.getElem?_append_left hl]; exact hk
    have h2 : (L ++ [(q, e)])[L.length]? = some (q, e) := by rw [List.getElem?_append_right (Nat.le_refl _), Nat.sub_self]; rfl
    have := hD.1 k L.length _ _ h1 h2 rfl
    omega
theorem ww_is.push {L : va_W} {w : Nat → Option va_E} {A : Nat → Prop} {q : Nat} {e : va_E} (h : ww_is L w) (hD : va_D A (L ++ [(q, e)])) : ww_is (L ++ [(q, e)]) (va_up w q (some e)) := by
  have hn := ww_new_out h hD
  intro b x
  by_cases hb : b = q
  · subst hb
    rw [va_up_self]
    constructor
    · intro z
      cases z
      exact ⟨L.length, by rw [List.getElem?_append_right (Nat.le_refl _), Nat.sub_self]; rfl⟩
    · rintro ⟨j, hj⟩
      have h2 : (L ++ [(b, e)])[L.length]? = some (b, e) := by rw [List.getElem?_append_right (Nat.le_refl _), Nat.sub_self]; rfl
      have hjl := hD.1 j L.length _ _ hj h2 rfl
      subst hjl
      rw [h2] at hj
      cases hj
      rfl
  · rw [va_up_ne _ _ hb, h b x]
    constructor
    · rintro ⟨j, hj⟩
      have hl : j < L.length := (List.getElem?_eq_some_iff.mp hj).1
      exact ⟨j, by rw [List.getElem?_append_left hl]; exact hj⟩
    · rintro ⟨j, hj⟩
      refine ⟨j, ?_⟩
      by_cases hl : j < L.length
      · rw [List.getElem?_append_left hl] at hj
        exact hj
      · rw [List.getElem?_append_right (Nat.le_of_not_lt hl)] at hj
        cases hz : j - L.length with
        | zero =>
          rw [hz] at hj
          cases hj
          exact absurd rfl hb
        | succ n =>
          rw [hz] at hj
          cases hj
/-- a cell of the world by itself -/
theorem ww.one {D : va_G} {cl : List vw_C} {A : Nat → Prop} {w : Nat → Option va_E} {H : Heap} (h : ww D cl A w H) {a : Nat} {e : va_E} (he : w a = some e) : va_P D cl [(a, e)] H ∧ va_D A [(a, e)] := by
  obtain ⟨L, hP, hD, hL⟩ := h
  obtain ⟨k, hk⟩ := (hL a e).mp he
  refine ⟨fun j q hj => ?_, ⟨fun i j x y hi hj _ => ?_, fun j q hj => ?_⟩⟩
  · cases j with
    | zero => cases hj; exact hP k _ hk
    | succ j => cases hj
  · cases i with
    | zero => cases j with
      | zero => rfl
      | succ j => cases hj
    | succ i => cases hi
  · cases j with
    | zero => cases hj; exact hD.2 k _ hk
    | succ j => cases hj
theorem ww.lt {D : va_G} {cl : List vw_C} {A : Nat → Prop} {w : Nat → Option va_E} {H : Heap} (h : ww D cl A w H) {a : Nat} {e : va_E} (he : w a = some e) : a < H.size := by
  obtain ⟨L, hP, hD, hL⟩ := h
  obtain ⟨k, hk⟩ := (hL a e).mp he
  exact (hP k _ hk).lt
theorem ww.inA {D : va_G} {cl : List vw_C} {A : Nat → Prop} {w : Nat → Option va_E} {H : Heap} (h : ww D cl A w H) {a : Nat} {e : va_E} (he : w a = some e) : A a := by
  obtain ⟨L, hP, hD, hL⟩ := h
  obtain ⟨k, hk⟩ := (hL a e).mp he
  exact hD.2 k _ hk
/-- the world holds in a heap that is the same at all its addresses -/
theorem ww.kept {D : va_G} {cl : List vw_C} {A : Nat → Prop} {w : Nat → Option va_E} {H H1 : Heap} (h : ww D cl A w H) (hq : ∀ q : Nat, q < H.size → H1[q]? = H[q]?) : ww D cl A w H1 := by
  obtain ⟨L, hP, hD, hL⟩ := h
  exact ⟨L, hP.kept (fun k q hk => hq q.1 (hP k q hk).lt), hD, hL⟩
theorem ww_nil (D : va_G) (cl : List vw_C) (A : Nat → Prop) (H : Heap) : ww D cl A (fun _ => none) H :=
  ⟨[], fun k q h => by simp at h, ⟨fun i j p q h => by simp at h, fun k q h => by simp at h⟩, fun a e => Iff.intro (fun h => by simp at h) (fun h => by obtain ⟨k, h⟩ := h; simp at h)⟩
theorem ww.recv {D : va_G} {cl : List vw_C} {A : Nat → Prop} {w : Nat → Option va_E} {H : Heap} {s : State} {tys : List (ClassId × FieldType)} (hK : va_K D cl tys s) (h : ww D cl A w H) {a ci : Nat} {q : vw_C} {fs : List Value} (he : w a = some (.inr (ci, fs))) (hc : cl[ci]? = some q) : ∃ cell : Cell, H[a]? = some cell ∧ cell.vm.isStatics = false ∧ s.vm.findClass q.1 = some cell.cls :=
  va_recv hK (h.one he).1 hc (q0 := 0) rfl
section WWR
variable {p : Program} {l : Launch} {e : Env} {R : Room} {s : State} {m : MethodId} {args : Array Value} {below : List Frame} {meth : Method} {c : Code} {H : Heap} {locs : List Loc} {cells slots : Nat} {Q : State → Prop}
variable {cc : ByteArray} {pc : Nat} {ls : Array Slot} {rest : List Value} {D : va_G} {cl : List vw_C} {A : Nat → Prop} {a : Nat} {tys : List (ClassId × FieldType)} {w : Nat → Option va_E} {H0 : Heap}
theorem ww_get (hexec : p.tables.exec = Jvm.exec) (hb : c.code = cc) {own ref C : String} {T : u_T} {N ci index : Nat} {Ts : List Cond} (hts : ∀ w ∈ Ts, w.before args s = true) (hin : ∀ w ∈ u_ws C T N, w ∈ Ts) (hown : s.vm.findClass own = some m.cls) (hK : va_K D cl tys s) (hw : ww D cl A w H) {fs : List Value} (he : w a = some (.inr (ci, fs))) (hc : cl[ci]? = some (C, T, N)) (k : Nat) (hk : k < N) (hlink : (Cond.fieldLink own index ref (T k).2.1 (T k).2.2.1).before args s = true) (hsame : ∀ x, s.fieldFound? (T k).1 (T k).2.1 (T k).2.2.1 = some x → s.fieldFound? ref (T k).2.1 (T k).2.2.1 = some x) {v : Value} (hv : fs[k]? = some v) (hdg : decode cc pc = .ok (.getfield index, 3))
    (kk : W p l e R s m args below meth c H locs cells slots Q (F0 m (pc + 3) ls (v :: rest))) : W p l e R s m args below meth c H locs cells slots Q (F0 m pc ls (.ref a :: rest)) :=
  va_get hexec hb hts hin hown hK (hw.one he).1 0 rfl hc k hk hlink hsame hv hdg kk
theorem ww_getN (hexec : p.tables.exec = Jvm.exec) (hb : c.code = cc) {own ref C host : String} {T : u_T} {N ci index : Nat} {Ts : List Cond} (hts : ∀ w ∈ Ts, w.before args s = true) (hin : ∀ w ∈ u_ws C T N, w ∈ Ts) (hown : s.vm.findClass own = some m.cls) (hK : va_K D cl tys s) (hw : ww D cl A w H) {fs : List Value} (he : w a = some (.inr (ci, fs))) (hc : cl[ci]? = some (C, T, N)) (k : Nat) (hk : k < N) (hlink : (Cond.fieldLinkNest own index ref (T k).2.1 (T k).2.2.1 host).before args s = true) (hsame : ∀ x, s.fieldFound? (T k).1 (T k).2.1 (T k).2.2.1 = some x → s.fieldFound? ref (T k).2.1 (T k).2.2.1 = some x) {v : Value} (hv : fs[k]? = some v) (hdg : decode cc pc = .ok (.getfield index, 3))
    (kk : W p l e R s m args below meth c H locs cells slots Q (F0 m (pc + 3) ls (v :: rest))) : W p l e R s m args below meth c H locs cells slots Q (F0 m pc ls (.ref a :: rest)) :=
  va_getN hexec hb hts hin hown hK (hw.one he).1 0 rfl hc k hk hlink hsame hv hdg kk
theorem ww_put (hexec : p.tables.exec = Jvm.exec) (hb : c.code = cc) {own ref C : String} {T : u_T} {N ci index : Nat} {Ts : List Cond} (hts : ∀ w ∈ Ts, w.before args s = true) (hin : ∀ w ∈ u_ws C T N, w ∈ Ts) (ty0 : Nat → FieldType) (hty : ∀ k, k < N → parseFieldDescriptor (T k).2.2.1 = some (ty0 k)) (hnm : ∀ a, a < N → ∀ b, b < N → a ≠ b → (T a).2.1 ≠ (T b).2.1) (hown : s.vm.findClass own = some m.cls) (hK : va_K D cl tys s) (hw : ww D cl A w H) (hS0 : va_S A H0 H locs) {fs fs' : List Value} (he : w a = some (.inr (ci, fs))) (hc : cl[ci]? = some (C, T, N)) (k : Nat) (hk : k < N) (hlink : (Cond.fieldLink own index ref (T k).2.1 (T k).2.2.1).before args s = true) (hsame : ∀ x, s.fieldFound? (T k).1 (T k).2.1 (T k).2.2.1 = some x → s.fieldFound? ref (T k).2.1 (T k).2.2.1 = some x) (hfin : (T k).2.2.2 = false) {ty : FieldType} {v : Value} (hd : parseFieldDescriptor (T k).2.2.1 = some ty) (hn : narrow ty v = v) (hfit : fits ty v = true) (hl : k < fs.length) (hfs : fs.set k v = fs')
    (hdg : decode cc pc = .ok (.putfield index, 3)) (kk : ∀ (H1 : Heap) (locs1 : List Loc), ww D cl A (va_up w a (some (.inr (ci, fs')))) H1 → va_S A H0 H1 locs1 → W p l e R s m args below meth c H1 locs1 cells slots Q (F0 m (pc + 3) ls rest)) : W p l e R s m args below meth c H locs cells slots Q (F0 m pc ls (v :: .ref a :: rest)) := by
  obtain ⟨L, hP, hD, hL⟩ := hw
  obtain ⟨q0, hq⟩ := (hL _ _).mp he
  subst hfs
  exact va_put hexec hb hts hin ty0 hty hnm hown hK hP hD hS0 q0 hq hc k hk hlink hsame hfin hd hn hfit hl hdg (fun H1 locs1 hP1 hD1 hS1 => kk H1 locs1 ⟨_, hP1, hD1, hL.set hD hq⟩ hS1)
theorem ww_putN (hexec : p.tables.exec = Jvm.exec) (hb : c.code = cc) {own ref C host : String} {T : u_T} {N ci index : Nat} {Ts : List Cond} (hts : ∀ w ∈ Ts, w.before args s = true) (hin : ∀ w ∈ u_ws C T N, w ∈ Ts) (ty0 : Nat → FieldType) (hty : ∀ k, k < N → parseFieldDescriptor (T k).2.2.1 = some (ty0 k)) (hnm : ∀ a, a < N → ∀ b, b < N → a ≠ b → (T a).2.1 ≠ (T b).2.1) (hown : s.vm.findClass own = some m.cls) (hK : va_K D cl tys s) (hw : ww D cl A w H) (hS0 : va_S A H0 H locs) {fs fs' : List Value} (he : w a = some (.inr (ci, fs))) (hc : cl[ci]? = some (C, T, N)) (k : Nat) (hk : k < N) (hlink : (Cond.fieldLinkNest own index ref (T k).2.1 (T k).2.2.1 host).before args s = true) (hsame : ∀ x, s.fieldFound? (T k).1 (T k).2.1 (T k).2.2.1 = some x → s.fieldFound? ref (T k).2.1 (T k).2.2.1 = some x) (hfin : (T k).2.2.2 = false) {ty : FieldType} {v : Value} (hd : parseFieldDescriptor (T k).2.2.1 = some ty) (hn : narrow ty v = v) (hfit : fits ty v = true) (hl : k < fs.length) (hfs : fs.set k v = fs')
    (hdg : decode cc pc = .ok (.putfield index, 3)) (kk : ∀ (H1 : Heap) (locs1 : List Loc), ww D cl A (va_up w a (some (.inr (ci, fs')))) H1 → va_S A H0 H1 locs1 → W p l e R s m args below meth c H1 locs1 cells slots Q (F0 m (pc + 3) ls rest)) : W p l e R s m args below meth c H locs cells slots Q (F0 m pc ls (v :: .ref a :: rest)) := by
  obtain ⟨L, hP, hD, hL⟩ := hw
  obtain ⟨q0, hq⟩ := (hL _ _).mp he
  subst hfs
  exact va_putN hexec hb hts hin ty0 hty hnm hown hK hP hD hS0 q0 hq hc k hk hlink hsame hfin hd hn hfit hl hdg (fun H1 locs1 hP1 hD1 hS1 => kk H1 locs1 ⟨_, hP1, hD1, hL.set hD hq⟩ hS1)
theorem ww_putF (hexec : p.tables.exec = Jvm.exec) (hb : c.code = cc) {own ref C : String} {T : u_T} {N ci index : Nat} {Ts : List Cond} (hts : ∀ w ∈ Ts, w.before args s = true) (hin : ∀ w ∈ u_ws C T N, w ∈ Ts) (ty0 : Nat → FieldType) (hty : ∀ k, k < N → parseFieldDescriptor (T k).2.2.1 = some (ty0 k)) (hnm : ∀ a, a < N → ∀ b, b < N → a ≠ b → (T a).2.1 ≠ (T b).2.1) (hown : s.vm.findClass own = some m.cls) (hK : va_K D cl tys s) (hw : ww D cl A w H) (hS0 : va_S A H0 H locs) {fs fs' : List Value} (he : w a = some (.inr (ci, fs))) (hc : cl[ci]? = some (C, T, N)) (k : Nat) (hk : k < N) (hlink : (Cond.fieldLink own index ref (T k).2.1 (T k).2.2.1).before args s = true) (hsame : ∀ x, s.fieldFound? (T k).1 (T k).2.1 (T k).2.2.1 = some x → s.fieldFound? ref (T k).2.1 (T k).2.2.1 = some x) (hfin : (T k).2.2.2 = true) (hin2 : meth.name = "<init>") (hdecl : (T k).1 = own) {ty : FieldType} {v : Value} (hd : parseFieldDescriptor (T k).2.2.1 = some ty) (hn : narrow ty v = v) (hfit : fits ty v = true) (hl : k < fs.length) (hfs : fs.set k v = fs')
    (hdg : decode cc pc = .ok (.putfield index, 3)) (kk : ∀ (H1 : Heap) (locs1 : List Loc), ww D cl A (va_up w a (some (.inr (ci, fs')))) H1 → va_S A H0 H1 locs1 → W p l e R s m args below meth c H1 locs1 cells slots Q (F0 m (pc + 3) ls rest)) : W p l e R s m args below meth c H locs cells slots Q (F0 m pc ls (v :: .ref a :: rest)) := by
  obtain ⟨L, hP, hD, hL⟩ := hw
  obtain ⟨q0, hq⟩ := (hL _ _).mp he
  subst hfs
  exact va_putF hexec hb hts hin ty0 hty hnm hown hK hP hD hS0 q0 hq hc k hk hlink hsame hfin hin2 hdecl hd hn hfit hl hdg (fun H1 locs1 hP1 hD1 hS1 => kk H1 locs1 ⟨_, hP1, hD1, hL.set hD hq⟩ hS1)
theorem ww_iald (hexec : p.tables.exec = Jvm.exec) (hb : c.code = cc) (hK : va_K D cl tys s) (hw : ww D cl A w H) (t0 : Nat) {cA : ClassId} {n : Nat} {f : Nat → Int32} (ha : w a = some (.inl (cA, n, .inl f))) (ht : tys[t0]? = some (cA, .int)) {i : Int32} (hin : vp_in i n) {v : Int32} (hv : f i.toNatClampNeg = v) (hdg : decode cc pc = .ok (.iaload, 1))
    (kk : W p l e R s m args below meth c H locs cells slots Q (F0 m (pc + 1) ls (.int v :: rest))) : W p l e R s m args below meth c H locs cells slots Q (F0 m pc ls (.int i :: .ref a :: rest)) := by
  subst hv
  exact va_iald hexec hb hK (hw.one ha).1 0 t0 rfl ht hin hdg kk
theorem ww_zald (hexec : p.tables.exec = Jvm.exec) (hb : c.code = cc) (hK : va_K D cl tys s) (hw : ww D cl A w H) (t0 : Nat) {cA : ClassId} {n : Nat} {f : Nat → Int32} (ha : w a = some (.inl (cA, n, .inl f))) (ht : tys[t0]? = some (cA, .boolean)) {i : Int32} (hin : vp_in i n) {v : Int32} (hv : f i.toNatClampNeg = v) (hdg : decode cc pc = .ok (.baload, 1))
    (kk : W p l e R s m args below meth c H locs cells slots Q (F0 m (pc + 1) ls (.int v :: rest))) : W p l e R s m args below meth c H locs cells slots Q (F0 m pc ls (.int i :: .ref a :: rest)) := by
  subst hv
  exact va_zald hexec hb hK (hw.one ha).1 0 t0 rfl ht hin hdg kk
theorem ww_lald (hexec : p.tables.exec = Jvm.exec) (hb : c.code = cc) (hK : va_K D cl tys s) (hw : ww D cl A w H) (t0 : Nat) {cA : ClassId} {n : Nat} {f : Nat → Int64} (ha : w a = some (.inl (cA, n, .inr (.inl f)))) (ht : tys[t0]? = some (cA, .long)) {i : Int32} (hin : vp_in i n) {v : Int64} (hv : f i.toNatClampNeg = v) (hdg : decode cc pc = .ok (.laload, 1))
    (kk : W p l e R s m args below meth c H locs cells slots Q (F0 m (pc + 1) ls (.long v :: rest))) : W p l e R s m args below meth c H locs cells slots Q (F0 m pc ls (.int i :: .ref a :: rest)) := by
  subst hv
  exact va_lald hexec hb hK (hw.one ha).1 0 t0 rfl ht hin hdg kk
theorem ww_aldq (hexec : p.tables.exec = Jvm.exec) (hb : c.code = cc) (hK : va_K D cl tys s) (hw : ww D cl A w H) (t0 : Nat) {cA : ClassId} {C : String} {n : Nat} {f : Nat → Option Nat} (ha : w a = some (.inl (cA, n, .inr (.inr (.inr (.inr f)))))) (ht : tys[t0]? = some (cA, .object C)) {i : Int32} (hin : vp_in i n) {v : Value} (hv : va_rf (f i.toNatClampNeg) = v) (hdg : decode cc pc = .ok (.aaload, 1))
    (kk : W p l e R s m args below meth c H locs cells slots Q (F0 m (pc + 1) ls (v :: rest))) : W p l e R s m args below meth c H locs cells slots Q (F0 m pc ls (.int i :: .ref a :: rest)) := by
  subst hv
  exact va_aldq hexec hb hK (hw.one ha).1 0 t0 rfl ht hin hdg kk
theorem ww_alen (hexec : p.tables.exec = Jvm.exec) (hb : c.code = cc) (hK : va_K D cl tys s) (hw : ww D cl A w H) (t0 : Nat) {cA : ClassId} {x : vp_A} (ha : w a = some (.inl (cA, x))) {ty : FieldType} (ht : tys[t0]? = some (cA, ty)) {v : Int32} (hv : Int32.ofNat x.1 = v) (hdg : decode cc pc = .ok (.arraylength, 1))
    (kk : W p l e R s m args below meth c H locs cells slots Q (F0 m (pc + 1) ls (.int v :: rest))) : W p l e R s m args below meth c H locs cells slots Q (F0 m pc ls (.ref a :: rest)) :=
  va_alen hexec hb hK (hw.one ha).1 0 t0 rfl ht hv hdg kk
theorem ww_iast (hexec : p.tables.exec = Jvm.exec) (hb : c.code = cc) (hK : va_K D cl tys s) (hw : ww D cl A w H) (hS : va_S A H0 H locs) (t0 : Nat) {cA : ClassId} {n : Nat} {f : Nat → Int32} (ha : w a = some (.inl (cA, n, .inl f))) (ht : tys[t0]? = some (cA, .int)) {i : Int32} {x : Int32} (hin : vp_in i n) (hdg : decode cc pc = .ok (.iastore, 1))
    (kk : ∀ (H1 : Heap) (locs1 : List Loc), ww D cl A (va_up w a (some (.inl (cA, n, .inl (upd f i.toNatClampNeg x))))) H1 → va_S A H0 H1 locs1 → W p l e R s m args below meth c H1 locs1 cells slots Q (F0 m (pc + 1) ls rest)) : W p l e R s m args below meth c H locs cells slots Q (F0 m pc ls (.int x :: .int i :: .ref a :: rest)) := by
  obtain ⟨L, hP, hD, hL⟩ := hw
  obtain ⟨q0, hq⟩ := (hL _ _).mp ha
  exact va_iast hexec hb hK hP hD hS q0 t0 hq ht hin hdg (fun H1 locs1 hP1 hD1 hS1 => kk H1 locs1 ⟨_, hP1, hD1, hL.set hD hq⟩ hS1)
theorem ww_zast (hexec : p.tables.exec = Jvm.exec) (hb : c.code = cc) (hK : va_K D cl tys s) (hw : ww D cl A w H) (hS : va_S A H0 H locs) (t0 : Nat) {cA : ClassId} {n : Nat} {f : Nat → Int32} (ha : w a = some (.inl (cA, n, .inl f))) (ht : tys[t0]? = some (cA, .boolean)) {i : Int32} {x : Int32} (hin : vp_in i n) (hdg : decode cc pc = .ok (.bastore, 1))
    (kk : ∀ (H1 : Heap) (locs1 : List Loc), ww D cl A (va_up w a (some (.inl (cA, n, .inl (upd f i.toNatClampNeg (vp_nar .boolean x)))))) H1 → va_S A H0 H1 locs1 → W p l e R s m args below meth c H1 locs1 cells slots Q (F0 m (pc + 1) ls rest)) : W p l e R s m args below meth c H locs cells slots Q (F0 m pc ls (.int x :: .int i :: .ref a :: rest)) := by
  obtain ⟨L, hP, hD, hL⟩ := hw
  obtain ⟨q0, hq⟩ := (hL _ _).mp ha
  exact va_zast hexec hb hK hP hD hS q0 t0 hq ht hin hdg (fun H1 locs1 hP1 hD1 hS1 => kk H1 locs1 ⟨_, hP1, hD1, hL.set hD hq⟩ hS1)
theorem ww_last (hexec : p.tables.exec = Jvm.exec) (hb : c.code = cc) (hK : va_K D cl tys s) (hw : ww D cl A w H) (hS : va_S A H0 H locs) (t0 : Nat) {cA : ClassId} {n : Nat} {f : Nat → Int64} (ha : w a = some (.inl (cA, n, .inr (.inl f)))) (ht : tys[t0]? = some (cA, .long)) {i : Int32} {x : Int64} (hin : vp_in i n) (hdg : decode cc pc = .ok (.lastore, 1))
    (kk : ∀ (H1 : Heap) (locs1 : List Loc), ww D cl A (va_up w a (some (.inl (cA, n, .inr (.inl (vp_updL f i.toNatClampNeg x)))))) H1 → va_S A H0 H1 locs1 → W p l e R s m args below meth c H1 locs1 cells slots Q (F0 m (pc + 1) ls rest)) : W p l e R s m args below meth c H locs cells slots Q (F0 m pc ls (.long x :: .int i :: .ref a :: rest)) := by
  obtain ⟨L, hP, hD, hL⟩ := hw
  obtain ⟨q0, hq⟩ := (hL _ _).mp ha
  exact va_last hexec hb hK hP hD hS q0 t0 hq ht hin hdg (fun H1 locs1 hP1 hD1 hS1 => kk H1 locs1 ⟨_, hP1, hD1, hL.set hD hq⟩ hS1)
theorem ww_astq (hexec : p.tables.exec = Jvm.exec) (hb : c.code = cc) (hK : va_K D cl tys s) (hw : ww D cl A w H) (hS : va_S A H0 H locs) (t0 : Nat) {E : String} {cA : ClassId} {n v : Nat} {f : Nat → Option Nat} (ha : w a = some (.inl (cA, n, .inr (.inr (.inr (.inr f)))))) (ht : tys[t0]? = some (cA, .object E)) (hr : va_Any E s H v) {i : Int32} (hin : vp_in i n) (hdg : decode cc pc = .ok (.aastore, 1))
    (kk : ∀ (H1 : Heap) (locs1 : List Loc), ww D cl A (va_up w a (some (.inl (cA, n, .inr (.inr (.inr (.inr (va_up f i.toNatClampNeg (some v))))))))) H1 → va_S A H0 H1 locs1 → W p l e R s m args below meth c H1 locs1 cells slots Q (F0 m (pc + 1) ls rest)) : W p l e R s m args below meth c H locs cells slots Q (F0 m pc ls (.ref v :: .int i :: .ref a :: rest)) := by
  obtain ⟨L, hP, hD, hL⟩ := hw
  obtain ⟨q0, hq⟩ := (hL _ _).mp ha
  exact va_astqM hexec hb hK hP hD hS q0 t0 hq ht hr hin hdg (fun H1 locs1 hP1 hD1 hS1 => kk H1 locs1 ⟨_, hP1, hD1, hL.set hD hq⟩ hS1)
theorem ww_new (hexec : p.tables.exec = Jvm.exec) (hb : c.code = cc) {own C : String} {T : u_T} {N ci index : Nat} {Ts : List Cond} (hts : ∀ w ∈ Ts, w.before args s = true) (hin : ∀ w ∈ u_ws C T N, w ∈ Ts) (ty : Nat → FieldType) (hty : ∀ k, k < N → parseFieldDescriptor (T k).2.2.1 = some (ty k)) (hown : s.vm.findClass own = some m.cls) (hcl : (Cond.classLink own index C).before args s = true) (hinst : (Cond.instantiable C N).before args s = true) (hini : (Cond.initialized C).before args s = true)
    (hK : va_K D cl tys s) (hw : ww D cl A w H) (hS : va_S A H0 H locs) (hA : ∀ q, H0.size ≤ q → A q) (hc : cl[ci]? = some (C, T, N)) {fs : List Value} (hfs : ∀ j, j < N → defaultValue (ty j) = vp_V fs j) (hcells : cells + 1 ≤ R.cells) (hslots : slots + N ≤ R.slots) (hdg : decode cc pc = .ok (.new index, 3))
    (kk : ∀ (q : Nat) (H1 : Heap), w q = none → ww D cl A (va_up w q (some (.inr (ci, fs)))) H1 → va_S A H0 H1 locs →
      W p l e R s m args below meth c H1 locs (cells + 1) (slots + N) Q (F0 m (pc + 3) ls (.ref q :: rest))) : W p l e R s m args below meth c H locs cells slots Q (F0 m pc ls rest) := by
  obtain ⟨L, hP, hD, hL⟩ := hw
  exact va_new hexec hb hts hin ty hty hown hcl hinst hini hK hP hD hS hA hc hfs hcells hslots hdg (fun q H1 hP1 hD1 hS1 => kk q H1 (ww_new_out hL hD1) ⟨_, hP1, hD1, hL.push hD1⟩ hS1)
theorem ww_newa (hexec : p.tables.exec = Jvm.exec) (hb : c.code = cc) {atype : ArrayType} (harr : (Cond.arrayClass (newarray.typeOf atype)).before args s = true) {ty : FieldType} (hty : newarray.typeOf atype = ty) (hK : va_K D cl tys s) (hw : ww D cl A w H) (hS : va_S A H0 H locs) (hA : ∀ q, H0.size ≤ q → A q) (t0 : Nat) {c0 : ClassId} (ht : tys[t0]? = some (c0, ty)) (hnob : ∀ C, ty ≠ .object C)
    {n : Int32} {N' : Nat} {a0 : vp_A} (ha : ∀ cA : ClassId, vp_cell cA a0 = arrV cA N' (fun _ => defaultValue ty)) (hn : ¬ n < 0) (hN : n.toNatClampNeg = N') (hbytes : N' * componentBytes ty ≤ 536870912) (hcells : cells + 1 ≤ R.cells) (hslots : slots + N' ≤ R.slots) (hdg : decode cc pc = .ok (.newarray atype, 2))
    (kk : ∀ (q : Nat) (H1 : Heap), w q = none → ww D cl A (va_up w q (some (.inl (c0, a0)))) H1 → va_S A H0 H1 locs →
      W p l e R s m args below meth c H1 locs (cells + 1) (slots + N') Q (F0 m (pc + 2) ls (.ref q :: rest))) : W p l e R s m args below meth c H locs cells slots Q (F0 m pc ls (.int n :: rest)) := by
  obtain ⟨L, hP, hD, hL⟩ := hw
  refine va_newa hexec hb harr hty hK hP hD hS hA ha hn hN hbytes hcells hslots hdg (fun q cA H1 hK1 hP1 hD1 hS1 => ?_)
  have e0 : s.vm.findClass ("[" ++ ty.toString) = some c0 := by
    have h := (hK.2 t0 _ ht).2
    cases ty <;> first | exact h | exact absurd rfl (hnob _)
  have e1 : s.vm.findClass ("[" ++ ty.toString) = some cA := by
    have h := (hK1.2 tys.length (cA, ty) (by rw [List.getElem?_append_right (Nat.le_refl _), Nat.sub_self]; rfl)).2
    cases ty <;> first | exact h | exact absurd rfl (hnob _)
  have hc : cA = c0 := Option.some.inj (e1.symm.trans e0)
  subst hc
  exact kk q H1 (ww_new_out hL hD1) ⟨_, hP1, hD1, hL.push hD1⟩ hS1
theorem ww_newq (hexec : p.tables.exec = Jvm.exec) (hb : c.code = cc) {own C : String} {index : Nat} (hown : s.vm.findClass own = some m.cls) (hclink : (Cond.classLink own index C).before args s = true) (hover : va_AO C s) (hK : va_K D cl tys s) (hw : ww D cl A w H) (hS : va_S A H0 H locs) (hA : ∀ q, H0.size ≤ q → A q) (t0 : Nat) {c0 : ClassId} (ht : tys[t0]? = some (c0, .object C))
    {n : Int32} {N' : Nat} (hn : ¬ n < 0) (hN : n.toNatClampNeg = N') (hbytes : N' * 4 ≤ 536870912) (hcells : cells + 1 ≤ R.cells) (hslots : slots + N' ≤ R.slots) (hdg : decode cc pc = .ok (.anewarray index, 3))
    (kk : ∀ (q : Nat) (H1 : Heap), w q = none → ww D cl A (va_up w q (some (.inl (c0, N', .inr (.inr (.inr (.inr (fun _ => none)))))))) H1 → va_S A H0 H1 locs →
      W p l e R s m args below meth c H1 locs (cells + 1) (slots + N') Q (F0 m (pc + 3) ls (.ref q :: rest))) : W p l e R s m args below meth c H locs cells slots Q (F0 m pc ls (.int n :: rest)) := by
  obtain ⟨L, hP, hD, hL⟩ := hw
  refine va_newq hexec hb hown hclink hover hK hP hD hS hA hn hN hbytes hcells hslots hdg (fun q cA H1 hK1 hP1 hD1 hS1 => ?_)
  obtain ⟨k1, p1, g1, g2, g3, g4⟩ := (hK.2 t0 _ ht).2
  obtain ⟨k2, p2, f1, f2, f3, f4⟩ := (hK1.2 tys.length (cA, .object C) (by rw [List.getElem?_append_right (Nat.le_refl _), Nat.sub_self]; rfl)).2
  have hc : cA = c0 := Option.some.inj (f4.symm.trans g4)
  subst hc
  exact kk q H1 (ww_new_out hL hD1) ⟨_, hP1, hD1, hL.push hD1⟩ hS1
theorem ww_copyi (hexec : p.tables.exec = Jvm.exec) (hb : c.code = cc) (hml : c.maxLocals = ls.size) {own : String} {index : Nat} (hown : s.vm.findClass own = some m.cls) (hlink : (Cond.methodLink own index arraycopyName).before args s = true) (hnat : (Cond.native arraycopyName).before args s = true) (hstat : (Cond.static arraycopyName).before args s = true) (hini : (Cond.initialized "java/lang/System").before args s = true)
    (hK : va_K D cl tys s) (hw : ww D cl A w H) (hS : va_S A H0 H locs) (t0 t1 : Nat) {a0 : Nat} {c0 c1 : ClassId} {n0 n1 : Nat} {f g : Nat → Int32} {ty : FieldType} (ha0 : w a0 = some (.inl (c0, n0, .inl f))) (ha1 : w a = some (.inl (c1, n1, .inl g))) (ht0 : tys[t0]? = some (c0, ty)) (ht1 : tys[t1]? = some (c1, ty)) (hprim : refKind ty = false)
    {sp dp n : Int32} (h1 : ¬ sp < 0) (h2 : ¬ dp < 0) (h3 : ¬ n < 0) (h4 : sp.toNatClampNeg + n.toNatClampNeg ≤ n0) (h5 : dp.toNatClampNeg + n.toNatClampNeg ≤ n1) (hfit : ∀ i, i < n.toNatClampNeg → fits ty (.int (f (sp.toNatClampNeg + i))) = true)
    (hframes : 1 ≤ R.frames) (hlocals : (rest.map fun v => v.category).sum + (nativeFrameWords "java/lang/System" "arraycopy" 5 + 11) ≤ R.locals) (hdg : decode cc pc = .ok (.invokestatic index, 3))
    (kk : ∀ (H1 : Heap) (locs1 : List Loc), ww D cl A (va_up w a (some (.inl (c1, n1, .inl (va_cpy f g sp.toNatClampNeg dp.toNatClampNeg n.toNatClampNeg))))) H1 → va_S A H0 H1 locs1 → W p l e R s m args below meth c H1 locs1 cells slots Q (F0 m (pc + 3) ls rest)) : W p l e R s m args below meth c H locs cells slots Q (F0 m pc ls (.int n :: .int dp :: .ref a :: .int sp :: .ref a0 :: rest)) := by
  obtain ⟨L, hP, hD, hL⟩ := hw
  obtain ⟨q0, hq0⟩ := (hL _ _).mp ha0
  obtain ⟨q1, hq1⟩ := (hL _ _).mp ha1
  exact va_copyi hexec hb hml hown hlink hnat hstat hini hK hP hD hS q0 q1 t0 t1 hq0 hq1 ht0 ht1 hprim h1 h2 h3 h4 h5 hfit hframes hlocals hdg (fun H1 locs1 hP1 hD1 hS1 => kk H1 locs1 ⟨_, hP1, hD1, hL.set hD hq1⟩ hS1)
theorem ww_copyM (hexec : p.tables.exec = Jvm.exec) (hb : c.code = cc) (hml : c.maxLocals = ls.size) {own : String} {index : Nat} (hown : s.vm.findClass own = some m.cls) (hlink : (Cond.methodLink own index arraycopyName).before args s = true) (hnat : (Cond.native arraycopyName).before args s = true) (hstat : (Cond.static arraycopyName).before args s = true) (hini : (Cond.initialized "java/lang/System").before args s = true)
    (hK : va_K D cl tys s) (hw : ww D cl A w H) (hS : va_S A H0 H locs) (t0 t1 : Nat) {a0 : Nat} {c0 c1 : ClassId} {n0 n1 : Nat} {f g : Nat → Option Nat} {E0 E1 : String} (ha0 : w a0 = some (.inl (c0, n0, .inr (.inr (.inr (.inr f)))))) (ha1 : w a = some (.inl (c1, n1, .inr (.inr (.inr (.inr g)))))) (ht0 : tys[t0]? = some (c0, .object E0)) (ht1 : tys[t1]? = some (c1, .object E1))
    {sp dp n : Int32} (h1 : ¬ sp < 0) (h2 : ¬ dp < 0) (h3 : ¬ n < 0) (h4 : sp.toNatClampNeg + n.toNatClampNeg ≤ n0) (h5 : dp.toNatClampNeg + n.toNatClampNeg ≤ n1) (hel : ∀ i : Nat, i < n.toNatClampNeg → ∀ y : Nat, f (sp.toNatClampNeg + i) = some y → va_Any E1 s H y)
    (hframes : 1 ≤ R.frames) (hlocals : (rest.map fun v => v.category).sum + (nativeFrameWords "java/lang/System" "arraycopy" 5 + 11) ≤ R.locals) (hdg : decode cc pc = .ok (.invokestatic index, 3))
    (kk : ∀ (H1 : Heap) (locs1 : List Loc), ww D cl A (va_up w a (some (.inl (c1, n1, .inr (.inr (.inr (.inr (va_cpy f g sp.toNatClampNeg dp.toNatClampNeg n.toNatClampNeg)))))))) H1 → va_S A H0 H1 locs1 → W p l e R s m args below meth c H1 locs1 cells slots Q (F0 m (pc + 3) ls rest)) : W p l e R s m args below meth c H locs cells slots Q (F0 m pc ls (.int n :: .int dp :: .ref a :: .int sp :: .ref a0 :: rest)) := by
  obtain ⟨L, hP, hD, hL⟩ := hw
  obtain ⟨q0, hq0⟩ := (hL _ _).mp ha0
  obtain ⟨q1, hq1⟩ := (hL _ _).mp ha1
  exact va_copyM hexec hb hml hown hlink hnat hstat hini hK hP hD hS q0 q1 t0 t1 hq0 hq1 ht0 ht1 h1 h2 h3 h4 h5 hel hframes hlocals hdg (fun H1 locs1 hP1 hD1 hS1 => kk H1 locs1 ⟨_, hP1, hD1, hL.set hD hq1⟩ hS1)
end WWR
end
section
/-! THE FACTS OF THE START that every method may use: g is ((classes, fields), array classes, addresses): address 0 the base, 1 the empty array of lists, 2 SHIP_CELLS, 3 YARD_DISTANCES, 4 the mirror of Object[] -/
abbrev GT : Type := va_G × (Nat → ClassId) × (Nat → Nat)
def gB (g : GT) : Nat → Prop := fun q => g.2.2 0 ≤ q
abbrev gT (g : GT) : List (ClassId × FieldType) := [(g.2.1 0, .int), (g.2.1 1, .boolean), (g.2.1 2, .long), (g.2.1 3, .object "java/lang/Object"), (g.2.1 4, .array .int)]
def xk : Cond → Bool
  | .castable .. => true
  | .declares _ => true
  | .fieldLinkNest .. => true
  | .methodLinkNest .. => true
  | _ => false
def XW : List Cond := lw_tbl.filter xk
theorem XW_at {i : Nat} {c : Cond} (h : lw_tbl[i]? = some c) (hg : xk c = true) : c ∈ XW := List.mem_filter.mpr ⟨List.mem_of_getElem? h, hg⟩
theorem xk_warm {c : Cond} (h : xk c = true) {s U : State} (hW : s.WarmedH U.vm) (hw : va_Nw c s) : va_Nw c U := by
  cases c <;> first
    | exact va_Nw.warmC hW hw
    | exact va_Nw.warmD hW hw
    | exact va_Nw.warmF hW hw
    | exact va_Nw.warmM hW hw
    | (simp [xk] at h)
def shipF : Nat → Value := fun k => match k with
  | 0 => .int 0
  | 1 => .int 1
  | 2 => .int 2
  | 3 => .int 4
  | _ => .int 8
def yardF : Nat → Value := fun k => match k with
  | 0 => .int 0
  | 1 => .int 3
  | 2 => .int 6
  | _ => .int 12
def strL : List (Nat × String) := [(66, "no such class"), (79, "no such class or side class"), (81, "no such group or limit"), (88, "no room for one more good"), (117, "no such good or amount"), (119, "no room for one more box"), (130, "no such box, good or amount"), (135, "the box has that good"), (144, "the box lies somewhere or is full"), (149, "no such two boxes"), (155, "no such number of cells"), (163, "no such zone or class"), (171, "no such zone, box or slot"), (173, "the box lies somewhere"), (183, "no such box"), (197, "no such box or what")]
def ncL : List (String × String) := [("java/lang/IllegalStateException", "java/lang/IllegalArgumentException")]
def gf (g : GT) (V : State) : Prop :=
  va_K g.1 vwCl (gT g) V ∧ (∀ c ∈ XW, va_Nw c V) ∧ va_AO "java/lang/Object" V ∧ va_AOA .int V ∧ (∀ q ∈ strL, ∃ sa : Nat, vk_R "DangerTables" q.1 q.2 sa V) ∧ (∀ q ∈ ncL, va_Nc q.1 q.2 V) ∧ va_Mi "[Ljava/lang/Object;" (g.2.2 4) V ∧
  (va_Z "java/util/ArrayList" "DEFAULTCAPACITY_EMPTY_ELEMENTDATA" "[Ljava/lang/Object;" (.ref (g.2.2 1)) (gB g) V V.heap ∧ va_T (.object "java/lang/Object") (g.2.2 1) 0 (fun _ => .null) (gB g) V V.heap) ∧
  (va_Z "DangerTables" "SHIP_CELLS" "[I" (.ref (g.2.2 2)) (gB g) V V.heap ∧ va_T .int (g.2.2 2) 5 shipF (gB g) V V.heap) ∧
  (va_Z "DangerTables" "YARD_DISTANCES" "[I" (.ref (g.2.2 3)) (gB g) V V.heap ∧ va_T .int (g.2.2 3) 4 yardF (gB g) V V.heap) ∧
  vx_Zq Bundle.tN "UNASSIGNED_STACK" Bundle.steD (gB g) V V.heap ∧ vx_Zq Bundle.tN "SUPPRESSED_SENTINEL" Bundle.listD (gB g) V V.heap
def gx (g : GT) (U : State) : Prop := g.2.2 0 ≤ U.heap.size ∧ ∀ V : State, U.WarmedH V.vm → (∀ q : Nat, q < g.2.2 0 → V.heap[q]? = U.heap[q]?) → gf g V
theorem gx.here {g : GT} {U : State} (h : gx g U) : gf g U := h.2 U (State.WarmedH.refl U) (fun _ _ => rfl)
theorem gx.moved {g : GT} {s U : State} {A : Nat → Prop} {H : Heap} {locs : List Loc} (h : gx g s) (hA : ∀ q, A q → gB g q) (hS : va_S A s.heap H locs) (hU : U.heap = H) (hW : s.WarmedH U.vm) : gx g U := by
  refine ⟨by rw [hU]; exact Nat.le_trans h.1 hS.1, fun V hV hq => h.2 V (State.WarmedH.trans hW hV) (fun q hlt => ?_)⟩
  rw [hq q hlt, hU]
  exact hS.2.1 q (Nat.lt_of_lt_of_le hlt h.1) (fun z => absurd (hA q z) (Nat.not_le.mpr hlt))
theorem gx.calling {g : GT} {U : State} {f : JFrame} {mk : MethodId} {a : Array Value} (h : gx g U) : gx g (U.calling f mk a) :=
  ⟨h.1, fun V hV hq => h.2 V hV hq⟩
end
section
/-! CALLS OVER WORLDS: the facts gx that stay true below the base address, contracts over worlds, a call's row for each kind -/
theorem ww.weaken {D : va_G} {cl : List vw_C} {A B : Nat → Prop} {w : Nat → Option va_E} {H : Heap} (h : ww D cl A w H) (hAB : ∀ q, A q → B q) : ww D cl B w H := by
  obtain ⟨L, hP, hD, hL⟩ := h
  exact ⟨L, hP, hD.weaken (fun _ _ _ z => hAB _ z), hL⟩
/-- which cells a method over the world w may change: the world's, and those that it makes -/
def gA (w : Nat → Option va_E) (sz : Nat) : Nat → Prop := fun q => (∃ e : va_E, w q = some e) ∨ sz ≤ q
theorem ww.self {D : va_G} {cl : List vw_C} {A : Nat → Prop} {w : Nat → Option va_E} {H : Heap} (h : ww D cl A w H) (sz : Nat) : ww D cl (gA w sz) w H := by
  obtain ⟨L, hP, hD, hL⟩ := h
  exact ⟨L, hP, ⟨hD.1, fun k q hk => Or.inl ⟨q.2, (hL q.1 q.2).mpr ⟨k, hk⟩⟩⟩, hL⟩
theorem gA_sub {D : va_G} {cl : List vw_C} {A0 : Nat → Prop} {w : Nat → Option va_E} {H0 H : Heap} {locs : List Loc} (h : ww D cl A0 w H) (hS : va_S A0 H0 H locs) (hA : ∀ q, H0.size ≤ q → A0 q) : ∀ q, gA w H.size q → A0 q := by
  intro q hq
  rcases hq with ⟨e, he⟩ | hq
  · exact h.inA he
  · exact hA q (Nat.le_trans hS.1 hq)
/-- a start: a method that only reads; a method that may write -/
def prR (g : GT) (av : List Value) (w : Nat → Option va_E) : Array Value → State → Prop := va_Pc av (fun U => gx g U ∧ ww g.1 vwCl (gB g) w U.heap)
def prW (g : GT) (sz : Nat) (av : List Value) (w : Nat → Option va_E) : Array Value → State → Prop := va_Pc av (fun U => U.heap.size = sz ∧ gx g U ∧ ww g.1 vwCl (gB g) w U.heap)
theorem prR_blind (g : GT) (av : List Value) (w : Nat → Option va_E) : FrameBlind (prR g av w) := fun _ _ _ _ h => ⟨h.1, h.2.1.calling, h.2.2⟩
theorem prW_blind (g : GT) (sz : Nat) (av : List Value) (w : Nat → Option va_E) : FrameBlind (prW g sz av w) := fun _ _ _ _ h => ⟨h.1, h.2.1, h.2.2.1.calling, h.2.2.2⟩
/-- what a writer leaves -/
abbrev qW (g : GT) (sz : Nat) (w : Nat → Option va_E) : (Nat → Option va_E) → State → Prop := fun w1 t => ww g.1 vwCl (gA w sz) w1 t.heap
abbrev qI (g : GT) (sz : Nat) (w : Nat → Option va_E) (post : Int32 → (Nat → Option va_E) → Prop) : Array Value → State → Outcome → State → Prop := va_Qi post (qW g sz w) (gA w sz)
abbrev qV (g : GT) (sz : Nat) (w : Nat → Option va_E) (post : (Nat → Option va_E) → Prop) : Array Value → State → Outcome → State → Prop := va_Qv post (qW g sz w) (gA w sz)
section WC
variable {p : Program} {l : Launch} {e : Env} {R : Room} {s : State} {m : MethodId} {args : Array Value} {below : List Frame} {meth : Method} {c : Code} {H : Heap} {locs : List Loc} {cells slots : Nat} {Q : State → Prop}
variable {cc : ByteArray} {pc : Nat} {ls : Array Slot} {rest st0 : List Value} {A : Nat → Prop} {w : Nat → Option va_E} {g : GT} {mc ms : Nat} {av : List Value} {a : Array Value}
theorem prR_at (hG : gx g s) (hA : ∀ q, A q → gB g q) (hS : va_S A s.heap H locs) (hw : ww g.1 vwCl A w H) : ∀ U : State, U.heap = H → s.WarmedH U.vm → prR g av w av.toArray U :=
  fun U hU hW => ⟨rfl, hG.moved hA hS hU hW, by rw [hU]; exact hw.weaken hA⟩
theorem prW_at (hG : gx g s) (hA : ∀ q, A q → gB g q) (hS : va_S A s.heap H locs) (hw : ww g.1 vwCl A w H) : ∀ U : State, U.heap = H → s.WarmedH U.vm → prW g H.size av w av.toArray U :=
  fun U hU hW => ⟨rfl, by rw [hU], hG.moved hA hS hU hW, by rw [hU]; exact hw.weaken hA⟩
/-- behind a call of a method that only reads -/
theorem wr_i {post : Int32 → Prop} (hr : va_Run p l e R s m args below meth c H locs cells slots 0 0 (F0 m pc ls st0) rest (vp_Si post a) (fun _ => False))
    (kk : ∀ r : Int32, post r → W p l e R s m args below meth c H locs cells slots Q (F0 m (pc + 3) ls (.int r :: rest))) : W p l e R s m args below meth c H locs cells slots Q (F0 m pc ls st0) := vp_callSi hr.run kk
theorem wr_q {post : Option Nat → Prop} (hr : va_Run p l e R s m args below meth c H locs cells slots 0 0 (F0 m pc ls st0) rest (va_Sq post a) (fun _ => False))
    (kk : ∀ r : Option Nat, post r → W p l e R s m args below meth c H locs cells slots Q (F0 m (pc + 3) ls (va_rf r :: rest))) : W p l e R s m args below meth c H locs cells slots Q (F0 m pc ls st0) := va_csq hr.run kk
/-- behind a call of a method that may write -/
theorem ww_i {post : Int32 → (Nat → Option va_E) → Prop} (hr : va_Run p l e R s m args below meth c H locs cells slots mc ms (F0 m pc ls st0) rest (qI g H.size w post a) (gA w H.size)) (hw : ww g.1 vwCl A w H) (hS : va_S A s.heap H locs) (hA : ∀ q, s.heap.size ≤ q → A q)
    (kk : ∀ (r : Int32) (w1 : Nat → Option va_E) (H1 : Heap) (locs1 : List Loc), post r w1 → ww g.1 vwCl A w1 H1 → va_S A s.heap H1 locs1 → H.size ≤ H1.size → (∀ q : Nat, q < H.size → ¬ gA w H.size q → H1[q]? = H[q]?) → ww g.1 vwCl (gA w H.size) w1 H1 → W p l e R s m args below meth c H1 locs1 (cells + mc) (slots + ms) Q (F0 m (pc + 3) ls (.int r :: rest))) : W p l e R s m args below meth c H locs cells slots Q (F0 m pc ls st0) := by
  have hAA := gA_sub hw hS hA
  refine va_calli hr hS (fun q _ h => hAA q h) hAA (fun r w1 t H1 locs1 ht hvm hp hB hz hk hS1 => ?_)
  have hB : ww g.1 vwCl (gA w H.size) w1 t.heap := hB
  rw [ht] at hB
  exact kk r w1 H1 locs1 hp (hB.weaken hAA) hS1 hz hk hB
theorem ww_v {post : (Nat → Option va_E) → Prop} (hr : va_Run p l e R s m args below meth c H locs cells slots mc ms (F0 m pc ls st0) rest (qV g H.size w post a) (gA w H.size)) (hw : ww g.1 vwCl A w H) (hS : va_S A s.heap H locs) (hA : ∀ q, s.heap.size ≤ q → A q)
    (kk : ∀ (w1 : Nat → Option va_E) (H1 : Heap) (locs1 : List Loc), post w1 → ww g.1 vwCl A w1 H1 → va_S A s.heap H1 locs1 → H.size ≤ H1.size → (∀ q : Nat, q < H.size → ¬ gA w H.size q → H1[q]? = H[q]?) → ww g.1 vwCl (gA w H.size) w1 H1 → W p l e R s m args below meth c H1 locs1 (cells + mc) (slots + ms) Q (F0 m (pc + 3) ls rest)) : W p l e R s m args below meth c H locs cells slots Q (F0 m pc ls st0) := by
  have hAA := gA_sub hw hS hA
  refine va_callv hr hS (fun q _ h => hAA q h) hAA (fun w1 t H1 locs1 ht hvm hp hB hz hk hS1 => ?_)
  have hB : ww g.1 vwCl (gA w H.size) w1 t.heap := hB
  rw [ht] at hB
  exact kk w1 H1 locs1 hp (hB.weaken hAA) hS1 hz hk hB
end WC
/-- a start of a method over numbers alone -/
def prN (av : List Value) : Array Value → State → Prop := va_Pc av (fun _ => True)
theorem prN_blind (av : List Value) : FrameBlind (prN av) := fun _ _ _ _ h => h
/-- the words of a contract: its own code, and the good words of the tables -/
theorem GW_in {c0 : Cond} {y : MethodName} {b : ByteArray} {n : Nat} {r : Option FieldType} (h : Cond.code y b n r ∈ GW) : GoodIn GW (Cond.code y b n r :: GW) := fun w hw => (List.mem_cons.mp hw).elim (fun e => by subst e; exact ⟨h, GW_good h⟩) (fun h1 => ⟨h1, GW_good h1⟩)
section CB
variable {p : Program} {l : Launch} {e : Env} {R : Room} {s : State} {m : MethodId} {args : Array Value} {below : List Frame} {meth : Method} {c : Code} {H : Heap} {locs : List Loc} {cells slots : Nat} {Q : State → Prop}
variable {cc b0 : ByteArray} {pc nL index maxL : Nat} {ls : Array Slot} {rest st0 As : List Value} {y : MethodName} {ret : Option FieldType} {rm : Room} {own C : String} {mc ms : Nat} {Pc : Array Value → State → Prop} {Qc : Array Value → State → Outcome → State → Prop} {free : Addr → Prop} {b : Addr}
theorem cb_of (n : Nat) (hts : ∀ w ∈ GW, w.before args s = true) (hc : Cond.code y b0 maxL ret ∈ GW) (hl : Cond.methodLink own index y ∈ GW) (hi : Cond.initialized y.cls ∈ GW) (hd : y.cls ≠ "java/lang/invoke/MethodHandle" ∧ y.cls ≠ "java/lang/invoke/VarHandle" ∧ (parseMethodDescriptor y.desc).map (fun d => d.parameters.length) = some n) (hR : rm.frames + 1 ≤ R.frames ∧ 8 + (maxL + 11) + rm.locals ≤ R.locals) (hrc : rm.cells = mc) (hrs : rm.slots = ms) : CallB R s args own index y b0 maxL ret (Cond.code y b0 maxL ret :: GW) rm mc ms n :=
  callB_of n hts (GW_in (c0 := .tt) hc) rfl hrc hrs (hts _ hi) (hts _ hl) hd hR
/-- a static call, a virtual one, a constructor's: the run -/
theorem cS (n : Nat) (S : CallFix p m c cc nL s args GW own) (hM : Met l y (Cond.code y b0 maxL ret :: GW) rm Pc Qc mc ms free) (hc : Cond.code y b0 maxL ret ∈ GW) (hl : Cond.methodLink own index y ∈ GW) (hi : Cond.initialized y.cls ∈ GW) (hs : Cond.static y ∈ GW) (hd : y.cls ≠ "java/lang/invoke/MethodHandle" ∧ y.cls ≠ "java/lang/invoke/VarHandle" ∧ (parseMethodDescriptor y.desc).map (fun d => d.parameters.length) = some n) (hR : rm.frames + 1 ≤ R.frames ∧ 8 + (maxL + 11) + rm.locals ≤ R.locals) (hrc : rm.cells = mc) (hrs : rm.slots = ms)
    (hp : PreS s H Pc As) (hn : As.length = n) (hsize : ls.size = nL) (hst : st0 = As.reverse ++ rest) (hW : (rest.map fun v => v.category).sum ≤ 8) (hdg : decode cc pc = .ok (.invokestatic index, 3)) (hf : cells + mc ≤ R.cells ∧ slots + ms ≤ R.slots) :
    va_Run p l e R s m args below meth c H locs cells slots mc ms (F0 m pc ls st0) rest (Qc As.toArray) free :=
  va_runS S hM ⟨cb_of n S.2.2.2.2 hc hl hi hd hR hrc hrs, S.2.2.2.2 _ hs⟩ hp rfl hn hsize hst (lv_room hW) hdg hf
theorem cV (n : Nat) (S : CallFix p m c cc nL s args GW own) (hM : Met l y (Cond.code y b0 maxL ret :: GW) rm Pc Qc mc ms free) (hc : Cond.code y b0 maxL ret ∈ GW) (hl : Cond.methodLink own index y ∈ GW) (hi : Cond.initialized y.cls ∈ GW) (him : Cond.instanceMethod y ∈ GW) (hsel : Cond.selects C y y ∈ GW) (hd : y.cls ≠ "java/lang/invoke/MethodHandle" ∧ y.cls ≠ "java/lang/invoke/VarHandle" ∧ (parseMethodDescriptor y.desc).map (fun d => d.parameters.length) = some n) (hR : rm.frames + 1 ≤ R.frames ∧ 8 + (maxL + 11) + rm.locals ≤ R.locals) (hrc : rm.cells = mc) (hrs : rm.slots = ms)
    (hp : PreV s H C b Pc As) (hn : As.length = n) (hsize : ls.size = nL) (hst : st0 = As.reverse ++ .ref b :: rest) (hW : (rest.map fun v => v.category).sum ≤ 8) (hdg : decode cc pc = .ok (.invokevirtual index, 3)) (hf : cells + mc ≤ R.cells ∧ slots + ms ≤ R.slots) :
    va_Run p l e R s m args below meth c H locs cells slots mc ms (F0 m pc ls st0) rest (Qc (Value.ref b :: As).toArray) free :=
  va_runV S hM ⟨cb_of n S.2.2.2.2 hc hl hi hd hR hrc hrs, S.2.2.2.2 _ him, S.2.2.2.2 _ hsel⟩ hp rfl hn hsize hst (lv_room hW) hdg hf
theorem cI (n : Nat) (S : CallFix p m c cc nL s args GW own) (hM : Met l y (Cond.code y b0 maxL none :: GW) rm Pc Qc mc ms free) (hc : Cond.code y b0 maxL none ∈ GW) (hl : Cond.methodLink own index y ∈ GW) (hi : Cond.initialized y.cls ∈ GW) (him : Cond.instanceMethod y ∈ GW) (hy : y.name = "<init>") (hd : y.cls ≠ "java/lang/invoke/MethodHandle" ∧ y.cls ≠ "java/lang/invoke/VarHandle" ∧ (parseMethodDescriptor y.desc).map (fun d => d.parameters.length) = some n) (hR : rm.frames + 1 ≤ R.frames ∧ 8 + (maxL + 11) + rm.locals ≤ R.locals) (hrc : rm.cells = mc) (hrs : rm.slots = ms)
    (hp : PreS s H Pc (.ref b :: As)) (hn : As.length = n) (hsize : ls.size = nL) (hst : st0 = As.reverse ++ .ref b :: rest) (hW : (rest.map fun v => v.category).sum ≤ 8) (hdg : decode cc pc = .ok (.invokespecial index, 3)) (hf : cells + mc ≤ R.cells ∧ slots + ms ≤ R.slots) :
    va_Run p l e R s m args below meth c H locs cells slots mc ms (F0 m pc ls st0) rest (Qc (Value.ref b :: As).toArray) free :=
  va_runI S hM ⟨cb_of n S.2.2.2.2 hc hl hi hd hR hrc hrs, hy, S.2.2.2.2 _ him⟩ hp rfl hn hsize hst (lv_room hW) hdg hf
end CB
end
section
/-! small words: truth as a number, the fields of the classes among the good words -/
def b2 (b : Bool) : Int32 := if b = true then 1 else 0
theorem b2_f {r : Int32} {b : Bool} (e : r = b2 b) (c : r = 0) : b = false := by
  cases b
  · rfl
  · rw [e] at c; exact absurd c (by decide)
theorem b2_t {r : Int32} {b : Bool} (e : r = b2 b) (c : ¬ r = 0) : b = true := by
  cases b
  · rw [e] at c; exact absurd rfl c
  · rfl
theorem b2_n {r : Int32} {b : Bool} (e : r = b2 b) : narrow .boolean (.int r) = .int r := by
  subst e
  cases b <;> rfl
theorem i_T : ∀ w ∈ u_ws R_T F_T 6, w ∈ GW := by
  rw [show u_ws R_T F_T 6 = [Cond.laysFinal "DangerTables" "DangerTables" "text" "LDangerTables$RuleText;", Cond.laysFinal "DangerTables" "DangerTables" "rules" "[I", Cond.lays "DangerTables" "DangerTables" "tableRead" "Z", Cond.laysFinal "DangerTables" "DangerTables" "goods" "Ljava/util/ArrayList;", Cond.laysFinal "DangerTables" "DangerTables" "boxes" "Ljava/util/ArrayList;", Cond.laysFinal "DangerTables" "DangerTables" "zoneMost" "[[I"] from rfl]
  exact List.forall_mem_cons.mpr ⟨k_86, List.forall_mem_cons.mpr ⟨k_88, List.forall_mem_cons.mpr ⟨k_90, List.forall_mem_cons.mpr ⟨k_92, List.forall_mem_cons.mpr ⟨k_94, List.forall_mem_cons.mpr ⟨k_96, fun _ h => absurd h List.not_mem_nil⟩⟩⟩⟩⟩⟩
theorem i_X : ∀ w ∈ u_ws R_X F_X 5, w ∈ GW := by
  rw [show u_ws R_X F_X 5 = [Cond.laysFinal "DangerTables$Box" "DangerTables$Box" "parts" "Ljava/util/ArrayList;", Cond.lays "DangerTables$Box" "DangerTables$Box" "zone" "I", Cond.lays "DangerTables$Box" "DangerTables$Box" "x" "I", Cond.lays "DangerTables$Box" "DangerTables$Box" "y" "I", Cond.lays "DangerTables$Box" "DangerTables$Box" "told" "I"] from rfl]
  exact List.forall_mem_cons.mpr ⟨k_427, List.forall_mem_cons.mpr ⟨k_429, List.forall_mem_cons.mpr ⟨k_431, List.forall_mem_cons.mpr ⟨k_433, List.forall_mem_cons.mpr ⟨k_435, fun _ h => absurd h List.not_mem_nil⟩⟩⟩⟩⟩
theorem i_G : ∀ w ∈ u_ws R_G F_G 5, w ∈ GW := by
  rw [show u_ws R_G F_G 5 = [Cond.laysFinal "DangerTables$Good" "DangerTables$Good" "cls" "I", Cond.laysFinal "DangerTables$Good" "DangerTables$Good" "side" "I", Cond.laysFinal "DangerTables$Good" "DangerTables$Good" "limit" "I", Cond.laysFinal "DangerTables$Good" "DangerTables$Good" "fields" "I", Cond.lays "DangerTables$Good" "DangerTables$Good" "exemptPairs" "J"] from rfl]
  exact List.forall_mem_cons.mpr ⟨k_332, List.forall_mem_cons.mpr ⟨k_334, List.forall_mem_cons.mpr ⟨k_336, List.forall_mem_cons.mpr ⟨k_338, List.forall_mem_cons.mpr ⟨k_340, fun _ h => absurd h List.not_mem_nil⟩⟩⟩⟩⟩
theorem i_P : ∀ w ∈ u_ws R_P F_P 3, w ∈ GW := by
  rw [show u_ws R_P F_P 3 = [Cond.laysFinal "DangerTables$Part" "DangerTables$Part" "good" "LDangerTables$Good;", Cond.laysFinal "DangerTables$Part" "DangerTables$Part" "number" "I", Cond.laysFinal "DangerTables$Part" "DangerTables$Part" "amount" "I"] from rfl]
  exact List.forall_mem_cons.mpr ⟨k_455, List.forall_mem_cons.mpr ⟨k_457, List.forall_mem_cons.mpr ⟨k_459, fun _ h => absurd h List.not_mem_nil⟩⟩⟩
theorem i_U : ∀ w ∈ u_ws R_U F_U 3, w ∈ GW := by
  rw [show u_ws R_U F_U 3 = [Cond.laysFinal "DangerTables$RuleText" "DangerTables$RuleText" "signs" "[I", Cond.lays "DangerTables$RuleText" "DangerTables$RuleText" "length" "I", Cond.laysFinal "DangerTables$RuleText" "DangerTables$RuleText" "found" "[I"] from rfl]
  exact List.forall_mem_cons.mpr ⟨k_40, List.forall_mem_cons.mpr ⟨k_42, List.forall_mem_cons.mpr ⟨k_44, fun _ h => absurd h List.not_mem_nil⟩⟩⟩
theorem i_M : ∀ w ∈ u_ws R_M F_M 22, w ∈ GW := by
  rw [show u_ws R_M F_M 22 = [Cond.lays "DangerTablesModel" "DangerTablesModel" "thrown" "I", Cond.laysFinal "DangerTablesModel" "DangerTablesModel" "text" "[I", Cond.lays "DangerTablesModel" "DangerTablesModel" "signs" "I", Cond.lays "DangerTablesModel" "DangerTablesModel" "hasTable" "Z", Cond.laysFinal "DangerTablesModel" "DangerTablesModel" "rules" "[I", Cond.lays "DangerTablesModel" "DangerTablesModel" "goods" "I", Cond.laysFinal "DangerTablesModel" "DangerTablesModel" "cls" "[I", Cond.laysFinal "DangerTablesModel" "DangerTablesModel" "sideCls" "[I", Cond.laysFinal "DangerTablesModel" "DangerTablesModel" "group" "[I", Cond.laysFinal "DangerTablesModel" "DangerTablesModel" "limit" "[I", Cond.laysFinal "DangerTablesModel" "DangerTablesModel" "marine" "[Z", Cond.laysFinal "DangerTablesModel" "DangerTablesModel" "temperature" "[Z", Cond.laysFinal "DangerTablesModel" "DangerTablesModel" "exempt" "[Z", Cond.lays "DangerTablesModel" "DangerTablesModel" "boxes" "I", Cond.laysFinal "DangerTablesModel" "DangerTablesModel" "many" "[I", Cond.laysFinal "DangerTablesModel" "DangerTablesModel" "zoneOf" "[I", Cond.laysFinal "DangerTablesModel" "DangerTablesModel" "xOf" "[I", Cond.laysFinal "DangerTablesModel" "DangerTablesModel" "yOf" "[I", Cond.laysFinal "DangerTablesModel" "DangerTablesModel" "fields" "[I", Cond.laysFinal "DangerTablesModel" "DangerTablesModel" "goodOf" "[I", Cond.laysFinal "DangerTablesModel" "DangerTablesModel" "amountOf" "[I", Cond.laysFinal "DangerTablesModel" "DangerTablesModel" "most" "[I"] from rfl]
  exact List.forall_mem_cons.mpr ⟨k_675, List.forall_mem_cons.mpr ⟨k_677, List.forall_mem_cons.mpr ⟨k_679, List.forall_mem_cons.mpr ⟨k_681, List.forall_mem_cons.mpr ⟨k_683, List.forall_mem_cons.mpr ⟨k_685, List.forall_mem_cons.mpr ⟨k_687, List.forall_mem_cons.mpr ⟨k_689, List.forall_mem_cons.mpr ⟨k_691, List.forall_mem_cons.mpr ⟨k_693, List.forall_mem_cons.mpr ⟨k_695, List.forall_mem_cons.mpr ⟨k_697, List.forall_mem_cons.mpr ⟨k_699, List.forall_mem_cons.mpr ⟨k_701, List.forall_mem_cons.mpr ⟨k_703, List.forall_mem_cons.mpr ⟨k_705, List.forall_mem_cons.mpr ⟨k_707, List.forall_mem_cons.mpr ⟨k_709, List.forall_mem_cons.mpr ⟨k_711, List.forall_mem_cons.mpr ⟨k_713, List.forall_mem_cons.mpr ⟨k_715, List.forall_mem_cons.mpr ⟨k_717, fun _ h => absurd h List.not_mem_nil⟩⟩⟩⟩⟩⟩⟩⟩⟩⟩⟩⟩⟩⟩⟩⟩⟩⟩⟩⟩⟩⟩
theorem i_AL : ∀ w ∈ u_ws R_AL F_AL 3, w ∈ GW := by
  rw [show u_ws R_AL F_AL 3 = [Cond.lays "java/util/ArrayList" "java/util/AbstractList" "modCount" "I", Cond.lays "java/util/ArrayList" "java/util/ArrayList" "elementData" "[Ljava/lang/Object;", Cond.lays "java/util/ArrayList" "java/util/ArrayList" "size" "I"] from rfl]
  exact List.forall_mem_cons.mpr ⟨k_74, List.forall_mem_cons.mpr ⟨k_70, List.forall_mem_cons.mpr ⟨k_72, fun _ h => absurd h List.not_mem_nil⟩⟩⟩
theorem x_38 : (Jvm.Cond.fieldLinkNest "DangerTables" (215 : Nat) "DangerTables$RuleText" "length" "I" "DangerTables") ∈ XW := XW_at (i := 71) (by decide +kernel) rfl
theorem x_124 : (Jvm.Cond.methodLinkNest "DangerTables$RuleText" (41 : Nat) ({ cls := "DangerTables", name := "isClass", desc := "(I)Z" } : Jvm.MethodName) "DangerTables") ∈ XW := XW_at (i := 157) (by decide +kernel) rfl
theorem x_127 : (Jvm.Cond.methodLinkNest "DangerTables$RuleText" (45 : Nat) ({ cls := "DangerTables", name := "pairNumber", desc := "(II)I" } : Jvm.MethodName) "DangerTables") ∈ XW := XW_at (i := 160) (by decide +kernel) rfl
theorem x_220 : (Jvm.Cond.castable "java/lang/IllegalArgumentException" "java/lang/IllegalArgumentException") ∈ XW := XW_at (i := 253) (by decide +kernel) rfl
theorem x_221 : (Jvm.Cond.declares ({ cls := "java/lang/RuntimeException", name := "<init>", desc := "()V" } : Jvm.MethodName)) ∈ XW := XW_at (i := 254) (by decide +kernel) rfl
theorem x_222 : (Jvm.Cond.declares ({ cls := "java/lang/RuntimeException", name := "<init>", desc := "(Ljava/lang/String;)V" } : Jvm.MethodName)) ∈ XW := XW_at (i := 255) (by decide +kernel) rfl
theorem x_223 : (Jvm.Cond.declares ({ cls := "java/lang/Exception", name := "<init>", desc := "()V" } : Jvm.MethodName)) ∈ XW := XW_at (i := 256) (by decide +kernel) rfl
theorem x_224 : (Jvm.Cond.declares ({ cls := "java/lang/Exception", name := "<init>", desc := "(Ljava/lang/String;)V" } : Jvm.MethodName)) ∈ XW := XW_at (i := 257) (by decide +kernel) rfl
theorem x_225 : (Jvm.Cond.declares ({ cls := "java/lang/Throwable", name := "<init>", desc := "()V" } : Jvm.MethodName)) ∈ XW := XW_at (i := 258) (by decide +kernel) rfl
theorem x_226 : (Jvm.Cond.declares ({ cls := "java/lang/Throwable", name := "<init>", desc := "(Ljava/lang/String;)V" } : Jvm.MethodName)) ∈ XW := XW_at (i := 259) (by decide +kernel) rfl
theorem x_301 : (Jvm.Cond.castable "java/lang/IllegalStateException" "java/lang/IllegalStateException") ∈ XW := XW_at (i := 334) (by decide +kernel) rfl
theorem x_324 : (Jvm.Cond.fieldLinkNest "DangerTables" (239 : Nat) "DangerTables$Good" "cls" "I" "DangerTables") ∈ XW := XW_at (i := 357) (by decide +kernel) rfl
theorem x_326 : (Jvm.Cond.fieldLinkNest "DangerTables" (246 : Nat) "DangerTables$Good" "side" "I" "DangerTables") ∈ XW := XW_at (i := 359) (by decide +kernel) rfl
theorem x_328 : (Jvm.Cond.fieldLinkNest "DangerTables$Part" (22 : Nat) "DangerTables$Good" "limit" "I" "DangerTables") ∈ XW := XW_at (i := 361) (by decide +kernel) rfl
theorem x_330 : (Jvm.Cond.fieldLinkNest "DangerTables$Part" (31 : Nat) "DangerTables$Good" "fields" "I" "DangerTables") ∈ XW := XW_at (i := 363) (by decide +kernel) rfl
theorem x_418 : (Jvm.Cond.fieldLinkNest "DangerTables" (221 : Nat) "DangerTables$Box" "parts" "Ljava/util/ArrayList;" "DangerTables") ∈ XW := XW_at (i := 451) (by decide +kernel) rfl
theorem x_420 : (Jvm.Cond.fieldLinkNest "DangerTables" (185 : Nat) "DangerTables$Box" "zone" "I" "DangerTables") ∈ XW := XW_at (i := 453) (by decide +kernel) rfl
theorem x_422 : (Jvm.Cond.fieldLinkNest "DangerTables" (200 : Nat) "DangerTables$Box" "x" "I" "DangerTables") ∈ XW := XW_at (i := 455) (by decide +kernel) rfl
theorem x_424 : (Jvm.Cond.fieldLinkNest "DangerTables" (203 : Nat) "DangerTables$Box" "y" "I" "DangerTables") ∈ XW := XW_at (i := 457) (by decide +kernel) rfl
theorem x_426 : (Jvm.Cond.fieldLinkNest "DangerTables" (212 : Nat) "DangerTables$Box" "told" "I" "DangerTables") ∈ XW := XW_at (i := 459) (by decide +kernel) rfl
theorem x_449 : (Jvm.Cond.fieldLinkNest "DangerTables$Box" (57 : Nat) "DangerTables$Part" "good" "LDangerTables$Good;" "DangerTables") ∈ XW := XW_at (i := 482) (by decide +kernel) rfl
theorem x_450 : (Jvm.Cond.fieldLinkNest "DangerTables" (235 : Nat) "DangerTables$Part" "good" "LDangerTables$Good;" "DangerTables") ∈ XW := XW_at (i := 483) (by decide +kernel) rfl
theorem x_452 : (Jvm.Cond.fieldLinkNest "DangerTables$Box" (45 : Nat) "DangerTables$Part" "number" "I" "DangerTables") ∈ XW := XW_at (i := 485) (by decide +kernel) rfl
theorem x_454 : (Jvm.Cond.fieldLinkNest "DangerTables$Box" (54 : Nat) "DangerTables$Part" "amount" "I" "DangerTables") ∈ XW := XW_at (i := 487) (by decide +kernel) rfl
theorem x_623 : (Jvm.Cond.castable "java/lang/IndexOutOfBoundsException" "java/lang/IndexOutOfBoundsException") ∈ XW := XW_at (i := 656) (by decide +kernel) rfl
theorem x_870 : (Jvm.Cond.castable "DangerTables$Good" "DangerTables$Good") ∈ XW := XW_at (i := 903) (by decide +kernel) rfl
theorem x_871 : (Jvm.Cond.castable "DangerTables$Box" "DangerTables$Box") ∈ XW := XW_at (i := 904) (by decide +kernel) rfl
theorem x_872 : (Jvm.Cond.castable "DangerTables$Part" "DangerTables$Part") ∈ XW := XW_at (i := 905) (by decide +kernel) rfl
theorem x_875 : (Jvm.Cond.declares ({ cls := "java/lang/Object", name := "getClass", desc := "()Ljava/lang/Class;" } : Jvm.MethodName)) ∈ XW := XW_at (i := 908) (by decide +kernel) rfl
theorem x_876 : (Jvm.Cond.castable "DangerTables" "java/lang/Object") ∈ XW := XW_at (i := 909) (by decide +kernel) rfl
theorem x_877 : (Jvm.Cond.castable "DangerTables$RuleText" "java/lang/Object") ∈ XW := XW_at (i := 910) (by decide +kernel) rfl
theorem x_878 : (Jvm.Cond.castable "DangerTablesModel" "java/lang/Object") ∈ XW := XW_at (i := 911) (by decide +kernel) rfl
theorem x_879 : (Jvm.Cond.castable "DangerTables$Good" "java/lang/Object") ∈ XW := XW_at (i := 912) (by decide +kernel) rfl
theorem x_880 : (Jvm.Cond.castable "DangerTables$Box" "java/lang/Object") ∈ XW := XW_at (i := 913) (by decide +kernel) rfl
theorem x_881 : (Jvm.Cond.castable "DangerTables$Part" "java/lang/Object") ∈ XW := XW_at (i := 914) (by decide +kernel) rfl
theorem x_882 : (Jvm.Cond.castable "java/lang/String" "java/lang/Object") ∈ XW := XW_at (i := 915) (by decide +kernel) rfl
end
section
/-! METHODS OVER NUMBERS ALONE: what they answer -/
def inR (v a b : Int32) : Bool := !decide (v < a) && !decide (b < v)
def isCls (x : Int32) : Bool := !decide (x < 1) && !decide (9 < x)
def isSd (x y : Int32) : Bool := decide (x = 0) || (isCls x && !decide (x = y))
def isAmt (x : Int32) : Bool := !decide (x < 1) && !decide (30000 < x)
def isZn (x : Int32) : Bool := !decide (x < 0) && !decide (4 ≤ x)
def isSl (x y : Int32) : Bool := !decide (x < 0) && !decide (20 ≤ x) && !decide (y < 0) && !decide (20 ≤ y)
def prI (a b : Int32) : Int32 := if a ≤ b then b * (b - 1) / 2 + a - 1 else a * (a - 1) / 2 + b - 1
def prM (a b : Int32) : Int32 := 9 * (a - 1) + b - 1
def fieI (g m t : Int32) : Int32 := ((1 ||| (if g = 1 then 2 else 0)) ||| (if m = 0 then 0 else 4)) ||| (if t = 0 then 0 else 8)
def gtI (a b : Int32) : Int32 := if a ≤ b then b else a
def farI (a : Int32) : Int32 := if 0 ≤ a then a else -a
set_option maxHeartbeats 4000000 in
set_option maxRecDepth 100000 in
theorem c_T_isClass (l : Launch) (x : Int32) : Met l y_T_isClass (.code y_T_isClass b_T_isClass 1 ((some .boolean)) :: GW) ({ frames := 0, cells := 0, slots := 0, locals := 0 }) (prN [.int x]) (vp_Si (fun r => r = b2 (isCls x))) 0 0 (fun _ => False) := by
  refine Met.ofW (cc := b_T_isClass) (maxL := 1) (ret := (some .boolean)) (by decide) rfl ?_
  intro p e s m args below meth c s₁ B hml hv
  obtain ⟨rfl, -⟩ := hv
  have hx := B.exec
  have hb := B.bytes
  have hr := B.returns
  have hts : ∀ w ∈ GW, w.before _ s = true := fun w h => atoms_spec (ws := .code y_T_isClass b_T_isClass 1 ((some .boolean)) :: GW) B.pre w (List.mem_cons_of_mem _ h)
  have hown : s.vm.findClass "DangerTables" = some m.cls := findClass_of_methodNamed B.named
  have hlocks := B.notSynchronized
  have hl := lv_entry ([.int x]) (n := 1) (Nat.le_of_ble_eq_true rfl)
  rw [lg_entry_eq]
  generalize (lg_sl ([.int x]) ++ List.replicate (1 - (lg_sl ([.int x])).length) Slot.unset).toArray = ls at hl ⊢
  have hl : lv_has ls 1 [(0, .int x)] := hl
  refine lv_iload_n hx hb d_T_isClass_0 rfl (lv_at hl 0 rfl) ?_
  refine lv_iconst (v := 1) hx hb d_T_isClass_1 (by decide) ?_
  refine lv_icmp_lt (tgt := 15) hx hb d_T_isClass_2 (by decide) (fun c_1 => ?_) (fun c_1 => ?_)
  · refine lv_iconst (v := 0) hx hb d_T_isClass_15 (by decide) ?_
    exact W.zret (v := 0) (ty := .boolean) hx hb hr rfl (fun t ht hW => ⟨0, rfl, (by first | (simp [b2, isCls, c_1]; done) | (clear hts hown B; simp_all [b2, isCls]; done)), ht⟩) t_nil d_T_isClass_16
  · refine lv_iload_n hx hb d_T_isClass_5 rfl (lv_at hl 0 rfl) ?_
    refine lv_bipush (v := 9) hx hb d_T_isClass_6 (by decide) ?_
    refine lv_icmp_gt (tgt := 15) hx hb d_T_isClass_8 (by decide) (fun c_2 => ?_) (fun c_2 => ?_)
    · refine lv_iconst (v := 0) hx hb d_T_isClass_15 (by decide) ?_
      exact W.zret (v := 0) (ty := .boolean) hx hb hr rfl (fun t ht hW => ⟨0, rfl, (by first | (simp [b2, isCls, c_1, c_2]; done) | (clear hts hown B; simp_all [b2, isCls]; done)), ht⟩) t_nil d_T_isClass_16
    · refine lv_iconst (v := 1) hx hb d_T_isClass_11 (by decide) ?_
      refine lv_goto (tgt := 16) hx hb d_T_isClass_12 (by decide) ?_
      exact W.zret (v := 1) (ty := .boolean) hx hb hr rfl (fun t ht hW => ⟨1, rfl, (by first | (simp [b2, isCls, c_1, c_2]; done) | (clear hts hown B; simp_all [b2, isCls]; done)), ht⟩) t_nil d_T_isClass_16

set_option maxHeartbeats 4000000 in
set_option maxRecDepth 100000 in
theorem c_T_isSide (l : Launch) (x y : Int32) : Met l y_T_isSide (.code y_T_isSide b_T_isSide 2 ((some .boolean)) :: GW) ({ frames := 1, cells := 0, slots := 0, locals := 20 }) (prN [.int x, .int y]) (vp_Si (fun r => r = b2 (isSd x y))) 0 0 (fun _ => False) := by
  refine Met.ofW (cc := b_T_isSide) (maxL := 2) (ret := (some .boolean)) (by decide) rfl ?_
  intro p e s m args below meth c s₁ B hml hv
  obtain ⟨rfl, -⟩ := hv
  have hx := B.exec
  have hb := B.bytes
  have hr := B.returns
  have hts : ∀ w ∈ GW, w.before _ s = true := fun w h => atoms_spec (ws := .code y_T_isSide b_T_isSide 2 ((some .boolean)) :: GW) B.pre w (List.mem_cons_of_mem _ h)
  have hown : s.vm.findClass "DangerTables" = some m.cls := findClass_of_methodNamed B.named
  have hlocks := B.notSynchronized
  have hl := lv_entry ([.int x, .int y]) (n := 2) (Nat.le_of_ble_eq_true rfl)
  rw [lg_entry_eq]
  generalize (lg_sl ([.int x, .int y]) ++ List.replicate (2 - (lg_sl ([.int x, .int y])).length) Slot.unset).toArray = ls at hl ⊢
  have hl : lv_has ls 2 [(0, .int x), (1, .int y)] := hl
  refine lv_iload_n hx hb d_T_isSide_0 rfl (lv_at hl 0 rfl) ?_
  refine lv_if_eq (tgt := 16) hx hb d_T_isSide_1 (by decide) (fun c_1 => ?_) (fun c_1 => ?_)
  · refine lv_iconst (v := 1) hx hb d_T_isSide_16 (by decide) ?_
    refine lv_goto (tgt := 21) hx hb d_T_isSide_17 (by decide) ?_
    exact W.zret (v := 1) (ty := .boolean) hx hb hr rfl (fun t ht hW => ⟨1, rfl, (by first | (simp [b2, isSd, c_1]; done) | (clear hts hown B; simp_all [b2, isSd]; done)), ht⟩) t_nil d_T_isSide_21
  · refine lv_iload_n hx hb d_T_isSide_4 rfl (lv_at hl 0 rfl) ?_
    refine wr_i (cS (As := [.int x]) (rest := []) 1 ⟨hx, hb, hml, hown, hts⟩ (c_T_isClass l x) k_126 k_153 k_1 k_125 (by decide +kernel) ⟨Nat.le_of_ble_eq_true rfl, Nat.le_of_ble_eq_true rfl⟩ rfl rfl ⟨prN_blind _, fun _ _ _ => ⟨rfl, trivial⟩⟩ rfl hl.1 rfl (Nat.le_of_ble_eq_true rfl) d_T_isSide_5 ⟨Nat.zero_le _, Nat.zero_le _⟩) (fun r_2 e_2 => ?_)
    refine lv_if_eq (tgt := 20) hx hb d_T_isSide_8 (by decide) (fun c_3 => ?_) (fun c_3 => ?_)
    · have q_3 := b2_f e_2 c_3
      refine lv_iconst (v := 0) hx hb d_T_isSide_20 (by decide) ?_
      exact W.zret (v := 0) (ty := .boolean) hx hb hr rfl (fun t ht hW => ⟨0, rfl, (by first | (simp [b2, isSd, c_1, e_2, c_3, q_3]; done) | (clear hts hown B; simp_all [b2, isSd]; done)), ht⟩) t_nil d_T_isSide_21
    · have q_3 := b2_t e_2 c_3
      refine lv_iload_n hx hb d_T_isSide_11 rfl (lv_at hl 0 rfl) ?_
      refine lv_iload_n hx hb d_T_isSide_12 rfl (lv_at hl 1 rfl) ?_
      refine lv_icmp_eq (tgt := 20) hx hb d_T_isSide_13 (by decide) (fun c_4 => ?_) (fun c_4 => ?_)
      · refine lv_iconst (v := 0) hx hb d_T_isSide_20 (by decide) ?_
        exact W.zret (v := 0) (ty := .boolean) hx hb hr rfl (fun t ht hW => ⟨0, rfl, (by first | (simp [b2, isSd, c_1, e_2, c_3, q_3, c_4]; done) | (clear hts hown B; simp_all [b2, isSd]; done)), ht⟩) t_nil d_T_isSide_21
      · refine lv_iconst (v := 1) hx hb d_T_isSide_16 (by decide) ?_
        refine lv_goto (tgt := 21) hx hb d_T_isSide_17 (by decide) ?_
        exact W.zret (v := 1) (ty := .boolean) hx hb hr rfl (fun t ht hW => ⟨1, rfl, (by first | (simp [b2, isSd, c_1, e_2, c_3, q_3, c_4]; done) | (clear hts hown B; simp_all [b2, isSd]; done)), ht⟩) t_nil d_T_isSide_21

set_option maxHeartbeats 4000000 in
set_option maxRecDepth 100000 in
theorem c_T_isAmount (l : Launch) (x : Int32) : Met l y_T_isAmount (.code y_T_isAmount b_T_isAmount 1 ((some .boolean)) :: GW) ({ frames := 0, cells := 0, slots := 0, locals := 0 }) (prN [.int x]) (vp_Si (fun r => r = b2 (isAmt x))) 0 0 (fun _ => False) := by
  refine Met.ofW (cc := b_T_isAmount) (maxL := 1) (ret := (some .boolean)) (by decide) rfl ?_
  intro p e s m args below meth c s₁ B hml hv
  obtain ⟨rfl, -⟩ := hv
  have hx := B.exec
  have hb := B.bytes
  have hr := B.returns
  have hts : ∀ w ∈ GW, w.before _ s = true := fun w h => atoms_spec (ws := .code y_T_isAmount b_T_isAmount 1 ((some .boolean)) :: GW) B.pre w (List.mem_cons_of_mem _ h)
  have hown : s.vm.findClass "DangerTables" = some m.cls := findClass_of_methodNamed B.named
  have hlocks := B.notSynchronized
  have hl := lv_entry ([.int x]) (n := 1) (Nat.le_of_ble_eq_true rfl)
  rw [lg_entry_eq]
  generalize (lg_sl ([.int x]) ++ List.replicate (1 - (lg_sl ([.int x])).length) Slot.unset).toArray = ls at hl ⊢
  have hl : lv_has ls 1 [(0, .int x)] := hl
  refine lv_iload_n hx hb d_T_isAmount_0 rfl (lv_at hl 0 rfl) ?_
  refine lv_iconst (v := 1) hx hb d_T_isAmount_1 (by decide) ?_
  refine lv_icmp_lt (tgt := 16) hx hb d_T_isAmount_2 (by decide) (fun c_1 => ?_) (fun c_1 => ?_)
  · refine lv_iconst (v := 0) hx hb d_T_isAmount_16 (by decide) ?_
    exact W.zret (v := 0) (ty := .boolean) hx hb hr rfl (fun t ht hW => ⟨0, rfl, (by first | (simp [b2, isAmt, c_1]; done) | (clear hts hown B; simp_all [b2, isAmt]; done)), ht⟩) t_nil d_T_isAmount_17
  · refine lv_iload_n hx hb d_T_isAmount_5 rfl (lv_at hl 0 rfl) ?_
    refine lv_sipush (v := 30000) hx hb d_T_isAmount_6 (by decide) ?_
    refine lv_icmp_gt (tgt := 16) hx hb d_T_isAmount_9 (by decide) (fun c_2 => ?_) (fun c_2 => ?_)
    · refine lv_iconst (v := 0) hx hb d_T_isAmount_16 (by decide) ?_
      exact W.zret (v := 0) (ty := .boolean) hx hb hr rfl (fun t ht hW => ⟨0, rfl, (by first | (simp [b2, isAmt, c_1, c_2]; done) | (clear hts hown B; simp_all [b2, isAmt]; done)), ht⟩) t_nil d_T_isAmount_17
    · refine lv_iconst (v := 1) hx hb d_T_isAmount_12 (by decide) ?_
      refine lv_goto (tgt := 17) hx hb d_T_isAmount_13 (by decide) ?_
      exact W.zret (v := 1) (ty := .boolean) hx hb hr rfl (fun t ht hW => ⟨1, rfl, (by first | (simp [b2, isAmt, c_1, c_2]; done) | (clear hts hown B; simp_all [b2, isAmt]; done)), ht⟩) t_nil d_T_isAmount_17

set_option maxHeartbeats 4000000 in
set_option maxRecDepth 100000 in
theorem c_T_isZone (l : Launch) (x : Int32) : Met l y_T_isZone (.code y_T_isZone b_T_isZone 1 ((some .boolean)) :: GW) ({ frames := 0, cells := 0, slots := 0, locals := 0 }) (prN [.int x]) (vp_Si (fun r => r = b2 (isZn x))) 0 0 (fun _ => False) := by
  refine Met.ofW (cc := b_T_isZone) (maxL := 1) (ret := (some .boolean)) (by decide) rfl ?_
  intro p e s m args below meth c s₁ B hml hv
  obtain ⟨rfl, -⟩ := hv
  have hx := B.exec
  have hb := B.bytes
  have hr := B.returns
  have hts : ∀ w ∈ GW, w.before _ s = true := fun w h => atoms_spec (ws := .code y_T_isZone b_T_isZone 1 ((some .boolean)) :: GW) B.pre w (List.mem_cons_of_mem _ h)
  have hown : s.vm.findClass "DangerTables" = some m.cls := findClass_of_methodNamed B.named
  have hlocks := B.notSynchronized
  have hl := lv_entry ([.int x]) (n := 1) (Nat.le_of_ble_eq_true rfl)
  rw [lg_entry_eq]
  generalize (lg_sl ([.int x]) ++ List.replicate (1 - (lg_sl ([.int x])).length) Slot.unset).toArray = ls at hl ⊢
  have hl : lv_has ls 1 [(0, .int x)] := hl
  refine lv_iload_n hx hb d_T_isZone_0 rfl (lv_at hl 0 rfl) ?_
  refine lv_if_lt (tgt := 13) hx hb d_T_isZone_1 (by decide) (fun c_1 => ?_) (fun c_1 => ?_)
  · refine lv_iconst (v := 0) hx hb d_T_isZone_13 (by decide) ?_
    exact W.zret (v := 0) (ty := .boolean) hx hb hr rfl (fun t ht hW => ⟨0, rfl, (by first | (simp [b2, isZn, c_1]; done) | (clear hts hown B; simp_all [b2, isZn]; done)), ht⟩) t_nil d_T_isZone_14
  · refine lv_iload_n hx hb d_T_isZone_4 rfl (lv_at hl 0 rfl) ?_
    refine lv_iconst (v := 4) hx hb d_T_isZone_5 (by decide) ?_
    refine lv_icmp_ge (tgt := 13) hx hb d_T_isZone_6 (by decide) (fun c_2 => ?_) (fun c_2 => ?_)
    · refine lv_iconst (v := 0) hx hb d_T_isZone_13 (by decide) ?_
      exact W.zret (v := 0) (ty := .boolean) hx hb hr rfl (fun t ht hW => ⟨0, rfl, (by first | (simp [b2, isZn, c_1, c_2]; done) | (clear hts hown B; simp_all [b2, isZn]; done)), ht⟩) t_nil d_T_isZone_14
    · refine lv_iconst (v := 1) hx hb d_T_isZone_9 (by decide) ?_
      refine lv_goto (tgt := 14) hx hb d_T_isZone_10 (by decide) ?_
      exact W.zret (v := 1) (ty := .boolean) hx hb hr rfl (fun t ht hW => ⟨1, rfl, (by first | (simp [b2, isZn, c_1, c_2]; done) | (clear hts hown B; simp_all [b2, isZn]; done)), ht⟩) t_nil d_T_isZone_14

set_option maxHeartbeats 4000000 in
set_option maxRecDepth 100000 in
theorem c_T_isSlot (l : Launch) (x y : Int32) : Met l y_T_isSlot (.code y_T_isSlot b_T_isSlot 2 ((some .boolean)) :: GW) ({ frames := 0, cells := 0, slots := 0, locals := 0 }) (prN [.int x, .int y]) (vp_Si (fun r => r = b2 (isSl x y))) 0 0 (fun _ => False) := by
  refine Met.ofW (cc := b_T_isSlot) (maxL := 2) (ret := (some .boolean)) (by decide) rfl ?_
  intro p e s m args below meth c s₁ B hml hv
  obtain ⟨rfl, -⟩ := hv
  have hx := B.exec
  have hb := B.bytes
  have hr := B.returns
  have hts : ∀ w ∈ GW, w.before _ s = true := fun w h => atoms_spec (ws := .code y_T_isSlot b_T_isSlot 2 ((some .boolean)) :: GW) B.pre w (List.mem_cons_of_mem _ h)
  have hown : s.vm.findClass "DangerTables" = some m.cls := findClass_of_methodNamed B.named
  have hlocks := B.notSynchronized
  have hl := lv_entry ([.int x, .int y]) (n := 2) (Nat.le_of_ble_eq_true rfl)
  rw [lg_entry_eq]
  generalize (lg_sl ([.int x, .int y]) ++ List.replicate (2 - (lg_sl ([.int x, .int y])).length) Slot.unset).toArray = ls at hl ⊢
  have hl : lv_has ls 2 [(0, .int x), (1, .int y)] := hl
  refine lv_iload_n hx hb d_T_isSlot_0 rfl (lv_at hl 0 rfl) ?_
  refine lv_if_lt (tgt := 24) hx hb d_T_isSlot_1 (by decide) (fun c_1 => ?_) (fun c_1 => ?_)
  · refine lv_iconst (v := 0) hx hb d_T_isSlot_24 (by decide) ?_
    exact W.zret (v := 0) (ty := .boolean) hx hb hr rfl (fun t ht hW => ⟨0, rfl, (by first | (simp [b2, isSl, c_1]; done) | (clear hts hown B; simp_all [b2, isSl]; done)), ht⟩) t_nil d_T_isSlot_25
  · refine lv_iload_n hx hb d_T_isSlot_4 rfl (lv_at hl 0 rfl) ?_
    refine lv_bipush (v := 20) hx hb d_T_isSlot_5 (by decide) ?_
    refine lv_icmp_ge (tgt := 24) hx hb d_T_isSlot_7 (by decide) (fun c_2 => ?_) (fun c_2 => ?_)
    · refine lv_iconst (v := 0) hx hb d_T_isSlot_24 (by decide) ?_
      exact W.zret (v := 0) (ty := .boolean) hx hb hr rfl (fun t ht hW => ⟨0, rfl, (by first | (simp [b2, isSl, c_1, c_2]; done) | (clear hts hown B; simp_all [b2, isSl]; done)), ht⟩) t_nil d_T_isSlot_25
    · refine lv_iload_n hx hb d_T_isSlot_10 rfl (lv_at hl 1 rfl) ?_
      refine lv_if_lt (tgt := 24) hx hb d_T_isSlot_11 (by decide) (fun c_3 => ?_) (fun c_3 => ?_)
      · refine lv_iconst (v := 0) hx hb d_T_isSlot_24 (by decide) ?_
        exact W.zret (v := 0) (ty := .boolean) hx hb hr rfl (fun t ht hW => ⟨0, rfl, (by first | (simp [b2, isSl, c_1, c_2, c_3]; done) | (clear hts hown B; simp_all [b2, isSl]; done)), ht⟩) t_nil d_T_isSlot_25
      · refine lv_iload_n hx hb d_T_isSlot_14 rfl (lv_at hl 1 rfl) ?_
        refine lv_bipush (v := 20) hx hb d_T_isSlot_15 (by decide) ?_
        refine lv_icmp_ge (tgt := 24) hx hb d_T_isSlot_17 (by decide) (fun c_4 => ?_) (fun c_4 => ?_)
        · refine lv_iconst (v := 0) hx hb d_T_isSlot_24 (by decide) ?_
          exact W.zret (v := 0) (ty := .boolean) hx hb hr rfl (fun t ht hW => ⟨0, rfl, (by first | (simp [b2, isSl, c_1, c_2, c_3, c_4]; done) | (clear hts hown B; simp_all [b2, isSl]; done)), ht⟩) t_nil d_T_isSlot_25
        · refine lv_iconst (v := 1) hx hb d_T_isSlot_20 (by decide) ?_
          refine lv_goto (tgt := 25) hx hb d_T_isSlot_21 (by decide) ?_
          exact W.zret (v := 1) (ty := .boolean) hx hb hr rfl (fun t ht hW => ⟨1, rfl, (by first | (simp [b2, isSl, c_1, c_2, c_3, c_4]; done) | (clear hts hown B; simp_all [b2, isSl]; done)), ht⟩) t_nil d_T_isSlot_25

set_option maxHeartbeats 4000000 in
set_option maxRecDepth 100000 in
theorem c_T_pairNumber (l : Launch) (x y : Int32) : Met l y_T_pairNumber (.code y_T_pairNumber b_T_pairNumber 4 ((some .int)) :: GW) ({ frames := 0, cells := 0, slots := 0, locals := 0 }) (prN [.int x, .int y]) (vp_Si (fun r => r = prI x y)) 0 0 (fun _ => False) := by
  refine Met.ofW (cc := b_T_pairNumber) (maxL := 4) (ret := (some .int)) (by decide) rfl ?_
  intro p e s m args below meth c s₁ B hml hv
  obtain ⟨rfl, -⟩ := hv
  have hx := B.exec
  have hb := B.bytes
  have hr := B.returns
  have hts : ∀ w ∈ GW, w.before _ s = true := fun w h => atoms_spec (ws := .code y_T_pairNumber b_T_pairNumber 4 ((some .int)) :: GW) B.pre w (List.mem_cons_of_mem _ h)
  have hown : s.vm.findClass "DangerTables" = some m.cls := findClass_of_methodNamed B.named
  have hlocks := B.notSynchronized
  have hl := lv_entry ([.int x, .int y]) (n := 4) (Nat.le_of_ble_eq_true rfl)
  rw [lg_entry_eq]
  generalize (lg_sl ([.int x, .int y]) ++ List.replicate (4 - (lg_sl ([.int x, .int y])).length) Slot.unset).toArray = ls at hl ⊢
  have hl : lv_has ls 4 [(0, .int x), (1, .int y)] := hl
  refine lv_iload_n hx hb d_T_pairNumber_0 rfl (lv_at hl 0 rfl) ?_
  refine lv_iload_n hx hb d_T_pairNumber_1 rfl (lv_at hl 1 rfl) ?_
  refine lv_icmp_le (tgt := 9) hx hb d_T_pairNumber_2 (by decide) (fun c_1 => ?_) (fun c_1 => ?_)
  · refine lv_iload_n hx hb d_T_pairNumber_9 rfl (lv_at hl 1 rfl) ?_
    refine lv_istore_n (lv' := [(2, .int y), (0, .int x), (1, .int y)]) hx hb d_T_pairNumber_10 rfl hl (by decide) rfl (fun ls hl => ?_)
    refine lv_iload_n hx hb d_T_pairNumber_11 rfl (lv_at hl 1 rfl) ?_
    refine lv_iload_n hx hb d_T_pairNumber_12 rfl (lv_at hl 2 rfl) ?_
    refine lv_icmp_le (tgt := 20) hx hb d_T_pairNumber_13 (by decide) (fun c_2 => ?_) (fun c_2 => ?_)
    · refine lv_iload_n hx hb d_T_pairNumber_20 rfl (lv_at hl 1 rfl) ?_
      refine lv_istore_n (lv' := [(3, .int x), (2, .int y), (0, .int x), (1, .int y)]) hx hb d_T_pairNumber_21 rfl hl (by decide) rfl (fun ls hl => ?_)
      refine lv_iload_n hx hb d_T_pairNumber_22 rfl (lv_at hl 1 rfl) ?_
      refine lv_iload_n hx hb d_T_pairNumber_23 rfl (lv_at hl 1 rfl) ?_
      refine lv_iconst (v := 1) hx hb d_T_pairNumber_24 (by decide) ?_
      refine lv_isub hx hb d_T_pairNumber_25 ?_
      refine lv_topi (fun v_3 e_3 => ?_)
      refine lv_imul hx hb d_T_pairNumber_26 ?_
      refine lv_topi (fun v_4 e_4 => ?_)
      refine lv_iconst (v := 2) hx hb d_T_pairNumber_27 (by decide) ?_
      refine lv_idiv hx hb d_T_pairNumber_28 (by decide) ?_
      refine lv_topi (fun v_5 e_5 => ?_)
      refine lv_iload_n hx hb d_T_pairNumber_29 rfl (lv_at hl 0 rfl) ?_
      refine lv_iadd hx hb d_T_pairNumber_30 ?_
      refine lv_topi (fun v_6 e_6 => ?_)
      refine lv_iconst (v := 1) hx hb d_T_pairNumber_31 (by decide) ?_
      refine lv_isub hx hb d_T_pairNumber_32 ?_
      refine lv_topi (fun v_7 e_7 => ?_)
      exact W.iret (v := v_7) hx hb hr (fun t ht hW => ⟨v_7, rfl, (by first | (simp [b2, prI, c_1, c_2, e_3, e_4, e_5, e_6, e_7]; done) | (clear hts hown B; simp_all [b2, prI]; done)), ht⟩) t_nil d_T_pairNumber_33
    · refine lv_iload_n hx hb d_T_pairNumber_16 rfl (lv_at hl 2 rfl) ?_
      refine lv_goto (tgt := 21) hx hb d_T_pairNumber_17 (by decide) ?_
      refine lv_istore_n (lv' := [(3, .int y), (2, .int y), (0, .int x), (1, .int y)]) hx hb d_T_pairNumber_21 rfl hl (by decide) rfl (fun ls hl => ?_)
      refine lv_iload_n hx hb d_T_pairNumber_22 rfl (lv_at hl 1 rfl) ?_
      refine lv_iload_n hx hb d_T_pairNumber_23 rfl (lv_at hl 1 rfl) ?_
      refine lv_iconst (v := 1) hx hb d_T_pairNumber_24 (by decide) ?_
      refine lv_isub hx hb d_T_pairNumber_25 ?_
      refine lv_topi (fun v_8 e_8 => ?_)
      refine lv_imul hx hb d_T_pairNumber_26 ?_
      refine lv_topi (fun v_9 e_9 => ?_)
      refine lv_iconst (v := 2) hx hb d_T_pairNumber_27 (by decide) ?_
      refine lv_idiv hx hb d_T_pairNumber_28 (by decide) ?_
      refine lv_topi (fun v_10 e_10 => ?_)
      refine lv_iload_n hx hb d_T_pairNumber_29 rfl (lv_at hl 0 rfl) ?_
      refine lv_iadd hx hb d_T_pairNumber_30 ?_
      refine lv_topi (fun v_11 e_11 => ?_)
      refine lv_iconst (v := 1) hx hb d_T_pairNumber_31 (by decide) ?_
      refine lv_isub hx hb d_T_pairNumber_32 ?_
      refine lv_topi (fun v_12 e_12 => ?_)
      exact W.iret (v := v_12) hx hb hr (fun t ht hW => ⟨v_12, rfl, (by first | (simp [b2, prI, c_1, c_2, e_8, e_9, e_10, e_11, e_12]; done) | (clear hts hown B; simp_all [b2, prI]; done)), ht⟩) t_nil d_T_pairNumber_33
  · refine lv_iload_n hx hb d_T_pairNumber_5 rfl (lv_at hl 0 rfl) ?_
    refine lv_goto (tgt := 10) hx hb d_T_pairNumber_6 (by decide) ?_
    refine lv_istore_n (lv' := [(2, .int x), (0, .int x), (1, .int y)]) hx hb d_T_pairNumber_10 rfl hl (by decide) rfl (fun ls hl => ?_)
    refine lv_iload_n hx hb d_T_pairNumber_11 rfl (lv_at hl 1 rfl) ?_
    refine lv_iload_n hx hb d_T_pairNumber_12 rfl (lv_at hl 2 rfl) ?_
    refine lv_icmp_le (tgt := 20) hx hb d_T_pairNumber_13 (by decide) (fun c_13 => ?_) (fun c_13 => ?_)
    · refine lv_iload_n hx hb d_T_pairNumber_20 rfl (lv_at hl 1 rfl) ?_
      refine lv_istore_n (lv' := [(3, .int x), (2, .int x), (0, .int x), (1, .int y)]) hx hb d_T_pairNumber_21 rfl hl (by decide) rfl (fun ls hl => ?_)
      refine lv_iload_n hx hb d_T_pairNumber_22 rfl (lv_at hl 1 rfl) ?_
      refine lv_iload_n hx hb d_T_pairNumber_23 rfl (lv_at hl 1 rfl) ?_
      refine lv_iconst (v := 1) hx hb d_T_pairNumber_24 (by decide) ?_
      refine lv_isub hx hb d_T_pairNumber_25 ?_
      refine lv_topi (fun v_14 e_14 => ?_)
      refine lv_imul hx hb d_T_pairNumber_26 ?_
      refine lv_topi (fun v_15 e_15 => ?_)
      refine lv_iconst (v := 2) hx hb d_T_pairNumber_27 (by decide) ?_
      refine lv_idiv hx hb d_T_pairNumber_28 (by decide) ?_
      refine lv_topi (fun v_16 e_16 => ?_)
      refine lv_iload_n hx hb d_T_pairNumber_29 rfl (lv_at hl 0 rfl) ?_
      refine lv_iadd hx hb d_T_pairNumber_30 ?_
      refine lv_topi (fun v_17 e_17 => ?_)
      refine lv_iconst (v := 1) hx hb d_T_pairNumber_31 (by decide) ?_
      refine lv_isub hx hb d_T_pairNumber_32 ?_
      refine lv_topi (fun v_18 e_18 => ?_)
      exact W.iret (v := v_18) hx hb hr (fun t ht hW => ⟨v_18, rfl, (by first | (simp [b2, prI, c_1, c_13, e_14, e_15, e_16, e_17, e_18]; done) | (clear hts hown B; simp_all [b2, prI]; done)), ht⟩) t_nil d_T_pairNumber_33
    · refine lv_iload_n hx hb d_T_pairNumber_16 rfl (lv_at hl 2 rfl) ?_
      refine lv_goto (tgt := 21) hx hb d_T_pairNumber_17 (by decide) ?_
      refine lv_istore_n (lv' := [(3, .int y), (2, .int x), (0, .int x), (1, .int y)]) hx hb d_T_pairNumber_21 rfl hl (by decide) rfl (fun ls hl => ?_)
      refine lv_iload_n hx hb d_T_pairNumber_22 rfl (lv_at hl 1 rfl) ?_
      refine lv_iload_n hx hb d_T_pairNumber_23 rfl (lv_at hl 1 rfl) ?_
      refine lv_iconst (v := 1) hx hb d_T_pairNumber_24 (by decide) ?_
      refine lv_isub hx hb d_T_pairNumber_25 ?_
      refine lv_topi (fun v_19 e_19 => ?_)
      refine lv_imul hx hb d_T_pairNumber_26 ?_
      refine lv_topi (fun v_20 e_20 => ?_)
      refine lv_iconst (v := 2) hx hb d_T_pairNumber_27 (by decide) ?_
      refine lv_idiv hx hb d_T_pairNumber_28 (by decide) ?_
      refine lv_topi (fun v_21 e_21 => ?_)
      refine lv_iload_n hx hb d_T_pairNumber_29 rfl (lv_at hl 0 rfl) ?_
      refine lv_iadd hx hb d_T_pairNumber_30 ?_
      refine lv_topi (fun v_22 e_22 => ?_)
      refine lv_iconst (v := 1) hx hb d_T_pairNumber_31 (by decide) ?_
      refine lv_isub hx hb d_T_pairNumber_32 ?_
      refine lv_topi (fun v_23 e_23 => ?_)
      exact W.iret (v := v_23) hx hb hr (fun t ht hW => ⟨v_23, rfl, (by first | (simp [b2, prI, c_1, c_13, e_19, e_20, e_21, e_22, e_23]; done) | (clear hts hown B; simp_all [b2, prI]; done)), ht⟩) t_nil d_T_pairNumber_33

set_option maxHeartbeats 4000000 in
set_option maxRecDepth 100000 in
theorem c_T_fieldsOf (l : Launch) (x y z : Int32) : Met l y_T_fieldsOf (.code y_T_fieldsOf b_T_fieldsOf 4 ((some .int)) :: GW) ({ frames := 0, cells := 0, slots := 0, locals := 0 }) (prN [.int x, .int y, .int z]) (vp_Si (fun r => r = fieI x y z)) 0 0 (fun _ => False) := by
  refine Met.ofW (cc := b_T_fieldsOf) (maxL := 4) (ret := (some .int)) (by decide) rfl ?_
  intro p e s m args below meth c s₁ B hml hv
  obtain ⟨rfl, -⟩ := hv
  have hx := B.exec
  have hb := B.bytes
  have hr := B.returns
  have hts : ∀ w ∈ GW, w.before _ s = true := fun w h => atoms_spec (ws := .code y_T_fieldsOf b_T_fieldsOf 4 ((some .int)) :: GW) B.pre w (List.mem_cons_of_mem _ h)
  have hown : s.vm.findClass "DangerTables" = some m.cls := findClass_of_methodNamed B.named
  have hlocks := B.notSynchronized
  have hl := lv_entry ([.int x, .int y, .int z]) (n := 4) (Nat.le_of_ble_eq_true rfl)
  rw [lg_entry_eq]
  generalize (lg_sl ([.int x, .int y, .int z]) ++ List.replicate (4 - (lg_sl ([.int x, .int y, .int z])).length) Slot.unset).toArray = ls at hl ⊢
  have hl : lv_has ls 4 [(0, .int x), (1, .int y), (2, .int z)] := hl
  refine lv_iconst (v := 1) hx hb d_T_fieldsOf_0 (by decide) ?_
  refine lv_istore_n (lv' := [(3, .int 1), (0, .int x), (1, .int y), (2, .int z)]) hx hb d_T_fieldsOf_1 rfl hl (by decide) rfl (fun ls hl => ?_)
  refine lv_iload_n hx hb d_T_fieldsOf_2 rfl (lv_at hl 1 rfl) ?_
  refine lv_iconst (v := 1) hx hb d_T_fieldsOf_3 (by decide) ?_
  refine lv_icmp_ne (tgt := 11) hx hb d_T_fieldsOf_4 (by decide) (fun c_1 => ?_) (fun c_1 => ?_)
  · refine lv_iload_n hx hb d_T_fieldsOf_11 rfl (lv_at hl 2 rfl) ?_
    refine lv_if_eq (tgt := 19) hx hb d_T_fieldsOf_12 (by decide) (fun c_2 => ?_) (fun c_2 => ?_)
    · refine lv_iload_n hx hb d_T_fieldsOf_19 rfl (lv_at hl 3 rfl) ?_
      refine lv_if_eq (tgt := 28) hx hb d_T_fieldsOf_20 (by decide) (fun c_3 => ?_) (fun c_3 => ?_)
      · refine lv_iload_n hx hb d_T_fieldsOf_28 rfl (lv_at hl 0 rfl) ?_
        exact W.iret (v := 1) hx hb hr (fun t ht hW => ⟨1, rfl, (by first | (simp [b2, fieI, c_1, c_2, c_3]; done) | (clear hts hown B; simp_all [b2, fieI]; done)), ht⟩) t_nil d_T_fieldsOf_29
      · refine lv_iload_n hx hb d_T_fieldsOf_23 rfl (lv_at hl 0 rfl) ?_
        refine lv_bipush (v := 8) hx hb d_T_fieldsOf_24 (by decide) ?_
        refine lv_ior hx hb d_T_fieldsOf_26 ?_
        refine lv_topi (fun v_4 e_4 => ?_)
        refine lv_istore_n (lv' := [(3, .int v_4), (0, .int x), (1, .int y), (2, .int z)]) hx hb d_T_fieldsOf_27 rfl hl (by decide) rfl (fun ls hl => ?_)
        refine lv_iload_n hx hb d_T_fieldsOf_28 rfl (lv_at hl 0 rfl) ?_
        exact W.iret (v := v_4) hx hb hr (fun t ht hW => ⟨v_4, rfl, (by first | (simp [b2, fieI, c_1, c_2, c_3, e_4]; done) | (clear hts hown B; simp_all [b2, fieI]; done)), ht⟩) t_nil d_T_fieldsOf_29
    · refine lv_iload_n hx hb d_T_fieldsOf_15 rfl (lv_at hl 0 rfl) ?_
      refine lv_iconst (v := 4) hx hb d_T_fieldsOf_16 (by decide) ?_
      refine lv_ior hx hb d_T_fieldsOf_17 ?_
      refine lv_topi (fun v_5 e_5 => ?_)
      refine lv_istore_n (lv' := [(3, .int v_5), (0, .int x), (1, .int y), (2, .int z)]) hx hb d_T_fieldsOf_18 rfl hl (by decide) rfl (fun ls hl => ?_)
      refine lv_iload_n hx hb d_T_fieldsOf_19 rfl (lv_at hl 3 rfl) ?_
      refine lv_if_eq (tgt := 28) hx hb d_T_fieldsOf_20 (by decide) (fun c_6 => ?_) (fun c_6 => ?_)
      · refine lv_iload_n hx hb d_T_fieldsOf_28 rfl (lv_at hl 0 rfl) ?_
        exact W.iret (v := v_5) hx hb hr (fun t ht hW => ⟨v_5, rfl, (by first | (simp [b2, fieI, c_1, c_2, e_5, c_6]; done) | (clear hts hown B; simp_all [b2, fieI]; done)), ht⟩) t_nil d_T_fieldsOf_29
      · refine lv_iload_n hx hb d_T_fieldsOf_23 rfl (lv_at hl 0 rfl) ?_
        refine lv_bipush (v := 8) hx hb d_T_fieldsOf_24 (by decide) ?_
        refine lv_ior hx hb d_T_fieldsOf_26 ?_
        refine lv_topi (fun v_7 e_7 => ?_)
        refine lv_istore_n (lv' := [(3, .int v_7), (0, .int x), (1, .int y), (2, .int z)]) hx hb d_T_fieldsOf_27 rfl hl (by decide) rfl (fun ls hl => ?_)
        refine lv_iload_n hx hb d_T_fieldsOf_28 rfl (lv_at hl 0 rfl) ?_
        exact W.iret (v := v_7) hx hb hr (fun t ht hW => ⟨v_7, rfl, (by first | (simp [b2, fieI, c_1, c_2, e_5, c_6, e_7]; done) | (clear hts hown B; simp_all [b2, fieI]; done)), ht⟩) t_nil d_T_fieldsOf_29
  · refine lv_iload_n hx hb d_T_fieldsOf_7 rfl (lv_at hl 0 rfl) ?_
    refine lv_iconst (v := 2) hx hb d_T_fieldsOf_8 (by decide) ?_
    refine lv_ior hx hb d_T_fieldsOf_9 ?_
    refine lv_topi (fun v_8 e_8 => ?_)
    refine lv_istore_n (lv' := [(3, .int v_8), (0, .int x), (1, .int y), (2, .int z)]) hx hb d_T_fieldsOf_10 rfl hl (by decide) rfl (fun ls hl => ?_)
    refine lv_iload_n hx hb d_T_fieldsOf_11 rfl (lv_at hl 2 rfl) ?_
    refine lv_if_eq (tgt := 19) hx hb d_T_fieldsOf_12 (by decide) (fun c_9 => ?_) (fun c_9 => ?_)
    · refine lv_iload_n hx hb d_T_fieldsOf_19 rfl (lv_at hl 3 rfl) ?_
      refine lv_if_eq (tgt := 28) hx hb d_T_fieldsOf_20 (by decide) (fun c_10 => ?_) (fun c_10 => ?_)
      · refine lv_iload_n hx hb d_T_fieldsOf_28 rfl (lv_at hl 0 rfl) ?_
        exact W.iret (v := v_8) hx hb hr (fun t ht hW => ⟨v_8, rfl, (by first | (simp [b2, fieI, c_1, e_8, c_9, c_10]; done) | (clear hts hown B; simp_all [b2, fieI]; done)), ht⟩) t_nil d_T_fieldsOf_29
      · refine lv_iload_n hx hb d_T_fieldsOf_23 rfl (lv_at hl 0 rfl) ?_
        refine lv_bipush (v := 8) hx hb d_T_fieldsOf_24 (by decide) ?_
        refine lv_ior hx hb d_T_fieldsOf_26 ?_
        refine lv_topi (fun v_11 e_11 => ?_)
        refine lv_istore_n (lv' := [(3, .int v_11), (0, .int x), (1, .int y), (2, .int z)]) hx hb d_T_fieldsOf_27 rfl hl (by decide) rfl (fun ls hl => ?_)
        refine lv_iload_n hx hb d_T_fieldsOf_28 rfl (lv_at hl 0 rfl) ?_
        exact W.iret (v := v_11) hx hb hr (fun t ht hW => ⟨v_11, rfl, (by first | (simp [b2, fieI, c_1, e_8, c_9, c_10, e_11]; done) | (clear hts hown B; simp_all [b2, fieI]; done)), ht⟩) t_nil d_T_fieldsOf_29
    · refine lv_iload_n hx hb d_T_fieldsOf_15 rfl (lv_at hl 0 rfl) ?_
      refine lv_iconst (v := 4) hx hb d_T_fieldsOf_16 (by decide) ?_
      refine lv_ior hx hb d_T_fieldsOf_17 ?_
      refine lv_topi (fun v_12 e_12 => ?_)
      refine lv_istore_n (lv' := [(3, .int v_12), (0, .int x), (1, .int y), (2, .int z)]) hx hb d_T_fieldsOf_18 rfl hl (by decide) rfl (fun ls hl => ?_)
      refine lv_iload_n hx hb d_T_fieldsOf_19 rfl (lv_at hl 3 rfl) ?_
      refine lv_if_eq (tgt := 28) hx hb d_T_fieldsOf_20 (by decide) (fun c_13 => ?_) (fun c_13 => ?_)
      · refine lv_iload_n hx hb d_T_fieldsOf_28 rfl (lv_at hl 0 rfl) ?_
        exact W.iret (v := v_12) hx hb hr (fun t ht hW => ⟨v_12, rfl, (by first | (simp [b2, fieI, c_1, e_8, c_9, e_12, c_13]; done) | (clear hts hown B; simp_all [b2, fieI]; done)), ht⟩) t_nil d_T_fieldsOf_29
      · refine lv_iload_n hx hb d_T_fieldsOf_23 rfl (lv_at hl 0 rfl) ?_
        refine lv_bipush (v := 8) hx hb d_T_fieldsOf_24 (by decide) ?_
        refine lv_ior hx hb d_T_fieldsOf_26 ?_
        refine lv_topi (fun v_14 e_14 => ?_)
        refine lv_istore_n (lv' := [(3, .int v_14), (0, .int x), (1, .int y), (2, .int z)]) hx hb d_T_fieldsOf_27 rfl hl (by decide) rfl (fun ls hl => ?_)
        refine lv_iload_n hx hb d_T_fieldsOf_28 rfl (lv_at hl 0 rfl) ?_
        exact W.iret (v := v_14) hx hb hr (fun t ht hW => ⟨v_14, rfl, (by first | (simp [b2, fieI, c_1, e_8, c_9, e_12, c_13, e_14]; done) | (clear hts hown B; simp_all [b2, fieI]; done)), ht⟩) t_nil d_T_fieldsOf_29

set_option maxHeartbeats 4000000 in
set_option maxRecDepth 100000 in
theorem c_M_in (l : Launch) (x y z : Int32) : Met l y_M_in (.code y_M_in b_M_in 3 ((some .boolean)) :: GW) ({ frames := 0, cells := 0, slots := 0, locals := 0 }) (prN [.int x, .int y, .int z]) (vp_Si (fun r => r = b2 (inR x y z))) 0 0 (fun _ => False) := by
  refine Met.ofW (cc := b_M_in) (maxL := 3) (ret := (some .boolean)) (by decide) rfl ?_
  intro p e s m args below meth c s₁ B hml hv
  obtain ⟨rfl, -⟩ := hv
  have hx := B.exec
  have hb := B.bytes
  have hr := B.returns
  have hts : ∀ w ∈ GW, w.before _ s = true := fun w h => atoms_spec (ws := .code y_M_in b_M_in 3 ((some .boolean)) :: GW) B.pre w (List.mem_cons_of_mem _ h)
  have hown : s.vm.findClass "DangerTablesModel" = some m.cls := findClass_of_methodNamed B.named
  have hlocks := B.notSynchronized
  have hl := lv_entry ([.int x, .int y, .int z]) (n := 3) (Nat.le_of_ble_eq_true rfl)
  rw [lg_entry_eq]
  generalize (lg_sl ([.int x, .int y, .int z]) ++ List.replicate (3 - (lg_sl ([.int x, .int y, .int z])).length) Slot.unset).toArray = ls at hl ⊢
  have hl : lv_has ls 3 [(0, .int x), (1, .int y), (2, .int z)] := hl
  refine lv_iload_n hx hb d_M_in_0 rfl (lv_at hl 0 rfl) ?_
  refine lv_iload_n hx hb d_M_in_1 rfl (lv_at hl 1 rfl) ?_
  refine lv_icmp_lt (tgt := 14) hx hb d_M_in_2 (by decide) (fun c_1 => ?_) (fun c_1 => ?_)
  · refine lv_iconst (v := 0) hx hb d_M_in_14 (by decide) ?_
    exact W.zret (v := 0) (ty := .boolean) hx hb hr rfl (fun t ht hW => ⟨0, rfl, (by first | (simp [b2, inR, c_1]; done) | (clear hts hown B; simp_all [b2, inR]; done)), ht⟩) t_nil d_M_in_15
  · refine lv_iload_n hx hb d_M_in_5 rfl (lv_at hl 0 rfl) ?_
    refine lv_iload_n hx hb d_M_in_6 rfl (lv_at hl 2 rfl) ?_
    refine lv_icmp_gt (tgt := 14) hx hb d_M_in_7 (by decide) (fun c_2 => ?_) (fun c_2 => ?_)
    · refine lv_iconst (v := 0) hx hb d_M_in_14 (by decide) ?_
      exact W.zret (v := 0) (ty := .boolean) hx hb hr rfl (fun t ht hW => ⟨0, rfl, (by first | (simp [b2, inR, c_1, c_2]; done) | (clear hts hown B; simp_all [b2, inR]; done)), ht⟩) t_nil d_M_in_15
    · refine lv_iconst (v := 1) hx hb d_M_in_10 (by decide) ?_
      refine lv_goto (tgt := 15) hx hb d_M_in_11 (by decide) ?_
      exact W.zret (v := 1) (ty := .boolean) hx hb hr rfl (fun t ht hW => ⟨1, rfl, (by first | (simp [b2, inR, c_1, c_2]; done) | (clear hts hown B; simp_all [b2, inR]; done)), ht⟩) t_nil d_M_in_15

set_option maxHeartbeats 4000000 in
set_option maxRecDepth 100000 in
theorem c_M_isClass (l : Launch) (x : Int32) : Met l y_M_isClass (.code y_M_isClass b_M_isClass 1 ((some .boolean)) :: GW) ({ frames := 0, cells := 0, slots := 0, locals := 0 }) (prN [.int x]) (vp_Si (fun r => r = b2 (isCls x))) 0 0 (fun _ => False) := by
  refine Met.ofW (cc := b_M_isClass) (maxL := 1) (ret := (some .boolean)) (by decide) rfl ?_
  intro p e s m args below meth c s₁ B hml hv
  obtain ⟨rfl, -⟩ := hv
  have hx := B.exec
  have hb := B.bytes
  have hr := B.returns
  have hts : ∀ w ∈ GW, w.before _ s = true := fun w h => atoms_spec (ws := .code y_M_isClass b_M_isClass 1 ((some .boolean)) :: GW) B.pre w (List.mem_cons_of_mem _ h)
  have hown : s.vm.findClass "DangerTablesModel" = some m.cls := findClass_of_methodNamed B.named
  have hlocks := B.notSynchronized
  have hl := lv_entry ([.int x]) (n := 1) (Nat.le_of_ble_eq_true rfl)
  rw [lg_entry_eq]
  generalize (lg_sl ([.int x]) ++ List.replicate (1 - (lg_sl ([.int x])).length) Slot.unset).toArray = ls at hl ⊢
  have hl : lv_has ls 1 [(0, .int x)] := hl
  refine lv_iload_n hx hb d_M_isClass_0 rfl (lv_at hl 0 rfl) ?_
  refine lv_iconst (v := 1) hx hb d_M_isClass_1 (by decide) ?_
  refine lv_icmp_lt (tgt := 15) hx hb d_M_isClass_2 (by decide) (fun c_1 => ?_) (fun c_1 => ?_)
  · refine lv_iconst (v := 0) hx hb d_M_isClass_15 (by decide) ?_
    exact W.zret (v := 0) (ty := .boolean) hx hb hr rfl (fun t ht hW => ⟨0, rfl, (by first | (simp [b2, isCls, c_1]; done) | (clear hts hown B; simp_all [b2, isCls]; done)), ht⟩) t_nil d_M_isClass_16
  · refine lv_iload_n hx hb d_M_isClass_5 rfl (lv_at hl 0 rfl) ?_
    refine lv_bipush (v := 9) hx hb d_M_isClass_6 (by decide) ?_
    refine lv_icmp_gt (tgt := 15) hx hb d_M_isClass_8 (by decide) (fun c_2 => ?_) (fun c_2 => ?_)
    · refine lv_iconst (v := 0) hx hb d_M_isClass_15 (by decide) ?_
      exact W.zret (v := 0) (ty := .boolean) hx hb hr rfl (fun t ht hW => ⟨0, rfl, (by first | (simp [b2, isCls, c_1, c_2]; done) | (clear hts hown B; simp_all [b2, isCls]; done)), ht⟩) t_nil d_M_isClass_16
    · refine lv_iconst (v := 1) hx hb d_M_isClass_11 (by decide) ?_
      refine lv_goto (tgt := 16) hx hb d_M_isClass_12 (by decide) ?_
      exact W.zret (v := 1) (ty := .boolean) hx hb hr rfl (fun t ht hW => ⟨1, rfl, (by first | (simp [b2, isCls, c_1, c_2]; done) | (clear hts hown B; simp_all [b2, isCls]; done)), ht⟩) t_nil d_M_isClass_16

set_option maxHeartbeats 4000000 in
set_option maxRecDepth 100000 in
theorem c_M_pair (l : Launch) (x y : Int32) : Met l y_M_pair (.code y_M_pair b_M_pair 2 ((some .int)) :: GW) ({ frames := 0, cells := 0, slots := 0, locals := 0 }) (prN [.int x, .int y]) (vp_Si (fun r => r = prM x y)) 0 0 (fun _ => False) := by
  refine Met.ofW (cc := b_M_pair) (maxL := 2) (ret := (some .int)) (by decide) rfl ?_
  intro p e s m args below meth c s₁ B hml hv
  obtain ⟨rfl, -⟩ := hv
  have hx := B.exec
  have hb := B.bytes
  have hr := B.returns
  have hts : ∀ w ∈ GW, w.before _ s = true := fun w h => atoms_spec (ws := .code y_M_pair b_M_pair 2 ((some .int)) :: GW) B.pre w (List.mem_cons_of_mem _ h)
  have hown : s.vm.findClass "DangerTablesModel" = some m.cls := findClass_of_methodNamed B.named
  have hlocks := B.notSynchronized
  have hl := lv_entry ([.int x, .int y]) (n := 2) (Nat.le_of_ble_eq_true rfl)
  rw [lg_entry_eq]
  generalize (lg_sl ([.int x, .int y]) ++ List.replicate (2 - (lg_sl ([.int x, .int y])).length) Slot.unset).toArray = ls at hl ⊢
  have hl : lv_has ls 2 [(0, .int x), (1, .int y)] := hl
  refine lv_bipush (v := 9) hx hb d_M_pair_0 (by decide) ?_
  refine lv_iload_n hx hb d_M_pair_2 rfl (lv_at hl 0 rfl) ?_
  refine lv_iconst (v := 1) hx hb d_M_pair_3 (by decide) ?_
  refine lv_isub hx hb d_M_pair_4 ?_
  refine lv_topi (fun v_1 e_1 => ?_)
  refine lv_imul hx hb d_M_pair_5 ?_
  refine lv_topi (fun v_2 e_2 => ?_)
  refine lv_iload_n hx hb d_M_pair_6 rfl (lv_at hl 1 rfl) ?_
  refine lv_iadd hx hb d_M_pair_7 ?_
  refine lv_topi (fun v_3 e_3 => ?_)
  refine lv_iconst (v := 1) hx hb d_M_pair_8 (by decide) ?_
  refine lv_isub hx hb d_M_pair_9 ?_
  refine lv_topi (fun v_4 e_4 => ?_)
  exact W.iret (v := v_4) hx hb hr (fun t ht hW => ⟨v_4, rfl, (by first | (simp [b2, prM, e_1, e_2, e_3, e_4]; done) | (clear hts hown B; simp_all [b2, prM]; done)), ht⟩) t_nil d_M_pair_10

set_option maxHeartbeats 4000000 in
set_option maxRecDepth 100000 in
theorem c_M_greater (l : Launch) (x y : Int32) : Met l y_M_greater (.code y_M_greater b_M_greater 2 ((some .int)) :: GW) ({ frames := 0, cells := 0, slots := 0, locals := 0 }) (prN [.int x, .int y]) (vp_Si (fun r => r = gtI x y)) 0 0 (fun _ => False) := by
  refine Met.ofW (cc := b_M_greater) (maxL := 2) (ret := (some .int)) (by decide) rfl ?_
  intro p e s m args below meth c s₁ B hml hv
  obtain ⟨rfl, -⟩ := hv
  have hx := B.exec
  have hb := B.bytes
  have hr := B.returns
  have hts : ∀ w ∈ GW, w.before _ s = true := fun w h => atoms_spec (ws := .code y_M_greater b_M_greater 2 ((some .int)) :: GW) B.pre w (List.mem_cons_of_mem _ h)
  have hown : s.vm.findClass "DangerTablesModel" = some m.cls := findClass_of_methodNamed B.named
  have hlocks := B.notSynchronized
  have hl := lv_entry ([.int x, .int y]) (n := 2) (Nat.le_of_ble_eq_true rfl)
  rw [lg_entry_eq]
  generalize (lg_sl ([.int x, .int y]) ++ List.replicate (2 - (lg_sl ([.int x, .int y])).length) Slot.unset).toArray = ls at hl ⊢
  have hl : lv_has ls 2 [(0, .int x), (1, .int y)] := hl
  refine lv_iload_n hx hb d_M_greater_0 rfl (lv_at hl 0 rfl) ?_
  refine lv_iload_n hx hb d_M_greater_1 rfl (lv_at hl 1 rfl) ?_
  refine lv_icmp_le (tgt := 9) hx hb d_M_greater_2 (by decide) (fun c_1 => ?_) (fun c_1 => ?_)
  · refine lv_iload_n hx hb d_M_greater_9 rfl (lv_at hl 1 rfl) ?_
    exact W.iret (v := y) hx hb hr (fun t ht hW => ⟨y, rfl, (by first | (simp [b2, gtI, c_1]; done) | (clear hts hown B; simp_all [b2, gtI]; done)), ht⟩) t_nil d_M_greater_10
  · refine lv_iload_n hx hb d_M_greater_5 rfl (lv_at hl 0 rfl) ?_
    refine lv_goto (tgt := 10) hx hb d_M_greater_6 (by decide) ?_
    exact W.iret (v := x) hx hb hr (fun t ht hW => ⟨x, rfl, (by first | (simp [b2, gtI, c_1]; done) | (clear hts hown B; simp_all [b2, gtI]; done)), ht⟩) t_nil d_M_greater_10

set_option maxHeartbeats 4000000 in
set_option maxRecDepth 100000 in
theorem c_M_far (l : Launch) (x : Int32) : Met l y_M_far (.code y_M_far b_M_far 1 ((some .int)) :: GW) ({ frames := 0, cells := 0, slots := 0, locals := 0 }) (prN [.int x]) (vp_Si (fun r => r = farI x)) 0 0 (fun _ => False) := by
  refine Met.ofW (cc := b_M_far) (maxL := 1) (ret := (some .int)) (by decide) rfl ?_
  intro p e s m args below meth c s₁ B hml hv
  obtain ⟨rfl, -⟩ := hv
  have hx := B.exec
  have hb := B.bytes
  have hr := B.returns
  have hts : ∀ w ∈ GW, w.before _ s = true := fun w h => atoms_spec (ws := .code y_M_far b_M_far 1 ((some .int)) :: GW) B.pre w (List.mem_cons_of_mem _ h)
  have hown : s.vm.findClass "DangerTablesModel" = some m.cls := findClass_of_methodNamed B.named
  have hlocks := B.notSynchronized
  have hl := lv_entry ([.int x]) (n := 1) (Nat.le_of_ble_eq_true rfl)
  rw [lg_entry_eq]
  generalize (lg_sl ([.int x]) ++ List.replicate (1 - (lg_sl ([.int x])).length) Slot.unset).toArray = ls at hl ⊢
  have hl : lv_has ls 1 [(0, .int x)] := hl
  refine lv_iload_n hx hb d_M_far_0 rfl (lv_at hl 0 rfl) ?_
  refine lv_if_ge (tgt := 9) hx hb d_M_far_1 (by decide) (fun c_1 => ?_) (fun c_1 => ?_)
  · refine lv_iload_n hx hb d_M_far_9 rfl (lv_at hl 0 rfl) ?_
    exact W.iret (v := x) hx hb hr (fun t ht hW => ⟨x, rfl, (by first | (simp [b2, farI, c_1]; done) | (clear hts hown B; simp_all [b2, farI]; done)), ht⟩) t_nil d_M_far_10
  · refine lv_iload_n hx hb d_M_far_4 rfl (lv_at hl 0 rfl) ?_
    refine lv_ineg hx hb d_M_far_5 ?_
    refine lv_topi (fun v_2 e_2 => ?_)
    refine lv_goto (tgt := 10) hx hb d_M_far_6 (by decide) ?_
    exact W.iret (v := v_2) hx hb hr (fun t ht hW => ⟨v_2, rfl, (by first | (simp [b2, farI, c_1, e_2]; done) | (clear hts hown B; simp_all [b2, farI]; done)), ht⟩) t_nil d_M_far_10
end
section
/-! CELLS: the objects of the class as cells of a world -/
abbrev cT (tx ru : Nat) (rd : Int32) (go bo zo : Nat) : va_E := .inr (0, [.ref tx, .ref ru, .int rd, .ref go, .ref bo, .ref zo])
abbrev cX (pl : Nat) (z x y t : Int32) : va_E := .inr (1, [.ref pl, .int z, .int x, .int y, .int t])
abbrev cG (c s l f : Int32) (x : Int64) : va_E := .inr (2, [.int c, .int s, .int l, .int f, .long x])
abbrev cP (ga : Nat) (num amt : Int32) : va_E := .inr (3, [.ref ga, .int num, .int amt])
abbrev cU (sg : Nat) (n : Int32) (fo : Nat) : va_E := .inr (4, [.ref sg, .int n, .ref fo])
abbrev cL (mc : Int32) (arr : Nat) (n : Int32) : va_E := .inr (6, [.int mc, .ref arr, .int n])
abbrev cO (g : GT) (n : Nat) (f : Nat → Option Nat) : va_E := .inl (g.2.1 3, n, .inr (.inr (.inr (.inr f))))
abbrev cA (g : GT) (n : Nat) (f : Nat → Int32) : va_E := .inl (g.2.1 0, n, .inl f)
def isEx (x : Int64) (v : Int32) : Bool := !decide (lg_cmp ((x >>> (v.toInt64 &&& 63)) &&& 1) 0 = 0)
def hasC (c s v : Int32) : Bool := decide (c = v) || decide (s = v)
def isLim (amt lim : Int32) : Bool := !decide (lim < amt)
def wantP (amt lim f : Int32) : Int32 := if isLim amt lim = true then f else f ||| 16
def absI (x : Int32) : Int32 := if 0 ≤ x then x else 0 - x
theorem rf_at {f : Nat → Option Nat} {i q : Nat} (h : i < 2 ^ 31) (hq : f i = some q) : va_rf (f (nI i).toNatClampNeg) = .ref q := by rw [nI_clamp h, hq]; rfl
set_option maxHeartbeats 4000000 in
set_option maxRecDepth 100000 in
theorem c_AL_size (l : Launch) (g : GT) (w : Nat → Option va_E) (a arr : Nat) (mc n : Int32) (he : w a = some (cL mc arr n)) : Met l y_AL_size (.code y_AL_size b_AL_size 1 ((some .int)) :: GW) ({ frames := 0, cells := 0, slots := 0, locals := 0 }) (prR g [.ref a] w) (vp_Si (fun r => r = n)) 0 0 (fun _ => False) := by
  refine Met.ofW (cc := b_AL_size) (maxL := 1) (ret := (some .int)) (by decide) rfl ?_
  intro p e s m args below meth c s₁ B hml hv
  obtain ⟨rfl, hG, hw⟩ := hv
  have hx := B.exec
  have hb := B.bytes
  have hr := B.returns
  have hts : ∀ w ∈ GW, w.before _ s = true := fun w h => atoms_spec (ws := .code y_AL_size b_AL_size 1 ((some .int)) :: GW) B.pre w (List.mem_cons_of_mem _ h)
  have hown : s.vm.findClass "java/util/ArrayList" = some m.cls := findClass_of_methodNamed B.named
  have hlocks := B.notSynchronized
  have hf := hG.here
  have hK := hf.1
  have hAB : ∀ q, gB g q → gB g q := fun _ h => h
  have hS : va_S (gB g) s.heap s.heap [] := va_S.rf
  have hl := lv_entry ([.ref a]) (n := 1) (Nat.le_of_ble_eq_true rfl)
  rw [lg_entry_eq]
  generalize (lg_sl ([.ref a]) ++ List.replicate (1 - (lg_sl ([.ref a])).length) Slot.unset).toArray = ls at hl ⊢
  have hl : lv_has ls 1 [(0, .ref a)] := hl
  refine lv_aload_n hx hb d_AL_size_0 rfl (lv_at hl 0 rfl) ?_
  refine ww_get (v := .int n) (C := R_AL) (T := F_AL) (N := 3) (ci := 6) hx hb hts i_AL hown hK hw he rfl 2 (by decide) (hts _ k_66) (fun _ h9 => h9) rfl d_AL_size_1 ?_
  exact W.iret (v := n) hx hb hr (fun t ht hW => ⟨n, rfl, rfl, ht⟩) t_nil d_AL_size_4

set_option maxHeartbeats 4000000 in
set_option maxRecDepth 100000 in
theorem c_PC_checkIndex (l : Launch) (i n : Nat) (hi : i < n) (hn : n < 2 ^ 31) : Met l y_PC_checkIndex (.code y_PC_checkIndex b_PC_checkIndex 3 ((some .int)) :: GW) ({ frames := 0, cells := 0, slots := 0, locals := 0 }) (prN [.int (nI i), .int (nI n), .null]) (vp_Si (fun r => r = nI i)) 0 0 (fun _ => False) := by
  refine Met.ofW (cc := b_PC_checkIndex) (maxL := 3) (ret := (some .int)) (by decide) rfl ?_
  intro p e s m args below meth c s₁ B hml hv
  obtain ⟨rfl, -⟩ := hv
  have hx := B.exec
  have hb := B.bytes
  have hr := B.returns
  have hts : ∀ w ∈ GW, w.before _ s = true := fun w h => atoms_spec (ws := .code y_PC_checkIndex b_PC_checkIndex 3 ((some .int)) :: GW) B.pre w (List.mem_cons_of_mem _ h)
  have hown : s.vm.findClass "jdk/internal/util/Preconditions" = some m.cls := findClass_of_methodNamed B.named
  have hlocks := B.notSynchronized
  have hl := lv_entry ([.int (nI i), .int (nI n), .null]) (n := 3) (Nat.le_of_ble_eq_true rfl)
  rw [lg_entry_eq]
  generalize (lg_sl ([.int (nI i), .int (nI n), .null]) ++ List.replicate (3 - (lg_sl ([.int (nI i), .int (nI n), .null])).length) Slot.unset).toArray = ls at hl ⊢
  have hl : lv_has ls 3 [(0, .int (nI i)), (1, .int (nI n)), (2, .null)] := hl
  refine lv_iload_n hx hb d_PC_checkIndex_0 rfl (lv_at hl 0 rfl) ?_
  refine lv_if_lt (tgt := 9) hx hb d_PC_checkIndex_1 (by decide) (fun c_1 => ?_) (fun c_1 => ?_)
  · exact absurd c_1 (nI_pos (by omega))
  · refine lv_iload_n hx hb d_PC_checkIndex_4 rfl (lv_at hl 0 rfl) ?_
    refine lv_iload_n hx hb d_PC_checkIndex_5 rfl (lv_at hl 1 rfl) ?_
    refine lv_icmp_lt (tgt := 16) hx hb d_PC_checkIndex_6 (by decide) (fun c_2 => ?_) (fun c_2 => ?_)
    · refine lv_iload_n hx hb d_PC_checkIndex_16 rfl (lv_at hl 0 rfl) ?_
      exact W.iret (v := (nI i)) hx hb hr (fun t ht hW => ⟨(nI i), rfl, rfl, ht⟩) t_nil d_PC_checkIndex_17
    · exact absurd (nI_lt hi hn) c_2

set_option maxHeartbeats 4000000 in
set_option maxRecDepth 100000 in
theorem c_OB_checkIndex (l : Launch) (i n : Nat) (hi : i < n) (hn : n < 2 ^ 31) : Met l y_OB_checkIndex (.code y_OB_checkIndex b_OB_checkIndex 2 ((some .int)) :: GW) ({ frames := 1, cells := 0, slots := 0, locals := 22 }) (prN [.int (nI i), .int (nI n)]) (vp_Si (fun r => r = nI i)) 0 0 (fun _ => False) := by
  refine Met.ofW (cc := b_OB_checkIndex) (maxL := 2) (ret := (some .int)) (by decide) rfl ?_
  intro p e s m args below meth c s₁ B hml hv
  obtain ⟨rfl, -⟩ := hv
  have hx := B.exec
  have hb := B.bytes
  have hr := B.returns
  have hts : ∀ w ∈ GW, w.before _ s = true := fun w h => atoms_spec (ws := .code y_OB_checkIndex b_OB_checkIndex 2 ((some .int)) :: GW) B.pre w (List.mem_cons_of_mem _ h)
  have hown : s.vm.findClass "java/util/Objects" = some m.cls := findClass_of_methodNamed B.named
  have hlocks := B.notSynchronized
  have hl := lv_entry ([.int (nI i), .int (nI n)]) (n := 2) (Nat.le_of_ble_eq_true rfl)
  rw [lg_entry_eq]
  generalize (lg_sl ([.int (nI i), .int (nI n)]) ++ List.replicate (2 - (lg_sl ([.int (nI i), .int (nI n)])).length) Slot.unset).toArray = ls at hl ⊢
  have hl : lv_has ls 2 [(0, .int (nI i)), (1, .int (nI n))] := hl
  refine lv_iload_n hx hb d_OB_checkIndex_0 rfl (lv_at hl 0 rfl) ?_
  refine lv_iload_n hx hb d_OB_checkIndex_1 rfl (lv_at hl 1 rfl) ?_
  refine lv_null hx hb d_OB_checkIndex_2 ?_
  refine wr_i (cS (As := [.int (nI i), .int (nI n), .null]) (rest := []) 3 ⟨hx, hb, hml, hown, hts⟩ (c_PC_checkIndex l i n hi hn) k_163 k_161 k_18 k_162 (by decide +kernel) ⟨Nat.le_of_ble_eq_true rfl, Nat.le_of_ble_eq_true rfl⟩ rfl rfl ⟨prN_blind _, fun _ _ _ => ⟨rfl, trivial⟩⟩ rfl hl.1 rfl (Nat.le_of_ble_eq_true rfl) d_OB_checkIndex_3 ⟨Nat.zero_le _, Nat.zero_le _⟩) (fun r_1 e_1 => ?_)
  exact W.iret (v := r_1) hx hb hr (fun t ht hW => ⟨r_1, rfl, e_1, ht⟩) t_nil d_OB_checkIndex_6

set_option maxHeartbeats 4000000 in
set_option maxRecDepth 100000 in
theorem c_AL_elementData (l : Launch) (g : GT) (w : Nat → Option va_E) (a arr n cap i q : Nat) (mc : Int32) (f : Nat → Option Nat) (he : w a = some (cL mc arr (nI n))) (ha : w arr = some (cO g cap f)) (hn : n ≤ cap) (hc : cap < 2 ^ 31) (hi : i < n) (hq : f i = some q) : Met l y_AL_elementData (.code y_AL_elementData b_AL_elementData 2 ((some (.object "java/lang/Object"))) :: GW) ({ frames := 0, cells := 0, slots := 0, locals := 0 }) (prR g [.ref a, .int (nI i)] w) (va_Sq (fun r => r = some q)) 0 0 (fun _ => False) := by
  refine Met.ofW (cc := b_AL_elementData) (maxL := 2) (ret := (some (.object "java/lang/Object"))) (by decide) rfl ?_
  intro p e s m args below meth c s₁ B hml hv
  obtain ⟨rfl, hG, hw⟩ := hv
  have hx := B.exec
  have hb := B.bytes
  have hr := B.returns
  have hts : ∀ w ∈ GW, w.before _ s = true := fun w h => atoms_spec (ws := .code y_AL_elementData b_AL_elementData 2 ((some (.object "java/lang/Object"))) :: GW) B.pre w (List.mem_cons_of_mem _ h)
  have hown : s.vm.findClass "java/util/ArrayList" = some m.cls := findClass_of_methodNamed B.named
  have hlocks := B.notSynchronized
  have hf := hG.here
  have hK := hf.1
  have hAB : ∀ q, gB g q → gB g q := fun _ h => h
  have hS : va_S (gB g) s.heap s.heap [] := va_S.rf
  have hl := lv_entry ([.ref a, .int (nI i)]) (n := 2) (Nat.le_of_ble_eq_true rfl)
  rw [lg_entry_eq]
  generalize (lg_sl ([.ref a, .int (nI i)]) ++ List.replicate (2 - (lg_sl ([.ref a, .int (nI i)])).length) Slot.unset).toArray = ls at hl ⊢
  have hl : lv_has ls 2 [(0, .ref a), (1, .int (nI i))] := hl
  refine lv_aload_n hx hb d_AL_elementData_0 rfl (lv_at hl 0 rfl) ?_
  refine ww_get (v := .ref arr) (C := R_AL) (T := F_AL) (N := 3) (ci := 6) hx hb hts i_AL hown hK hw he rfl 1 (by decide) (hts _ k_65) (fun _ h9 => h9) rfl d_AL_elementData_1 ?_
  refine lv_iload_n hx hb d_AL_elementData_4 rfl (lv_at hl 1 rfl) ?_
  refine ww_aldq (v := .ref q) hx hb hK hw 3 ha rfl (vp_in_nI (by omega) hc) (rf_at (by omega) hq) d_AL_elementData_5 ?_
  exact W.aret (v := .ref q) hx hb hr (Or.inl ⟨_, rfl⟩) (Or.inr ⟨_, rfl⟩) (fun t ht hW => ⟨some q, rfl, rfl, ht⟩) t_nil d_AL_elementData_6

set_option maxHeartbeats 4000000 in
set_option maxRecDepth 100000 in
theorem c_AL_get (l : Launch) (g : GT) (w : Nat → Option va_E) (a arr n cap i q : Nat) (mc : Int32) (f : Nat → Option Nat) (he : w a = some (cL mc arr (nI n))) (ha : w arr = some (cO g cap f)) (hn : n ≤ cap) (hc : cap < 2 ^ 31) (hi : i < n) (hq : f i = some q) : Met l y_AL_get (.code y_AL_get b_AL_get 2 ((some (.object "java/lang/Object"))) :: GW) ({ frames := 2, cells := 0, slots := 0, locals := 43 }) (prR g [.ref a, .int (nI i)] w) (va_Sq (fun r => r = some q)) 0 0 (fun _ => False) := by
  refine Met.ofW (cc := b_AL_get) (maxL := 2) (ret := (some (.object "java/lang/Object"))) (by decide) rfl ?_
  intro p e s m args below meth c s₁ B hml hv
  obtain ⟨rfl, hG, hw⟩ := hv
  have hx := B.exec
  have hb := B.bytes
  have hr := B.returns
  have hts : ∀ w ∈ GW, w.before _ s = true := fun w h => atoms_spec (ws := .code y_AL_get b_AL_get 2 ((some (.object "java/lang/Object"))) :: GW) B.pre w (List.mem_cons_of_mem _ h)
  have hown : s.vm.findClass "java/util/ArrayList" = some m.cls := findClass_of_methodNamed B.named
  have hlocks := B.notSynchronized
  have hf := hG.here
  have hK := hf.1
  have hAB : ∀ q, gB g q → gB g q := fun _ h => h
  have hS : va_S (gB g) s.heap s.heap [] := va_S.rf
  have hl := lv_entry ([.ref a, .int (nI i)]) (n := 2) (Nat.le_of_ble_eq_true rfl)
  rw [lg_entry_eq]
  generalize (lg_sl ([.ref a, .int (nI i)]) ++ List.replicate (2 - (lg_sl ([.ref a, .int (nI i)])).length) Slot.unset).toArray = ls at hl ⊢
  have hl : lv_has ls 2 [(0, .ref a), (1, .int (nI i))] := hl
  refine lv_iload_n hx hb d_AL_get_0 rfl (lv_at hl 1 rfl) ?_
  refine lv_aload_n hx hb d_AL_get_1 rfl (lv_at hl 0 rfl) ?_
  refine ww_get (v := .int (nI n)) (C := R_AL) (T := F_AL) (N := 3) (ci := 6) hx hb hts i_AL hown hK hw he rfl 2 (by decide) (hts _ k_66) (fun _ h9 => h9) rfl d_AL_get_2 ?_
  refine wr_i (cS (As := [.int (nI i), .int (nI n)]) (rest := []) 2 ⟨hx, hb, hml, hown, hts⟩ (c_OB_checkIndex l i n hi (by omega)) k_160 k_158 k_17 k_159 (by decide +kernel) ⟨Nat.le_of_ble_eq_true rfl, Nat.le_of_ble_eq_true rfl⟩ rfl rfl ⟨prN_blind _, fun _ _ _ => ⟨rfl, trivial⟩⟩ rfl hl.1 rfl (Nat.le_of_ble_eq_true rfl) d_AL_get_5 ⟨Nat.zero_le _, Nat.zero_le _⟩) (fun r_1 e_1 => ?_)
  refine lv_pop hx hb d_AL_get_8 rfl ?_
  refine lv_aload_n hx hb d_AL_get_9 rfl (lv_at hl 0 rfl) ?_
  refine lv_iload_n hx hb d_AL_get_10 rfl (lv_at hl 1 rfl) ?_
  refine wr_q (cV (As := [.int (nI i)]) (rest := []) (C := "java/util/ArrayList") 1 ⟨hx, hb, hml, hown, hts⟩ (c_AL_elementData l g w a arr n cap i q mc f he ha hn hc hi hq) k_167 k_164 k_6 k_165 k_166 (by decide +kernel) ⟨Nat.le_of_ble_eq_true rfl, Nat.le_of_ble_eq_true rfl⟩ rfl rfl ⟨prR_blind _ _ _, hw.recv hK he rfl, prR_at hG hAB hS hw⟩ rfl hl.1 rfl (Nat.le_of_ble_eq_true rfl) d_AL_get_11 ⟨Nat.zero_le _, Nat.zero_le _⟩) (fun r_2 e_2 => ?_)
  subst e_2
  exact W.aret (v := .ref q) hx hb hr (Or.inl ⟨_, rfl⟩) (Or.inr ⟨_, rfl⟩) (fun t ht hW => ⟨some q, rfl, rfl, ht⟩) t_nil d_AL_get_14

set_option maxHeartbeats 4000000 in
set_option maxRecDepth 100000 in
theorem c_G_hasClass (l : Launch) (g : GT) (w : Nat → Option va_E) (a : Nat) (cl sd lm fl : Int32) (x : Int64) (v : Int32) (he : w a = some (cG cl sd lm fl x)) : Met l y_G_hasClass (.code y_G_hasClass b_G_hasClass 2 ((some .boolean)) :: GW) ({ frames := 0, cells := 0, slots := 0, locals := 0 }) (prR g [.ref a, .int v] w) (vp_Si (fun r => r = b2 (hasC cl sd v))) 0 0 (fun _ => False) := by
  refine Met.ofW (cc := b_G_hasClass) (maxL := 2) (ret := (some .boolean)) (by decide) rfl ?_
  intro p e s m args below meth c s₁ B hml hv
  obtain ⟨rfl, hG, hw⟩ := hv
  have hx := B.exec
  have hb := B.bytes
  have hr := B.returns
  have hts : ∀ w ∈ GW, w.before _ s = true := fun w h => atoms_spec (ws := .code y_G_hasClass b_G_hasClass 2 ((some .boolean)) :: GW) B.pre w (List.mem_cons_of_mem _ h)
  have hown : s.vm.findClass "DangerTables$Good" = some m.cls := findClass_of_methodNamed B.named
  have hlocks := B.notSynchronized
  have hf := hG.here
  have hK := hf.1
  have hAB : ∀ q, gB g q → gB g q := fun _ h => h
  have hS : va_S (gB g) s.heap s.heap [] := va_S.rf
  have hl := lv_entry ([.ref a, .int v]) (n := 2) (Nat.le_of_ble_eq_true rfl)
  rw [lg_entry_eq]
  generalize (lg_sl ([.ref a, .int v]) ++ List.replicate (2 - (lg_sl ([.ref a, .int v])).length) Slot.unset).toArray = ls at hl ⊢
  have hl : lv_has ls 2 [(0, .ref a), (1, .int v)] := hl
  refine lv_aload_n hx hb d_G_hasClass_0 rfl (lv_at hl 0 rfl) ?_
  refine ww_get (v := .int cl) (C := R_G) (T := F_G) (N := 5) (ci := 2) hx hb hts i_G hown hK hw he rfl 0 (by decide) (hts _ k_323) (fun _ h9 => h9) rfl d_G_hasClass_1 ?_
  refine lv_iload_n hx hb d_G_hasClass_4 rfl (lv_at hl 1 rfl) ?_
  refine lv_icmp_eq (tgt := 16) hx hb d_G_hasClass_5 (by decide) (fun c_1 => ?_) (fun c_1 => ?_)
  · refine lv_iconst (v := 1) hx hb d_G_hasClass_16 (by decide) ?_
    refine lv_goto (tgt := 21) hx hb d_G_hasClass_17 (by decide) ?_
    exact W.zret (v := 1) (ty := .boolean) hx hb hr rfl (fun t ht hW => ⟨1, rfl, (by first | (simp [b2, hasC, c_1]; done) | (clear hts hown B; simp_all [b2, hasC]; done)), ht⟩) t_nil d_G_hasClass_21
  · refine lv_aload_n hx hb d_G_hasClass_8 rfl (lv_at hl 0 rfl) ?_
    refine ww_get (v := .int sd) (C := R_G) (T := F_G) (N := 5) (ci := 2) hx hb hts i_G hown hK hw he rfl 1 (by decide) (hts _ k_325) (fun _ h9 => h9) rfl d_G_hasClass_9 ?_
    refine lv_iload_n hx hb d_G_hasClass_12 rfl (lv_at hl 1 rfl) ?_
    refine lv_icmp_ne (tgt := 20) hx hb d_G_hasClass_13 (by decide) (fun c_2 => ?_) (fun c_2 => ?_)
    · refine lv_iconst (v := 0) hx hb d_G_hasClass_20 (by decide) ?_
      exact W.zret (v := 0) (ty := .boolean) hx hb hr rfl (fun t ht hW => ⟨0, rfl, (by first | (simp [b2, hasC, c_1, c_2]; done) | (clear hts hown B; simp_all [b2, hasC]; done)), ht⟩) t_nil d_G_hasClass_21
    · refine lv_iconst (v := 1) hx hb d_G_hasClass_16 (by decide) ?_
      refine lv_goto (tgt := 21) hx hb d_G_hasClass_17 (by decide) ?_
      exact W.zret (v := 1) (ty := .boolean) hx hb hr rfl (fun t ht hW => ⟨1, rfl, (by first | (simp [b2, hasC, c_1, c_2]; done) | (clear hts hown B; simp_all [b2, hasC]; done)), ht⟩) t_nil d_G_hasClass_21

set_option maxHeartbeats 4000000 in
set_option maxRecDepth 100000 in
theorem c_G_isExempt (l : Launch) (g : GT) (w : Nat → Option va_E) (a : Nat) (cl sd lm fl : Int32) (x : Int64) (v : Int32) (he : w a = some (cG cl sd lm fl x)) : Met l y_G_isExempt (.code y_G_isExempt b_G_isExempt 2 ((some .boolean)) :: GW) ({ frames := 0, cells := 0, slots := 0, locals := 0 }) (prR g [.ref a, .int v] w) (vp_Si (fun r => r = b2 (isEx x v))) 0 0 (fun _ => False) := by
  refine Met.ofW (cc := b_G_isExempt) (maxL := 2) (ret := (some .boolean)) (by decide) rfl ?_
  intro p e s m args below meth c s₁ B hml hv
  obtain ⟨rfl, hG, hw⟩ := hv
  have hx := B.exec
  have hb := B.bytes
  have hr := B.returns
  have hts : ∀ w ∈ GW, w.before _ s = true := fun w h => atoms_spec (ws := .code y_G_isExempt b_G_isExempt 2 ((some .boolean)) :: GW) B.pre w (List.mem_cons_of_mem _ h)
  have hown : s.vm.findClass "DangerTables$Good" = some m.cls := findClass_of_methodNamed B.named
  have hlocks := B.notSynchronized
  have hf := hG.here
  have hK := hf.1
  have hAB : ∀ q, gB g q → gB g q := fun _ h => h
  have hS : va_S (gB g) s.heap s.heap [] := va_S.rf
  have hl := lv_entry ([.ref a, .int v]) (n := 2) (Nat.le_of_ble_eq_true rfl)
  rw [lg_entry_eq]
  generalize (lg_sl ([.ref a, .int v]) ++ List.replicate (2 - (lg_sl ([.ref a, .int v])).length) Slot.unset).toArray = ls at hl ⊢
  have hl : lv_has ls 2 [(0, .ref a), (1, .int v)] := hl
  refine lv_aload_n hx hb d_G_isExempt_0 rfl (lv_at hl 0 rfl) ?_
  refine ww_get (v := .long x) (C := R_G) (T := F_G) (N := 5) (ci := 2) hx hb hts i_G hown hK hw he rfl 4 (by decide) (hts _ k_331) (fun _ h9 => h9) rfl d_G_isExempt_1 ?_
  refine lv_iload_n hx hb d_G_isExempt_4 rfl (lv_at hl 1 rfl) ?_
  refine lv_lshr hx hb d_G_isExempt_5 rfl ?_
  refine lv_topl (fun v_1 e_1 => ?_)
  refine lv_lconst (v := 1) hx hb d_G_isExempt_6 (by decide) ?_
  refine lv_land hx hb d_G_isExempt_7 ?_
  refine lv_topl (fun v_2 e_2 => ?_)
  refine lv_lconst (v := 0) hx hb d_G_isExempt_8 (by decide) ?_
  refine W.lcmp hx hb d_G_isExempt_9 ?_
  refine lv_topi (fun v_3 e_3 => ?_)
  refine lv_if_eq (tgt := 17) hx hb d_G_isExempt_10 (by decide) (fun c_4 => ?_) (fun c_4 => ?_)
  · refine lv_iconst (v := 0) hx hb d_G_isExempt_17 (by decide) ?_
    exact W.zret (v := 0) (ty := .boolean) hx hb hr rfl (fun t ht hW => ⟨0, rfl, (by first | (simp [b2, isEx, e_1, e_2, e_3, c_4]; done) | (clear hts hown B; simp_all [b2, isEx]; done)), ht⟩) t_nil d_G_isExempt_18
  · refine lv_iconst (v := 1) hx hb d_G_isExempt_13 (by decide) ?_
    refine lv_goto (tgt := 18) hx hb d_G_isExempt_14 (by decide) ?_
    exact W.zret (v := 1) (ty := .boolean) hx hb hr rfl (fun t ht hW => ⟨1, rfl, (by first | (simp [b2, isEx, e_1, e_2, e_3, c_4]; done) | (clear hts hown B; simp_all [b2, isEx]; done)), ht⟩) t_nil d_G_isExempt_18

set_option maxHeartbeats 4000000 in
set_option maxRecDepth 100000 in
theorem c_P_isLimited (l : Launch) (g : GT) (w : Nat → Option va_E) (a ga : Nat) (nu am : Int32) (cl sd lm fl : Int32) (x : Int64) (hp : w a = some (cP ga nu am)) (he : w ga = some (cG cl sd lm fl x)) : Met l y_P_isLimited (.code y_P_isLimited b_P_isLimited 1 ((some .boolean)) :: GW) ({ frames := 0, cells := 0, slots := 0, locals := 0 }) (prR g [.ref a] w) (vp_Si (fun r => r = b2 (isLim am lm))) 0 0 (fun _ => False) := by
  refine Met.ofW (cc := b_P_isLimited) (maxL := 1) (ret := (some .boolean)) (by decide) rfl ?_
  intro p e s m args below meth c s₁ B hml hv
  obtain ⟨rfl, hG, hw⟩ := hv
  have hx := B.exec
  have hb := B.bytes
  have hr := B.returns
  have hts : ∀ w ∈ GW, w.before _ s = true := fun w h => atoms_spec (ws := .code y_P_isLimited b_P_isLimited 1 ((some .boolean)) :: GW) B.pre w (List.mem_cons_of_mem _ h)
  have hown : s.vm.findClass "DangerTables$Part" = some m.cls := findClass_of_methodNamed B.named
  have hlocks := B.notSynchronized
  have hf := hG.here
  have hK := hf.1
  have hAB : ∀ q, gB g q → gB g q := fun _ h => h
  have hS : va_S (gB g) s.heap s.heap [] := va_S.rf
  have hl := lv_entry ([.ref a]) (n := 1) (Nat.le_of_ble_eq_true rfl)
  rw [lg_entry_eq]
  generalize (lg_sl ([.ref a]) ++ List.replicate (1 - (lg_sl ([.ref a])).length) Slot.unset).toArray = ls at hl ⊢
  have hl : lv_has ls 1 [(0, .ref a)] := hl
  refine lv_aload_n hx hb d_P_isLimited_0 rfl (lv_at hl 0 rfl) ?_
  refine ww_get (v := .int am) (C := R_P) (T := F_P) (N := 3) (ci := 3) hx hb hts i_P hown hK hw hp rfl 2 (by decide) (hts _ k_453) (fun _ h9 => h9) rfl d_P_isLimited_1 ?_
  refine lv_aload_n hx hb d_P_isLimited_4 rfl (lv_at hl 0 rfl) ?_
  refine ww_get (v := .ref ga) (C := R_P) (T := F_P) (N := 3) (ci := 3) hx hb hts i_P hown hK hw hp rfl 0 (by decide) (hts _ k_448) (fun _ h9 => h9) rfl d_P_isLimited_5 ?_
  refine ww_getN (v := .int lm) (C := R_G) (T := F_G) (N := 5) (ci := 2) hx hb hts i_G hown hK hw he rfl 2 (by decide) (va_Nw.use rfl (hf.2.1 _ x_328)) (fun _ h9 => h9) rfl d_P_isLimited_8 ?_
  refine lv_icmp_gt (tgt := 18) hx hb d_P_isLimited_11 (by decide) (fun c_1 => ?_) (fun c_1 => ?_)
  · refine lv_iconst (v := 0) hx hb d_P_isLimited_18 (by decide) ?_
    exact W.zret (v := 0) (ty := .boolean) hx hb hr rfl (fun t ht hW => ⟨0, rfl, (by first | (simp [b2, isLim, c_1]; done) | (clear hts hown B; simp_all [b2, isLim]; done)), ht⟩) t_nil d_P_isLimited_19
  · refine lv_iconst (v := 1) hx hb d_P_isLimited_14 (by decide) ?_
    refine lv_goto (tgt := 19) hx hb d_P_isLimited_15 (by decide) ?_
    exact W.zret (v := 1) (ty := .boolean) hx hb hr rfl (fun t ht hW => ⟨1, rfl, (by first | (simp [b2, isLim, c_1]; done) | (clear hts hown B; simp_all [b2, isLim]; done)), ht⟩) t_nil d_P_isLimited_19

set_option maxHeartbeats 4000000 in
set_option maxRecDepth 100000 in
theorem c_P_wantedFields (l : Launch) (g : GT) (w : Nat → Option va_E) (a ga : Nat) (nu am : Int32) (cl sd lm fl : Int32) (x : Int64) (hp : w a = some (cP ga nu am)) (he : w ga = some (cG cl sd lm fl x)) : Met l y_P_wantedFields (.code y_P_wantedFields b_P_wantedFields 1 ((some .int)) :: GW) ({ frames := 1, cells := 0, slots := 0, locals := 20 }) (prR g [.ref a] w) (vp_Si (fun r => r = wantP am lm fl)) 0 0 (fun _ => False) := by
  refine Met.ofW (cc := b_P_wantedFields) (maxL := 1) (ret := (some .int)) (by decide) rfl ?_
  intro p e s m args below meth c s₁ B hml hv
  obtain ⟨rfl, hG, hw⟩ := hv
  have hx := B.exec
  have hb := B.bytes
  have hr := B.returns
  have hts : ∀ w ∈ GW, w.before _ s = true := fun w h => atoms_spec (ws := .code y_P_wantedFields b_P_wantedFields 1 ((some .int)) :: GW) B.pre w (List.mem_cons_of_mem _ h)
  have hown : s.vm.findClass "DangerTables$Part" = some m.cls := findClass_of_methodNamed B.named
  have hlocks := B.notSynchronized
  have hf := hG.here
  have hK := hf.1
  have hAB : ∀ q, gB g q → gB g q := fun _ h => h
  have hS : va_S (gB g) s.heap s.heap [] := va_S.rf
  have hl := lv_entry ([.ref a]) (n := 1) (Nat.le_of_ble_eq_true rfl)
  rw [lg_entry_eq]
  generalize (lg_sl ([.ref a]) ++ List.replicate (1 - (lg_sl ([.ref a])).length) Slot.unset).toArray = ls at hl ⊢
  have hl : lv_has ls 1 [(0, .ref a)] := hl
  refine lv_aload_n hx hb d_P_wantedFields_0 rfl (lv_at hl 0 rfl) ?_
  refine wr_i (cV (As := []) (rest := []) (C := "DangerTables$Part") 0 ⟨hx, hb, hml, hown, hts⟩ (c_P_isLimited l g w a ga nu am cl sd lm fl x hp he) k_513 k_569 k_20 k_511 k_512 (by decide +kernel) ⟨Nat.le_of_ble_eq_true rfl, Nat.le_of_ble_eq_true rfl⟩ rfl rfl ⟨prR_blind _ _ _, hw.recv hK hp rfl, prR_at hG hAB hS hw⟩ rfl hl.1 rfl (Nat.le_of_ble_eq_true rfl) d_P_wantedFields_1 ⟨Nat.zero_le _, Nat.zero_le _⟩) (fun r_1 e_1 => ?_)
  refine lv_if_eq (tgt := 17) hx hb d_P_wantedFields_4 (by decide) (fun c_2 => ?_) (fun c_2 => ?_)
  · have q_2 := b2_f e_1 c_2
    refine lv_aload_n hx hb d_P_wantedFields_17 rfl (lv_at hl 0 rfl) ?_
    refine ww_get (v := .ref ga) (C := R_P) (T := F_P) (N := 3) (ci := 3) hx hb hts i_P hown hK hw hp rfl 0 (by decide) (hts _ k_448) (fun _ h9 => h9) rfl d_P_wantedFields_18 ?_
    refine ww_getN (v := .int fl) (C := R_G) (T := F_G) (N := 5) (ci := 2) hx hb hts i_G hown hK hw he rfl 3 (by decide) (va_Nw.use rfl (hf.2.1 _ x_330)) (fun _ h9 => h9) rfl d_P_wantedFields_21 ?_
    refine lv_bipush (v := 16) hx hb d_P_wantedFields_24 (by decide) ?_
    refine lv_ior hx hb d_P_wantedFields_26 ?_
    refine lv_topi (fun v_3 e_3 => ?_)
    exact W.iret (v := v_3) hx hb hr (fun t ht hW => ⟨v_3, rfl, (by first | (simp [b2, wantP, e_1, c_2, q_2, e_3]; done) | (clear hts hown B; simp_all [b2, wantP]; done)), ht⟩) t_nil d_P_wantedFields_27
  · have q_2 := b2_t e_1 c_2
    refine lv_aload_n hx hb d_P_wantedFields_7 rfl (lv_at hl 0 rfl) ?_
    refine ww_get (v := .ref ga) (C := R_P) (T := F_P) (N := 3) (ci := 3) hx hb hts i_P hown hK hw hp rfl 0 (by decide) (hts _ k_448) (fun _ h9 => h9) rfl d_P_wantedFields_8 ?_
    refine ww_getN (v := .int fl) (C := R_G) (T := F_G) (N := 5) (ci := 2) hx hb hts i_G hown hK hw he rfl 3 (by decide) (va_Nw.use rfl (hf.2.1 _ x_330)) (fun _ h9 => h9) rfl d_P_wantedFields_11 ?_
    refine lv_goto (tgt := 27) hx hb d_P_wantedFields_14 (by decide) ?_
    exact W.iret (v := fl) hx hb hr (fun t ht hW => ⟨fl, rfl, (by first | (simp [b2, wantP, e_1, c_2, q_2]; done) | (clear hts hown B; simp_all [b2, wantP]; done)), ht⟩) t_nil d_P_wantedFields_27

set_option maxHeartbeats 4000000 in
set_option maxRecDepth 100000 in
theorem c_X_lies (l : Launch) (g : GT) (w : Nat → Option va_E) (a pl : Nat) (z bx by_ t : Int32) (hx0 : w a = some (cX pl z bx by_ t)) : Met l y_X_lies (.code y_X_lies b_X_lies 1 ((some .boolean)) :: GW) ({ frames := 0, cells := 0, slots := 0, locals := 0 }) (prR g [.ref a] w) (vp_Si (fun r => r = b2 (!decide (z = -1)))) 0 0 (fun _ => False) := by
  refine Met.ofW (cc := b_X_lies) (maxL := 1) (ret := (some .boolean)) (by decide) rfl ?_
  intro p e s m args below meth c s₁ B hml hv
  obtain ⟨rfl, hG, hw⟩ := hv
  have hx := B.exec
  have hb := B.bytes
  have hr := B.returns
  have hts : ∀ w ∈ GW, w.before _ s = true := fun w h => atoms_spec (ws := .code y_X_lies b_X_lies 1 ((some .boolean)) :: GW) B.pre w (List.mem_cons_of_mem _ h)
  have hown : s.vm.findClass "DangerTables$Box" = some m.cls := findClass_of_methodNamed B.named
  have hlocks := B.notSynchronized
  have hf := hG.here
  have hK := hf.1
  have hAB : ∀ q, gB g q → gB g q := fun _ h => h
  have hS : va_S (gB g) s.heap s.heap [] := va_S.rf
  have hl := lv_entry ([.ref a]) (n := 1) (Nat.le_of_ble_eq_true rfl)
  rw [lg_entry_eq]
  generalize (lg_sl ([.ref a]) ++ List.replicate (1 - (lg_sl ([.ref a])).length) Slot.unset).toArray = ls at hl ⊢
  have hl : lv_has ls 1 [(0, .ref a)] := hl
  refine lv_aload_n hx hb d_X_lies_0 rfl (lv_at hl 0 rfl) ?_
  refine ww_get (v := .int z) (C := R_X) (T := F_X) (N := 5) (ci := 1) hx hb hts i_X hown hK hw hx0 rfl 1 (by decide) (hts _ k_419) (fun _ h9 => h9) rfl d_X_lies_1 ?_
  refine lv_iconst (v := -1) hx hb d_X_lies_4 (by decide) ?_
  refine lv_icmp_eq (tgt := 12) hx hb d_X_lies_5 (by decide) (fun c_1 => ?_) (fun c_1 => ?_)
  · refine lv_iconst (v := 0) hx hb d_X_lies_12 (by decide) ?_
    exact W.zret (v := 0) (ty := .boolean) hx hb hr rfl (fun t ht hW => ⟨0, rfl, (by first | (simp [b2, c_1]; done) | (clear hts hown B; simp_all [b2]; done)), ht⟩) t_nil d_X_lies_13
  · refine lv_iconst (v := 1) hx hb d_X_lies_8 (by decide) ?_
    refine lv_goto (tgt := 13) hx hb d_X_lies_9 (by decide) ?_
    exact W.zret (v := 1) (ty := .boolean) hx hb hr rfl (fun t ht hW => ⟨1, rfl, (by first | (simp [b2, c_1]; done) | (clear hts hown B; simp_all [b2]; done)), ht⟩) t_nil d_X_lies_13

set_option maxHeartbeats 4000000 in
set_option maxRecDepth 100000 in
theorem c_X_partCount (l : Launch) (g : GT) (w : Nat → Option va_E) (a pl : Nat) (z bx by_ t : Int32) (mc n : Int32) (arr : Nat) (hx0 : w a = some (cX pl z bx by_ t)) (he : w pl = some (cL mc arr n)) : Met l y_X_partCount (.code y_X_partCount b_X_partCount 1 ((some .int)) :: GW) ({ frames := 1, cells := 0, slots := 0, locals := 20 }) (prR g [.ref a] w) (vp_Si (fun r => r = n)) 0 0 (fun _ => False) := by
  refine Met.ofW (cc := b_X_partCount) (maxL := 1) (ret := (some .int)) (by decide) rfl ?_
  intro p e s m args below meth c s₁ B hml hv
  obtain ⟨rfl, hG, hw⟩ := hv
  have hx := B.exec
  have hb := B.bytes
  have hr := B.returns
  have hts : ∀ w ∈ GW, w.before _ s = true := fun w h => atoms_spec (ws := .code y_X_partCount b_X_partCount 1 ((some .int)) :: GW) B.pre w (List.mem_cons_of_mem _ h)
  have hown : s.vm.findClass "DangerTables$Box" = some m.cls := findClass_of_methodNamed B.named
  have hlocks := B.notSynchronized
  have hf := hG.here
  have hK := hf.1
  have hAB : ∀ q, gB g q → gB g q := fun _ h => h
  have hS : va_S (gB g) s.heap s.heap [] := va_S.rf
  have hl := lv_entry ([.ref a]) (n := 1) (Nat.le_of_ble_eq_true rfl)
  rw [lg_entry_eq]
  generalize (lg_sl ([.ref a]) ++ List.replicate (1 - (lg_sl ([.ref a])).length) Slot.unset).toArray = ls at hl ⊢
  have hl : lv_has ls 1 [(0, .ref a)] := hl
  refine lv_aload_n hx hb d_X_partCount_0 rfl (lv_at hl 0 rfl) ?_
  refine ww_get (v := .ref pl) (C := R_X) (T := F_X) (N := 5) (ci := 1) hx hb hts i_X hown hK hw hx0 rfl 0 (by decide) (hts _ k_417) (fun _ h9 => h9) rfl d_X_partCount_1 ?_
  refine wr_i (cV (As := []) (rest := []) (C := "java/util/ArrayList") 0 ⟨hx, hb, hml, hown, hts⟩ (c_AL_size l g w pl arr mc n he) k_152 k_475 k_6 k_150 k_151 (by decide +kernel) ⟨Nat.le_of_ble_eq_true rfl, Nat.le_of_ble_eq_true rfl⟩ rfl rfl ⟨prR_blind _ _ _, hw.recv hK he rfl, prR_at hG hAB hS hw⟩ rfl hl.1 rfl (Nat.le_of_ble_eq_true rfl) d_X_partCount_4 ⟨Nat.zero_le _, Nat.zero_le _⟩) (fun r_1 e_1 => ?_)
  exact W.iret (v := r_1) hx hb hr (fun t ht hW => ⟨r_1, rfl, e_1, ht⟩) t_nil d_X_partCount_7

set_option maxHeartbeats 4000000 in
set_option maxRecDepth 100000 in
theorem c_X_distanceTo (l : Launch) (g : GT) (w : Nat → Option va_E) (a pl : Nat) (z bx by_ t : Int32) (u v : Int32) (hx0 : w a = some (cX pl z bx by_ t)) : Met l y_X_distanceTo (.code y_X_distanceTo b_X_distanceTo 3 ((some .int)) :: GW) ({ frames := 1, cells := 0, slots := 0, locals := 15 }) (prR g [.ref a, .int u, .int v] w) (vp_Si (fun r => r = absI (bx - u) + absI (by_ - v))) 0 0 (fun _ => False) := by
  refine Met.ofW (cc := b_X_distanceTo) (maxL := 3) (ret := (some .int)) (by decide) rfl ?_
  intro p e s m args below meth c s₁ B hml hv
  obtain ⟨rfl, hG, hw⟩ := hv
  have hx := B.exec
  have hb := B.bytes
  have hr := B.returns
  have hts : ∀ w ∈ GW, w.before _ s = true := fun w h => atoms_spec (ws := .code y_X_distanceTo b_X_distanceTo 3 ((some .int)) :: GW) B.pre w (List.mem_cons_of_mem _ h)
  have hown : s.vm.findClass "DangerTables$Box" = some m.cls := findClass_of_methodNamed B.named
  have hlocks := B.notSynchronized
  have hf := hG.here
  have hK := hf.1
  have hAB : ∀ q, gB g q → gB g q := fun _ h => h
  have hS : va_S (gB g) s.heap s.heap [] := va_S.rf
  have hl := lv_entry ([.ref a, .int u, .int v]) (n := 3) (Nat.le_of_ble_eq_true rfl)
  rw [lg_entry_eq]
  generalize (lg_sl ([.ref a, .int u, .int v]) ++ List.replicate (3 - (lg_sl ([.ref a, .int u, .int v])).length) Slot.unset).toArray = ls at hl ⊢
  have hl : lv_has ls 3 [(0, .ref a), (1, .int u), (2, .int v)] := hl
  refine lv_aload_n hx hb d_X_distanceTo_0 rfl (lv_at hl 0 rfl) ?_
  refine ww_get (v := .int bx) (C := R_X) (T := F_X) (N := 5) (ci := 1) hx hb hts i_X hown hK hw hx0 rfl 2 (by decide) (hts _ k_421) (fun _ h9 => h9) rfl d_X_distanceTo_1 ?_
  refine lv_iload_n hx hb d_X_distanceTo_4 rfl (lv_at hl 1 rfl) ?_
  refine lv_isub hx hb d_X_distanceTo_5 ?_
  refine lv_topi (fun v_1 e_1 => ?_)
  refine va_mabs hx hb (hml.trans hl.1.symm) hown (hts _ k_586) (hts _ k_587) (hts _ k_16) (hts _ k_588) (Nat.le_of_ble_eq_true rfl) (Nat.le_of_ble_eq_true rfl) (Nat.zero_le _) (Nat.zero_le _) d_X_distanceTo_6 ?_
  refine lv_topi (fun v_2 e_2 => ?_)
  refine lv_aload_n hx hb d_X_distanceTo_9 rfl (lv_at hl 0 rfl) ?_
  refine ww_get (v := .int by_) (C := R_X) (T := F_X) (N := 5) (ci := 1) hx hb hts i_X hown hK hw hx0 rfl 3 (by decide) (hts _ k_423) (fun _ h9 => h9) rfl d_X_distanceTo_10 ?_
  refine lv_iload_n hx hb d_X_distanceTo_13 rfl (lv_at hl 2 rfl) ?_
  refine lv_isub hx hb d_X_distanceTo_14 ?_
  refine lv_topi (fun v_3 e_3 => ?_)
  refine va_mabs hx hb (hml.trans hl.1.symm) hown (hts _ k_586) (hts _ k_587) (hts _ k_16) (hts _ k_588) (Nat.le_of_ble_eq_true rfl) (Nat.le_of_ble_eq_true rfl) (Nat.zero_le _) (Nat.zero_le _) d_X_distanceTo_15 ?_
  refine lv_topi (fun v_4 e_4 => ?_)
  refine lv_iadd hx hb d_X_distanceTo_18 ?_
  refine lv_topi (fun v_5 e_5 => ?_)
  exact W.iret (v := v_5) hx hb hr (fun t ht hW => ⟨v_5, rfl, (by simp only [absI, e_1, e_2, e_3, e_4, e_5]), ht⟩) t_nil d_X_distanceTo_19
end
section
/-! LISTS, PARTS AND BOXES as pictures; the loops over a box's parts -/
def isL (g : GT) (w : Nat → Option va_E) (a arr : Nat) (xs : List Nat) : Prop := ∃ (mc : Int32) (cap : Nat) (f : Nat → Option Nat), w a = some (cL mc arr (nI xs.length)) ∧ xs.length ≤ cap ∧ cap < 1000 ∧ (∀ i q : Nat, xs[i]? = some q → f i = some q) ∧ (w arr = some (cO g cap f) ∨ (xs = [] ∧ arr = g.2.2 1))
/-- a good in a box: class, side, limit, fields, exempt pairs, number, amount -/
abbrev PR : Type := Int32 × Int32 × Int32 × Int32 × Int64 × Int32 × Int32
def isPt (w : Nat → Option va_E) (q : Nat) (r : PR) : Prop := ∃ ga : Nat, w q = some (cP ga r.2.2.2.2.2.1 r.2.2.2.2.2.2) ∧ w ga = some (cG r.1 r.2.1 r.2.2.1 r.2.2.2.1 r.2.2.2.2.1)
def isPs (w : Nat → Option va_E) (ps : List Nat) (rs : List PR) : Prop := ps.length = rs.length ∧ ∀ i q : Nat, ps[i]? = some q → ∃ r, rs[i]? = some r ∧ isPt w q r
/-- a box: its goods, zone, x, y, fields told -/
abbrev BX : Type := List PR × Int32 × Int32 × Int32 × Int32
def isBx (g : GT) (w : Nat → Option va_E) (a : Nat) (b : BX) : Prop := ∃ (pl parr : Nat) (ps : List Nat), w a = some (cX pl b.2.1 b.2.2.1 b.2.2.2.1 b.2.2.2.2) ∧ isL g w pl parr ps ∧ isPs w ps b.1
theorem dr_c {α : Type} {l : List α} {i : Nat} {r : α} (h : l[i]? = some r) : l.drop i = r :: l.drop (i + 1) := by
  obtain ⟨hi, rfl⟩ := List.getElem?_eq_some_iff.mp h
  exact List.drop_eq_getElem_cons hi
theorem dr_n {α : Type} {l : List α} {i : Nat} (h : l.length ≤ i) : l.drop i = [] := List.drop_eq_nil_of_le h
theorem lp_ge {r : Int32} {i n : Nat} (e : r = nI n) (c : r ≤ nI i) (hn : n < 2 ^ 31) (hi : i < 2 ^ 31) : n ≤ i := (nI_leI hn hi).mp (e ▸ c)
theorem lp_lt {r : Int32} {i n : Nat} (e : r = nI n) (c : ¬ r ≤ nI i) (hn : n < 2 ^ 31) (hi : i < 2 ^ 31) : i < n := by
  rcases Nat.lt_or_ge i n with h | h
  · exact h
  · exact absurd (e ▸ (nI_leI hn hi).mpr h) c
def kgF (a : Int32) (r : PR) : Int32 := a + r.2.2.2.2.2.2
def kgB (rs : List PR) : Int32 := rs.foldl kgF 0
def kcF (v : Int32) (a : Int32) (r : PR) : Int32 := if hasC r.1 r.2.1 v = true then a + r.2.2.2.2.2.2 else a
def kcB (rs : List PR) (v : Int32) : Int32 := rs.foldl (kcF v) 0
def lmF (a : Int32) (r : PR) : Int32 := if isLim r.2.2.2.2.2.2 r.2.2.1 = true then a + 1 else a
def lmB (rs : List PR) : Int32 := rs.foldl lmF 0
def wtF (a : Int32) (r : PR) : Int32 := a ||| wantP r.2.2.2.2.2.2 r.2.2.1 r.2.2.2.1
def wtB (rs : List PR) : Int32 := rs.foldl wtF 0
def hsB (rs : List PR) (v : Int32) : Bool := rs.any (fun r => decide (r.2.2.2.2.2.1 = v))
set_option maxHeartbeats 4000000 in
set_option maxRecDepth 100000 in
theorem c_X_kilograms (l : Launch) (g : GT) (w : Nat → Option va_E) (a : Nat) (b : BX) (hB : isBx g w a b) : Met l y_X_kilograms (.code y_X_kilograms b_X_kilograms 3 ((some .int)) :: GW) ({ frames := 3, cells := 0, slots := 0, locals := 64 }) (prR g [.ref a] w) (vp_Si (fun r => r = kgB b.1)) 0 0 (fun _ => False) := by
  refine Met.ofW (cc := b_X_kilograms) (maxL := 3) (ret := (some .int)) (by decide) rfl ?_
  intro p e s m args below meth c s₁ B hml hv
  obtain ⟨rfl, hG, hw⟩ := hv
  have hx := B.exec
  have hb := B.bytes
  have hr := B.returns
  have hts : ∀ w ∈ GW, w.before _ s = true := fun w h => atoms_spec (ws := .code y_X_kilograms b_X_kilograms 3 ((some .int)) :: GW) B.pre w (List.mem_cons_of_mem _ h)
  have hown : s.vm.findClass "DangerTables$Box" = some m.cls := findClass_of_methodNamed B.named
  have hlocks := B.notSynchronized
  have hf := hG.here
  have hK := hf.1
  have hAB : ∀ q, gB g q → gB g q := fun _ h => h
  have hS : va_S (gB g) s.heap s.heap [] := va_S.rf
  have hl := lv_entry ([.ref a]) (n := 3) (Nat.le_of_ble_eq_true rfl)
  rw [lg_entry_eq]
  generalize (lg_sl ([.ref a]) ++ List.replicate (3 - (lg_sl ([.ref a])).length) Slot.unset).toArray = ls at hl ⊢
  have hl : lv_has ls 3 [(0, .ref a)] := hl
  obtain ⟨pl, arr, ps, hx0, ⟨mc, cap, f, he, hcap, hc, hfi, hor⟩, hlen, hps⟩ := hB
  refine lv_iconst (v := 0) hx hb d_X_kilograms_0 (by decide) ?_
  refine lv_istore_n (lv' := [(1, .int 0), (0, .ref a)]) hx hb d_X_kilograms_1 rfl hl (by decide) rfl (fun ls hl => ?_)
  refine lv_iconst (v := 0) hx hb d_X_kilograms_2 (by decide) ?_
  refine lv_istore_n (lv' := [(2, .int 0), (1, .int 0), (0, .ref a)]) hx hb d_X_kilograms_3 rfl hl (by decide) rfl (fun ls hl => ?_)
  have loop_4 : ∀ (k i : Nat) (acc : Int32) (ls : Array Slot), i ≤ ps.length → ps.length < i + k → kgB b.1 = (b.1.drop i).foldl kgF acc → lv_has ls 3 [(0, .ref a), (1, .int acc), (2, .int (nI i))] → W p l e (headSpec (.code y_X_kilograms b_X_kilograms 3 ((some .int)) :: GW) ({ frames := 3, cells := 0, slots := 0, locals := 64 })).room s m (#[.ref a] : Array Value) below meth c s.heap [] 0 0 (MQ below (vp_Si (fun r => r = kgB b.1)) (#[.ref a] : Array Value) s 0 0 (fun _ => False)) (F0 m 4 ls []) := by
    intro k
    induction k with
    | zero =>
      intro i acc ls h1_4 h2_4
      exact absurd h2_4 (by omega)
    | succ k ih_4 =>
      intro i acc ls h1_4 h2_4 hI_4 hl
      refine lv_iload_n hx hb d_X_kilograms_4 rfl (lv_at hl 2 rfl) ?_
      refine lv_aload_n hx hb d_X_kilograms_5 rfl (lv_at hl 0 rfl) ?_
      refine ww_get (v := .ref pl) (C := R_X) (T := F_X) (N := 5) (ci := 1) hx hb hts i_X hown hK hw hx0 rfl 0 (by decide) (hts _ k_417) (fun _ h9 => h9) rfl d_X_kilograms_6 ?_
      refine wr_i (cV (As := []) (rest := [.int (nI i)]) (C := "java/util/ArrayList") 0 ⟨hx, hb, hml, hown, hts⟩ (c_AL_size l g w pl arr mc (nI ps.length) he) k_152 k_475 k_6 k_150 k_151 (by decide +kernel) ⟨Nat.le_of_ble_eq_true rfl, Nat.le_of_ble_eq_true rfl⟩ rfl rfl ⟨prR_blind _ _ _, hw.recv hK he rfl, prR_at hG hAB hS hw⟩ rfl hl.1 rfl (Nat.le_of_ble_eq_true rfl) d_X_kilograms_9 ⟨Nat.zero_le _, Nat.zero_le _⟩) (fun r_1 e_1 => ?_)
      refine lv_icmp_ge (tgt := 38) hx hb d_X_kilograms_12 (by decide) (fun c_2 => ?_) (fun c_2 => ?_)
      · have hge : ps.length ≤ i := lp_ge e_1 c_2 (by omega) (by omega)
        have hdr : b.1.drop i = [] := dr_n (by omega)
        refine lv_iload_n hx hb d_X_kilograms_38 rfl (lv_at hl 1 rfl) ?_
        exact W.iret (v := acc) hx hb hr (fun t ht hW => ⟨acc, rfl, (by rw [hI_4, hdr]; rfl), ht⟩) t_nil d_X_kilograms_39
      · have hlt : i < ps.length := lp_lt e_1 c_2 (by omega) (by omega)
        obtain ⟨q, hq0⟩ : ∃ q, ps[i]? = some q := ⟨_, List.getElem?_eq_getElem hlt⟩
        have hq := hfi i q hq0
        have ha := hor.resolve_right (fun z => by rw [z.1] at hlt; exact absurd hlt (Nat.not_lt_zero _))
        obtain ⟨⟨cl, sd, lm, fl, x, nu, am⟩, hr0, ga, hp, hg⟩ := hps i q hq0
        have hdr := dr_c hr0
        refine lv_iload_n hx hb d_X_kilograms_15 rfl (lv_at hl 1 rfl) ?_
        refine lv_aload_n hx hb d_X_kilograms_16 rfl (lv_at hl 0 rfl) ?_
        refine ww_get (v := .ref pl) (C := R_X) (T := F_X) (N := 5) (ci := 1) hx hb hts i_X hown hK hw hx0 rfl 0 (by decide) (hts _ k_417) (fun _ h9 => h9) rfl d_X_kilograms_17 ?_
        refine lv_iload_n hx hb d_X_kilograms_20 rfl (lv_at hl 2 rfl) ?_
        refine wr_q (cV (As := [.int (nI i)]) (rest := [.int acc]) (C := "java/util/ArrayList") 1 ⟨hx, hb, hml, hown, hts⟩ (c_AL_get l g w pl arr ps.length cap i q mc f he ha hcap (by omega) hlt hq) k_157 k_476 k_6 k_155 k_156 (by decide +kernel) ⟨Nat.le_of_ble_eq_true rfl, Nat.le_of_ble_eq_true rfl⟩ rfl rfl ⟨prR_blind _ _ _, hw.recv hK he rfl, prR_at hG hAB hS hw⟩ rfl hl.1 rfl (Nat.le_of_ble_eq_true rfl) d_X_kilograms_21 ⟨Nat.zero_le _, Nat.zero_le _⟩) (fun r_3 e_3 => ?_)
        subst e_3
        refine va_castY (C := "DangerTables$Part") hx hb hown (hts _ k_442) (hf.2.1 _ x_872) (hw.recv hK hp rfl) d_X_kilograms_24 ?_
        refine ww_getN (v := .int am) (C := R_P) (T := F_P) (N := 3) (ci := 3) hx hb hts i_P hown hK hw hp rfl 2 (by decide) (va_Nw.use rfl (hf.2.1 _ x_454)) (fun _ h9 => h9) rfl d_X_kilograms_27 ?_
        refine lv_iadd hx hb d_X_kilograms_30 ?_
        refine lv_topi (fun v_4 e_4 => ?_)
        refine lv_istore_n (lv' := [(1, .int v_4), (0, .ref a), (2, .int (nI i))]) hx hb d_X_kilograms_31 rfl hl (by decide) rfl (fun ls hl => ?_)
        refine lv_iinc (v := (nI (i + 1))) (lv' := [(2, .int (nI (i + 1))), (1, .int v_4), (0, .ref a)]) hx hb d_X_kilograms_32 hl (k := 2) rfl (nI_1 _) (by decide) rfl (fun ls hl => ?_)
        refine lv_goto (tgt := 4) hx hb d_X_kilograms_35 (by decide) ?_
        exact ih_4 (i + 1) v_4 ls (by omega) (by omega) (by rw [hI_4, hdr, e_4]; rfl) (lv_sub hl [2, 1, 0] rfl)
  exact loop_4 (ps.length + 1) 0 0 ls (by omega) (by omega) rfl (lv_sub hl [2, 1, 0] rfl)

set_option maxHeartbeats 4000000 in
set_option maxRecDepth 100000 in
theorem c_X_kilogramsOf (l : Launch) (g : GT) (w : Nat → Option va_E) (a : Nat) (b : BX) (v : Int32) (hB : isBx g w a b) : Met l y_X_kilogramsOf (.code y_X_kilogramsOf b_X_kilogramsOf 5 ((some .int)) :: GW) ({ frames := 3, cells := 0, slots := 0, locals := 64 }) (prR g [.ref a, .int v] w) (vp_Si (fun r => r = kcB b.1 v)) 0 0 (fun _ => False) := by
  refine Met.ofW (cc := b_X_kilogramsOf) (maxL := 5) (ret := (some .int)) (by decide) rfl ?_
  intro p e s m args below meth c s₁ B hml hv
  obtain ⟨rfl, hG, hw⟩ := hv
  have hx := B.exec
  have hb := B.bytes
  have hr := B.returns
  have hts : ∀ w ∈ GW, w.before _ s = true := fun w h => atoms_spec (ws := .code y_X_kilogramsOf b_X_kilogramsOf 5 ((some .int)) :: GW) B.pre w (List.mem_cons_of_mem _ h)
  have hown : s.vm.findClass "DangerTables$Box" = some m.cls := findClass_of_methodNamed B.named
  have hlocks := B.notSynchronized
  have hf := hG.here
  have hK := hf.1
  have hAB : ∀ q, gB g q → gB g q := fun _ h => h
  have hS : va_S (gB g) s.heap s.heap [] := va_S.rf
  have hl := lv_entry ([.ref a, .int v]) (n := 5) (Nat.le_of_ble_eq_true rfl)
  rw [lg_entry_eq]
  generalize (lg_sl ([.ref a, .int v]) ++ List.replicate (5 - (lg_sl ([.ref a, .int v])).length) Slot.unset).toArray = ls at hl ⊢
  have hl : lv_has ls 5 [(0, .ref a), (1, .int v)] := hl
  obtain ⟨pl, arr, ps, hx0, ⟨mc, cap, f, he, hcap, hc, hfi, hor⟩, hlen, hps⟩ := hB
  refine lv_iconst (v := 0) hx hb d_X_kilogramsOf_0 (by decide) ?_
  refine lv_istore_n (lv' := [(2, .int 0), (0, .ref a), (1, .int v)]) hx hb d_X_kilogramsOf_1 rfl hl (by decide) rfl (fun ls hl => ?_)
  refine lv_iconst (v := 0) hx hb d_X_kilogramsOf_2 (by decide) ?_
  refine lv_istore_n (lv' := [(3, .int 0), (2, .int 0), (0, .ref a), (1, .int v)]) hx hb d_X_kilogramsOf_3 rfl hl (by decide) rfl (fun ls hl => ?_)
  have loop_4 : ∀ (k i : Nat) (acc : Int32) (ls : Array Slot), i ≤ ps.length → ps.length < i + k → kcB b.1 v = (b.1.drop i).foldl (kcF v) acc → lv_has ls 5 [(0, .ref a), (1, .int v), (2, .int acc), (3, .int (nI i))] → W p l e (headSpec (.code y_X_kilogramsOf b_X_kilogramsOf 5 ((some .int)) :: GW) ({ frames := 3, cells := 0, slots := 0, locals := 64 })).room s m (#[.ref a, .int v] : Array Value) below meth c s.heap [] 0 0 (MQ below (vp_Si (fun r => r = kcB b.1 v)) (#[.ref a, .int v] : Array Value) s 0 0 (fun _ => False)) (F0 m 4 ls []) := by
    intro k
    induction k with
    | zero =>
      intro i acc ls h1_4 h2_4
      exact absurd h2_4 (by omega)
    | succ k ih_4 =>
      intro i acc ls h1_4 h2_4 hI_4 hl
      refine lv_iload_n hx hb d_X_kilogramsOf_4 rfl (lv_at hl 3 rfl) ?_
      refine lv_aload_n hx hb d_X_kilogramsOf_5 rfl (lv_at hl 0 rfl) ?_
      refine ww_get (v := .ref pl) (C := R_X) (T := F_X) (N := 5) (ci := 1) hx hb hts i_X hown hK hw hx0 rfl 0 (by decide) (hts _ k_417) (fun _ h9 => h9) rfl d_X_kilogramsOf_6 ?_
      refine wr_i (cV (As := []) (rest := [.int (nI i)]) (C := "java/util/ArrayList") 0 ⟨hx, hb, hml, hown, hts⟩ (c_AL_size l g w pl arr mc (nI ps.length) he) k_152 k_475 k_6 k_150 k_151 (by decide +kernel) ⟨Nat.le_of_ble_eq_true rfl, Nat.le_of_ble_eq_true rfl⟩ rfl rfl ⟨prR_blind _ _ _, hw.recv hK he rfl, prR_at hG hAB hS hw⟩ rfl hl.1 rfl (Nat.le_of_ble_eq_true rfl) d_X_kilogramsOf_9 ⟨Nat.zero_le _, Nat.zero_le _⟩) (fun r_1 e_1 => ?_)
      refine lv_icmp_ge (tgt := 54) hx hb d_X_kilogramsOf_12 (by decide) (fun c_2 => ?_) (fun c_2 => ?_)
      · have hge : ps.length ≤ i := lp_ge e_1 c_2 (by omega) (by omega)
        have hdr : b.1.drop i = [] := dr_n (by omega)
        refine lv_iload_n hx hb d_X_kilogramsOf_54 rfl (lv_at hl 2 rfl) ?_
        exact W.iret (v := acc) hx hb hr (fun t ht hW => ⟨acc, rfl, (by rw [hI_4, hdr]; rfl), ht⟩) t_nil d_X_kilogramsOf_55
      · have hlt : i < ps.length := lp_lt e_1 c_2 (by omega) (by omega)
        obtain ⟨q, hq0⟩ : ∃ q, ps[i]? = some q := ⟨_, List.getElem?_eq_getElem hlt⟩
        have hq := hfi i q hq0
        have ha := hor.resolve_right (fun z => by rw [z.1] at hlt; exact absurd hlt (Nat.not_lt_zero _))
        obtain ⟨⟨cl, sd, lm, fl, x, nu, am⟩, hr0, ga, hp, hg⟩ := hps i q hq0
        have hdr := dr_c hr0
        refine lv_aload_n hx hb d_X_kilogramsOf_15 rfl (lv_at hl 0 rfl) ?_
        refine ww_get (v := .ref pl) (C := R_X) (T := F_X) (N := 5) (ci := 1) hx hb hts i_X hown hK hw hx0 rfl 0 (by decide) (hts _ k_417) (fun _ h9 => h9) rfl d_X_kilogramsOf_16 ?_
        refine lv_iload_n hx hb d_X_kilogramsOf_19 rfl (lv_at hl 3 rfl) ?_
        refine wr_q (cV (As := [.int (nI i)]) (rest := []) (C := "java/util/ArrayList") 1 ⟨hx, hb, hml, hown, hts⟩ (c_AL_get l g w pl arr ps.length cap i q mc f he ha hcap (by omega) hlt hq) k_157 k_476 k_6 k_155 k_156 (by decide +kernel) ⟨Nat.le_of_ble_eq_true rfl, Nat.le_of_ble_eq_true rfl⟩ rfl rfl ⟨prR_blind _ _ _, hw.recv hK he rfl, prR_at hG hAB hS hw⟩ rfl hl.1 rfl (Nat.le_of_ble_eq_true rfl) d_X_kilogramsOf_20 ⟨Nat.zero_le _, Nat.zero_le _⟩) (fun r_3 e_3 => ?_)
        subst e_3
        refine va_castY (C := "DangerTables$Part") hx hb hown (hts _ k_442) (hf.2.1 _ x_872) (hw.recv hK hp rfl) d_X_kilogramsOf_23 ?_
        refine lv_astore (lv' := [(4, .ref q), (0, .ref a), (1, .int v), (2, .int acc), (3, .int (nI i))]) hx hb d_X_kilogramsOf_26 hl (by decide) rfl (fun ls hl => ?_)
        refine lv_aload hx hb d_X_kilogramsOf_28 (lv_at hl 0 rfl) ?_
        refine ww_getN (v := .ref ga) (C := R_P) (T := F_P) (N := 3) (ci := 3) hx hb hts i_P hown hK hw hp rfl 0 (by decide) (va_Nw.use rfl (hf.2.1 _ x_449)) (fun _ h9 => h9) rfl d_X_kilogramsOf_30 ?_
        refine lv_iload_n hx hb d_X_kilogramsOf_33 rfl (lv_at hl 2 rfl) ?_
        refine wr_i (cV (As := [.int v]) (rest := []) (C := "DangerTables$Good") 1 ⟨hx, hb, hml, hown, hts⟩ (c_G_hasClass l g w ga cl sd lm fl x v hg) k_544 k_541 k_14 k_542 k_543 (by decide +kernel) ⟨Nat.le_of_ble_eq_true rfl, Nat.le_of_ble_eq_true rfl⟩ rfl rfl ⟨prR_blind _ _ _, hw.recv hK hg rfl, prR_at hG hAB hS hw⟩ rfl hl.1 rfl (Nat.le_of_ble_eq_true rfl) d_X_kilogramsOf_34 ⟨Nat.zero_le _, Nat.zero_le _⟩) (fun r_4 e_4 => ?_)
        refine lv_if_eq (tgt := 48) hx hb d_X_kilogramsOf_37 (by decide) (fun c_5 => ?_) (fun c_5 => ?_)
        · have q_5 := b2_f e_4 c_5
          refine lv_iinc (v := (nI (i + 1))) (lv' := [(3, .int (nI (i + 1))), (4, .ref q), (0, .ref a), (1, .int v), (2, .int acc)]) hx hb d_X_kilogramsOf_48 hl (k := 4) rfl (nI_1 _) (by decide) rfl (fun ls hl => ?_)
          refine lv_goto (tgt := 4) hx hb d_X_kilogramsOf_51 (by decide) ?_
          exact ih_4 (i + 1) acc ls (by omega) (by omega) (by rw [hI_4, hdr, List.foldl_cons]; congr 1; simp [kcF, e_1, c_2, e_4, c_5, q_5]) (lv_sub hl [2, 3, 4, 0] rfl)
        · have q_5 := b2_t e_4 c_5
          refine lv_iload_n hx hb d_X_kilogramsOf_40 rfl (lv_at hl 3 rfl) ?_
          refine lv_aload hx hb d_X_kilogramsOf_41 (lv_at hl 0 rfl) ?_
          refine ww_getN (v := .int am) (C := R_P) (T := F_P) (N := 3) (ci := 3) hx hb hts i_P hown hK hw hp rfl 2 (by decide) (va_Nw.use rfl (hf.2.1 _ x_454)) (fun _ h9 => h9) rfl d_X_kilogramsOf_43 ?_
          refine lv_iadd hx hb d_X_kilogramsOf_46 ?_
          refine lv_topi (fun v_6 e_6 => ?_)
          refine lv_istore_n (lv' := [(2, .int v_6), (4, .ref q), (0, .ref a), (1, .int v), (3, .int (nI i))]) hx hb d_X_kilogramsOf_47 rfl hl (by decide) rfl (fun ls hl => ?_)
          refine lv_iinc (v := (nI (i + 1))) (lv' := [(3, .int (nI (i + 1))), (2, .int v_6), (4, .ref q), (0, .ref a), (1, .int v)]) hx hb d_X_kilogramsOf_48 hl (k := 4) rfl (nI_1 _) (by decide) rfl (fun ls hl => ?_)
          refine lv_goto (tgt := 4) hx hb d_X_kilogramsOf_51 (by decide) ?_
          exact ih_4 (i + 1) v_6 ls (by omega) (by omega) (by rw [hI_4, hdr, List.foldl_cons]; congr 1; simp [kcF, e_1, c_2, e_4, c_5, q_5, e_6]) (lv_sub hl [3, 4, 1, 0] rfl)
  exact loop_4 (ps.length + 1) 0 0 ls (by omega) (by omega) rfl (lv_sub hl [2, 3, 1, 0] rfl)

set_option maxHeartbeats 4000000 in
set_option maxRecDepth 100000 in
theorem c_X_limitedCount (l : Launch) (g : GT) (w : Nat → Option va_E) (a : Nat) (b : BX) (hB : isBx g w a b) : Met l y_X_limitedCount (.code y_X_limitedCount b_X_limitedCount 3 ((some .int)) :: GW) ({ frames := 3, cells := 0, slots := 0, locals := 64 }) (prR g [.ref a] w) (vp_Si (fun r => r = lmB b.1)) 0 0 (fun _ => False) := by
  refine Met.ofW (cc := b_X_limitedCount) (maxL := 3) (ret := (some .int)) (by decide) rfl ?_
  intro p e s m args below meth c s₁ B hml hv
  obtain ⟨rfl, hG, hw⟩ := hv
  have hx := B.exec
  have hb := B.bytes
  have hr := B.returns
  have hts : ∀ w ∈ GW, w.before _ s = true := fun w h => atoms_spec (ws := .code y_X_limitedCount b_X_limitedCount 3 ((some .int)) :: GW) B.pre w (List.mem_cons_of_mem _ h)
  have hown : s.vm.findClass "DangerTables$Box" = some m.cls := findClass_of_methodNamed B.named
  have hlocks := B.notSynchronized
  have hf := hG.here
  have hK := hf.1
  have hAB : ∀ q, gB g q → gB g q := fun _ h => h
  have hS : va_S (gB g) s.heap s.heap [] := va_S.rf
  have hl := lv_entry ([.ref a]) (n := 3) (Nat.le_of_ble_eq_true rfl)
  rw [lg_entry_eq]
  generalize (lg_sl ([.ref a]) ++ List.replicate (3 - (lg_sl ([.ref a])).length) Slot.unset).toArray = ls at hl ⊢
  have hl : lv_has ls 3 [(0, .ref a)] := hl
  obtain ⟨pl, arr, ps, hx0, ⟨mc, cap, f, he, hcap, hc, hfi, hor⟩, hlen, hps⟩ := hB
  refine lv_iconst (v := 0) hx hb d_X_limitedCount_0 (by decide) ?_
  refine lv_istore_n (lv' := [(1, .int 0), (0, .ref a)]) hx hb d_X_limitedCount_1 rfl hl (by decide) rfl (fun ls hl => ?_)
  refine lv_iconst (v := 0) hx hb d_X_limitedCount_2 (by decide) ?_
  refine lv_istore_n (lv' := [(2, .int 0), (1, .int 0), (0, .ref a)]) hx hb d_X_limitedCount_3 rfl hl (by decide) rfl (fun ls hl => ?_)
  have loop_4 : ∀ (k i : Nat) (acc : Int32) (ls : Array Slot), i ≤ ps.length → ps.length < i + k → lmB b.1 = (b.1.drop i).foldl lmF acc → lv_has ls 3 [(0, .ref a), (1, .int acc), (2, .int (nI i))] → W p l e (headSpec (.code y_X_limitedCount b_X_limitedCount 3 ((some .int)) :: GW) ({ frames := 3, cells := 0, slots := 0, locals := 64 })).room s m (#[.ref a] : Array Value) below meth c s.heap [] 0 0 (MQ below (vp_Si (fun r => r = lmB b.1)) (#[.ref a] : Array Value) s 0 0 (fun _ => False)) (F0 m 4 ls []) := by
    intro k
    induction k with
    | zero =>
      intro i acc ls h1_4 h2_4
      exact absurd h2_4 (by omega)
    | succ k ih_4 =>
      intro i acc ls h1_4 h2_4 hI_4 hl
      refine lv_iload_n hx hb d_X_limitedCount_4 rfl (lv_at hl 2 rfl) ?_
      refine lv_aload_n hx hb d_X_limitedCount_5 rfl (lv_at hl 0 rfl) ?_
      refine ww_get (v := .ref pl) (C := R_X) (T := F_X) (N := 5) (ci := 1) hx hb hts i_X hown hK hw hx0 rfl 0 (by decide) (hts _ k_417) (fun _ h9 => h9) rfl d_X_limitedCount_6 ?_
      refine wr_i (cV (As := []) (rest := [.int (nI i)]) (C := "java/util/ArrayList") 0 ⟨hx, hb, hml, hown, hts⟩ (c_AL_size l g w pl arr mc (nI ps.length) he) k_152 k_475 k_6 k_150 k_151 (by decide +kernel) ⟨Nat.le_of_ble_eq_true rfl, Nat.le_of_ble_eq_true rfl⟩ rfl rfl ⟨prR_blind _ _ _, hw.recv hK he rfl, prR_at hG hAB hS hw⟩ rfl hl.1 rfl (Nat.le_of_ble_eq_true rfl) d_X_limitedCount_9 ⟨Nat.zero_le _, Nat.zero_le _⟩) (fun r_1 e_1 => ?_)
      refine lv_icmp_ge (tgt := 41) hx hb d_X_limitedCount_12 (by decide) (fun c_2 => ?_) (fun c_2 => ?_)
      · have hge : ps.length ≤ i := lp_ge e_1 c_2 (by omega) (by omega)
        have hdr : b.1.drop i = [] := dr_n (by omega)
        refine lv_iload_n hx hb d_X_limitedCount_41 rfl (lv_at hl 1 rfl) ?_
        exact W.iret (v := acc) hx hb hr (fun t ht hW => ⟨acc, rfl, (by rw [hI_4, hdr]; rfl), ht⟩) t_nil d_X_limitedCount_42
      · have hlt : i < ps.length := lp_lt e_1 c_2 (by omega) (by omega)
        obtain ⟨q, hq0⟩ : ∃ q, ps[i]? = some q := ⟨_, List.getElem?_eq_getElem hlt⟩
        have hq := hfi i q hq0
        have ha := hor.resolve_right (fun z => by rw [z.1] at hlt; exact absurd hlt (Nat.not_lt_zero _))
        obtain ⟨⟨cl, sd, lm, fl, x, nu, am⟩, hr0, ga, hp, hg⟩ := hps i q hq0
        have hdr := dr_c hr0
        refine lv_aload_n hx hb d_X_limitedCount_15 rfl (lv_at hl 0 rfl) ?_
        refine ww_get (v := .ref pl) (C := R_X) (T := F_X) (N := 5) (ci := 1) hx hb hts i_X hown hK hw hx0 rfl 0 (by decide) (hts _ k_417) (fun _ h9 => h9) rfl d_X_limitedCount_16 ?_
        refine lv_iload_n hx hb d_X_limitedCount_19 rfl (lv_at hl 2 rfl) ?_
        refine wr_q (cV (As := [.int (nI i)]) (rest := []) (C := "java/util/ArrayList") 1 ⟨hx, hb, hml, hown, hts⟩ (c_AL_get l g w pl arr ps.length cap i q mc f he ha hcap (by omega) hlt hq) k_157 k_476 k_6 k_155 k_156 (by decide +kernel) ⟨Nat.le_of_ble_eq_true rfl, Nat.le_of_ble_eq_true rfl⟩ rfl rfl ⟨prR_blind _ _ _, hw.recv hK he rfl, prR_at hG hAB hS hw⟩ rfl hl.1 rfl (Nat.le_of_ble_eq_true rfl) d_X_limitedCount_20 ⟨Nat.zero_le _, Nat.zero_le _⟩) (fun r_3 e_3 => ?_)
        subst e_3
        refine va_castY (C := "DangerTables$Part") hx hb hown (hts _ k_442) (hf.2.1 _ x_872) (hw.recv hK hp rfl) d_X_limitedCount_23 ?_
        refine wr_i (cV (As := []) (rest := []) (C := "DangerTables$Part") 0 ⟨hx, hb, hml, hown, hts⟩ (c_P_isLimited l g w q ga nu am cl sd lm fl x hp hg) k_513 k_645 k_20 k_511 k_512 (by decide +kernel) ⟨Nat.le_of_ble_eq_true rfl, Nat.le_of_ble_eq_true rfl⟩ rfl rfl ⟨prR_blind _ _ _, hw.recv hK hp rfl, prR_at hG hAB hS hw⟩ rfl hl.1 rfl (Nat.le_of_ble_eq_true rfl) d_X_limitedCount_26 ⟨Nat.zero_le _, Nat.zero_le _⟩) (fun r_4 e_4 => ?_)
        refine lv_if_eq (tgt := 35) hx hb d_X_limitedCount_29 (by decide) (fun c_5 => ?_) (fun c_5 => ?_)
        · have q_5 := b2_f e_4 c_5
          refine lv_iinc (v := (nI (i + 1))) (lv' := [(2, .int (nI (i + 1))), (0, .ref a), (1, .int acc)]) hx hb d_X_limitedCount_35 hl (k := 2) rfl (nI_1 _) (by decide) rfl (fun ls hl => ?_)
          refine lv_goto (tgt := 4) hx hb d_X_limitedCount_38 (by decide) ?_
          exact ih_4 (i + 1) acc ls (by omega) (by omega) (by rw [hI_4, hdr, List.foldl_cons]; congr 1; simp [lmF, e_1, c_2, e_4, c_5, q_5]) (lv_sub hl [1, 2, 0] rfl)
        · have q_5 := b2_t e_4 c_5
          obtain ⟨v_6, e_6⟩ : ∃ z : Int32, z = acc + 1 := ⟨_, rfl⟩
          refine lv_iinc (v := v_6) (lv' := [(1, .int v_6), (0, .ref a), (2, .int (nI i))]) hx hb d_X_limitedCount_32 hl (k := 1) rfl (by rw [e_6]; rfl) (by decide) rfl (fun ls hl => ?_)
          refine lv_iinc (v := (nI (i + 1))) (lv' := [(2, .int (nI (i + 1))), (1, .int v_6), (0, .ref a)]) hx hb d_X_limitedCount_35 hl (k := 2) rfl (nI_1 _) (by decide) rfl (fun ls hl => ?_)
          refine lv_goto (tgt := 4) hx hb d_X_limitedCount_38 (by decide) ?_
          exact ih_4 (i + 1) v_6 ls (by omega) (by omega) (by rw [hI_4, hdr, List.foldl_cons]; congr 1; simp [lmF, e_1, c_2, e_4, c_5, q_5, e_6]) (lv_sub hl [2, 1, 0] rfl)
  exact loop_4 (ps.length + 1) 0 0 ls (by omega) (by omega) rfl (lv_sub hl [2, 1, 0] rfl)

set_option maxHeartbeats 4000000 in
set_option maxRecDepth 100000 in
theorem c_X_untoldFields (l : Launch) (g : GT) (w : Nat → Option va_E) (a : Nat) (b : BX) (hB : isBx g w a b) : Met l y_X_untoldFields (.code y_X_untoldFields b_X_untoldFields 3 ((some .int)) :: GW) ({ frames := 3, cells := 0, slots := 0, locals := 64 }) (prR g [.ref a] w) (vp_Si (fun r => r = wtB b.1 &&& (b.2.2.2.2 ^^^ -1))) 0 0 (fun _ => False) := by
  refine Met.ofW (cc := b_X_untoldFields) (maxL := 3) (ret := (some .int)) (by decide) rfl ?_
  intro p e s m args below meth c s₁ B hml hv
  obtain ⟨rfl, hG, hw⟩ := hv
  have hx := B.exec
  have hb := B.bytes
  have hr := B.returns
  have hts : ∀ w ∈ GW, w.before _ s = true := fun w h => atoms_spec (ws := .code y_X_untoldFields b_X_untoldFields 3 ((some .int)) :: GW) B.pre w (List.mem_cons_of_mem _ h)
  have hown : s.vm.findClass "DangerTables$Box" = some m.cls := findClass_of_methodNamed B.named
  have hlocks := B.notSynchronized
  have hf := hG.here
  have hK := hf.1
  have hAB : ∀ q, gB g q → gB g q := fun _ h => h
  have hS : va_S (gB g) s.heap s.heap [] := va_S.rf
  have hl := lv_entry ([.ref a]) (n := 3) (Nat.le_of_ble_eq_true rfl)
  rw [lg_entry_eq]
  generalize (lg_sl ([.ref a]) ++ List.replicate (3 - (lg_sl ([.ref a])).length) Slot.unset).toArray = ls at hl ⊢
  have hl : lv_has ls 3 [(0, .ref a)] := hl
  obtain ⟨pl, arr, ps, hx0, ⟨mc, cap, f, he, hcap, hc, hfi, hor⟩, hlen, hps⟩ := hB
  refine lv_iconst (v := 0) hx hb d_X_untoldFields_0 (by decide) ?_
  refine lv_istore_n (lv' := [(1, .int 0), (0, .ref a)]) hx hb d_X_untoldFields_1 rfl hl (by decide) rfl (fun ls hl => ?_)
  refine lv_iconst (v := 0) hx hb d_X_untoldFields_2 (by decide) ?_
  refine lv_istore_n (lv' := [(2, .int 0), (1, .int 0), (0, .ref a)]) hx hb d_X_untoldFields_3 rfl hl (by decide) rfl (fun ls hl => ?_)
  have loop_4 : ∀ (k i : Nat) (acc : Int32) (ls : Array Slot), i ≤ ps.length → ps.length < i + k → wtB b.1 = (b.1.drop i).foldl wtF acc → lv_has ls 3 [(0, .ref a), (1, .int acc), (2, .int (nI i))] → W p l e (headSpec (.code y_X_untoldFields b_X_untoldFields 3 ((some .int)) :: GW) ({ frames := 3, cells := 0, slots := 0, locals := 64 })).room s m (#[.ref a] : Array Value) below meth c s.heap [] 0 0 (MQ below (vp_Si (fun r => r = wtB b.1 &&& (b.2.2.2.2 ^^^ -1))) (#[.ref a] : Array Value) s 0 0 (fun _ => False)) (F0 m 4 ls []) := by
    intro k
    induction k with
    | zero =>
      intro i acc ls h1_4 h2_4
      exact absurd h2_4 (by omega)
    | succ k ih_4 =>
      intro i acc ls h1_4 h2_4 hI_4 hl
      refine lv_iload_n hx hb d_X_untoldFields_4 rfl (lv_at hl 2 rfl) ?_
      refine lv_aload_n hx hb d_X_untoldFields_5 rfl (lv_at hl 0 rfl) ?_
      refine ww_get (v := .ref pl) (C := R_X) (T := F_X) (N := 5) (ci := 1) hx hb hts i_X hown hK hw hx0 rfl 0 (by decide) (hts _ k_417) (fun _ h9 => h9) rfl d_X_untoldFields_6 ?_
      refine wr_i (cV (As := []) (rest := [.int (nI i)]) (C := "java/util/ArrayList") 0 ⟨hx, hb, hml, hown, hts⟩ (c_AL_size l g w pl arr mc (nI ps.length) he) k_152 k_475 k_6 k_150 k_151 (by decide +kernel) ⟨Nat.le_of_ble_eq_true rfl, Nat.le_of_ble_eq_true rfl⟩ rfl rfl ⟨prR_blind _ _ _, hw.recv hK he rfl, prR_at hG hAB hS hw⟩ rfl hl.1 rfl (Nat.le_of_ble_eq_true rfl) d_X_untoldFields_9 ⟨Nat.zero_le _, Nat.zero_le _⟩) (fun r_1 e_1 => ?_)
      refine lv_icmp_ge (tgt := 38) hx hb d_X_untoldFields_12 (by decide) (fun c_2 => ?_) (fun c_2 => ?_)
      · have hge : ps.length ≤ i := lp_ge e_1 c_2 (by omega) (by omega)
        have hdr : b.1.drop i = [] := dr_n (by omega)
        refine lv_iload_n hx hb d_X_untoldFields_38 rfl (lv_at hl 1 rfl) ?_
        refine lv_aload_n hx hb d_X_untoldFields_39 rfl (lv_at hl 0 rfl) ?_
        refine ww_get (v := .int b.2.2.2.2) (C := R_X) (T := F_X) (N := 5) (ci := 1) hx hb hts i_X hown hK hw hx0 rfl 4 (by decide) (hts _ k_425) (fun _ h9 => h9) rfl d_X_untoldFields_40 ?_
        refine lv_iconst (v := -1) hx hb d_X_untoldFields_43 (by decide) ?_
        refine lv_ixor hx hb d_X_untoldFields_44 ?_
        refine lv_topi (fun v_3 e_3 => ?_)
        refine lv_iand hx hb d_X_untoldFields_45 ?_
        refine lv_topi (fun v_4 e_4 => ?_)
        exact W.iret (v := v_4) hx hb hr (fun t ht hW => ⟨v_4, rfl, (by rw [hI_4, hdr, e_4, e_3]; rfl), ht⟩) t_nil d_X_untoldFields_46
      · have hlt : i < ps.length := lp_lt e_1 c_2 (by omega) (by omega)
        obtain ⟨q, hq0⟩ : ∃ q, ps[i]? = some q := ⟨_, List.getElem?_eq_getElem hlt⟩
        have hq := hfi i q hq0
        have ha := hor.resolve_right (fun z => by rw [z.1] at hlt; exact absurd hlt (Nat.not_lt_zero _))
        obtain ⟨⟨cl, sd, lm, fl, x, nu, am⟩, hr0, ga, hp, hg⟩ := hps i q hq0
        have hdr := dr_c hr0
        refine lv_iload_n hx hb d_X_untoldFields_15 rfl (lv_at hl 1 rfl) ?_
        refine lv_aload_n hx hb d_X_untoldFields_16 rfl (lv_at hl 0 rfl) ?_
        refine ww_get (v := .ref pl) (C := R_X) (T := F_X) (N := 5) (ci := 1) hx hb hts i_X hown hK hw hx0 rfl 0 (by decide) (hts _ k_417) (fun _ h9 => h9) rfl d_X_untoldFields_17 ?_
        refine lv_iload_n hx hb d_X_untoldFields_20 rfl (lv_at hl 2 rfl) ?_
        refine wr_q (cV (As := [.int (nI i)]) (rest := [.int acc]) (C := "java/util/ArrayList") 1 ⟨hx, hb, hml, hown, hts⟩ (c_AL_get l g w pl arr ps.length cap i q mc f he ha hcap (by omega) hlt hq) k_157 k_476 k_6 k_155 k_156 (by decide +kernel) ⟨Nat.le_of_ble_eq_true rfl, Nat.le_of_ble_eq_true rfl⟩ rfl rfl ⟨prR_blind _ _ _, hw.recv hK he rfl, prR_at hG hAB hS hw⟩ rfl hl.1 rfl (Nat.le_of_ble_eq_true rfl) d_X_untoldFields_21 ⟨Nat.zero_le _, Nat.zero_le _⟩) (fun r_5 e_5 => ?_)
        subst e_5
        refine va_castY (C := "DangerTables$Part") hx hb hown (hts _ k_442) (hf.2.1 _ x_872) (hw.recv hK hp rfl) d_X_untoldFields_24 ?_
        refine wr_i (cV (As := []) (rest := [.int acc]) (C := "DangerTables$Part") 0 ⟨hx, hb, hml, hown, hts⟩ (c_P_wantedFields l g w q ga nu am cl sd lm fl x hp hg) k_568 k_565 k_20 k_566 k_567 (by decide +kernel) ⟨Nat.le_of_ble_eq_true rfl, Nat.le_of_ble_eq_true rfl⟩ rfl rfl ⟨prR_blind _ _ _, hw.recv hK hp rfl, prR_at hG hAB hS hw⟩ rfl hl.1 rfl (Nat.le_of_ble_eq_true rfl) d_X_untoldFields_27 ⟨Nat.zero_le _, Nat.zero_le _⟩) (fun r_6 e_6 => ?_)
        refine lv_ior hx hb d_X_untoldFields_30 ?_
        refine lv_topi (fun v_7 e_7 => ?_)
        refine lv_istore_n (lv' := [(1, .int v_7), (0, .ref a), (2, .int (nI i))]) hx hb d_X_untoldFields_31 rfl hl (by decide) rfl (fun ls hl => ?_)
        refine lv_iinc (v := (nI (i + 1))) (lv' := [(2, .int (nI (i + 1))), (1, .int v_7), (0, .ref a)]) hx hb d_X_untoldFields_32 hl (k := 2) rfl (nI_1 _) (by decide) rfl (fun ls hl => ?_)
        refine lv_goto (tgt := 4) hx hb d_X_untoldFields_35 (by decide) ?_
        exact ih_4 (i + 1) v_7 ls (by omega) (by omega) (by rw [hI_4, hdr, List.foldl_cons]; congr 1; simp [wtF, e_1, c_2, e_6, e_7]) (lv_sub hl [2, 1, 0] rfl)
  exact loop_4 (ps.length + 1) 0 0 ls (by omega) (by omega) rfl (lv_sub hl [2, 1, 0] rfl)

set_option maxHeartbeats 4000000 in
set_option maxRecDepth 100000 in
theorem c_X_holds (l : Launch) (g : GT) (w : Nat → Option va_E) (a : Nat) (b : BX) (v : Int32) (hB : isBx g w a b) : Met l y_X_holds (.code y_X_holds b_X_holds 3 ((some .boolean)) :: GW) ({ frames := 3, cells := 0, slots := 0, locals := 64 }) (prR g [.ref a, .int v] w) (vp_Si (fun r => r = b2 (hsB b.1 v))) 0 0 (fun _ => False) := by
  refine Met.ofW (cc := b_X_holds) (maxL := 3) (ret := (some .boolean)) (by decide) rfl ?_
  intro p e s m args below meth c s₁ B hml hv
  obtain ⟨rfl, hG, hw⟩ := hv
  have hx := B.exec
  have hb := B.bytes
  have hr := B.returns
  have hts : ∀ w ∈ GW, w.before _ s = true := fun w h => atoms_spec (ws := .code y_X_holds b_X_holds 3 ((some .boolean)) :: GW) B.pre w (List.mem_cons_of_mem _ h)
  have hown : s.vm.findClass "DangerTables$Box" = some m.cls := findClass_of_methodNamed B.named
  have hlocks := B.notSynchronized
  have hf := hG.here
  have hK := hf.1
  have hAB : ∀ q, gB g q → gB g q := fun _ h => h
  have hS : va_S (gB g) s.heap s.heap [] := va_S.rf
  have hl := lv_entry ([.ref a, .int v]) (n := 3) (Nat.le_of_ble_eq_true rfl)
  rw [lg_entry_eq]
  generalize (lg_sl ([.ref a, .int v]) ++ List.replicate (3 - (lg_sl ([.ref a, .int v])).length) Slot.unset).toArray = ls at hl ⊢
  have hl : lv_has ls 3 [(0, .ref a), (1, .int v)] := hl
  obtain ⟨pl, arr, ps, hx0, ⟨mc, cap, f, he, hcap, hc, hfi, hor⟩, hlen, hps⟩ := hB
  refine lv_iconst (v := 0) hx hb d_X_holds_0 (by decide) ?_
  refine lv_istore_n (lv' := [(2, .int 0), (0, .ref a), (1, .int v)]) hx hb d_X_holds_1 rfl hl (by decide) rfl (fun ls hl => ?_)
  have loop_2 : ∀ (k i : Nat)  (ls : Array Slot), i ≤ ps.length → ps.length < i + k → hsB b.1 v = (b.1.drop i).any (fun r => decide (r.2.2.2.2.2.1 = v)) → lv_has ls 3 [(0, .ref a), (1, .int v), (2, .int (nI i))] → W p l e (headSpec (.code y_X_holds b_X_holds 3 ((some .boolean)) :: GW) ({ frames := 3, cells := 0, slots := 0, locals := 64 })).room s m (#[.ref a, .int v] : Array Value) below meth c s.heap [] 0 0 (MQ below (vp_Si (fun r => r = b2 (hsB b.1 v))) (#[.ref a, .int v] : Array Value) s 0 0 (fun _ => False)) (F0 m 2 ls []) := by
    intro k
    induction k with
    | zero =>
      intro i  ls h1_2 h2_2
      exact absurd h2_2 (by omega)
    | succ k ih_2 =>
      intro i  ls h1_2 h2_2 hI_2 hl
      refine lv_iload_n hx hb d_X_holds_2 rfl (lv_at hl 2 rfl) ?_
      refine lv_aload_n hx hb d_X_holds_3 rfl (lv_at hl 0 rfl) ?_
      refine ww_get (v := .ref pl) (C := R_X) (T := F_X) (N := 5) (ci := 1) hx hb hts i_X hown hK hw hx0 rfl 0 (by decide) (hts _ k_417) (fun _ h9 => h9) rfl d_X_holds_4 ?_
      refine wr_i (cV (As := []) (rest := [.int (nI i)]) (C := "java/util/ArrayList") 0 ⟨hx, hb, hml, hown, hts⟩ (c_AL_size l g w pl arr mc (nI ps.length) he) k_152 k_475 k_6 k_150 k_151 (by decide +kernel) ⟨Nat.le_of_ble_eq_true rfl, Nat.le_of_ble_eq_true rfl⟩ rfl rfl ⟨prR_blind _ _ _, hw.recv hK he rfl, prR_at hG hAB hS hw⟩ rfl hl.1 rfl (Nat.le_of_ble_eq_true rfl) d_X_holds_7 ⟨Nat.zero_le _, Nat.zero_le _⟩) (fun r_1 e_1 => ?_)
      refine lv_icmp_ge (tgt := 39) hx hb d_X_holds_10 (by decide) (fun c_2 => ?_) (fun c_2 => ?_)
      · have hge : ps.length ≤ i := lp_ge e_1 c_2 (by omega) (by omega)
        have hdr : b.1.drop i = [] := dr_n (by omega)
        refine lv_iconst (v := 0) hx hb d_X_holds_39 (by decide) ?_
        exact W.zret (v := 0) (ty := .boolean) hx hb hr rfl (fun t ht hW => ⟨0, rfl, (by rw [hI_2, hdr]; simp [b2]), ht⟩) t_nil d_X_holds_40
      · have hlt : i < ps.length := lp_lt e_1 c_2 (by omega) (by omega)
        obtain ⟨q, hq0⟩ : ∃ q, ps[i]? = some q := ⟨_, List.getElem?_eq_getElem hlt⟩
        have hq := hfi i q hq0
        have ha := hor.resolve_right (fun z => by rw [z.1] at hlt; exact absurd hlt (Nat.not_lt_zero _))
        obtain ⟨⟨cl, sd, lm, fl, x, nu, am⟩, hr0, ga, hp, hg⟩ := hps i q hq0
        have hdr := dr_c hr0
        refine lv_aload_n hx hb d_X_holds_13 rfl (lv_at hl 0 rfl) ?_
        refine ww_get (v := .ref pl) (C := R_X) (T := F_X) (N := 5) (ci := 1) hx hb hts i_X hown hK hw hx0 rfl 0 (by decide) (hts _ k_417) (fun _ h9 => h9) rfl d_X_holds_14 ?_
        refine lv_iload_n hx hb d_X_holds_17 rfl (lv_at hl 2 rfl) ?_
        refine wr_q (cV (As := [.int (nI i)]) (rest := []) (C := "java/util/ArrayList") 1 ⟨hx, hb, hml, hown, hts⟩ (c_AL_get l g w pl arr ps.length cap i q mc f he ha hcap (by omega) hlt hq) k_157 k_476 k_6 k_155 k_156 (by decide +kernel) ⟨Nat.le_of_ble_eq_true rfl, Nat.le_of_ble_eq_true rfl⟩ rfl rfl ⟨prR_blind _ _ _, hw.recv hK he rfl, prR_at hG hAB hS hw⟩ rfl hl.1 rfl (Nat.le_of_ble_eq_true rfl) d_X_holds_18 ⟨Nat.zero_le _, Nat.zero_le _⟩) (fun r_3 e_3 => ?_)
        subst e_3
        refine va_castY (C := "DangerTables$Part") hx hb hown (hts _ k_442) (hf.2.1 _ x_872) (hw.recv hK hp rfl) d_X_holds_21 ?_
        refine ww_getN (v := .int nu) (C := R_P) (T := F_P) (N := 3) (ci := 3) hx hb hts i_P hown hK hw hp rfl 1 (by decide) (va_Nw.use rfl (hf.2.1 _ x_452)) (fun _ h9 => h9) rfl d_X_holds_24 ?_
        refine lv_iload_n hx hb d_X_holds_27 rfl (lv_at hl 1 rfl) ?_
        refine lv_icmp_ne (tgt := 33) hx hb d_X_holds_28 (by decide) (fun c_4 => ?_) (fun c_4 => ?_)
        · refine lv_iinc (v := (nI (i + 1))) (lv' := [(2, .int (nI (i + 1))), (0, .ref a), (1, .int v)]) hx hb d_X_holds_33 hl (k := 2) rfl (nI_1 _) (by decide) rfl (fun ls hl => ?_)
          refine lv_goto (tgt := 2) hx hb d_X_holds_36 (by decide) ?_
          exact ih_2 (i + 1)  ls (by omega) (by omega) (by rw [hI_2, hdr]; simp [c_4]) (lv_sub hl [1, 2, 0] rfl)
        · refine lv_iconst (v := 1) hx hb d_X_holds_31 (by decide) ?_
          exact W.zret (v := 1) (ty := .boolean) hx hb hr rfl (fun t ht hW => ⟨1, rfl, (by rw [hI_2, hdr]; simp [b2, c_4]), ht⟩) t_nil d_X_holds_32
  exact loop_2 (ps.length + 1) 0  ls (by omega) (by omega) rfl (lv_sub hl [1, 2, 0] rfl)
end
section
/-! THE TABLE'S OWN METHODS THAT ONLY READ -/
section WWA
variable {p : Program} {l : Launch} {e : Env} {R : Room} {s : State} {m : MethodId} {args : Array Value} {below : List Frame} {meth : Method} {c : Code} {H : Heap} {locs : List Loc} {cells slots : Nat} {Q : State → Prop}
variable {cc : ByteArray} {pc : Nat} {ls : Array Slot} {rest : List Value} {D : va_G} {cl : List vw_C} {A : Nat → Prop} {a : Nat} {tys : List (ClassId × FieldType)} {w : Nat → Option va_E}
theorem ww_aldA (hexec : p.tables.exec = Jvm.exec) (hb : c.code = cc) (hK : va_K D cl tys s) (hw : ww D cl A w H) (t0 : Nat) {cA : ClassId} {t : FieldType} {n : Nat} {f : Nat → Option Nat} (ha : w a = some (.inl (cA, n, .inr (.inr (.inr (.inr f)))))) (ht : tys[t0]? = some (cA, .array t)) {i : Int32} (hin : vp_in i n) {v : Value} (hv : va_rf (f i.toNatClampNeg) = v) (hdg : decode cc pc = .ok (.aaload, 1))
    (kk : W p l e R s m args below meth c H locs cells slots Q (F0 m (pc + 1) ls (v :: rest))) : W p l e R s m args below meth c H locs cells slots Q (F0 m pc ls (.int i :: .ref a :: rest)) := by
  subst hv
  have hlt : i.toNatClampNeg < n := Nat.not_le.mp fun q => hin (Or.inr q)
  obtain ⟨hP, -⟩ := hw.one ha
  exact W.aald (v := va_rf (f i.toNatClampNeg)) (ty := .array t) hexec hb (hP 0 _ rfl) ((hK.2 t0 _ ht).1 n (fun j => va_rf (f j))) rfl (fun q => by cases q) (by show ¬ (i < 0 ∨ (arrV _ _ _).slots.size ≤ _); rw [arrV_size]; exact hin) (by show (arrV _ _ _).slots[_]? = _; rw [arrV_read _ _ hlt]) rfl rfl hdg kk
end WWA
def inL (v : Int32) (n : Nat) : Bool := !decide (v < 0) && !decide (nI n ≤ v)
def mxI (x y : Int32) : Int32 := if x < y then y else x
def mnI (x y : Int32) : Int32 := if y < x then y else x
theorem isCls_of {x : Int32} (h : isCls x = true) : ∃ k : Nat, k < 9 ∧ x = nI (k + 1) := by
  simp only [isCls, Bool.and_eq_true, Bool.not_eq_true', decide_eq_false_iff_not] at h
  obtain ⟨h1, h2⟩ := h
  rw [Int32.lt_iff_toInt_lt, show (1 : Int32).toInt = 1 from rfl] at h1
  rw [Int32.lt_iff_toInt_lt, show (9 : Int32).toInt = 9 from rfl] at h2
  obtain ⟨j, hj, rfl⟩ := nI_of (x := x) (by rw [Int32.lt_iff_toInt_lt, Int32.toInt_zero]; omega)
  rw [nI_toInt hj] at h1 h2
  exact ⟨j - 1, by omega, by rw [Nat.sub_add_cancel (by omega)]⟩
theorem prI_tab : ∀ i : Nat, i < 9 → ∀ j : Nat, j < 9 → ∃ k : Nat, k < 45 ∧ prI (nI (i + 1)) (nI (j + 1)) = nI k := by decide
theorem prI_in {x y : Int32} (hx : isCls x = true) (hy : isCls y = true) : ∃ k : Nat, k < 45 ∧ prI x y = nI k := by
  obtain ⟨i, hi, rfl⟩ := isCls_of hx
  obtain ⟨j, hj, rfl⟩ := isCls_of hy
  exact prI_tab i hi j hj
def okC (x : Int32) : Prop := x = 0 ∨ isCls x = true
def okP (r : PR) : Prop := isCls r.1 = true ∧ okC r.2.1
def ruC (rf : Nat → Int32) (x1 x2 : Int64) (u v : Int32) : Int32 := if u = 0 then 0 else if v = 0 then 0 else if isEx x1 (prI u v) = true then 0 else if isEx x2 (prI u v) = true then 0 else rf (prI u v).toNatClampNeg
def ruQ (rf : Nat → Int32) (p q : PR) : Int32 := mxI (mxI (mxI (ruC rf p.2.2.2.2.1 q.2.2.2.2.1 p.1 q.1) (ruC rf p.2.2.2.2.1 q.2.2.2.2.1 p.1 q.2.1)) (ruC rf p.2.2.2.2.1 q.2.2.2.2.1 p.2.1 q.1)) (ruC rf p.2.2.2.2.1 q.2.2.2.2.1 p.2.1 q.2.1)
def ruP (rf : Nat → Int32) (p q : PR) : Int32 := if isLim p.2.2.2.2.2.2 p.2.2.1 = true then mnI (ruQ rf p q) 1 else if isLim q.2.2.2.2.2.2 q.2.2.1 = true then mnI (ruQ rf p q) 1 else ruQ rf p q
def ruF (rf : Nat → Int32) (p : PR) (a : Int32) (q : PR) : Int32 := mxI a (ruP rf p q)
def ruG (rf : Nat → Int32) (qs : List PR) (a : Int32) (p : PR) : Int32 := qs.foldl (ruF rf p) a
def ruB (rf : Nat → Int32) (ps qs : List PR) : Int32 := ps.foldl (ruG rf qs) 0
def isBs (g : GT) (w : Nat → Option va_E) (ba : List Nat) (bs : List BX) : Prop := ba.length = bs.length ∧ ∀ i a : Nat, ba[i]? = some a → ∃ b, bs[i]? = some b ∧ isBx g w a b
def kzF (z v : Int32) (a : Int32) (b : BX) : Int32 := if b.2.1 = z then a + kcB b.1 v else a
def kzB (bs : List BX) (z v : Int32) : Int32 := bs.foldl (kzF z v) 0
def lyF (a : Int32) (b : BX) : Int32 := if b.2.1 = -1 then a else a + 1
def lyB (bs : List BX) : Int32 := bs.foldl lyF 0
def tkP (z x y : Int32) (b : BX) : Bool := decide (b.2.1 = z) && decide (b.2.2.1 = x) && decide (b.2.2.2.1 = y)
def tkB (bs : List BX) (z x y : Int32) : Bool := bs.any (tkP z x y)
set_option maxHeartbeats 4000000 in
set_option maxRecDepth 100000 in
theorem c_T_isGood (l : Launch) (g : GT) (w : Nat → Option va_E) (th tx ru : Nat) (rd : Int32) (go bo zo : Nat) (arr : Nat) (xs : List Nat) (v : Int32) (ht : w th = some (cT tx ru rd go bo zo)) (hL : isL g w go arr xs) : Met l y_T_isGood (.code y_T_isGood b_T_isGood 2 ((some .boolean)) :: GW) ({ frames := 1, cells := 0, slots := 0, locals := 20 }) (prR g [.ref th, .int v] w) (vp_Si (fun r => r = b2 (inL v xs.length))) 0 0 (fun _ => False) := by
  refine Met.ofW (cc := b_T_isGood) (maxL := 2) (ret := (some .boolean)) (by decide) rfl ?_
  intro p e s m args below meth c s₁ B hml hv
  obtain ⟨rfl, hG, hw⟩ := hv
  have hx := B.exec
  have hb := B.bytes
  have hr := B.returns
  have hts : ∀ w ∈ GW, w.before _ s = true := fun w h => atoms_spec (ws := .code y_T_isGood b_T_isGood 2 ((some .boolean)) :: GW) B.pre w (List.mem_cons_of_mem _ h)
  have hown : s.vm.findClass "DangerTables" = some m.cls := findClass_of_methodNamed B.named
  have hlocks := B.notSynchronized
  have hf := hG.here
  have hK := hf.1
  have hAB : ∀ q, gB g q → gB g q := fun _ h => h
  have hS : va_S (gB g) s.heap s.heap [] := va_S.rf
  have hl := lv_entry ([.ref th, .int v]) (n := 2) (Nat.le_of_ble_eq_true rfl)
  rw [lg_entry_eq]
  generalize (lg_sl ([.ref th, .int v]) ++ List.replicate (2 - (lg_sl ([.ref th, .int v])).length) Slot.unset).toArray = ls at hl ⊢
  have hl : lv_has ls 2 [(0, .ref th), (1, .int v)] := hl
  obtain ⟨mc, cap, f, he, hcap, hc, hfi, hor⟩ := hL
  refine lv_iload_n hx hb d_T_isGood_0 rfl (lv_at hl 1 rfl) ?_
  refine lv_if_lt (tgt := 19) hx hb d_T_isGood_1 (by decide) (fun c_1 => ?_) (fun c_1 => ?_)
  · refine lv_iconst (v := 0) hx hb d_T_isGood_19 (by decide) ?_
    exact W.zret (v := 0) (ty := .boolean) hx hb hr rfl (fun t ht hW => ⟨0, rfl, (by first | (simp [b2, inL, c_1]; done) | (clear hts hown B; simp_all [b2, inL]; done)), ht⟩) t_nil d_T_isGood_20
  · refine lv_iload_n hx hb d_T_isGood_4 rfl (lv_at hl 1 rfl) ?_
    refine lv_aload_n hx hb d_T_isGood_5 rfl (lv_at hl 0 rfl) ?_
    refine ww_get (v := .ref go) (C := R_T) (T := F_T) (N := 6) (ci := 0) hx hb hts i_T hown hK hw ht rfl 3 (by decide) (hts _ k_83) (fun _ h9 => h9) rfl d_T_isGood_6 ?_
    refine wr_i (cV (As := []) (rest := [.int v]) (C := "java/util/ArrayList") 0 ⟨hx, hb, hml, hown, hts⟩ (c_AL_size l g w go arr mc (nI xs.length) he) k_152 k_149 k_6 k_150 k_151 (by decide +kernel) ⟨Nat.le_of_ble_eq_true rfl, Nat.le_of_ble_eq_true rfl⟩ rfl rfl ⟨prR_blind _ _ _, hw.recv hK he rfl, prR_at hG hAB hS hw⟩ rfl hl.1 rfl (Nat.le_of_ble_eq_true rfl) d_T_isGood_9 ⟨Nat.zero_le _, Nat.zero_le _⟩) (fun r_2 e_2 => ?_)
    refine lv_icmp_ge (tgt := 19) hx hb d_T_isGood_12 (by decide) (fun c_3 => ?_) (fun c_3 => ?_)
    · refine lv_iconst (v := 0) hx hb d_T_isGood_19 (by decide) ?_
      exact W.zret (v := 0) (ty := .boolean) hx hb hr rfl (fun t ht hW => ⟨0, rfl, (by first | (simp [b2, inL, c_1, e_2, c_3]; done) | (clear hts hown B; simp_all [b2, inL]; done)), ht⟩) t_nil d_T_isGood_20
    · refine lv_iconst (v := 1) hx hb d_T_isGood_15 (by decide) ?_
      refine lv_goto (tgt := 20) hx hb d_T_isGood_16 (by decide) ?_
      exact W.zret (v := 1) (ty := .boolean) hx hb hr rfl (fun t ht hW => ⟨1, rfl, (by first | (simp [b2, inL, c_1, e_2, c_3]; done) | (clear hts hown B; simp_all [b2, inL]; done)), ht⟩) t_nil d_T_isGood_20

set_option maxHeartbeats 4000000 in
set_option maxRecDepth 100000 in
theorem c_T_isBox (l : Launch) (g : GT) (w : Nat → Option va_E) (th tx ru : Nat) (rd : Int32) (go bo zo : Nat) (arr : Nat) (xs : List Nat) (v : Int32) (ht : w th = some (cT tx ru rd go bo zo)) (hL : isL g w bo arr xs) : Met l y_T_isBox (.code y_T_isBox b_T_isBox 2 ((some .boolean)) :: GW) ({ frames := 1, cells := 0, slots := 0, locals := 20 }) (prR g [.ref th, .int v] w) (vp_Si (fun r => r = b2 (inL v xs.length))) 0 0 (fun _ => False) := by
  refine Met.ofW (cc := b_T_isBox) (maxL := 2) (ret := (some .boolean)) (by decide) rfl ?_
  intro p e s m args below meth c s₁ B hml hv
  obtain ⟨rfl, hG, hw⟩ := hv
  have hx := B.exec
  have hb := B.bytes
  have hr := B.returns
  have hts : ∀ w ∈ GW, w.before _ s = true := fun w h => atoms_spec (ws := .code y_T_isBox b_T_isBox 2 ((some .boolean)) :: GW) B.pre w (List.mem_cons_of_mem _ h)
  have hown : s.vm.findClass "DangerTables" = some m.cls := findClass_of_methodNamed B.named
  have hlocks := B.notSynchronized
  have hf := hG.here
  have hK := hf.1
  have hAB : ∀ q, gB g q → gB g q := fun _ h => h
  have hS : va_S (gB g) s.heap s.heap [] := va_S.rf
  have hl := lv_entry ([.ref th, .int v]) (n := 2) (Nat.le_of_ble_eq_true rfl)
  rw [lg_entry_eq]
  generalize (lg_sl ([.ref th, .int v]) ++ List.replicate (2 - (lg_sl ([.ref th, .int v])).length) Slot.unset).toArray = ls at hl ⊢
  have hl : lv_has ls 2 [(0, .ref th), (1, .int v)] := hl
  obtain ⟨mc, cap, f, he, hcap, hc, hfi, hor⟩ := hL
  refine lv_iload_n hx hb d_T_isBox_0 rfl (lv_at hl 1 rfl) ?_
  refine lv_if_lt (tgt := 19) hx hb d_T_isBox_1 (by decide) (fun c_1 => ?_) (fun c_1 => ?_)
  · refine lv_iconst (v := 0) hx hb d_T_isBox_19 (by decide) ?_
    exact W.zret (v := 0) (ty := .boolean) hx hb hr rfl (fun t ht hW => ⟨0, rfl, (by first | (simp [b2, inL, c_1]; done) | (clear hts hown B; simp_all [b2, inL]; done)), ht⟩) t_nil d_T_isBox_20
  · refine lv_iload_n hx hb d_T_isBox_4 rfl (lv_at hl 1 rfl) ?_
    refine lv_aload_n hx hb d_T_isBox_5 rfl (lv_at hl 0 rfl) ?_
    refine ww_get (v := .ref bo) (C := R_T) (T := F_T) (N := 6) (ci := 0) hx hb hts i_T hown hK hw ht rfl 4 (by decide) (hts _ k_84) (fun _ h9 => h9) rfl d_T_isBox_6 ?_
    refine wr_i (cV (As := []) (rest := [.int v]) (C := "java/util/ArrayList") 0 ⟨hx, hb, hml, hown, hts⟩ (c_AL_size l g w bo arr mc (nI xs.length) he) k_152 k_149 k_6 k_150 k_151 (by decide +kernel) ⟨Nat.le_of_ble_eq_true rfl, Nat.le_of_ble_eq_true rfl⟩ rfl rfl ⟨prR_blind _ _ _, hw.recv hK he rfl, prR_at hG hAB hS hw⟩ rfl hl.1 rfl (Nat.le_of_ble_eq_true rfl) d_T_isBox_9 ⟨Nat.zero_le _, Nat.zero_le _⟩) (fun r_2 e_2 => ?_)
    refine lv_icmp_ge (tgt := 19) hx hb d_T_isBox_12 (by decide) (fun c_3 => ?_) (fun c_3 => ?_)
    · refine lv_iconst (v := 0) hx hb d_T_isBox_19 (by decide) ?_
      exact W.zret (v := 0) (ty := .boolean) hx hb hr rfl (fun t ht hW => ⟨0, rfl, (by first | (simp [b2, inL, c_1, e_2, c_3]; done) | (clear hts hown B; simp_all [b2, inL]; done)), ht⟩) t_nil d_T_isBox_20
    · refine lv_iconst (v := 1) hx hb d_T_isBox_15 (by decide) ?_
      refine lv_goto (tgt := 20) hx hb d_T_isBox_16 (by decide) ?_
      exact W.zret (v := 1) (ty := .boolean) hx hb hr rfl (fun t ht hW => ⟨1, rfl, (by first | (simp [b2, inL, c_1, e_2, c_3]; done) | (clear hts hown B; simp_all [b2, inL]; done)), ht⟩) t_nil d_T_isBox_20

set_option maxHeartbeats 4000000 in
set_option maxRecDepth 100000 in
theorem c_T_areTwoBoxes (l : Launch) (g : GT) (w : Nat → Option va_E) (th tx ru : Nat) (rd : Int32) (go bo zo : Nat) (arr : Nat) (xs : List Nat) (u v : Int32) (ht : w th = some (cT tx ru rd go bo zo)) (hL : isL g w bo arr xs) : Met l y_T_areTwoBoxes (.code y_T_areTwoBoxes b_T_areTwoBoxes 3 ((some .boolean)) :: GW) ({ frames := 2, cells := 0, slots := 0, locals := 41 }) (prR g [.ref th, .int u, .int v] w) (vp_Si (fun r => r = b2 (inL u xs.length && inL v xs.length && !decide (u = v)))) 0 0 (fun _ => False) := by
  refine Met.ofW (cc := b_T_areTwoBoxes) (maxL := 3) (ret := (some .boolean)) (by decide) rfl ?_
  intro p e s m args below meth c s₁ B hml hv
  obtain ⟨rfl, hG, hw⟩ := hv
  have hx := B.exec
  have hb := B.bytes
  have hr := B.returns
  have hts : ∀ w ∈ GW, w.before _ s = true := fun w h => atoms_spec (ws := .code y_T_areTwoBoxes b_T_areTwoBoxes 3 ((some .boolean)) :: GW) B.pre w (List.mem_cons_of_mem _ h)
  have hown : s.vm.findClass "DangerTables" = some m.cls := findClass_of_methodNamed B.named
  have hlocks := B.notSynchronized
  have hf := hG.here
  have hK := hf.1
  have hAB : ∀ q, gB g q → gB g q := fun _ h => h
  have hS : va_S (gB g) s.heap s.heap [] := va_S.rf
  have hl := lv_entry ([.ref th, .int u, .int v]) (n := 3) (Nat.le_of_ble_eq_true rfl)
  rw [lg_entry_eq]
  generalize (lg_sl ([.ref th, .int u, .int v]) ++ List.replicate (3 - (lg_sl ([.ref th, .int u, .int v])).length) Slot.unset).toArray = ls at hl ⊢
  have hl : lv_has ls 3 [(0, .ref th), (1, .int u), (2, .int v)] := hl
  refine lv_aload_n hx hb d_T_areTwoBoxes_0 rfl (lv_at hl 0 rfl) ?_
  refine lv_iload_n hx hb d_T_areTwoBoxes_1 rfl (lv_at hl 1 rfl) ?_
  refine wr_i (cV (As := [.int u]) (rest := []) (C := "DangerTables") 1 ⟨hx, hb, hml, hown, hts⟩ (c_T_isBox l g w th tx ru rd go bo zo arr xs u ht hL) k_192 k_189 k_1 k_191 kp_3 (by decide +kernel) ⟨Nat.le_of_ble_eq_true rfl, Nat.le_of_ble_eq_true rfl⟩ rfl rfl ⟨prR_blind _ _ _, hw.recv hK ht rfl, prR_at hG hAB hS hw⟩ rfl hl.1 rfl (Nat.le_of_ble_eq_true rfl) d_T_areTwoBoxes_2 ⟨Nat.zero_le _, Nat.zero_le _⟩) (fun r_1 e_1 => ?_)
  refine lv_if_eq (tgt := 25) hx hb d_T_areTwoBoxes_5 (by decide) (fun c_2 => ?_) (fun c_2 => ?_)
  · have q_2 := b2_f e_1 c_2
    refine lv_iconst (v := 0) hx hb d_T_areTwoBoxes_25 (by decide) ?_
    exact W.zret (v := 0) (ty := .boolean) hx hb hr rfl (fun t ht hW => ⟨0, rfl, (by first | (simp [b2, e_1, c_2, q_2]; done) | (clear hts hown B; simp_all [b2]; done)), ht⟩) t_nil d_T_areTwoBoxes_26
  · have q_2 := b2_t e_1 c_2
    refine lv_aload_n hx hb d_T_areTwoBoxes_8 rfl (lv_at hl 0 rfl) ?_
    refine lv_iload_n hx hb d_T_areTwoBoxes_9 rfl (lv_at hl 2 rfl) ?_
    refine wr_i (cV (As := [.int v]) (rest := []) (C := "DangerTables") 1 ⟨hx, hb, hml, hown, hts⟩ (c_T_isBox l g w th tx ru rd go bo zo arr xs v ht hL) k_192 k_189 k_1 k_191 kp_3 (by decide +kernel) ⟨Nat.le_of_ble_eq_true rfl, Nat.le_of_ble_eq_true rfl⟩ rfl rfl ⟨prR_blind _ _ _, hw.recv hK ht rfl, prR_at hG hAB hS hw⟩ rfl hl.1 rfl (Nat.le_of_ble_eq_true rfl) d_T_areTwoBoxes_10 ⟨Nat.zero_le _, Nat.zero_le _⟩) (fun r_3 e_3 => ?_)
    refine lv_if_eq (tgt := 25) hx hb d_T_areTwoBoxes_13 (by decide) (fun c_4 => ?_) (fun c_4 => ?_)
    · have q_4 := b2_f e_3 c_4
      refine lv_iconst (v := 0) hx hb d_T_areTwoBoxes_25 (by decide) ?_
      exact W.zret (v := 0) (ty := .boolean) hx hb hr rfl (fun t ht hW => ⟨0, rfl, (by first | (simp [b2, e_1, c_2, q_2, e_3, c_4, q_4]; done) | (clear hts hown B; simp_all [b2]; done)), ht⟩) t_nil d_T_areTwoBoxes_26
    · have q_4 := b2_t e_3 c_4
      refine lv_iload_n hx hb d_T_areTwoBoxes_16 rfl (lv_at hl 1 rfl) ?_
      refine lv_iload_n hx hb d_T_areTwoBoxes_17 rfl (lv_at hl 2 rfl) ?_
      refine lv_icmp_eq (tgt := 25) hx hb d_T_areTwoBoxes_18 (by decide) (fun c_5 => ?_) (fun c_5 => ?_)
      · refine lv_iconst (v := 0) hx hb d_T_areTwoBoxes_25 (by decide) ?_
        exact W.zret (v := 0) (ty := .boolean) hx hb hr rfl (fun t ht hW => ⟨0, rfl, (by first | (simp [b2, e_1, c_2, q_2, e_3, c_4, q_4, c_5]; done) | (clear hts hown B; simp_all [b2]; done)), ht⟩) t_nil d_T_areTwoBoxes_26
      · refine lv_iconst (v := 1) hx hb d_T_areTwoBoxes_21 (by decide) ?_
        refine lv_goto (tgt := 26) hx hb d_T_areTwoBoxes_22 (by decide) ?_
        exact W.zret (v := 1) (ty := .boolean) hx hb hr rfl (fun t ht hW => ⟨1, rfl, (by first | (simp [b2, e_1, c_2, q_2, e_3, c_4, q_4, c_5]; done) | (clear hts hown B; simp_all [b2]; done)), ht⟩) t_nil d_T_areTwoBoxes_26

set_option maxHeartbeats 4000000 in
set_option maxRecDepth 100000 in
theorem c_T_ruleOfClasses (l : Launch) (g : GT) (w : Nat → Option va_E) (th tx ru : Nat) (rd : Int32) (go bo zo : Nat) (rf : Nat → Int32) (ga gb : Nat) (c1 s1 l1 f1 : Int32) (x1 : Int64) (c2 s2 l2 f2 : Int32) (x2 : Int64) (u v : Int32) (ht : w th = some (cT tx ru rd go bo zo)) (hru : w ru = some (cA g 45 rf)) (hg1 : w ga = some (cG c1 s1 l1 f1 x1)) (hg2 : w gb = some (cG c2 s2 l2 f2 x2)) (hu : okC u) (hv : okC v) : Met l y_T_ruleOfClasses (.code y_T_ruleOfClasses b_T_ruleOfClasses 6 ((some .int)) :: GW) ({ frames := 1, cells := 0, slots := 0, locals := 23 }) (prR g [.ref th, .ref ga, .int u, .ref gb, .int v] w) (vp_Si (fun r => r = ruC rf x1 x2 u v)) 0 0 (fun _ => False) := by
  refine Met.ofW (cc := b_T_ruleOfClasses) (maxL := 6) (ret := (some .int)) (by decide) rfl ?_
  intro p e s m args below meth c s₁ B hml hv
  obtain ⟨rfl, hG, hw⟩ := hv
  have hx := B.exec
  have hb := B.bytes
  have hr := B.returns
  have hts : ∀ w ∈ GW, w.before _ s = true := fun w h => atoms_spec (ws := .code y_T_ruleOfClasses b_T_ruleOfClasses 6 ((some .int)) :: GW) B.pre w (List.mem_cons_of_mem _ h)
  have hown : s.vm.findClass "DangerTables" = some m.cls := findClass_of_methodNamed B.named
  have hlocks := B.notSynchronized
  have hf := hG.here
  have hK := hf.1
  have hAB : ∀ q, gB g q → gB g q := fun _ h => h
  have hS : va_S (gB g) s.heap s.heap [] := va_S.rf
  have hl := lv_entry ([.ref th, .ref ga, .int u, .ref gb, .int v]) (n := 6) (Nat.le_of_ble_eq_true rfl)
  rw [lg_entry_eq]
  generalize (lg_sl ([.ref th, .ref ga, .int u, .ref gb, .int v]) ++ List.replicate (6 - (lg_sl ([.ref th, .ref ga, .int u, .ref gb, .int v])).length) Slot.unset).toArray = ls at hl ⊢
  have hl : lv_has ls 6 [(0, .ref th), (1, .ref ga), (2, .int u), (3, .ref gb), (4, .int v)] := hl
  refine lv_iload_n hx hb d_T_ruleOfClasses_0 rfl (lv_at hl 2 rfl) ?_
  refine lv_if_eq (tgt := 9) hx hb d_T_ruleOfClasses_1 (by decide) (fun c_1 => ?_) (fun c_1 => ?_)
  · refine lv_iconst (v := 0) hx hb d_T_ruleOfClasses_9 (by decide) ?_
    exact W.iret (v := 0) hx hb hr (fun t ht hW => ⟨0, rfl, (by first | (simp [b2, ruC, c_1]; done) | (clear hts hown B; simp_all [b2, ruC]; done)), ht⟩) t_nil d_T_ruleOfClasses_10
  · refine lv_iload hx hb d_T_ruleOfClasses_4 (lv_at hl 4 rfl) ?_
    refine lv_if_ne (tgt := 11) hx hb d_T_ruleOfClasses_6 (by decide) (fun c_2 => ?_) (fun c_2 => ?_)
    · refine lv_iload_n hx hb d_T_ruleOfClasses_11 rfl (lv_at hl 2 rfl) ?_
      refine lv_iload hx hb d_T_ruleOfClasses_12 (lv_at hl 4 rfl) ?_
      refine wr_i (cS (As := [.int u, .int v]) (rest := []) 2 ⟨hx, hb, hml, hown, hts⟩ (c_T_pairNumber l u v) k_129 k_169 k_1 k_128 (by decide +kernel) ⟨Nat.le_of_ble_eq_true rfl, Nat.le_of_ble_eq_true rfl⟩ rfl rfl ⟨prN_blind _, fun _ _ _ => ⟨rfl, trivial⟩⟩ rfl hl.1 rfl (Nat.le_of_ble_eq_true rfl) d_T_ruleOfClasses_14 ⟨Nat.zero_le _, Nat.zero_le _⟩) (fun r_3 e_3 => ?_)
      refine lv_istore (lv' := [(5, .int r_3), (0, .ref th), (1, .ref ga), (2, .int u), (3, .ref gb), (4, .int v)]) hx hb d_T_ruleOfClasses_17 hl (by decide) rfl (fun ls hl => ?_)
      refine lv_aload_n hx hb d_T_ruleOfClasses_19 rfl (lv_at hl 2 rfl) ?_
      refine lv_iload hx hb d_T_ruleOfClasses_20 (lv_at hl 0 rfl) ?_
      refine wr_i (cV (As := [.int r_3]) (rest := []) (C := "DangerTables$Good") 1 ⟨hx, hb, hml, hown, hts⟩ (c_G_isExempt l g w ga c1 s1 l1 f1 x1 r_3 hg1) k_177 k_508 k_14 k_175 k_176 (by decide +kernel) ⟨Nat.le_of_ble_eq_true rfl, Nat.le_of_ble_eq_true rfl⟩ rfl rfl ⟨prR_blind _ _ _, hw.recv hK hg1 rfl, prR_at hG hAB hS hw⟩ rfl hl.1 rfl (Nat.le_of_ble_eq_true rfl) d_T_ruleOfClasses_22 ⟨Nat.zero_le _, Nat.zero_le _⟩) (fun r_4 e_4 => ?_)
      refine lv_if_ne (tgt := 37) hx hb d_T_ruleOfClasses_25 (by decide) (fun c_5 => ?_) (fun c_5 => ?_)
      · have q_5 := b2_t e_4 c_5
        refine lv_iconst (v := 0) hx hb d_T_ruleOfClasses_37 (by decide) ?_
        refine lv_goto (tgt := 48) hx hb d_T_ruleOfClasses_38 (by decide) ?_
        exact W.iret (v := 0) hx hb hr (fun t ht hW => ⟨0, rfl, (by first | (simp [b2, ruC, c_1, c_2, e_3, e_4, c_5, q_5]; done) | (clear hts hown B; simp_all [b2, ruC]; done)), ht⟩) t_nil d_T_ruleOfClasses_48
      · have q_5 := b2_f e_4 c_5
        refine lv_aload_n hx hb d_T_ruleOfClasses_28 rfl (lv_at hl 4 rfl) ?_
        refine lv_iload hx hb d_T_ruleOfClasses_29 (lv_at hl 0 rfl) ?_
        refine wr_i (cV (As := [.int r_3]) (rest := []) (C := "DangerTables$Good") 1 ⟨hx, hb, hml, hown, hts⟩ (c_G_isExempt l g w gb c2 s2 l2 f2 x2 r_3 hg2) k_177 k_508 k_14 k_175 k_176 (by decide +kernel) ⟨Nat.le_of_ble_eq_true rfl, Nat.le_of_ble_eq_true rfl⟩ rfl rfl ⟨prR_blind _ _ _, hw.recv hK hg2 rfl, prR_at hG hAB hS hw⟩ rfl hl.1 rfl (Nat.le_of_ble_eq_true rfl) d_T_ruleOfClasses_31 ⟨Nat.zero_le _, Nat.zero_le _⟩) (fun r_6 e_6 => ?_)
        refine lv_if_eq (tgt := 41) hx hb d_T_ruleOfClasses_34 (by decide) (fun c_7 => ?_) (fun c_7 => ?_)
        · have q_7 := b2_f e_6 c_7
          refine lv_aload_n hx hb d_T_ruleOfClasses_41 rfl (lv_at hl 1 rfl) ?_
          refine ww_get (v := .ref ru) (C := R_T) (T := F_T) (N := 6) (ci := 0) hx hb hts i_T hown hK hw ht rfl 1 (by decide) (hts _ k_81) (fun _ h9 => h9) rfl d_T_ruleOfClasses_42 ?_
          refine lv_iload hx hb d_T_ruleOfClasses_45 (lv_at hl 0 rfl) ?_
          obtain ⟨j, hj, ej⟩ := prI_in (hu.resolve_left c_1) (hv.resolve_left (by first | exact c_2 | exact c_3))
          refine ww_iald (v := rf (prI u v).toNatClampNeg) hx hb hK hw 0 hru rfl (by rw [e_3, ej]; exact vp_in_nI hj (by decide)) (by rw [e_3]) d_T_ruleOfClasses_47 ?_
          exact W.iret (v := (rf (prI u v).toNatClampNeg)) hx hb hr (fun t ht hW => ⟨(rf (prI u v).toNatClampNeg), rfl, (by first | (simp [b2, ruC, c_1, c_2, e_3, e_4, c_5, q_5, e_6, c_7, q_7]; done) | (clear hts hown B; simp_all [b2, ruC]; done)), ht⟩) t_nil d_T_ruleOfClasses_48
        · have q_7 := b2_t e_6 c_7
          refine lv_iconst (v := 0) hx hb d_T_ruleOfClasses_37 (by decide) ?_
          refine lv_goto (tgt := 48) hx hb d_T_ruleOfClasses_38 (by decide) ?_
          exact W.iret (v := 0) hx hb hr (fun t ht hW => ⟨0, rfl, (by first | (simp [b2, ruC, c_1, c_2, e_3, e_4, c_5, q_5, e_6, c_7, q_7]; done) | (clear hts hown B; simp_all [b2, ruC]; done)), ht⟩) t_nil d_T_ruleOfClasses_48
    · refine lv_iconst (v := 0) hx hb d_T_ruleOfClasses_9 (by decide) ?_
      exact W.iret (v := 0) hx hb hr (fun t ht hW => ⟨0, rfl, (by first | (simp [b2, ruC, c_1, c_2]; done) | (clear hts hown B; simp_all [b2, ruC]; done)), ht⟩) t_nil d_T_ruleOfClasses_10

set_option maxHeartbeats 4000000 in
set_option maxRecDepth 100000 in
theorem c_T_ruleOfParts (l : Launch) (g : GT) (w : Nat → Option va_E) (th tx ru : Nat) (rd : Int32) (go bo zo : Nat) (rf : Nat → Int32) (qa qb : Nat) (ga gb : Nat) (c1 s1 l1 f1 : Int32) (x1 : Int64) (c2 s2 l2 f2 : Int32) (x2 : Int64) (n1 a1 n2 a2 : Int32) (ht : w th = some (cT tx ru rd go bo zo)) (hru : w ru = some (cA g 45 rf)) (hg1 : w ga = some (cG c1 s1 l1 f1 x1)) (hg2 : w gb = some (cG c2 s2 l2 f2 x2)) (hp1 : w qa = some (cP ga n1 a1)) (hp2 : w qb = some (cP gb n2 a2)) (ho1 : okP (c1, s1, l1, f1, x1, n1, a1)) (ho2 : okP (c2, s2, l2, f2, x2, n2, a2)) : Met l y_T_ruleOfParts (.code y_T_ruleOfParts b_T_ruleOfParts 6 ((some .int)) :: GW) ({ frames := 2, cells := 0, slots := 0, locals := 48 }) (prR g [.ref th, .ref qa, .ref qb] w) (vp_Si (fun r => r = ruP rf (c1, s1, l1, f1, x1, n1, a1) (c2, s2, l2, f2, x2, n2, a2))) 0 0 (fun _ => False) := by
  refine Met.ofW (cc := b_T_ruleOfParts) (maxL := 6) (ret := (some .int)) (by decide) rfl ?_
  intro p e s m args below meth c s₁ B hml hv
  obtain ⟨rfl, hG, hw⟩ := hv
  have hx := B.exec
  have hb := B.bytes
  have hr := B.returns
  have hts : ∀ w ∈ GW, w.before _ s = true := fun w h => atoms_spec (ws := .code y_T_ruleOfParts b_T_ruleOfParts 6 ((some .int)) :: GW) B.pre w (List.mem_cons_of_mem _ h)
  have hown : s.vm.findClass "DangerTables" = some m.cls := findClass_of_methodNamed B.named
  have hlocks := B.notSynchronized
  have hf := hG.here
  have hK := hf.1
  have hAB : ∀ q, gB g q → gB g q := fun _ h => h
  have hS : va_S (gB g) s.heap s.heap [] := va_S.rf
  have hl := lv_entry ([.ref th, .ref qa, .ref qb]) (n := 6) (Nat.le_of_ble_eq_true rfl)
  rw [lg_entry_eq]
  generalize (lg_sl ([.ref th, .ref qa, .ref qb]) ++ List.replicate (6 - (lg_sl ([.ref th, .ref qa, .ref qb])).length) Slot.unset).toArray = ls at hl ⊢
  have hl : lv_has ls 6 [(0, .ref th), (1, .ref qa), (2, .ref qb)] := hl
  refine lv_aload_n hx hb d_T_ruleOfParts_0 rfl (lv_at hl 1 rfl) ?_
  refine ww_getN (v := .ref ga) (C := R_P) (T := F_P) (N := 3) (ci := 3) hx hb hts i_P hown hK hw hp1 rfl 0 (by decide) (va_Nw.use rfl (hf.2.1 _ x_450)) (fun _ h9 => h9) rfl d_T_ruleOfParts_1 ?_
  refine lv_astore_n (lv' := [(3, .ref ga), (0, .ref th), (1, .ref qa), (2, .ref qb)]) hx hb d_T_ruleOfParts_4 rfl hl (by decide) rfl (fun ls hl => ?_)
  refine lv_aload_n hx hb d_T_ruleOfParts_5 rfl (lv_at hl 3 rfl) ?_
  refine ww_getN (v := .ref gb) (C := R_P) (T := F_P) (N := 3) (ci := 3) hx hb hts i_P hown hK hw hp2 rfl 0 (by decide) (va_Nw.use rfl (hf.2.1 _ x_450)) (fun _ h9 => h9) rfl d_T_ruleOfParts_6 ?_
  refine lv_astore (lv' := [(4, .ref gb), (3, .ref ga), (0, .ref th), (1, .ref qa), (2, .ref qb)]) hx hb d_T_ruleOfParts_9 hl (by decide) rfl (fun ls hl => ?_)
  refine lv_aload_n hx hb d_T_ruleOfParts_11 rfl (lv_at hl 2 rfl) ?_
  refine lv_aload_n hx hb d_T_ruleOfParts_12 rfl (lv_at hl 1 rfl) ?_
  refine lv_aload_n hx hb d_T_ruleOfParts_13 rfl (lv_at hl 1 rfl) ?_
  refine ww_getN (v := .int c1) (C := R_G) (T := F_G) (N := 5) (ci := 2) hx hb hts i_G hown hK hw hg1 rfl 0 (by decide) (va_Nw.use rfl (hf.2.1 _ x_324)) (fun _ h9 => h9) rfl d_T_ruleOfParts_14 ?_
  refine lv_aload hx hb d_T_ruleOfParts_17 (lv_at hl 0 rfl) ?_
  refine lv_aload hx hb d_T_ruleOfParts_19 (lv_at hl 0 rfl) ?_
  refine ww_getN (v := .int c2) (C := R_G) (T := F_G) (N := 5) (ci := 2) hx hb hts i_G hown hK hw hg2 rfl 0 (by decide) (va_Nw.use rfl (hf.2.1 _ x_324)) (fun _ h9 => h9) rfl d_T_ruleOfParts_21 ?_
  refine wr_i (cV (As := [.ref ga, .int c1, .ref gb, .int c2]) (rest := []) (C := "DangerTables") 4 ⟨hx, hb, hml, hown, hts⟩ (c_T_ruleOfClasses l g w th tx ru rd go bo zo rf ga gb c1 s1 l1 f1 x1 c2 s2 l2 f2 x2 c1 c2 ht hru hg1 hg2 (Or.inr ho1.1) (Or.inr ho2.1)) k_507 k_504 k_1 k_506 kp_12 (by decide +kernel) ⟨Nat.le_of_ble_eq_true rfl, Nat.le_of_ble_eq_true rfl⟩ rfl rfl ⟨prR_blind _ _ _, hw.recv hK ht rfl, prR_at hG hAB hS hw⟩ rfl hl.1 rfl (Nat.le_of_ble_eq_true rfl) d_T_ruleOfParts_24 ⟨Nat.zero_le _, Nat.zero_le _⟩) (fun r_1 e_1 => ?_)
  refine lv_istore (lv' := [(5, .int r_1), (4, .ref gb), (3, .ref ga), (0, .ref th), (1, .ref qa), (2, .ref qb)]) hx hb d_T_ruleOfParts_27 hl (by decide) rfl (fun ls hl => ?_)
  refine lv_iload hx hb d_T_ruleOfParts_29 (lv_at hl 0 rfl) ?_
  refine lv_aload_n hx hb d_T_ruleOfParts_31 rfl (lv_at hl 3 rfl) ?_
  refine lv_aload_n hx hb d_T_ruleOfParts_32 rfl (lv_at hl 2 rfl) ?_
  refine lv_aload_n hx hb d_T_ruleOfParts_33 rfl (lv_at hl 2 rfl) ?_
  refine ww_getN (v := .int c1) (C := R_G) (T := F_G) (N := 5) (ci := 2) hx hb hts i_G hown hK hw hg1 rfl 0 (by decide) (va_Nw.use rfl (hf.2.1 _ x_324)) (fun _ h9 => h9) rfl d_T_ruleOfParts_34 ?_
  refine lv_aload hx hb d_T_ruleOfParts_37 (lv_at hl 1 rfl) ?_
  refine lv_aload hx hb d_T_ruleOfParts_39 (lv_at hl 1 rfl) ?_
  refine ww_getN (v := .int s2) (C := R_G) (T := F_G) (N := 5) (ci := 2) hx hb hts i_G hown hK hw hg2 rfl 1 (by decide) (va_Nw.use rfl (hf.2.1 _ x_326)) (fun _ h9 => h9) rfl d_T_ruleOfParts_41 ?_
  refine wr_i (cV (As := [.ref ga, .int c1, .ref gb, .int s2]) (rest := [.int r_1]) (C := "DangerTables") 4 ⟨hx, hb, hml, hown, hts⟩ (c_T_ruleOfClasses l g w th tx ru rd go bo zo rf ga gb c1 s1 l1 f1 x1 c2 s2 l2 f2 x2 c1 s2 ht hru hg1 hg2 (Or.inr ho1.1) ho2.2) k_507 k_504 k_1 k_506 kp_12 (by decide +kernel) ⟨Nat.le_of_ble_eq_true rfl, Nat.le_of_ble_eq_true rfl⟩ rfl rfl ⟨prR_blind _ _ _, hw.recv hK ht rfl, prR_at hG hAB hS hw⟩ rfl hl.1 rfl (Nat.le_of_ble_eq_true rfl) d_T_ruleOfParts_44 ⟨Nat.zero_le _, Nat.zero_le _⟩) (fun r_2 e_2 => ?_)
  refine va_mmax hx hb (hml.trans hl.1.symm) hown (hts _ k_509) (hts _ k_363) (hts _ k_16) (hts _ k_364) (Nat.le_of_ble_eq_true rfl) (Nat.le_of_ble_eq_true rfl) (Nat.zero_le _) (Nat.zero_le _) d_T_ruleOfParts_47 ?_
  refine lv_topi (fun v_3 e_3 => ?_)
  refine lv_istore (lv' := [(5, .int v_3), (4, .ref gb), (3, .ref ga), (0, .ref th), (1, .ref qa), (2, .ref qb)]) hx hb d_T_ruleOfParts_50 hl (by decide) rfl (fun ls hl => ?_)
  refine lv_iload hx hb d_T_ruleOfParts_52 (lv_at hl 0 rfl) ?_
  refine lv_aload_n hx hb d_T_ruleOfParts_54 rfl (lv_at hl 3 rfl) ?_
  refine lv_aload_n hx hb d_T_ruleOfParts_55 rfl (lv_at hl 2 rfl) ?_
  refine lv_aload_n hx hb d_T_ruleOfParts_56 rfl (lv_at hl 2 rfl) ?_
  refine ww_getN (v := .int s1) (C := R_G) (T := F_G) (N := 5) (ci := 2) hx hb hts i_G hown hK hw hg1 rfl 1 (by decide) (va_Nw.use rfl (hf.2.1 _ x_326)) (fun _ h9 => h9) rfl d_T_ruleOfParts_57 ?_
  refine lv_aload hx hb d_T_ruleOfParts_60 (lv_at hl 1 rfl) ?_
  refine lv_aload hx hb d_T_ruleOfParts_62 (lv_at hl 1 rfl) ?_
  refine ww_getN (v := .int c2) (C := R_G) (T := F_G) (N := 5) (ci := 2) hx hb hts i_G hown hK hw hg2 rfl 0 (by decide) (va_Nw.use rfl (hf.2.1 _ x_324)) (fun _ h9 => h9) rfl d_T_ruleOfParts_64 ?_
  refine wr_i (cV (As := [.ref ga, .int s1, .ref gb, .int c2]) (rest := [.int v_3]) (C := "DangerTables") 4 ⟨hx, hb, hml, hown, hts⟩ (c_T_ruleOfClasses l g w th tx ru rd go bo zo rf ga gb c1 s1 l1 f1 x1 c2 s2 l2 f2 x2 s1 c2 ht hru hg1 hg2 ho1.2 (Or.inr ho2.1)) k_507 k_504 k_1 k_506 kp_12 (by decide +kernel) ⟨Nat.le_of_ble_eq_true rfl, Nat.le_of_ble_eq_true rfl⟩ rfl rfl ⟨prR_blind _ _ _, hw.recv hK ht rfl, prR_at hG hAB hS hw⟩ rfl hl.1 rfl (Nat.le_of_ble_eq_true rfl) d_T_ruleOfParts_67 ⟨Nat.zero_le _, Nat.zero_le _⟩) (fun r_4 e_4 => ?_)
  refine va_mmax hx hb (hml.trans hl.1.symm) hown (hts _ k_509) (hts _ k_363) (hts _ k_16) (hts _ k_364) (Nat.le_of_ble_eq_true rfl) (Nat.le_of_ble_eq_true rfl) (Nat.zero_le _) (Nat.zero_le _) d_T_ruleOfParts_70 ?_
  refine lv_topi (fun v_5 e_5 => ?_)
  refine lv_istore (lv' := [(5, .int v_5), (4, .ref gb), (3, .ref ga), (0, .ref th), (1, .ref qa), (2, .ref qb)]) hx hb d_T_ruleOfParts_73 hl (by decide) rfl (fun ls hl => ?_)
  refine lv_iload hx hb d_T_ruleOfParts_75 (lv_at hl 0 rfl) ?_
  refine lv_aload_n hx hb d_T_ruleOfParts_77 rfl (lv_at hl 3 rfl) ?_
  refine lv_aload_n hx hb d_T_ruleOfParts_78 rfl (lv_at hl 2 rfl) ?_
  refine lv_aload_n hx hb d_T_ruleOfParts_79 rfl (lv_at hl 2 rfl) ?_
  refine ww_getN (v := .int s1) (C := R_G) (T := F_G) (N := 5) (ci := 2) hx hb hts i_G hown hK hw hg1 rfl 1 (by decide) (va_Nw.use rfl (hf.2.1 _ x_326)) (fun _ h9 => h9) rfl d_T_ruleOfParts_80 ?_
  refine lv_aload hx hb d_T_ruleOfParts_83 (lv_at hl 1 rfl) ?_
  refine lv_aload hx hb d_T_ruleOfParts_85 (lv_at hl 1 rfl) ?_
  refine ww_getN (v := .int s2) (C := R_G) (T := F_G) (N := 5) (ci := 2) hx hb hts i_G hown hK hw hg2 rfl 1 (by decide) (va_Nw.use rfl (hf.2.1 _ x_326)) (fun _ h9 => h9) rfl d_T_ruleOfParts_87 ?_
  refine wr_i (cV (As := [.ref ga, .int s1, .ref gb, .int s2]) (rest := [.int v_5]) (C := "DangerTables") 4 ⟨hx, hb, hml, hown, hts⟩ (c_T_ruleOfClasses l g w th tx ru rd go bo zo rf ga gb c1 s1 l1 f1 x1 c2 s2 l2 f2 x2 s1 s2 ht hru hg1 hg2 ho1.2 ho2.2) k_507 k_504 k_1 k_506 kp_12 (by decide +kernel) ⟨Nat.le_of_ble_eq_true rfl, Nat.le_of_ble_eq_true rfl⟩ rfl rfl ⟨prR_blind _ _ _, hw.recv hK ht rfl, prR_at hG hAB hS hw⟩ rfl hl.1 rfl (Nat.le_of_ble_eq_true rfl) d_T_ruleOfParts_90 ⟨Nat.zero_le _, Nat.zero_le _⟩) (fun r_6 e_6 => ?_)
  refine va_mmax hx hb (hml.trans hl.1.symm) hown (hts _ k_509) (hts _ k_363) (hts _ k_16) (hts _ k_364) (Nat.le_of_ble_eq_true rfl) (Nat.le_of_ble_eq_true rfl) (Nat.zero_le _) (Nat.zero_le _) d_T_ruleOfParts_93 ?_
  refine lv_topi (fun v_7 e_7 => ?_)
  refine lv_istore (lv' := [(5, .int v_7), (4, .ref gb), (3, .ref ga), (0, .ref th), (1, .ref qa), (2, .ref qb)]) hx hb d_T_ruleOfParts_96 hl (by decide) rfl (fun ls hl => ?_)
  refine lv_aload_n hx hb d_T_ruleOfParts_98 rfl (lv_at hl 4 rfl) ?_
  refine wr_i (cV (As := []) (rest := []) (C := "DangerTables$Part") 0 ⟨hx, hb, hml, hown, hts⟩ (c_P_isLimited l g w qa ga n1 a1 c1 s1 l1 f1 x1 hp1 hg1) k_513 k_510 k_20 k_511 k_512 (by decide +kernel) ⟨Nat.le_of_ble_eq_true rfl, Nat.le_of_ble_eq_true rfl⟩ rfl rfl ⟨prR_blind _ _ _, hw.recv hK hp1 rfl, prR_at hG hAB hS hw⟩ rfl hl.1 rfl (Nat.le_of_ble_eq_true rfl) d_T_ruleOfParts_99 ⟨Nat.zero_le _, Nat.zero_le _⟩) (fun r_8 e_8 => ?_)
  refine lv_if_ne (tgt := 112) hx hb d_T_ruleOfParts_102 (by decide) (fun c_9 => ?_) (fun c_9 => ?_)
  · have q_9 := b2_t e_8 c_9
    refine lv_iload hx hb d_T_ruleOfParts_112 (lv_at hl 0 rfl) ?_
    refine lv_iconst (v := 1) hx hb d_T_ruleOfParts_114 (by decide) ?_
    refine va_mmin hx hb (hml.trans hl.1.symm) hown (hts _ k_514) (hts _ k_393) (hts _ k_16) (hts _ k_394) (Nat.le_of_ble_eq_true rfl) (Nat.le_of_ble_eq_true rfl) (Nat.zero_le _) (Nat.zero_le _) d_T_ruleOfParts_115 ?_
    refine lv_topi (fun v_10 e_10 => ?_)
    refine lv_goto (tgt := 123) hx hb d_T_ruleOfParts_118 (by decide) ?_
    exact W.iret (v := v_10) hx hb hr (fun t ht hW => ⟨v_10, rfl, (by first | (simp [b2, ruP, ruQ, mxI, mnI, e_1, e_2, e_3, e_4, e_5, e_6, e_7, e_8, c_9, q_9, e_10]; done) | (clear hts hown B; simp_all [b2, ruP, ruQ, mxI, mnI]; done)), ht⟩) t_nil d_T_ruleOfParts_123
  · have q_9 := b2_f e_8 c_9
    refine lv_aload_n hx hb d_T_ruleOfParts_105 rfl (lv_at hl 5 rfl) ?_
    refine wr_i (cV (As := []) (rest := []) (C := "DangerTables$Part") 0 ⟨hx, hb, hml, hown, hts⟩ (c_P_isLimited l g w qb gb n2 a2 c2 s2 l2 f2 x2 hp2 hg2) k_513 k_510 k_20 k_511 k_512 (by decide +kernel) ⟨Nat.le_of_ble_eq_true rfl, Nat.le_of_ble_eq_true rfl⟩ rfl rfl ⟨prR_blind _ _ _, hw.recv hK hp2 rfl, prR_at hG hAB hS hw⟩ rfl hl.1 rfl (Nat.le_of_ble_eq_true rfl) d_T_ruleOfParts_106 ⟨Nat.zero_le _, Nat.zero_le _⟩) (fun r_11 e_11 => ?_)
    refine lv_if_eq (tgt := 121) hx hb d_T_ruleOfParts_109 (by decide) (fun c_12 => ?_) (fun c_12 => ?_)
    · have q_12 := b2_f e_11 c_12
      refine lv_iload hx hb d_T_ruleOfParts_121 (lv_at hl 0 rfl) ?_
      exact W.iret (v := v_7) hx hb hr (fun t ht hW => ⟨v_7, rfl, (by first | (simp [b2, ruP, ruQ, mxI, mnI, e_1, e_2, e_3, e_4, e_5, e_6, e_7, e_8, c_9, q_9, e_11, c_12, q_12]; done) | (clear hts hown B; simp_all [b2, ruP, ruQ, mxI, mnI]; done)), ht⟩) t_nil d_T_ruleOfParts_123
    · have q_12 := b2_t e_11 c_12
      refine lv_iload hx hb d_T_ruleOfParts_112 (lv_at hl 0 rfl) ?_
      refine lv_iconst (v := 1) hx hb d_T_ruleOfParts_114 (by decide) ?_
      refine va_mmin hx hb (hml.trans hl.1.symm) hown (hts _ k_514) (hts _ k_393) (hts _ k_16) (hts _ k_394) (Nat.le_of_ble_eq_true rfl) (Nat.le_of_ble_eq_true rfl) (Nat.zero_le _) (Nat.zero_le _) d_T_ruleOfParts_115 ?_
      refine lv_topi (fun v_13 e_13 => ?_)
      refine lv_goto (tgt := 123) hx hb d_T_ruleOfParts_118 (by decide) ?_
      exact W.iret (v := v_13) hx hb hr (fun t ht hW => ⟨v_13, rfl, (by first | (simp [b2, ruP, ruQ, mxI, mnI, e_1, e_2, e_3, e_4, e_5, e_6, e_7, e_8, c_9, q_9, e_11, c_12, q_12, e_13]; done) | (clear hts hown B; simp_all [b2, ruP, ruQ, mxI, mnI]; done)), ht⟩) t_nil d_T_ruleOfParts_123
end
section
/-! RULES BETWEEN BOXES, SUMS OF A ZONE, WHAT BARS A PLACE -/
abbrev cZ (g : GT) (fz : Nat → Option Nat) : va_E := .inl (g.2.1 4, 4, .inr (.inr (.inr (.inr fz))))
def ffx {α : Type} (p : α → Bool) : List α → Nat → Int32
  | [], _ => -1
  | r :: t, i => if p r = true then nI i else ffx p t (i + 1)
def yardI (k : Nat) : Int32 := match k with
  | 0 => 0
  | 1 => 3
  | 2 => 6
  | _ => 12
theorem yard_at {k : Nat} (h : k < 4) : yardF (nI k).toNatClampNeg = .int (yardI (nI k).toNatClampNeg) := by
  rw [nI_clamp (by omega)]
  rcases (show k = 0 ∨ k = 1 ∨ k = 2 ∨ k = 3 by omega) with rfl | rfl | rfl | rfl <;> rfl
def tnI (r d : Int32) : Bool := decide (4 ≤ r) || !decide (yardI r.toNatClampNeg ≤ d)
def okR (rf : Nat → Int32) : Prop := ∀ j : Nat, j < 45 → ∃ k : Nat, k ≤ 4 ∧ rf j = nI k
def in4 (x : Int32) : Prop := ∃ k : Nat, k ≤ 4 ∧ x = nI k
theorem in4_0 : in4 0 := ⟨0, by omega, rfl⟩
theorem in4_mx {x y : Int32} (hx : in4 x) (hy : in4 y) : in4 (mxI x y) := by unfold mxI; split <;> assumption
theorem in4_mn {x y : Int32} (hx : in4 x) (hy : in4 y) : in4 (mnI x y) := by unfold mnI; split <;> assumption
theorem in4_ruC {rf : Nat → Int32} {x1 x2 : Int64} {u v : Int32} (hr : okR rf) (hu : okC u) (hv : okC v) : in4 (ruC rf x1 x2 u v) := by
  unfold ruC
  split
  · exact in4_0
  · rename_i h1
    split
    · exact in4_0
    · rename_i h2
      split
      · exact in4_0
      · split
        · exact in4_0
        · obtain ⟨j, hj, ej⟩ := prI_in (hu.resolve_left h1) (hv.resolve_left h2)
          rw [ej, nI_clamp (by omega)]
          exact hr j hj
theorem in4_ruP {rf : Nat → Int32} {p q : PR} (hr : okR rf) (hp : okP p) (hq : okP q) : in4 (ruP rf p q) := by
  have h : in4 (ruQ rf p q) := in4_mx (in4_mx (in4_mx (in4_ruC hr (Or.inr hp.1) (Or.inr hq.1)) (in4_ruC hr (Or.inr hp.1) hq.2)) (in4_ruC hr hp.2 (Or.inr hq.1))) (in4_ruC hr hp.2 hq.2)
  have h1 : in4 1 := ⟨1, by omega, rfl⟩
  unfold ruP
  split
  · exact in4_mn h h1
  · split
    · exact in4_mn h h1
    · exact h
theorem in4_ruG {rf : Nat → Int32} {p : PR} (hr : okR rf) (hp : okP p) : ∀ (qs : List PR) (a : Int32), (∀ q ∈ qs, okP q) → in4 a → in4 (ruG rf qs a p)
  | [], a, _, ha => ha
  | q :: t, a, hq, ha => in4_ruG hr hp t _ (fun x hx => hq x (List.mem_cons_of_mem _ hx)) (in4_mx ha (in4_ruP hr hp (hq q List.mem_cons_self)))
theorem in4_ruH {rf : Nat → Int32} (hr : okR rf) {qs : List PR} (hq : ∀ q ∈ qs, okP q) : ∀ (ps : List PR) (a : Int32), (∀ p ∈ ps, okP p) → in4 a → in4 (ps.foldl (ruG rf qs) a)
  | [], a, _, ha => ha
  | p :: t, a, hp, ha => in4_ruH hr hq t _ (fun x hx => hp x (List.mem_cons_of_mem _ hx)) (in4_ruG hr (hp p List.mem_cons_self) qs a hq ha)
theorem in4_ruB {rf : Nat → Int32} (hr : okR rf) {ps qs : List PR} (hp : ∀ p ∈ ps, okP p) (hq : ∀ q ∈ qs, okP q) : in4 (ruB rf ps qs) := in4_ruH hr hq ps 0 hp in4_0
def nrP (rf : Nat → Int32) (ps : List PR) (z x y : Int32) (b : BX) : Bool := decide (b.2.1 = z) && tnI (ruB rf ps b.1) (absI (b.2.2.1 - x) + absI (b.2.2.2.1 - y))
def nrB (rf : Nat → Int32) (ps : List PR) (z x y : Int32) (bs : List BX) : Int32 := ffx (nrP rf ps z x y) bs 0
def lpP (mz : Nat → Int32) (bs : List BX) (ps : List PR) (z : Int32) (i : Nat) : Bool := !decide (kcB ps (nI i) ≤ 0) && !decide (kcB ps (nI i) + kzB bs z (nI i) ≤ mz i)
def lpC (p : Nat → Bool) : Nat → Nat → Int32
  | 0, _ => -1
  | n + 1, i => if p i = true then nI i else lpC p n (i + 1)
def lpB (mz : Nat → Int32) (bs : List BX) (ps : List PR) (z : Int32) : Int32 := lpC (lpP mz bs ps z) 9 1
def fbB (rf : Nat → Int32) (mz : Nat → Int32) (bs : List BX) (b : BX) (z x y : Int32) : Int32 :=
  if wtB b.1 &&& (b.2.2.2.2 ^^^ -1) = 0 then
    if tkB bs z x y = true then 32
    else if lpB mz bs b.1 z = -1 then
      if nrB rf b.1 z x y bs = -1 then 0 else 64 + nrB rf b.1 z x y bs
    else 48 + lpB mz bs b.1 z
  else 16
set_option maxHeartbeats 4000000 in
set_option maxRecDepth 100000 in
theorem c_T_ruleOfBoxes (l : Launch) (g : GT) (w : Nat → Option va_E) (th tx ru : Nat) (rd : Int32) (go bo zo : Nat) (rf : Nat → Int32) (aA aB : Nat) (bA bB : BX) (ht : w th = some (cT tx ru rd go bo zo)) (hru : w ru = some (cA g 45 rf)) (hB1 : isBx g w aA bA) (hB2 : isBx g w aB bB) (ho1 : ∀ r ∈ bA.1, okP r) (ho2 : ∀ r ∈ bB.1, okP r) : Met l y_T_ruleOfBoxes (.code y_T_ruleOfBoxes b_T_ruleOfBoxes 6 ((some .int)) :: GW) ({ frames := 3, cells := 0, slots := 0, locals := 73 }) (prR g [.ref th, .ref aA, .ref aB] w) (vp_Si (fun r => r = ruB rf bA.1 bB.1)) 0 0 (fun _ => False) := by
  refine Met.ofW (cc := b_T_ruleOfBoxes) (maxL := 6) (ret := (some .int)) (by decide) rfl ?_
  intro p e s m args below meth c s₁ B hml hv
  obtain ⟨rfl, hG, hw⟩ := hv
  have hx := B.exec
  have hb := B.bytes
  have hr := B.returns
  have hts : ∀ w ∈ GW, w.before _ s = true := fun w h => atoms_spec (ws := .code y_T_ruleOfBoxes b_T_ruleOfBoxes 6 ((some .int)) :: GW) B.pre w (List.mem_cons_of_mem _ h)
  have hown : s.vm.findClass "DangerTables" = some m.cls := findClass_of_methodNamed B.named
  have hlocks := B.notSynchronized
  have hf := hG.here
  have hK := hf.1
  have hAB : ∀ q, gB g q → gB g q := fun _ h => h
  have hS : va_S (gB g) s.heap s.heap [] := va_S.rf
  have hl := lv_entry ([.ref th, .ref aA, .ref aB]) (n := 6) (Nat.le_of_ble_eq_true rfl)
  rw [lg_entry_eq]
  generalize (lg_sl ([.ref th, .ref aA, .ref aB]) ++ List.replicate (6 - (lg_sl ([.ref th, .ref aA, .ref aB])).length) Slot.unset).toArray = ls at hl ⊢
  have hl : lv_has ls 6 [(0, .ref th), (1, .ref aA), (2, .ref aB)] := hl
  obtain ⟨pl1, arr1, ps1, hx1, ⟨mc1, cap1, fn1, he1, hcap1, hc1, hfi1, hor1⟩, hlen1, hps1⟩ := hB1
  obtain ⟨pl2, arr2, ps2, hx2, ⟨mc2, cap2, fn2, he2, hcap2, hc2, hfi2, hor2⟩, hlen2, hps2⟩ := hB2
  refine lv_iconst (v := 0) hx hb d_T_ruleOfBoxes_0 (by decide) ?_
  refine lv_istore_n (lv' := [(3, .int 0), (0, .ref th), (1, .ref aA), (2, .ref aB)]) hx hb d_T_ruleOfBoxes_1 rfl hl (by decide) rfl (fun ls hl => ?_)
  refine lv_iconst (v := 0) hx hb d_T_ruleOfBoxes_2 (by decide) ?_
  refine lv_istore (lv' := [(4, .int 0), (3, .int 0), (0, .ref th), (1, .ref aA), (2, .ref aB)]) hx hb d_T_ruleOfBoxes_3 hl (by decide) rfl (fun ls hl => ?_)
  have loop_5 : ∀ (k i : Nat) (acc : Int32) (ls : Array Slot), i ≤ ps1.length → ps1.length < i + k → ruB rf bA.1 bB.1 = (bA.1.drop i).foldl (ruG rf bB.1) acc → lv_has ls 6 [(0, .ref th), (1, .ref aA), (2, .ref aB), (3, .int acc), (4, .int (nI i))] → W p l e (headSpec (.code y_T_ruleOfBoxes b_T_ruleOfBoxes 6 ((some .int)) :: GW) ({ frames := 3, cells := 0, slots := 0, locals := 73 })).room s m (#[.ref th, .ref aA, .ref aB] : Array Value) below meth c s.heap [] 0 0 (MQ below (vp_Si (fun r => r = ruB rf bA.1 bB.1)) (#[.ref th, .ref aA, .ref aB] : Array Value) s 0 0 (fun _ => False)) (F0 m 5 ls []) := by
    intro k
    induction k with
    | zero =>
      intro i acc ls h1_5 h2_5
      exact absurd h2_5 (by omega)
    | succ k ih_5 =>
      intro i acc ls h1_5 h2_5 hI_5 hl
      refine lv_iload hx hb d_T_ruleOfBoxes_5 (lv_at hl 4 rfl) ?_
      refine lv_aload_n hx hb d_T_ruleOfBoxes_7 rfl (lv_at hl 1 rfl) ?_
      refine ww_getN (v := .ref pl1) (C := R_X) (T := F_X) (N := 5) (ci := 1) hx hb hts i_X hown hK hw hx1 rfl 0 (by decide) (va_Nw.use rfl (hf.2.1 _ x_418)) (fun _ h9 => h9) rfl d_T_ruleOfBoxes_8 ?_
      refine wr_i (cV (As := []) (rest := [.int (nI i)]) (C := "java/util/ArrayList") 0 ⟨hx, hb, hml, hown, hts⟩ (c_AL_size l g w pl1 arr1 mc1 (nI ps1.length) he1) k_152 k_149 k_6 k_150 k_151 (by decide +kernel) ⟨Nat.le_of_ble_eq_true rfl, Nat.le_of_ble_eq_true rfl⟩ rfl rfl ⟨prR_blind _ _ _, hw.recv hK he1 rfl, prR_at hG hAB hS hw⟩ rfl hl.1 rfl (Nat.le_of_ble_eq_true rfl) d_T_ruleOfBoxes_11 ⟨Nat.zero_le _, Nat.zero_le _⟩) (fun r_1 e_1 => ?_)
      refine lv_icmp_ge (tgt := 77) hx hb d_T_ruleOfBoxes_14 (by decide) (fun c_2 => ?_) (fun c_2 => ?_)
      · have hge1 : ps1.length ≤ i := lp_ge e_1 c_2 (by omega) (by omega)
        have hdr1 : bA.1.drop i = [] := dr_n (by omega)
        refine lv_iload_n hx hb d_T_ruleOfBoxes_77 rfl (lv_at hl 3 rfl) ?_
        exact W.iret (v := acc) hx hb hr (fun t ht hW => ⟨acc, rfl, (by rw [hI_5, hdr1]; rfl), ht⟩) t_nil d_T_ruleOfBoxes_78
      · have hlt1 : i < ps1.length := lp_lt e_1 c_2 (by omega) (by omega)
        obtain ⟨q1, hq01⟩ : ∃ q, ps1[i]? = some q := ⟨_, List.getElem?_eq_getElem hlt1⟩
        have hq1 := hfi1 i q1 hq01
        have ha1 := hor1.resolve_right (fun z => by rw [z.1] at hlt1; exact absurd hlt1 (Nat.not_lt_zero _))
        obtain ⟨⟨c1, s1, l1, f1, x1, n1, a1⟩, hr1, g1, hp1, hg1⟩ := hps1 i q1 hq01
        have hdr1 := dr_c hr1
        refine lv_iconst (v := 0) hx hb d_T_ruleOfBoxes_17 (by decide) ?_
        refine lv_istore (lv' := [(5, .int 0), (0, .ref th), (1, .ref aA), (2, .ref aB), (3, .int acc), (4, .int (nI i))]) hx hb d_T_ruleOfBoxes_18 hl (by decide) rfl (fun ls hl => ?_)
        have loop_20 : ∀ (k j : Nat) (acc2 : Int32) (ls : Array Slot), j ≤ ps2.length → ps2.length < j + k → ruB rf bA.1 bB.1 = (bA.1.drop (i + 1)).foldl (ruG rf bB.1) ((bB.1.drop j).foldl (ruF rf (c1, s1, l1, f1, x1, n1, a1)) acc2) → lv_has ls 6 [(0, .ref th), (1, .ref aA), (2, .ref aB), (3, .int acc2), (4, .int (nI i)), (5, .int (nI j))] → W p l e (headSpec (.code y_T_ruleOfBoxes b_T_ruleOfBoxes 6 ((some .int)) :: GW) ({ frames := 3, cells := 0, slots := 0, locals := 73 })).room s m (#[.ref th, .ref aA, .ref aB] : Array Value) below meth c s.heap [] 0 0 (MQ below (vp_Si (fun r => r = ruB rf bA.1 bB.1)) (#[.ref th, .ref aA, .ref aB] : Array Value) s 0 0 (fun _ => False)) (F0 m 20 ls []) := by
          intro k
          induction k with
          | zero =>
            intro j acc2 ls h1_20 h2_20
            exact absurd h2_20 (by omega)
          | succ k ih_20 =>
            intro j acc2 ls h1_20 h2_20 hI_20 hl
            refine lv_iload hx hb d_T_ruleOfBoxes_20 (lv_at hl 5 rfl) ?_
            refine lv_aload_n hx hb d_T_ruleOfBoxes_22 rfl (lv_at hl 2 rfl) ?_
            refine ww_getN (v := .ref pl2) (C := R_X) (T := F_X) (N := 5) (ci := 1) hx hb hts i_X hown hK hw hx2 rfl 0 (by decide) (va_Nw.use rfl (hf.2.1 _ x_418)) (fun _ h9 => h9) rfl d_T_ruleOfBoxes_23 ?_
            refine wr_i (cV (As := []) (rest := [.int (nI j)]) (C := "java/util/ArrayList") 0 ⟨hx, hb, hml, hown, hts⟩ (c_AL_size l g w pl2 arr2 mc2 (nI ps2.length) he2) k_152 k_149 k_6 k_150 k_151 (by decide +kernel) ⟨Nat.le_of_ble_eq_true rfl, Nat.le_of_ble_eq_true rfl⟩ rfl rfl ⟨prR_blind _ _ _, hw.recv hK he2 rfl, prR_at hG hAB hS hw⟩ rfl hl.1 rfl (Nat.le_of_ble_eq_true rfl) d_T_ruleOfBoxes_26 ⟨Nat.zero_le _, Nat.zero_le _⟩) (fun r_3 e_3 => ?_)
            refine lv_icmp_ge (tgt := 71) hx hb d_T_ruleOfBoxes_29 (by decide) (fun c_4 => ?_) (fun c_4 => ?_)
            · have hge2 : ps2.length ≤ j := lp_ge e_3 c_4 (by omega) (by omega)
              have hdr2 : bB.1.drop j = [] := dr_n (by omega)
              refine lv_iinc (v := (nI (i + 1))) (lv' := [(4, .int (nI (i + 1))), (0, .ref th), (1, .ref aA), (2, .ref aB), (3, .int acc2), (5, .int (nI j))]) hx hb d_T_ruleOfBoxes_71 hl (k := 4) rfl (nI_1 _) (by decide) rfl (fun ls hl => ?_)
              refine lv_goto (tgt := 5) hx hb d_T_ruleOfBoxes_74 (by decide) ?_
              exact ih_5 (i + 1) acc2 ls (by omega) (by omega) (by rw [hI_20, hdr2]; rfl) (lv_sub hl [1, 2, 3, 4, 0] rfl)
            · have hlt2 : j < ps2.length := lp_lt e_3 c_4 (by omega) (by omega)
              obtain ⟨q2, hq02⟩ : ∃ q, ps2[j]? = some q := ⟨_, List.getElem?_eq_getElem hlt2⟩
              have hq2 := hfi2 j q2 hq02
              have ha2 := hor2.resolve_right (fun z => by rw [z.1] at hlt2; exact absurd hlt2 (Nat.not_lt_zero _))
              obtain ⟨⟨c2, s2, l2, f2, x2, n2, a2⟩, hr2, g2, hp2, hg2⟩ := hps2 j q2 hq02
              have hdr2 := dr_c hr2
              refine lv_iload_n hx hb d_T_ruleOfBoxes_32 rfl (lv_at hl 3 rfl) ?_
              refine lv_aload_n hx hb d_T_ruleOfBoxes_33 rfl (lv_at hl 0 rfl) ?_
              refine lv_aload_n hx hb d_T_ruleOfBoxes_34 rfl (lv_at hl 1 rfl) ?_
              refine ww_getN (v := .ref pl1) (C := R_X) (T := F_X) (N := 5) (ci := 1) hx hb hts i_X hown hK hw hx1 rfl 0 (by decide) (va_Nw.use rfl (hf.2.1 _ x_418)) (fun _ h9 => h9) rfl d_T_ruleOfBoxes_35 ?_
              refine lv_iload hx hb d_T_ruleOfBoxes_38 (lv_at hl 4 rfl) ?_
              refine wr_q (cV (As := [.int (nI i)]) (rest := [.ref th, .int acc2]) (C := "java/util/ArrayList") 1 ⟨hx, hb, hml, hown, hts⟩ (c_AL_get l g w pl1 arr1 ps1.length cap1 i q1 mc1 fn1 he1 ha1 hcap1 (by omega) hlt1 hq1) k_157 k_154 k_6 k_155 k_156 (by decide +kernel) ⟨Nat.le_of_ble_eq_true rfl, Nat.le_of_ble_eq_true rfl⟩ rfl rfl ⟨prR_blind _ _ _, hw.recv hK he1 rfl, prR_at hG hAB hS hw⟩ rfl hl.1 rfl (Nat.le_of_ble_eq_true rfl) d_T_ruleOfBoxes_40 ⟨Nat.zero_le _, Nat.zero_le _⟩) (fun r_5 e_5 => ?_)
              subst e_5
              refine va_castY (C := "DangerTables$Part") hx hb hown (hts _ k_499) (hf.2.1 _ x_872) (hw.recv hK hp1 rfl) d_T_ruleOfBoxes_43 ?_
              refine lv_aload_n hx hb d_T_ruleOfBoxes_46 rfl (lv_at hl 2 rfl) ?_
              refine ww_getN (v := .ref pl2) (C := R_X) (T := F_X) (N := 5) (ci := 1) hx hb hts i_X hown hK hw hx2 rfl 0 (by decide) (va_Nw.use rfl (hf.2.1 _ x_418)) (fun _ h9 => h9) rfl d_T_ruleOfBoxes_47 ?_
              refine lv_iload hx hb d_T_ruleOfBoxes_50 (lv_at hl 5 rfl) ?_
              refine wr_q (cV (As := [.int (nI j)]) (rest := [.ref q1, .ref th, .int acc2]) (C := "java/util/ArrayList") 1 ⟨hx, hb, hml, hown, hts⟩ (c_AL_get l g w pl2 arr2 ps2.length cap2 j q2 mc2 fn2 he2 ha2 hcap2 (by omega) hlt2 hq2) k_157 k_154 k_6 k_155 k_156 (by decide +kernel) ⟨Nat.le_of_ble_eq_true rfl, Nat.le_of_ble_eq_true rfl⟩ rfl rfl ⟨prR_blind _ _ _, hw.recv hK he2 rfl, prR_at hG hAB hS hw⟩ rfl hl.1 rfl (Nat.le_of_ble_eq_true rfl) d_T_ruleOfBoxes_52 ⟨Nat.zero_le _, Nat.zero_le _⟩) (fun r_6 e_6 => ?_)
              subst e_6
              refine va_castY (C := "DangerTables$Part") hx hb hown (hts _ k_499) (hf.2.1 _ x_872) (hw.recv hK hp2 rfl) d_T_ruleOfBoxes_55 ?_
              refine wr_i (cV (As := [.ref q1, .ref q2]) (rest := [.int acc2]) (C := "DangerTables") 2 ⟨hx, hb, hml, hown, hts⟩ (c_T_ruleOfParts l g w th tx ru rd go bo zo rf q1 q2 g1 g2 c1 s1 l1 f1 x1 c2 s2 l2 f2 x2 n1 a1 n2 a2 ht hru hg1 hg2 hp1 hp2 (ho1 _ (List.mem_of_getElem? hr1)) (ho2 _ (List.mem_of_getElem? hr2))) k_503 k_500 k_1 k_502 kp_11 (by decide +kernel) ⟨Nat.le_of_ble_eq_true rfl, Nat.le_of_ble_eq_true rfl⟩ rfl rfl ⟨prR_blind _ _ _, hw.recv hK ht rfl, prR_at hG hAB hS hw⟩ rfl hl.1 rfl (Nat.le_of_ble_eq_true rfl) d_T_ruleOfBoxes_58 ⟨Nat.zero_le _, Nat.zero_le _⟩) (fun r_7 e_7 => ?_)
              refine va_mmax hx hb (hml.trans hl.1.symm) hown (hts _ k_509) (hts _ k_363) (hts _ k_16) (hts _ k_364) (Nat.le_of_ble_eq_true rfl) (Nat.le_of_ble_eq_true rfl) (Nat.zero_le _) (Nat.zero_le _) d_T_ruleOfBoxes_61 ?_
              refine lv_topi (fun v_8 e_8 => ?_)
              refine lv_istore_n (lv' := [(3, .int v_8), (0, .ref th), (1, .ref aA), (2, .ref aB), (4, .int (nI i)), (5, .int (nI j))]) hx hb d_T_ruleOfBoxes_64 rfl hl (by decide) rfl (fun ls hl => ?_)
              refine lv_iinc (v := (nI (j + 1))) (lv' := [(5, .int (nI (j + 1))), (3, .int v_8), (0, .ref th), (1, .ref aA), (2, .ref aB), (4, .int (nI i))]) hx hb d_T_ruleOfBoxes_65 hl (k := 5) rfl (nI_1 _) (by decide) rfl (fun ls hl => ?_)
              refine lv_goto (tgt := 20) hx hb d_T_ruleOfBoxes_68 (by decide) ?_
              exact ih_20 (j + 1) v_8 ls (by omega) (by omega) (by rw [hI_20, hdr2, List.foldl_cons, show ruF rf (c1, s1, l1, f1, x1, n1, a1) acc2 (c2, s2, l2, f2, x2, n2, a2) = v_8 from by rw [e_8, e_7]; rfl]) (lv_sub hl [2, 3, 4, 1, 5, 0] rfl)
        exact loop_20 (ps2.length + 1) 0 acc ls (by omega) (by omega) (by rw [hI_5, hdr1]; rfl) (lv_sub hl [1, 2, 3, 4, 5, 0] rfl)
  exact loop_5 (ps1.length + 1) 0 0 ls (by omega) (by omega) rfl (lv_sub hl [2, 3, 4, 1, 0] rfl)

set_option maxHeartbeats 4000000 in
set_option maxRecDepth 100000 in
theorem c_T_kilogramsInZone (l : Launch) (g : GT) (w : Nat → Option va_E) (th tx ru : Nat) (rd : Int32) (go bo zo : Nat) (arr : Nat) (xs : List Nat) (bs : List BX) (u v : Int32) (ht : w th = some (cT tx ru rd go bo zo)) (hL : isL g w bo arr xs) (hlen : xs.length = bs.length) (hbs : ∀ i a : Nat, xs[i]? = some a → ∃ b, bs[i]? = some b ∧ isBx g w a b) : Met l y_T_kilogramsInZone (.code y_T_kilogramsInZone b_T_kilogramsInZone 6 ((some .int)) :: GW) ({ frames := 4, cells := 0, slots := 0, locals := 88 }) (prR g [.ref th, .int u, .int v] w) (vp_Si (fun r => r = kzB bs u v)) 0 0 (fun _ => False) := by
  refine Met.ofW (cc := b_T_kilogramsInZone) (maxL := 6) (ret := (some .int)) (by decide) rfl ?_
  intro p e s m args below meth c s₁ B hml hv
  obtain ⟨rfl, hG, hw⟩ := hv
  have hx := B.exec
  have hb := B.bytes
  have hr := B.returns
  have hts : ∀ w ∈ GW, w.before _ s = true := fun w h => atoms_spec (ws := .code y_T_kilogramsInZone b_T_kilogramsInZone 6 ((some .int)) :: GW) B.pre w (List.mem_cons_of_mem _ h)
  have hown : s.vm.findClass "DangerTables" = some m.cls := findClass_of_methodNamed B.named
  have hlocks := B.notSynchronized
  have hf := hG.here
  have hK := hf.1
  have hAB : ∀ q, gB g q → gB g q := fun _ h => h
  have hS : va_S (gB g) s.heap s.heap [] := va_S.rf
  have hl := lv_entry ([.ref th, .int u, .int v]) (n := 6) (Nat.le_of_ble_eq_true rfl)
  rw [lg_entry_eq]
  generalize (lg_sl ([.ref th, .int u, .int v]) ++ List.replicate (6 - (lg_sl ([.ref th, .int u, .int v])).length) Slot.unset).toArray = ls at hl ⊢
  have hl : lv_has ls 6 [(0, .ref th), (1, .int u), (2, .int v)] := hl
  obtain ⟨mc, cap, f, he, hcap, hc, hfi, hor⟩ := hL
  refine lv_iconst (v := 0) hx hb d_T_kilogramsInZone_0 (by decide) ?_
  refine lv_istore_n (lv' := [(3, .int 0), (0, .ref th), (1, .int u), (2, .int v)]) hx hb d_T_kilogramsInZone_1 rfl hl (by decide) rfl (fun ls hl => ?_)
  refine lv_iconst (v := 0) hx hb d_T_kilogramsInZone_2 (by decide) ?_
  refine lv_istore (lv' := [(4, .int 0), (3, .int 0), (0, .ref th), (1, .int u), (2, .int v)]) hx hb d_T_kilogramsInZone_3 hl (by decide) rfl (fun ls hl => ?_)
  have loop_5 : ∀ (k i : Nat) (acc : Int32) (ls : Array Slot), i ≤ xs.length → xs.length < i + k → kzB bs u v = (bs.drop i).foldl (kzF u v) acc → lv_has ls 6 [(0, .ref th), (1, .int u), (2, .int v), (3, .int acc), (4, .int (nI i))] → W p l e (headSpec (.code y_T_kilogramsInZone b_T_kilogramsInZone 6 ((some .int)) :: GW) ({ frames := 4, cells := 0, slots := 0, locals := 88 })).room s m (#[.ref th, .int u, .int v] : Array Value) below meth c s.heap [] 0 0 (MQ below (vp_Si (fun r => r = kzB bs u v)) (#[.ref th, .int u, .int v] : Array Value) s 0 0 (fun _ => False)) (F0 m 5 ls []) := by
    intro k
    induction k with
    | zero =>
      intro i acc ls h1_5 h2_5
      exact absurd h2_5 (by omega)
    | succ k ih_5 =>
      intro i acc ls h1_5 h2_5 hI_5 hl
      refine lv_iload hx hb d_T_kilogramsInZone_5 (lv_at hl 4 rfl) ?_
      refine lv_aload_n hx hb d_T_kilogramsInZone_7 rfl (lv_at hl 0 rfl) ?_
      refine ww_get (v := .ref bo) (C := R_T) (T := F_T) (N := 6) (ci := 0) hx hb hts i_T hown hK hw ht rfl 4 (by decide) (hts _ k_84) (fun _ h9 => h9) rfl d_T_kilogramsInZone_8 ?_
      refine wr_i (cV (As := []) (rest := [.int (nI i)]) (C := "java/util/ArrayList") 0 ⟨hx, hb, hml, hown, hts⟩ (c_AL_size l g w bo arr mc (nI xs.length) he) k_152 k_149 k_6 k_150 k_151 (by decide +kernel) ⟨Nat.le_of_ble_eq_true rfl, Nat.le_of_ble_eq_true rfl⟩ rfl rfl ⟨prR_blind _ _ _, hw.recv hK he rfl, prR_at hG hAB hS hw⟩ rfl hl.1 rfl (Nat.le_of_ble_eq_true rfl) d_T_kilogramsInZone_11 ⟨Nat.zero_le _, Nat.zero_le _⟩) (fun r_1 e_1 => ?_)
      refine lv_icmp_ge (tgt := 55) hx hb d_T_kilogramsInZone_14 (by decide) (fun c_2 => ?_) (fun c_2 => ?_)
      · have hge : xs.length ≤ i := lp_ge e_1 c_2 (by omega) (by omega)
        have hdr : bs.drop i = [] := dr_n (by omega)
        refine lv_iload_n hx hb d_T_kilogramsInZone_55 rfl (lv_at hl 3 rfl) ?_
        exact W.iret (v := acc) hx hb hr (fun t ht hW => ⟨acc, rfl, (by rw [hI_5, hdr]; rfl), ht⟩) t_nil d_T_kilogramsInZone_56
      · have hlt : i < xs.length := lp_lt e_1 c_2 (by omega) (by omega)
        obtain ⟨q, hq0⟩ : ∃ q, xs[i]? = some q := ⟨_, List.getElem?_eq_getElem hlt⟩
        have hq := hfi i q hq0
        have ha := hor.resolve_right (fun z => by rw [z.1] at hlt; exact absurd hlt (Nat.not_lt_zero _))
        obtain ⟨⟨rs, bz, bx, by_, bt⟩, hr0, hBx⟩ := hbs i q hq0
        have hdr := dr_c hr0
        obtain ⟨pl, parr, ps, hxq, hLq, hPq⟩ := id hBx
        refine lv_aload_n hx hb d_T_kilogramsInZone_17 rfl (lv_at hl 0 rfl) ?_
        refine ww_get (v := .ref bo) (C := R_T) (T := F_T) (N := 6) (ci := 0) hx hb hts i_T hown hK hw ht rfl 4 (by decide) (hts _ k_84) (fun _ h9 => h9) rfl d_T_kilogramsInZone_18 ?_
        refine lv_iload hx hb d_T_kilogramsInZone_21 (lv_at hl 4 rfl) ?_
        refine wr_q (cV (As := [.int (nI i)]) (rest := []) (C := "java/util/ArrayList") 1 ⟨hx, hb, hml, hown, hts⟩ (c_AL_get l g w bo arr xs.length cap i q mc f he ha hcap (by omega) hlt hq) k_157 k_154 k_6 k_155 k_156 (by decide +kernel) ⟨Nat.le_of_ble_eq_true rfl, Nat.le_of_ble_eq_true rfl⟩ rfl rfl ⟨prR_blind _ _ _, hw.recv hK he rfl, prR_at hG hAB hS hw⟩ rfl hl.1 rfl (Nat.le_of_ble_eq_true rfl) d_T_kilogramsInZone_23 ⟨Nat.zero_le _, Nat.zero_le _⟩) (fun r_3 e_3 => ?_)
        subst e_3
        refine va_castY (C := "DangerTables$Box") hx hb hown (hts _ k_193) (hf.2.1 _ x_871) (hw.recv hK hxq rfl) d_T_kilogramsInZone_26 ?_
        refine lv_astore (lv' := [(5, .ref q), (0, .ref th), (1, .int u), (2, .int v), (3, .int acc), (4, .int (nI i))]) hx hb d_T_kilogramsInZone_29 hl (by decide) rfl (fun ls hl => ?_)
        refine lv_aload hx hb d_T_kilogramsInZone_31 (lv_at hl 0 rfl) ?_
        refine ww_getN (v := .int bz) (C := R_X) (T := F_X) (N := 5) (ci := 1) hx hb hts i_X hown hK hw hxq rfl 1 (by decide) (va_Nw.use rfl (hf.2.1 _ x_420)) (fun _ h9 => h9) rfl d_T_kilogramsInZone_33 ?_
        refine lv_iload_n hx hb d_T_kilogramsInZone_36 rfl (lv_at hl 2 rfl) ?_
        refine lv_icmp_ne (tgt := 49) hx hb d_T_kilogramsInZone_37 (by decide) (fun c_4 => ?_) (fun c_4 => ?_)
        · refine lv_iinc (v := (nI (i + 1))) (lv' := [(4, .int (nI (i + 1))), (5, .ref q), (0, .ref th), (1, .int u), (2, .int v), (3, .int acc)]) hx hb d_T_kilogramsInZone_49 hl (k := 5) rfl (nI_1 _) (by decide) rfl (fun ls hl => ?_)
          refine lv_goto (tgt := 5) hx hb d_T_kilogramsInZone_52 (by decide) ?_
          exact ih_5 (i + 1) acc ls (by omega) (by omega) (by rw [hI_5, hdr, List.foldl_cons]; congr 1; simp [kzF, e_1, c_2, c_4]) (lv_sub hl [2, 3, 4, 5, 0] rfl)
        · refine lv_iload_n hx hb d_T_kilogramsInZone_40 rfl (lv_at hl 4 rfl) ?_
          refine lv_aload hx hb d_T_kilogramsInZone_41 (lv_at hl 0 rfl) ?_
          refine lv_iload_n hx hb d_T_kilogramsInZone_43 rfl (lv_at hl 3 rfl) ?_
          refine wr_i (cV (As := [.int v]) (rest := [.int acc]) (C := "DangerTables$Box") 1 ⟨hx, hb, hml, hown, hts⟩ (c_X_kilogramsOf l g w q (rs, bz, bx, by_, bt) v hBx) k_540 k_537 k_19 k_538 k_539 (by decide +kernel) ⟨Nat.le_of_ble_eq_true rfl, Nat.le_of_ble_eq_true rfl⟩ rfl rfl ⟨prR_blind _ _ _, hw.recv hK hxq rfl, prR_at hG hAB hS hw⟩ rfl hl.1 rfl (Nat.le_of_ble_eq_true rfl) d_T_kilogramsInZone_44 ⟨Nat.zero_le _, Nat.zero_le _⟩) (fun r_5 e_5 => ?_)
          refine lv_iadd hx hb d_T_kilogramsInZone_47 ?_
          refine lv_topi (fun v_6 e_6 => ?_)
          refine lv_istore_n (lv' := [(3, .int v_6), (5, .ref q), (0, .ref th), (1, .int u), (2, .int v), (4, .int (nI i))]) hx hb d_T_kilogramsInZone_48 rfl hl (by decide) rfl (fun ls hl => ?_)
          refine lv_iinc (v := (nI (i + 1))) (lv' := [(4, .int (nI (i + 1))), (3, .int v_6), (5, .ref q), (0, .ref th), (1, .int u), (2, .int v)]) hx hb d_T_kilogramsInZone_49 hl (k := 5) rfl (nI_1 _) (by decide) rfl (fun ls hl => ?_)
          refine lv_goto (tgt := 5) hx hb d_T_kilogramsInZone_52 (by decide) ?_
          exact ih_5 (i + 1) v_6 ls (by omega) (by omega) (by rw [hI_5, hdr, List.foldl_cons]; congr 1; simp [kzF, e_1, c_2, c_4, e_5, e_6]) (lv_sub hl [3, 4, 5, 1, 0] rfl)
  exact loop_5 (xs.length + 1) 0 0 ls (by omega) (by omega) rfl (lv_sub hl [2, 3, 4, 1, 0] rfl)

set_option maxHeartbeats 4000000 in
set_option maxRecDepth 100000 in
theorem c_T_lyingCount (l : Launch) (g : GT) (w : Nat → Option va_E) (th tx ru : Nat) (rd : Int32) (go bo zo : Nat) (arr : Nat) (xs : List Nat) (bs : List BX) (ht : w th = some (cT tx ru rd go bo zo)) (hL : isL g w bo arr xs) (hlen : xs.length = bs.length) (hbs : ∀ i a : Nat, xs[i]? = some a → ∃ b, bs[i]? = some b ∧ isBx g w a b) : Met l y_T_lyingCount (.code y_T_lyingCount b_T_lyingCount 3 ((some .int)) :: GW) ({ frames := 3, cells := 0, slots := 0, locals := 64 }) (prR g [.ref th] w) (vp_Si (fun r => r = lyB bs)) 0 0 (fun _ => False) := by
  refine Met.ofW (cc := b_T_lyingCount) (maxL := 3) (ret := (some .int)) (by decide) rfl ?_
  intro p e s m args below meth c s₁ B hml hv
  obtain ⟨rfl, hG, hw⟩ := hv
  have hx := B.exec
  have hb := B.bytes
  have hr := B.returns
  have hts : ∀ w ∈ GW, w.before _ s = true := fun w h => atoms_spec (ws := .code y_T_lyingCount b_T_lyingCount 3 ((some .int)) :: GW) B.pre w (List.mem_cons_of_mem _ h)
  have hown : s.vm.findClass "DangerTables" = some m.cls := findClass_of_methodNamed B.named
  have hlocks := B.notSynchronized
  have hf := hG.here
  have hK := hf.1
  have hAB : ∀ q, gB g q → gB g q := fun _ h => h
  have hS : va_S (gB g) s.heap s.heap [] := va_S.rf
  have hl := lv_entry ([.ref th]) (n := 3) (Nat.le_of_ble_eq_true rfl)
  rw [lg_entry_eq]
  generalize (lg_sl ([.ref th]) ++ List.replicate (3 - (lg_sl ([.ref th])).length) Slot.unset).toArray = ls at hl ⊢
  have hl : lv_has ls 3 [(0, .ref th)] := hl
  obtain ⟨mc, cap, f, he, hcap, hc, hfi, hor⟩ := hL
  refine lv_iconst (v := 0) hx hb d_T_lyingCount_0 (by decide) ?_
  refine lv_istore_n (lv' := [(1, .int 0), (0, .ref th)]) hx hb d_T_lyingCount_1 rfl hl (by decide) rfl (fun ls hl => ?_)
  refine lv_iconst (v := 0) hx hb d_T_lyingCount_2 (by decide) ?_
  refine lv_istore_n (lv' := [(2, .int 0), (1, .int 0), (0, .ref th)]) hx hb d_T_lyingCount_3 rfl hl (by decide) rfl (fun ls hl => ?_)
  have loop_4 : ∀ (k i : Nat) (acc : Int32) (ls : Array Slot), i ≤ xs.length → xs.length < i + k → lyB bs = (bs.drop i).foldl lyF acc → lv_has ls 3 [(0, .ref th), (1, .int acc), (2, .int (nI i))] → W p l e (headSpec (.code y_T_lyingCount b_T_lyingCount 3 ((some .int)) :: GW) ({ frames := 3, cells := 0, slots := 0, locals := 64 })).room s m (#[.ref th] : Array Value) below meth c s.heap [] 0 0 (MQ below (vp_Si (fun r => r = lyB bs)) (#[.ref th] : Array Value) s 0 0 (fun _ => False)) (F0 m 4 ls []) := by
    intro k
    induction k with
    | zero =>
      intro i acc ls h1_4 h2_4
      exact absurd h2_4 (by omega)
    | succ k ih_4 =>
      intro i acc ls h1_4 h2_4 hI_4 hl
      refine lv_iload_n hx hb d_T_lyingCount_4 rfl (lv_at hl 2 rfl) ?_
      refine lv_aload_n hx hb d_T_lyingCount_5 rfl (lv_at hl 0 rfl) ?_
      refine ww_get (v := .ref bo) (C := R_T) (T := F_T) (N := 6) (ci := 0) hx hb hts i_T hown hK hw ht rfl 4 (by decide) (hts _ k_84) (fun _ h9 => h9) rfl d_T_lyingCount_6 ?_
      refine wr_i (cV (As := []) (rest := [.int (nI i)]) (C := "java/util/ArrayList") 0 ⟨hx, hb, hml, hown, hts⟩ (c_AL_size l g w bo arr mc (nI xs.length) he) k_152 k_149 k_6 k_150 k_151 (by decide +kernel) ⟨Nat.le_of_ble_eq_true rfl, Nat.le_of_ble_eq_true rfl⟩ rfl rfl ⟨prR_blind _ _ _, hw.recv hK he rfl, prR_at hG hAB hS hw⟩ rfl hl.1 rfl (Nat.le_of_ble_eq_true rfl) d_T_lyingCount_9 ⟨Nat.zero_le _, Nat.zero_le _⟩) (fun r_1 e_1 => ?_)
      refine lv_icmp_ge (tgt := 41) hx hb d_T_lyingCount_12 (by decide) (fun c_2 => ?_) (fun c_2 => ?_)
      · have hge : xs.length ≤ i := lp_ge e_1 c_2 (by omega) (by omega)
        have hdr : bs.drop i = [] := dr_n (by omega)
        refine lv_iload_n hx hb d_T_lyingCount_41 rfl (lv_at hl 1 rfl) ?_
        exact W.iret (v := acc) hx hb hr (fun t ht hW => ⟨acc, rfl, (by rw [hI_4, hdr]; rfl), ht⟩) t_nil d_T_lyingCount_42
      · have hlt : i < xs.length := lp_lt e_1 c_2 (by omega) (by omega)
        obtain ⟨q, hq0⟩ : ∃ q, xs[i]? = some q := ⟨_, List.getElem?_eq_getElem hlt⟩
        have hq := hfi i q hq0
        have ha := hor.resolve_right (fun z => by rw [z.1] at hlt; exact absurd hlt (Nat.not_lt_zero _))
        obtain ⟨⟨rs, bz, bx, by_, bt⟩, hr0, hBx⟩ := hbs i q hq0
        have hdr := dr_c hr0
        obtain ⟨pl, parr, ps, hxq, hLq, hPq⟩ := id hBx
        refine lv_aload_n hx hb d_T_lyingCount_15 rfl (lv_at hl 0 rfl) ?_
        refine ww_get (v := .ref bo) (C := R_T) (T := F_T) (N := 6) (ci := 0) hx hb hts i_T hown hK hw ht rfl 4 (by decide) (hts _ k_84) (fun _ h9 => h9) rfl d_T_lyingCount_16 ?_
        refine lv_iload_n hx hb d_T_lyingCount_19 rfl (lv_at hl 2 rfl) ?_
        refine wr_q (cV (As := [.int (nI i)]) (rest := []) (C := "java/util/ArrayList") 1 ⟨hx, hb, hml, hown, hts⟩ (c_AL_get l g w bo arr xs.length cap i q mc f he ha hcap (by omega) hlt hq) k_157 k_154 k_6 k_155 k_156 (by decide +kernel) ⟨Nat.le_of_ble_eq_true rfl, Nat.le_of_ble_eq_true rfl⟩ rfl rfl ⟨prR_blind _ _ _, hw.recv hK he rfl, prR_at hG hAB hS hw⟩ rfl hl.1 rfl (Nat.le_of_ble_eq_true rfl) d_T_lyingCount_20 ⟨Nat.zero_le _, Nat.zero_le _⟩) (fun r_3 e_3 => ?_)
        subst e_3
        refine va_castY (C := "DangerTables$Box") hx hb hown (hts _ k_193) (hf.2.1 _ x_871) (hw.recv hK hxq rfl) d_T_lyingCount_23 ?_
        refine wr_i (cV (As := []) (rest := []) (C := "DangerTables$Box") 0 ⟨hx, hb, hml, hown, hts⟩ (c_X_lies l g w q pl bz bx by_ bt hxq) k_209 k_206 k_19 k_207 k_208 (by decide +kernel) ⟨Nat.le_of_ble_eq_true rfl, Nat.le_of_ble_eq_true rfl⟩ rfl rfl ⟨prR_blind _ _ _, hw.recv hK hxq rfl, prR_at hG hAB hS hw⟩ rfl hl.1 rfl (Nat.le_of_ble_eq_true rfl) d_T_lyingCount_26 ⟨Nat.zero_le _, Nat.zero_le _⟩) (fun r_4 e_4 => ?_)
        refine lv_if_eq (tgt := 35) hx hb d_T_lyingCount_29 (by decide) (fun c_5 => ?_) (fun c_5 => ?_)
        · have q_5 := b2_f e_4 c_5
          refine lv_iinc (v := (nI (i + 1))) (lv' := [(2, .int (nI (i + 1))), (0, .ref th), (1, .int acc)]) hx hb d_T_lyingCount_35 hl (k := 2) rfl (nI_1 _) (by decide) rfl (fun ls hl => ?_)
          refine lv_goto (tgt := 4) hx hb d_T_lyingCount_38 (by decide) ?_
          exact ih_4 (i + 1) acc ls (by omega) (by omega) (by rw [hI_4, hdr, List.foldl_cons]; congr 1; simp at q_5; simp [lyF, e_1, e_4, q_5]) (lv_sub hl [1, 2, 0] rfl)
        · have q_5 := b2_t e_4 c_5
          obtain ⟨v_6, e_6⟩ : ∃ z : Int32, z = acc + 1 := ⟨_, rfl⟩
          refine lv_iinc (v := v_6) (lv' := [(1, .int v_6), (0, .ref th), (2, .int (nI i))]) hx hb d_T_lyingCount_32 hl (k := 1) rfl (by rw [e_6]; rfl) (by decide) rfl (fun ls hl => ?_)
          refine lv_iinc (v := (nI (i + 1))) (lv' := [(2, .int (nI (i + 1))), (1, .int v_6), (0, .ref th)]) hx hb d_T_lyingCount_35 hl (k := 2) rfl (nI_1 _) (by decide) rfl (fun ls hl => ?_)
          refine lv_goto (tgt := 4) hx hb d_T_lyingCount_38 (by decide) ?_
          exact ih_4 (i + 1) v_6 ls (by omega) (by omega) (by rw [hI_4, hdr, List.foldl_cons]; congr 1; simp at q_5; simp [lyF, e_1, e_4, q_5, e_6]) (lv_sub hl [2, 1, 0] rfl)
  exact loop_4 (xs.length + 1) 0 0 ls (by omega) (by omega) rfl (lv_sub hl [2, 1, 0] rfl)

set_option maxHeartbeats 4000000 in
set_option maxRecDepth 100000 in
theorem c_T_isTaken (l : Launch) (g : GT) (w : Nat → Option va_E) (th tx ru : Nat) (rd : Int32) (go bo zo : Nat) (arr : Nat) (xs : List Nat) (bs : List BX) (u v x : Int32) (ht : w th = some (cT tx ru rd go bo zo)) (hL : isL g w bo arr xs) (hlen : xs.length = bs.length) (hbs : ∀ i a : Nat, xs[i]? = some a → ∃ b, bs[i]? = some b ∧ isBx g w a b) : Met l y_T_isTaken (.code y_T_isTaken b_T_isTaken 6 ((some .boolean)) :: GW) ({ frames := 3, cells := 0, slots := 0, locals := 64 }) (prR g [.ref th, .int u, .int v, .int x] w) (vp_Si (fun r => r = b2 (tkB bs u v x))) 0 0 (fun _ => False) := by
  refine Met.ofW (cc := b_T_isTaken) (maxL := 6) (ret := (some .boolean)) (by decide) rfl ?_
  intro p e s m args below meth c s₁ B hml hv
  obtain ⟨rfl, hG, hw⟩ := hv
  have hx := B.exec
  have hb := B.bytes
  have hr := B.returns
  have hts : ∀ w ∈ GW, w.before _ s = true := fun w h => atoms_spec (ws := .code y_T_isTaken b_T_isTaken 6 ((some .boolean)) :: GW) B.pre w (List.mem_cons_of_mem _ h)
  have hown : s.vm.findClass "DangerTables" = some m.cls := findClass_of_methodNamed B.named
  have hlocks := B.notSynchronized
  have hf := hG.here
  have hK := hf.1
  have hAB : ∀ q, gB g q → gB g q := fun _ h => h
  have hS : va_S (gB g) s.heap s.heap [] := va_S.rf
  have hl := lv_entry ([.ref th, .int u, .int v, .int x]) (n := 6) (Nat.le_of_ble_eq_true rfl)
  rw [lg_entry_eq]
  generalize (lg_sl ([.ref th, .int u, .int v, .int x]) ++ List.replicate (6 - (lg_sl ([.ref th, .int u, .int v, .int x])).length) Slot.unset).toArray = ls at hl ⊢
  have hl : lv_has ls 6 [(0, .ref th), (1, .int u), (2, .int v), (3, .int x)] := hl
  obtain ⟨mc, cap, f, he, hcap, hc, hfi, hor⟩ := hL
  refine lv_iconst (v := 0) hx hb d_T_isTaken_0 (by decide) ?_
  refine lv_istore (lv' := [(4, .int 0), (0, .ref th), (1, .int u), (2, .int v), (3, .int x)]) hx hb d_T_isTaken_1 hl (by decide) rfl (fun ls hl => ?_)
  have loop_3 : ∀ (k i : Nat)  (ls : Array Slot), i ≤ xs.length → xs.length < i + k → tkB bs u v x = (bs.drop i).any (tkP u v x) → lv_has ls 6 [(0, .ref th), (1, .int u), (2, .int v), (3, .int x), (4, .int (nI i))] → W p l e (headSpec (.code y_T_isTaken b_T_isTaken 6 ((some .boolean)) :: GW) ({ frames := 3, cells := 0, slots := 0, locals := 64 })).room s m (#[.ref th, .int u, .int v, .int x] : Array Value) below meth c s.heap [] 0 0 (MQ below (vp_Si (fun r => r = b2 (tkB bs u v x))) (#[.ref th, .int u, .int v, .int x] : Array Value) s 0 0 (fun _ => False)) (F0 m 3 ls []) := by
    intro k
    induction k with
    | zero =>
      intro i  ls h1_3 h2_3
      exact absurd h2_3 (by omega)
    | succ k ih_3 =>
      intro i  ls h1_3 h2_3 hI_3 hl
      refine lv_iload hx hb d_T_isTaken_3 (lv_at hl 4 rfl) ?_
      refine lv_aload_n hx hb d_T_isTaken_5 rfl (lv_at hl 0 rfl) ?_
      refine ww_get (v := .ref bo) (C := R_T) (T := F_T) (N := 6) (ci := 0) hx hb hts i_T hown hK hw ht rfl 4 (by decide) (hts _ k_84) (fun _ h9 => h9) rfl d_T_isTaken_6 ?_
      refine wr_i (cV (As := []) (rest := [.int (nI i)]) (C := "java/util/ArrayList") 0 ⟨hx, hb, hml, hown, hts⟩ (c_AL_size l g w bo arr mc (nI xs.length) he) k_152 k_149 k_6 k_150 k_151 (by decide +kernel) ⟨Nat.le_of_ble_eq_true rfl, Nat.le_of_ble_eq_true rfl⟩ rfl rfl ⟨prR_blind _ _ _, hw.recv hK he rfl, prR_at hG hAB hS hw⟩ rfl hl.1 rfl (Nat.le_of_ble_eq_true rfl) d_T_isTaken_9 ⟨Nat.zero_le _, Nat.zero_le _⟩) (fun r_1 e_1 => ?_)
      refine lv_icmp_ge (tgt := 64) hx hb d_T_isTaken_12 (by decide) (fun c_2 => ?_) (fun c_2 => ?_)
      · have hge : xs.length ≤ i := lp_ge e_1 c_2 (by omega) (by omega)
        have hdr : bs.drop i = [] := dr_n (by omega)
        refine lv_iconst (v := 0) hx hb d_T_isTaken_64 (by decide) ?_
        exact W.zret (v := 0) (ty := .boolean) hx hb hr rfl (fun t ht hW => ⟨0, rfl, (by rw [hI_3, hdr]; simp [b2, tkP]), ht⟩) t_nil d_T_isTaken_65
      · have hlt : i < xs.length := lp_lt e_1 c_2 (by omega) (by omega)
        obtain ⟨q, hq0⟩ : ∃ q, xs[i]? = some q := ⟨_, List.getElem?_eq_getElem hlt⟩
        have hq := hfi i q hq0
        have ha := hor.resolve_right (fun z => by rw [z.1] at hlt; exact absurd hlt (Nat.not_lt_zero _))
        obtain ⟨⟨rs, bz, bx, by_, bt⟩, hr0, hBx⟩ := hbs i q hq0
        have hdr := dr_c hr0
        obtain ⟨pl, parr, ps, hxq, hLq, hPq⟩ := id hBx
        refine lv_aload_n hx hb d_T_isTaken_15 rfl (lv_at hl 0 rfl) ?_
        refine ww_get (v := .ref bo) (C := R_T) (T := F_T) (N := 6) (ci := 0) hx hb hts i_T hown hK hw ht rfl 4 (by decide) (hts _ k_84) (fun _ h9 => h9) rfl d_T_isTaken_16 ?_
        refine lv_iload hx hb d_T_isTaken_19 (lv_at hl 4 rfl) ?_
        refine wr_q (cV (As := [.int (nI i)]) (rest := []) (C := "java/util/ArrayList") 1 ⟨hx, hb, hml, hown, hts⟩ (c_AL_get l g w bo arr xs.length cap i q mc f he ha hcap (by omega) hlt hq) k_157 k_154 k_6 k_155 k_156 (by decide +kernel) ⟨Nat.le_of_ble_eq_true rfl, Nat.le_of_ble_eq_true rfl⟩ rfl rfl ⟨prR_blind _ _ _, hw.recv hK he rfl, prR_at hG hAB hS hw⟩ rfl hl.1 rfl (Nat.le_of_ble_eq_true rfl) d_T_isTaken_21 ⟨Nat.zero_le _, Nat.zero_le _⟩) (fun r_3 e_3 => ?_)
        subst e_3
        refine va_castY (C := "DangerTables$Box") hx hb hown (hts _ k_193) (hf.2.1 _ x_871) (hw.recv hK hxq rfl) d_T_isTaken_24 ?_
        refine lv_astore (lv' := [(5, .ref q), (0, .ref th), (1, .int u), (2, .int v), (3, .int x), (4, .int (nI i))]) hx hb d_T_isTaken_27 hl (by decide) rfl (fun ls hl => ?_)
        refine lv_aload hx hb d_T_isTaken_29 (lv_at hl 0 rfl) ?_
        refine ww_getN (v := .int bz) (C := R_X) (T := F_X) (N := 5) (ci := 1) hx hb hts i_X hown hK hw hxq rfl 1 (by decide) (va_Nw.use rfl (hf.2.1 _ x_420)) (fun _ h9 => h9) rfl d_T_isTaken_31 ?_
        refine lv_iload_n hx hb d_T_isTaken_34 rfl (lv_at hl 2 rfl) ?_
        refine lv_icmp_ne (tgt := 58) hx hb d_T_isTaken_35 (by decide) (fun c_4 => ?_) (fun c_4 => ?_)
        · refine lv_iinc (v := (nI (i + 1))) (lv' := [(4, .int (nI (i + 1))), (5, .ref q), (0, .ref th), (1, .int u), (2, .int v), (3, .int x)]) hx hb d_T_isTaken_58 hl (k := 5) rfl (nI_1 _) (by decide) rfl (fun ls hl => ?_)
          refine lv_goto (tgt := 3) hx hb d_T_isTaken_61 (by decide) ?_
          exact ih_3 (i + 1)  ls (by omega) (by omega) (by rw [hI_3, hdr]; simp [tkP, c_2, c_4]) (lv_sub hl [2, 3, 4, 5, 0] rfl)
        · refine lv_aload hx hb d_T_isTaken_38 (lv_at hl 0 rfl) ?_
          refine ww_getN (v := .int bx) (C := R_X) (T := F_X) (N := 5) (ci := 1) hx hb hts i_X hown hK hw hxq rfl 2 (by decide) (va_Nw.use rfl (hf.2.1 _ x_422)) (fun _ h9 => h9) rfl d_T_isTaken_40 ?_
          refine lv_iload_n hx hb d_T_isTaken_43 rfl (lv_at hl 3 rfl) ?_
          refine lv_icmp_ne (tgt := 58) hx hb d_T_isTaken_44 (by decide) (fun c_5 => ?_) (fun c_5 => ?_)
          · refine lv_iinc (v := (nI (i + 1))) (lv' := [(4, .int (nI (i + 1))), (5, .ref q), (0, .ref th), (1, .int u), (2, .int v), (3, .int x)]) hx hb d_T_isTaken_58 hl (k := 5) rfl (nI_1 _) (by decide) rfl (fun ls hl => ?_)
            refine lv_goto (tgt := 3) hx hb d_T_isTaken_61 (by decide) ?_
            exact ih_3 (i + 1)  ls (by omega) (by omega) (by rw [hI_3, hdr]; simp [tkP, c_2, c_4, c_5]) (lv_sub hl [2, 3, 4, 5, 0] rfl)
          · refine lv_aload hx hb d_T_isTaken_47 (lv_at hl 0 rfl) ?_
            refine ww_getN (v := .int by_) (C := R_X) (T := F_X) (N := 5) (ci := 1) hx hb hts i_X hown hK hw hxq rfl 3 (by decide) (va_Nw.use rfl (hf.2.1 _ x_424)) (fun _ h9 => h9) rfl d_T_isTaken_49 ?_
            refine lv_iload_n hx hb d_T_isTaken_52 rfl (lv_at hl 4 rfl) ?_
            refine lv_icmp_ne (tgt := 58) hx hb d_T_isTaken_53 (by decide) (fun c_6 => ?_) (fun c_6 => ?_)
            · refine lv_iinc (v := (nI (i + 1))) (lv' := [(4, .int (nI (i + 1))), (5, .ref q), (0, .ref th), (1, .int u), (2, .int v), (3, .int x)]) hx hb d_T_isTaken_58 hl (k := 5) rfl (nI_1 _) (by decide) rfl (fun ls hl => ?_)
              refine lv_goto (tgt := 3) hx hb d_T_isTaken_61 (by decide) ?_
              exact ih_3 (i + 1)  ls (by omega) (by omega) (by rw [hI_3, hdr]; simp [tkP, c_2, c_4, c_5, c_6]) (lv_sub hl [2, 3, 4, 5, 0] rfl)
            · refine lv_iconst (v := 1) hx hb d_T_isTaken_56 (by decide) ?_
              exact W.zret (v := 1) (ty := .boolean) hx hb hr rfl (fun t ht hW => ⟨1, rfl, (by rw [hI_3, hdr]; simp [b2, tkP, c_2, c_4, c_5, c_6]), ht⟩) t_nil d_T_isTaken_57
  exact loop_3 (xs.length + 1) 0  ls (by omega) (by omega) rfl (lv_sub hl [1, 2, 3, 4, 0] rfl)

set_option maxHeartbeats 4000000 in
set_option maxRecDepth 100000 in
theorem c_T_isTooNear (l : Launch) (g : GT) (w : Nat → Option va_E) (k : Nat) (v : Int32) (hk : k ≤ 4) : Met l y_T_isTooNear (.code y_T_isTooNear b_T_isTooNear 2 ((some .boolean)) :: GW) ({ frames := 0, cells := 0, slots := 0, locals := 0 }) (prR g [.int (nI k), .int v] w) (vp_Si (fun r => r = b2 (tnI (nI k) v))) 0 0 (fun _ => False) := by
  refine Met.ofW (cc := b_T_isTooNear) (maxL := 2) (ret := (some .boolean)) (by decide) rfl ?_
  intro p e s m args below meth c s₁ B hml hv
  obtain ⟨rfl, hG, hw⟩ := hv
  have hx := B.exec
  have hb := B.bytes
  have hr := B.returns
  have hts : ∀ w ∈ GW, w.before _ s = true := fun w h => atoms_spec (ws := .code y_T_isTooNear b_T_isTooNear 2 ((some .boolean)) :: GW) B.pre w (List.mem_cons_of_mem _ h)
  have hown : s.vm.findClass "DangerTables" = some m.cls := findClass_of_methodNamed B.named
  have hlocks := B.notSynchronized
  have hf := hG.here
  have hK := hf.1
  have hAB : ∀ q, gB g q → gB g q := fun _ h => h
  have hS : va_S (gB g) s.heap s.heap [] := va_S.rf
  have hl := lv_entry ([.int (nI k), .int v]) (n := 2) (Nat.le_of_ble_eq_true rfl)
  rw [lg_entry_eq]
  generalize (lg_sl ([.int (nI k), .int v]) ++ List.replicate (2 - (lg_sl ([.int (nI k), .int v])).length) Slot.unset).toArray = ls at hl ⊢
  have hl : lv_has ls 2 [(0, .int (nI k)), (1, .int v)] := hl
  refine lv_iload_n hx hb d_T_isTooNear_0 rfl (lv_at hl 0 rfl) ?_
  refine lv_iconst (v := 4) hx hb d_T_isTooNear_1 (by decide) ?_
  refine lv_icmp_ge (tgt := 14) hx hb d_T_isTooNear_2 (by decide) (fun c_1 => ?_) (fun c_1 => ?_)
  · refine lv_iconst (v := 1) hx hb d_T_isTooNear_14 (by decide) ?_
    refine lv_goto (tgt := 19) hx hb d_T_isTooNear_15 (by decide) ?_
    exact W.zret (v := 1) (ty := .boolean) hx hb hr rfl (fun t ht hW => ⟨1, rfl, (by first | (simp [b2, tnI, c_1]; done) | (clear hts hown B; simp_all [b2, tnI]; done)), ht⟩) t_nil d_T_isTooNear_19
  · have hk4 : k < 4 := by
      rcases Nat.lt_or_ge k 4 with h | h
      · exact h
      · exact absurd (nI_le h (by omega)) c_1
    refine lv_iload_n hx hb d_T_isTooNear_5 rfl (lv_at hl 1 rfl) ?_
    refine va_gets (v := .ref (g.2.2 3)) hx hb hf.2.2.2.2.2.2.2.2.2.1.1 hS hown (hts _ k_592) (fun _ h9 => h9) d_T_isTooNear_6 ?_
    refine lv_iload_n hx hb d_T_isTooNear_9 rfl (lv_at hl 0 rfl) ?_
    refine va_ti (v := .int (yardI (nI k).toNatClampNeg)) hx hb hf.2.2.2.2.2.2.2.2.2.1.2 hS (vp_in_nI hk4 (by decide)) (yard_at hk4) d_T_isTooNear_10 ?_
    refine lv_icmp_ge (tgt := 18) hx hb d_T_isTooNear_11 (by decide) (fun c_2 => ?_) (fun c_2 => ?_)
    · refine lv_iconst (v := 0) hx hb d_T_isTooNear_18 (by decide) ?_
      exact W.zret (v := 0) (ty := .boolean) hx hb hr rfl (fun t ht hW => ⟨0, rfl, (by first | (simp [b2, tnI, c_1, c_2]; done) | (clear hts hown B; simp_all [b2, tnI]; done)), ht⟩) t_nil d_T_isTooNear_19
    · refine lv_iconst (v := 1) hx hb d_T_isTooNear_14 (by decide) ?_
      refine lv_goto (tgt := 19) hx hb d_T_isTooNear_15 (by decide) ?_
      exact W.zret (v := 1) (ty := .boolean) hx hb hr rfl (fun t ht hW => ⟨1, rfl, (by first | (simp [b2, tnI, c_1, c_2]; done) | (clear hts hown B; simp_all [b2, tnI]; done)), ht⟩) t_nil d_T_isTooNear_19

set_option maxHeartbeats 4000000 in
set_option maxRecDepth 100000 in
theorem c_T_leastTooNear (l : Launch) (g : GT) (w : Nat → Option va_E) (th tx ru : Nat) (rd : Int32) (go bo zo : Nat) (rf : Nat → Int32) (aA : Nat) (bA : BX) (arr : Nat) (xs : List Nat) (bs : List BX) (u x y : Int32) (ht : w th = some (cT tx ru rd go bo zo)) (hru : w ru = some (cA g 45 rf)) (hrf : okR rf) (hB1 : isBx g w aA bA) (ho1 : ∀ r ∈ bA.1, okP r) (hL : isL g w bo arr xs) (hlen : xs.length = bs.length) (hbs : ∀ i a : Nat, xs[i]? = some a → ∃ b, bs[i]? = some b ∧ isBx g w a b) (hos : ∀ b ∈ bs, ∀ r ∈ b.1, okP r) : Met l y_T_leastTooNear (.code y_T_leastTooNear b_T_leastTooNear 7 ((some .int)) :: GW) ({ frames := 4, cells := 0, slots := 0, locals := 98 }) (prR g [.ref th, .ref aA, .int u, .int x, .int y] w) (vp_Si (fun r => r = nrB rf bA.1 u x y bs)) 0 0 (fun _ => False) := by
  refine Met.ofW (cc := b_T_leastTooNear) (maxL := 7) (ret := (some .int)) (by decide) rfl ?_
  intro p e s m args below meth c s₁ B hml hv
  obtain ⟨rfl, hG, hw⟩ := hv
  have hx := B.exec
  have hb := B.bytes
  have hr := B.returns
  have hts : ∀ w ∈ GW, w.before _ s = true := fun w h => atoms_spec (ws := .code y_T_leastTooNear b_T_leastTooNear 7 ((some .int)) :: GW) B.pre w (List.mem_cons_of_mem _ h)
  have hown : s.vm.findClass "DangerTables" = some m.cls := findClass_of_methodNamed B.named
  have hlocks := B.notSynchronized
  have hf := hG.here
  have hK := hf.1
  have hAB : ∀ q, gB g q → gB g q := fun _ h => h
  have hS : va_S (gB g) s.heap s.heap [] := va_S.rf
  have hl := lv_entry ([.ref th, .ref aA, .int u, .int x, .int y]) (n := 7) (Nat.le_of_ble_eq_true rfl)
  rw [lg_entry_eq]
  generalize (lg_sl ([.ref th, .ref aA, .int u, .int x, .int y]) ++ List.replicate (7 - (lg_sl ([.ref th, .ref aA, .int u, .int x, .int y])).length) Slot.unset).toArray = ls at hl ⊢
  have hl : lv_has ls 7 [(0, .ref th), (1, .ref aA), (2, .int u), (3, .int x), (4, .int y)] := hl
  obtain ⟨mc, cap, f, he, hcap, hc, hfi, hor⟩ := hL
  refine lv_iconst (v := 0) hx hb d_T_leastTooNear_0 (by decide) ?_
  refine lv_istore (lv' := [(5, .int 0), (0, .ref th), (1, .ref aA), (2, .int u), (3, .int x), (4, .int y)]) hx hb d_T_leastTooNear_1 hl (by decide) rfl (fun ls hl => ?_)
  have loop_3 : ∀ (k i : Nat)  (ls : Array Slot), i ≤ xs.length → xs.length < i + k → nrB rf bA.1 u x y bs = ffx (nrP rf bA.1 u x y) (bs.drop i) i → lv_has ls 7 [(0, .ref th), (1, .ref aA), (2, .int u), (3, .int x), (4, .int y), (5, .int (nI i))] → W p l e (headSpec (.code y_T_leastTooNear b_T_leastTooNear 7 ((some .int)) :: GW) ({ frames := 4, cells := 0, slots := 0, locals := 98 })).room s m (#[.ref th, .ref aA, .int u, .int x, .int y] : Array Value) below meth c s.heap [] 0 0 (MQ below (vp_Si (fun r => r = nrB rf bA.1 u x y bs)) (#[.ref th, .ref aA, .int u, .int x, .int y] : Array Value) s 0 0 (fun _ => False)) (F0 m 3 ls []) := by
    intro k
    induction k with
    | zero =>
      intro i  ls h1_3 h2_3
      exact absurd h2_3 (by omega)
    | succ k ih_3 =>
      intro i  ls h1_3 h2_3 hI_3 hl
      refine lv_iload hx hb d_T_leastTooNear_3 (lv_at hl 5 rfl) ?_
      refine lv_aload_n hx hb d_T_leastTooNear_5 rfl (lv_at hl 0 rfl) ?_
      refine ww_get (v := .ref bo) (C := R_T) (T := F_T) (N := 6) (ci := 0) hx hb hts i_T hown hK hw ht rfl 4 (by decide) (hts _ k_84) (fun _ h9 => h9) rfl d_T_leastTooNear_6 ?_
      refine wr_i (cV (As := []) (rest := [.int (nI i)]) (C := "java/util/ArrayList") 0 ⟨hx, hb, hml, hown, hts⟩ (c_AL_size l g w bo arr mc (nI xs.length) he) k_152 k_149 k_6 k_150 k_151 (by decide +kernel) ⟨Nat.le_of_ble_eq_true rfl, Nat.le_of_ble_eq_true rfl⟩ rfl rfl ⟨prR_blind _ _ _, hw.recv hK he rfl, prR_at hG hAB hS hw⟩ rfl hl.1 rfl (Nat.le_of_ble_eq_true rfl) d_T_leastTooNear_9 ⟨Nat.zero_le _, Nat.zero_le _⟩) (fun r_1 e_1 => ?_)
      refine lv_icmp_ge (tgt := 68) hx hb d_T_leastTooNear_12 (by decide) (fun c_2 => ?_) (fun c_2 => ?_)
      · have hge : xs.length ≤ i := lp_ge e_1 c_2 (by omega) (by omega)
        have hdr : bs.drop i = [] := dr_n (by omega)
        refine lv_iconst (v := -1) hx hb d_T_leastTooNear_68 (by decide) ?_
        exact W.iret (v := (-1)) hx hb hr (fun t ht hW => ⟨(-1), rfl, (by rw [hI_3, hdr]; simp [ffx, nrP]), ht⟩) t_nil d_T_leastTooNear_69
      · have hlt : i < xs.length := lp_lt e_1 c_2 (by omega) (by omega)
        obtain ⟨q, hq0⟩ : ∃ q, xs[i]? = some q := ⟨_, List.getElem?_eq_getElem hlt⟩
        have hq := hfi i q hq0
        have ha := hor.resolve_right (fun z => by rw [z.1] at hlt; exact absurd hlt (Nat.not_lt_zero _))
        obtain ⟨⟨rs, bz, bx, by_, bt⟩, hr0, hBx⟩ := hbs i q hq0
        have hdr := dr_c hr0
        obtain ⟨pl, parr, ps, hxq, hLq, hPq⟩ := id hBx
        refine lv_aload_n hx hb d_T_leastTooNear_15 rfl (lv_at hl 0 rfl) ?_
        refine ww_get (v := .ref bo) (C := R_T) (T := F_T) (N := 6) (ci := 0) hx hb hts i_T hown hK hw ht rfl 4 (by decide) (hts _ k_84) (fun _ h9 => h9) rfl d_T_leastTooNear_16 ?_
        refine lv_iload hx hb d_T_leastTooNear_19 (lv_at hl 5 rfl) ?_
        refine wr_q (cV (As := [.int (nI i)]) (rest := []) (C := "java/util/ArrayList") 1 ⟨hx, hb, hml, hown, hts⟩ (c_AL_get l g w bo arr xs.length cap i q mc f he ha hcap (by omega) hlt hq) k_157 k_154 k_6 k_155 k_156 (by decide +kernel) ⟨Nat.le_of_ble_eq_true rfl, Nat.le_of_ble_eq_true rfl⟩ rfl rfl ⟨prR_blind _ _ _, hw.recv hK he rfl, prR_at hG hAB hS hw⟩ rfl hl.1 rfl (Nat.le_of_ble_eq_true rfl) d_T_leastTooNear_21 ⟨Nat.zero_le _, Nat.zero_le _⟩) (fun r_3 e_3 => ?_)
        subst e_3
        refine va_castY (C := "DangerTables$Box") hx hb hown (hts _ k_193) (hf.2.1 _ x_871) (hw.recv hK hxq rfl) d_T_leastTooNear_24 ?_
        refine lv_astore (lv' := [(6, .ref q), (0, .ref th), (1, .ref aA), (2, .int u), (3, .int x), (4, .int y), (5, .int (nI i))]) hx hb d_T_leastTooNear_27 hl (by decide) rfl (fun ls hl => ?_)
        refine lv_aload hx hb d_T_leastTooNear_29 (lv_at hl 0 rfl) ?_
        refine ww_getN (v := .int bz) (C := R_X) (T := F_X) (N := 5) (ci := 1) hx hb hts i_X hown hK hw hxq rfl 1 (by decide) (va_Nw.use rfl (hf.2.1 _ x_420)) (fun _ h9 => h9) rfl d_T_leastTooNear_31 ?_
        refine lv_iload_n hx hb d_T_leastTooNear_34 rfl (lv_at hl 3 rfl) ?_
        refine lv_icmp_ne (tgt := 62) hx hb d_T_leastTooNear_35 (by decide) (fun c_4 => ?_) (fun c_4 => ?_)
        · refine lv_iinc (v := (nI (i + 1))) (lv' := [(5, .int (nI (i + 1))), (6, .ref q), (0, .ref th), (1, .ref aA), (2, .int u), (3, .int x), (4, .int y)]) hx hb d_T_leastTooNear_62 hl (k := 6) rfl (nI_1 _) (by decide) rfl (fun ls hl => ?_)
          refine lv_goto (tgt := 3) hx hb d_T_leastTooNear_65 (by decide) ?_
          exact ih_3 (i + 1)  ls (by omega) (by omega) (by rw [hI_3, hdr]; simp [ffx, nrP, c_2, c_4]) (lv_sub hl [2, 3, 4, 5, 6, 0] rfl)
        · refine lv_aload_n hx hb d_T_leastTooNear_38 rfl (lv_at hl 1 rfl) ?_
          refine lv_aload_n hx hb d_T_leastTooNear_39 rfl (lv_at hl 2 rfl) ?_
          refine lv_aload hx hb d_T_leastTooNear_40 (lv_at hl 0 rfl) ?_
          refine wr_i (cV (As := [.ref aA, .ref q]) (rest := []) (C := "DangerTables") 2 ⟨hx, hb, hml, hown, hts⟩ (c_T_ruleOfBoxes l g w th tx ru rd go bo zo rf aA q bA (rs, bz, bx, by_, bt) ht hru hB1 hBx ho1 (hos _ (List.mem_of_getElem? hr0))) k_498 k_495 k_1 k_497 kp_10 (by decide +kernel) ⟨Nat.le_of_ble_eq_true rfl, Nat.le_of_ble_eq_true rfl⟩ rfl rfl ⟨prR_blind _ _ _, hw.recv hK ht rfl, prR_at hG hAB hS hw⟩ rfl hl.1 rfl (Nat.le_of_ble_eq_true rfl) d_T_leastTooNear_42 ⟨Nat.zero_le _, Nat.zero_le _⟩) (fun r_5 e_5 => ?_)
          obtain ⟨k0, hk0, ek0⟩ := in4_ruB hrf ho1 (hos _ (List.mem_of_getElem? hr0))
          obtain rfl : r_5 = nI k0 := e_5.trans ek0
          refine lv_aload hx hb d_T_leastTooNear_45 (lv_at hl 0 rfl) ?_
          refine lv_iload_n hx hb d_T_leastTooNear_47 rfl (lv_at hl 4 rfl) ?_
          refine lv_iload hx hb d_T_leastTooNear_48 (lv_at hl 5 rfl) ?_
          refine wr_i (cV (As := [.int x, .int y]) (rest := [.int (nI k0)]) (C := "DangerTables$Box") 2 ⟨hx, hb, hml, hown, hts⟩ (c_X_distanceTo l g w q pl bz bx by_ bt x y hxq) k_585 k_582 k_19 k_583 k_584 (by decide +kernel) ⟨Nat.le_of_ble_eq_true rfl, Nat.le_of_ble_eq_true rfl⟩ rfl rfl ⟨prR_blind _ _ _, hw.recv hK hxq rfl, prR_at hG hAB hS hw⟩ rfl hl.1 rfl (Nat.le_of_ble_eq_true rfl) d_T_leastTooNear_50 ⟨Nat.zero_le _, Nat.zero_le _⟩) (fun r_6 e_6 => ?_)
          refine wr_i (cS (As := [.int (nI k0), .int r_6]) (rest := []) 2 ⟨hx, hb, hml, hown, hts⟩ (c_T_isTooNear l g w k0 r_6 hk0) k_591 k_589 k_1 k_590 (by decide +kernel) ⟨Nat.le_of_ble_eq_true rfl, Nat.le_of_ble_eq_true rfl⟩ rfl rfl ⟨prR_blind _ _ _, prR_at hG hAB hS hw⟩ rfl hl.1 rfl (Nat.le_of_ble_eq_true rfl) d_T_leastTooNear_53 ⟨Nat.zero_le _, Nat.zero_le _⟩) (fun r_7 e_7 => ?_)
          refine lv_if_eq (tgt := 62) hx hb d_T_leastTooNear_56 (by decide) (fun c_8 => ?_) (fun c_8 => ?_)
          · have q_8 := b2_f e_7 c_8
            have hnr : tnI (ruB rf bA.1 rs) (absI (bx - x) + absI (by_ - y)) = false := by rw [ek0, ← e_6]; exact q_8
            refine lv_iinc (v := (nI (i + 1))) (lv' := [(5, .int (nI (i + 1))), (6, .ref q), (0, .ref th), (1, .ref aA), (2, .int u), (3, .int x), (4, .int y)]) hx hb d_T_leastTooNear_62 hl (k := 6) rfl (nI_1 _) (by decide) rfl (fun ls hl => ?_)
            refine lv_goto (tgt := 3) hx hb d_T_leastTooNear_65 (by decide) ?_
            exact ih_3 (i + 1)  ls (by omega) (by omega) (by rw [hI_3, hdr]; simp [ffx, nrP, c_2, c_4, c_8, hnr]) (lv_sub hl [2, 3, 4, 5, 6, 0] rfl)
          · have q_8 := b2_t e_7 c_8
            have hnr : tnI (ruB rf bA.1 rs) (absI (bx - x) + absI (by_ - y)) = true := by rw [ek0, ← e_6]; exact q_8
            refine lv_iload hx hb d_T_leastTooNear_59 (lv_at hl 6 rfl) ?_
            exact W.iret (v := (nI i)) hx hb hr (fun t ht hW => ⟨(nI i), rfl, (by rw [hI_3, hdr]; simp [ffx, nrP, c_2, c_4, c_8, hnr]), ht⟩) t_nil d_T_leastTooNear_61
  exact loop_3 (xs.length + 1) 0  ls (by omega) (by omega) rfl (lv_sub hl [1, 2, 3, 4, 5, 0] rfl)
end
section
/-! WHAT BARS A PLACE, the rest -/
theorem gt9 {i : Nat} (c : (9 : Int32) < nI i) (hi : i < 2 ^ 31) : 9 < i := (nI_ltI (a := 9) (by decide) hi).mp c
theorem le9 {i : Nat} (c : ¬ (9 : Int32) < nI i) (hi : i < 2 ^ 31) : i ≤ 9 := by
  rcases Nat.lt_or_ge 9 i with h | h
  · exact absurd ((nI_ltI (a := 9) (by decide) hi).mpr h) c
  · exact h
theorem lpC_t {p : Nat → Bool} {n i : Nat} (h : p i = true) : lpC p (n + 1) i = nI i := by rw [lpC, if_pos h]
theorem lpC_f {p : Nat → Bool} {n i : Nat} (h : p i = false) : lpC p (n + 1) i = lpC p n (i + 1) := by rw [lpC, if_neg (by rw [h]; decide)]
set_option maxHeartbeats 4000000 in
set_option maxRecDepth 100000 in
theorem c_T_leastPassedClass (l : Launch) (g : GT) (w : Nat → Option va_E) (th tx ru : Nat) (rd : Int32) (go bo zo : Nat) (aA : Nat) (bA : BX) (arr : Nat) (xs : List Nat) (bs : List BX) (fz : Nat → Option Nat) (mz : Nat → Nat → Int32) (zi : Nat) (ht : w th = some (cT tx ru rd go bo zo)) (hB1 : isBx g w aA bA) (hL : isL g w bo arr xs) (hlen : xs.length = bs.length) (hbs : ∀ i a : Nat, xs[i]? = some a → ∃ b, bs[i]? = some b ∧ isBx g w a b) (hz : w zo = some (cZ g fz)) (hzr : ∀ k : Nat, k < 4 → ∃ q : Nat, fz k = some q ∧ w q = some (cA g 10 (mz k))) (hzi : zi < 4) : Met l y_T_leastPassedClass (.code y_T_leastPassedClass b_T_leastPassedClass 5 ((some .int)) :: GW) ({ frames := 5, cells := 0, slots := 0, locals := 113 }) (prR g [.ref th, .ref aA, .int (nI zi)] w) (vp_Si (fun r => r = lpB (mz zi) bs bA.1 (nI zi))) 0 0 (fun _ => False) := by
  refine Met.ofW (cc := b_T_leastPassedClass) (maxL := 5) (ret := (some .int)) (by decide) rfl ?_
  intro p e s m args below meth c s₁ B hml hv
  obtain ⟨rfl, hG, hw⟩ := hv
  have hx := B.exec
  have hb := B.bytes
  have hr := B.returns
  have hts : ∀ w ∈ GW, w.before _ s = true := fun w h => atoms_spec (ws := .code y_T_leastPassedClass b_T_leastPassedClass 5 ((some .int)) :: GW) B.pre w (List.mem_cons_of_mem _ h)
  have hown : s.vm.findClass "DangerTables" = some m.cls := findClass_of_methodNamed B.named
  have hlocks := B.notSynchronized
  have hf := hG.here
  have hK := hf.1
  have hAB : ∀ q, gB g q → gB g q := fun _ h => h
  have hS : va_S (gB g) s.heap s.heap [] := va_S.rf
  have hl := lv_entry ([.ref th, .ref aA, .int (nI zi)]) (n := 5) (Nat.le_of_ble_eq_true rfl)
  rw [lg_entry_eq]
  generalize (lg_sl ([.ref th, .ref aA, .int (nI zi)]) ++ List.replicate (5 - (lg_sl ([.ref th, .ref aA, .int (nI zi)])).length) Slot.unset).toArray = ls at hl ⊢
  have hl : lv_has ls 5 [(0, .ref th), (1, .ref aA), (2, .int (nI zi))] := hl
  obtain ⟨plA, parrA, psA, hxA, -⟩ := id hB1
  refine lv_iconst (v := 1) hx hb d_T_leastPassedClass_0 (by decide) ?_
  refine lv_istore_n (lv' := [(3, .int 1), (0, .ref th), (1, .ref aA), (2, .int (nI zi))]) hx hb d_T_leastPassedClass_1 rfl hl (by decide) rfl (fun ls hl => ?_)
  have loop_2 : ∀ (k i : Nat)  (ls : Array Slot), i ≤ 10 → 10 < i + k → lpB (mz zi) bs bA.1 (nI zi) = lpC (lpP (mz zi) bs bA.1 (nI zi)) (10 - i) i → lv_has ls 5 [(0, .ref th), (1, .ref aA), (2, .int (nI zi)), (3, .int (nI i))] → W p l e (headSpec (.code y_T_leastPassedClass b_T_leastPassedClass 5 ((some .int)) :: GW) ({ frames := 5, cells := 0, slots := 0, locals := 113 })).room s m (#[.ref th, .ref aA, .int (nI zi)] : Array Value) below meth c s.heap [] 0 0 (MQ below (vp_Si (fun r => r = lpB (mz zi) bs bA.1 (nI zi))) (#[.ref th, .ref aA, .int (nI zi)] : Array Value) s 0 0 (fun _ => False)) (F0 m 2 ls []) := by
    intro k
    induction k with
    | zero =>
      intro i  ls h1_2 h2_2
      exact absurd h2_2 (by omega)
    | succ k ih_2 =>
      intro i  ls h1_2 h2_2 hI_2 hl
      refine lv_iload_n hx hb d_T_leastPassedClass_2 rfl (lv_at hl 3 rfl) ?_
      refine lv_bipush (v := 9) hx hb d_T_leastPassedClass_3 (by decide) ?_
      refine lv_icmp_gt (tgt := 48) hx hb d_T_leastPassedClass_5 (by decide) (fun c_1 => ?_) (fun c_1 => ?_)
      · have hge := gt9 c_1 (by omega)
        obtain rfl : i = 10 := by omega
        refine lv_iconst (v := -1) hx hb d_T_leastPassedClass_48 (by decide) ?_
        exact W.iret (v := (-1)) hx hb hr (fun t ht hW => ⟨(-1), rfl, (by rw [hI_2]; rfl), ht⟩) t_nil d_T_leastPassedClass_49
      · have hlt := le9 c_1 (by omega)
        refine lv_aload_n hx hb d_T_leastPassedClass_8 rfl (lv_at hl 1 rfl) ?_
        refine lv_iload_n hx hb d_T_leastPassedClass_9 rfl (lv_at hl 3 rfl) ?_
        refine wr_i (cV (As := [.int (nI i)]) (rest := []) (C := "DangerTables$Box") 1 ⟨hx, hb, hml, hown, hts⟩ (c_X_kilogramsOf l g w aA bA (nI i) hB1) k_540 k_537 k_19 k_538 k_539 (by decide +kernel) ⟨Nat.le_of_ble_eq_true rfl, Nat.le_of_ble_eq_true rfl⟩ rfl rfl ⟨prR_blind _ _ _, hw.recv hK hxA rfl, prR_at hG hAB hS hw⟩ rfl hl.1 rfl (Nat.le_of_ble_eq_true rfl) d_T_leastPassedClass_10 ⟨Nat.zero_le _, Nat.zero_le _⟩) (fun r_2 e_2 => ?_)
        refine lv_istore (lv' := [(4, .int r_2), (0, .ref th), (1, .ref aA), (2, .int (nI zi)), (3, .int (nI i))]) hx hb d_T_leastPassedClass_13 hl (by decide) rfl (fun ls hl => ?_)
        refine lv_iload hx hb d_T_leastPassedClass_15 (lv_at hl 0 rfl) ?_
        refine lv_if_le (tgt := 42) hx hb d_T_leastPassedClass_17 (by decide) (fun c_3 => ?_) (fun c_3 => ?_)
        · have hP : lpP (mz zi) bs bA.1 (nI zi) i = false := by unfold lpP; rw [← e_2, decide_eq_true c_3]; rfl
          refine lv_iinc (v := (nI (i + 1))) (lv' := [(3, .int (nI (i + 1))), (4, .int r_2), (0, .ref th), (1, .ref aA), (2, .int (nI zi))]) hx hb d_T_leastPassedClass_42 hl (k := 4) rfl (nI_1 _) (by decide) rfl (fun ls hl => ?_)
          refine lv_goto (tgt := 2) hx hb d_T_leastPassedClass_45 (by decide) ?_
          exact ih_2 (i + 1)  ls (by omega) (by omega) (by rw [hI_2, show 10 - i = (10 - (i + 1)) + 1 by omega, lpC_f hP]) (lv_sub hl [2, 3, 4, 0] rfl)
        · refine lv_iload hx hb d_T_leastPassedClass_20 (lv_at hl 0 rfl) ?_
          refine lv_aload_n hx hb d_T_leastPassedClass_22 rfl (lv_at hl 1 rfl) ?_
          refine lv_iload_n hx hb d_T_leastPassedClass_23 rfl (lv_at hl 3 rfl) ?_
          refine lv_iload_n hx hb d_T_leastPassedClass_24 rfl (lv_at hl 4 rfl) ?_
          refine wr_i (cV (As := [.int (nI zi), .int (nI i)]) (rest := [.int r_2]) (C := "DangerTables") 2 ⟨hx, hb, hml, hown, hts⟩ (c_T_kilogramsInZone l g w th tx ru rd go bo zo arr xs bs (nI zi) (nI i) ht hL hlen hbs) k_536 k_533 k_1 k_535 kp_13 (by decide +kernel) ⟨Nat.le_of_ble_eq_true rfl, Nat.le_of_ble_eq_true rfl⟩ rfl rfl ⟨prR_blind _ _ _, hw.recv hK ht rfl, prR_at hG hAB hS hw⟩ rfl hl.1 rfl (Nat.le_of_ble_eq_true rfl) d_T_leastPassedClass_25 ⟨Nat.zero_le _, Nat.zero_le _⟩) (fun r_4 e_4 => ?_)
          refine lv_iadd hx hb d_T_leastPassedClass_28 ?_
          refine lv_topi (fun v_5 e_5 => ?_)
          refine lv_aload_n hx hb d_T_leastPassedClass_29 rfl (lv_at hl 1 rfl) ?_
          refine ww_get (v := .ref zo) (C := R_T) (T := F_T) (N := 6) (ci := 0) hx hb hts i_T hown hK hw ht rfl 5 (by decide) (hts _ k_85) (fun _ h9 => h9) rfl d_T_leastPassedClass_30 ?_
          refine lv_iload_n hx hb d_T_leastPassedClass_33 rfl (lv_at hl 3 rfl) ?_
          obtain ⟨zr, hfz, hzq⟩ := hzr zi hzi
          refine ww_aldA (v := .ref zr) hx hb hK hw 4 hz rfl (vp_in_nI hzi (by decide)) (rf_at (by omega) hfz) d_T_leastPassedClass_34 ?_
          refine lv_iload_n hx hb d_T_leastPassedClass_35 rfl (lv_at hl 4 rfl) ?_
          refine ww_iald (v := mz zi i) hx hb hK hw 0 hzq rfl (vp_in_nI (by omega) (by decide)) (by rw [nI_clamp (by omega)]) d_T_leastPassedClass_36 ?_
          refine lv_icmp_le (tgt := 42) hx hb d_T_leastPassedClass_37 (by decide) (fun c_6 => ?_) (fun c_6 => ?_)
          · have hP : lpP (mz zi) bs bA.1 (nI zi) i = false := by unfold lpP; rw [← e_4, ← e_2, ← e_5, decide_eq_true c_6, Bool.not_true, Bool.and_false]
            refine lv_iinc (v := (nI (i + 1))) (lv' := [(3, .int (nI (i + 1))), (4, .int r_2), (0, .ref th), (1, .ref aA), (2, .int (nI zi))]) hx hb d_T_leastPassedClass_42 hl (k := 4) rfl (nI_1 _) (by decide) rfl (fun ls hl => ?_)
            refine lv_goto (tgt := 2) hx hb d_T_leastPassedClass_45 (by decide) ?_
            exact ih_2 (i + 1)  ls (by omega) (by omega) (by rw [hI_2, show 10 - i = (10 - (i + 1)) + 1 by omega, lpC_f hP]) (lv_sub hl [2, 3, 4, 0] rfl)
          · have hP : lpP (mz zi) bs bA.1 (nI zi) i = true := by unfold lpP; rw [← e_4, ← e_2, ← e_5, decide_eq_false c_3, decide_eq_false c_6]; rfl
            refine lv_iload_n hx hb d_T_leastPassedClass_40 rfl (lv_at hl 4 rfl) ?_
            exact W.iret (v := (nI i)) hx hb hr (fun t ht hW => ⟨(nI i), rfl, (by rw [hI_2, show 10 - i = (10 - (i + 1)) + 1 by omega, lpC_t hP]), ht⟩) t_nil d_T_leastPassedClass_41
  exact loop_2 (10 + 1) 1  ls (by omega) (by omega) rfl (lv_sub hl [1, 2, 3, 0] rfl)

set_option maxHeartbeats 4000000 in
set_option maxRecDepth 100000 in
theorem c_T_firstBar (l : Launch) (g : GT) (w : Nat → Option va_E) (th tx ru : Nat) (rd : Int32) (go bo zo : Nat) (rf : Nat → Int32) (aA : Nat) (bA : BX) (arr : Nat) (xs : List Nat) (bs : List BX) (x y : Int32) (fz : Nat → Option Nat) (mz : Nat → Nat → Int32) (zi : Nat) (ht : w th = some (cT tx ru rd go bo zo)) (hru : w ru = some (cA g 45 rf)) (hrf : okR rf) (hB1 : isBx g w aA bA) (ho1 : ∀ r ∈ bA.1, okP r) (hL : isL g w bo arr xs) (hlen : xs.length = bs.length) (hbs : ∀ i a : Nat, xs[i]? = some a → ∃ b, bs[i]? = some b ∧ isBx g w a b) (hos : ∀ b ∈ bs, ∀ r ∈ b.1, okP r) (hz : w zo = some (cZ g fz)) (hzr : ∀ k : Nat, k < 4 → ∃ q : Nat, fz k = some q ∧ w q = some (cA g 10 (mz k))) (hzi : zi < 4) : Met l y_T_firstBar (.code y_T_firstBar b_T_firstBar 7 ((some .int)) :: GW) ({ frames := 6, cells := 0, slots := 0, locals := 137 }) (prR g [.ref th, .ref aA, .int (nI zi), .int x, .int y] w) (vp_Si (fun r => r = fbB rf (mz zi) bs bA (nI zi) x y)) 0 0 (fun _ => False) := by
  refine Met.ofW (cc := b_T_firstBar) (maxL := 7) (ret := (some .int)) (by decide) rfl ?_
  intro p e s m args below meth c s₁ B hml hv
  obtain ⟨rfl, hG, hw⟩ := hv
  have hx := B.exec
  have hb := B.bytes
  have hr := B.returns
  have hts : ∀ w ∈ GW, w.before _ s = true := fun w h => atoms_spec (ws := .code y_T_firstBar b_T_firstBar 7 ((some .int)) :: GW) B.pre w (List.mem_cons_of_mem _ h)
  have hown : s.vm.findClass "DangerTables" = some m.cls := findClass_of_methodNamed B.named
  have hlocks := B.notSynchronized
  have hf := hG.here
  have hK := hf.1
  have hAB : ∀ q, gB g q → gB g q := fun _ h => h
  have hS : va_S (gB g) s.heap s.heap [] := va_S.rf
  have hl := lv_entry ([.ref th, .ref aA, .int (nI zi), .int x, .int y]) (n := 7) (Nat.le_of_ble_eq_true rfl)
  rw [lg_entry_eq]
  generalize (lg_sl ([.ref th, .ref aA, .int (nI zi), .int x, .int y]) ++ List.replicate (7 - (lg_sl ([.ref th, .ref aA, .int (nI zi), .int x, .int y])).length) Slot.unset).toArray = ls at hl ⊢
  have hl : lv_has ls 7 [(0, .ref th), (1, .ref aA), (2, .int (nI zi)), (3, .int x), (4, .int y)] := hl
  obtain ⟨plA, parrA, psA, hxA, -⟩ := id hB1
  refine lv_aload_n hx hb d_T_firstBar_0 rfl (lv_at hl 1 rfl) ?_
  refine wr_i (cV (As := []) (rest := []) (C := "DangerTables$Box") 0 ⟨hx, hb, hml, hown, hts⟩ (c_X_untoldFields l g w aA bA hB1) k_564 k_561 k_19 k_562 k_563 (by decide +kernel) ⟨Nat.le_of_ble_eq_true rfl, Nat.le_of_ble_eq_true rfl⟩ rfl rfl ⟨prR_blind _ _ _, hw.recv hK hxA rfl, prR_at hG hAB hS hw⟩ rfl hl.1 rfl (Nat.le_of_ble_eq_true rfl) d_T_firstBar_1 ⟨Nat.zero_le _, Nat.zero_le _⟩) (fun r_1 e_1 => ?_)
  refine lv_if_eq (tgt := 10) hx hb d_T_firstBar_4 (by decide) (fun c_2 => ?_) (fun c_2 => ?_)
  · refine lv_aload_n hx hb d_T_firstBar_10 rfl (lv_at hl 0 rfl) ?_
    refine lv_iload_n hx hb d_T_firstBar_11 rfl (lv_at hl 2 rfl) ?_
    refine lv_iload_n hx hb d_T_firstBar_12 rfl (lv_at hl 3 rfl) ?_
    refine lv_iload hx hb d_T_firstBar_13 (lv_at hl 4 rfl) ?_
    refine wr_i (cV (As := [.int (nI zi), .int x, .int y]) (rest := []) (C := "DangerTables") 3 ⟨hx, hb, hml, hown, hts⟩ (c_T_isTaken l g w th tx ru rd go bo zo arr xs bs (nI zi) x y ht hL hlen hbs) k_573 k_570 k_1 k_572 kp_15 (by decide +kernel) ⟨Nat.le_of_ble_eq_true rfl, Nat.le_of_ble_eq_true rfl⟩ rfl rfl ⟨prR_blind _ _ _, hw.recv hK ht rfl, prR_at hG hAB hS hw⟩ rfl hl.1 rfl (Nat.le_of_ble_eq_true rfl) d_T_firstBar_15 ⟨Nat.zero_le _, Nat.zero_le _⟩) (fun r_3 e_3 => ?_)
    refine lv_if_eq (tgt := 24) hx hb d_T_firstBar_18 (by decide) (fun c_4 => ?_) (fun c_4 => ?_)
    · have q_4 := b2_f e_3 c_4
      refine lv_aload_n hx hb d_T_firstBar_24 rfl (lv_at hl 0 rfl) ?_
      refine lv_aload_n hx hb d_T_firstBar_25 rfl (lv_at hl 1 rfl) ?_
      refine lv_iload_n hx hb d_T_firstBar_26 rfl (lv_at hl 2 rfl) ?_
      refine wr_i (cV (As := [.ref aA, .int (nI zi)]) (rest := []) (C := "DangerTables") 2 ⟨hx, hb, hml, hown, hts⟩ (c_T_leastPassedClass l g w th tx ru rd go bo zo aA bA arr xs bs fz mz zi ht hB1 hL hlen hbs hz hzr hzi) k_577 k_574 k_1 k_576 kp_16 (by decide +kernel) ⟨Nat.le_of_ble_eq_true rfl, Nat.le_of_ble_eq_true rfl⟩ rfl rfl ⟨prR_blind _ _ _, hw.recv hK ht rfl, prR_at hG hAB hS hw⟩ rfl hl.1 rfl (Nat.le_of_ble_eq_true rfl) d_T_firstBar_27 ⟨Nat.zero_le _, Nat.zero_le _⟩) (fun r_5 e_5 => ?_)
      refine lv_istore (lv' := [(5, .int r_5), (0, .ref th), (1, .ref aA), (2, .int (nI zi)), (3, .int x), (4, .int y)]) hx hb d_T_firstBar_30 hl (by decide) rfl (fun ls hl => ?_)
      refine lv_iload hx hb d_T_firstBar_32 (lv_at hl 0 rfl) ?_
      refine lv_iconst (v := -1) hx hb d_T_firstBar_34 (by decide) ?_
      refine lv_icmp_eq (tgt := 44) hx hb d_T_firstBar_35 (by decide) (fun c_6 => ?_) (fun c_6 => ?_)
      · refine lv_aload_n hx hb d_T_firstBar_44 rfl (lv_at hl 1 rfl) ?_
        refine lv_aload_n hx hb d_T_firstBar_45 rfl (lv_at hl 2 rfl) ?_
        refine lv_iload_n hx hb d_T_firstBar_46 rfl (lv_at hl 3 rfl) ?_
        refine lv_iload_n hx hb d_T_firstBar_47 rfl (lv_at hl 4 rfl) ?_
        refine lv_iload hx hb d_T_firstBar_48 (lv_at hl 5 rfl) ?_
        refine wr_i (cV (As := [.ref aA, .int (nI zi), .int x, .int y]) (rest := []) (C := "DangerTables") 4 ⟨hx, hb, hml, hown, hts⟩ (c_T_leastTooNear l g w th tx ru rd go bo zo rf aA bA arr xs bs (nI zi) x y ht hru hrf hB1 ho1 hL hlen hbs hos) k_581 k_578 k_1 k_580 kp_17 (by decide +kernel) ⟨Nat.le_of_ble_eq_true rfl, Nat.le_of_ble_eq_true rfl⟩ rfl rfl ⟨prR_blind _ _ _, hw.recv hK ht rfl, prR_at hG hAB hS hw⟩ rfl hl.1 rfl (Nat.le_of_ble_eq_true rfl) d_T_firstBar_50 ⟨Nat.zero_le _, Nat.zero_le _⟩) (fun r_7 e_7 => ?_)
        refine lv_istore (lv' := [(6, .int r_7), (5, .int r_5), (0, .ref th), (1, .ref aA), (2, .int (nI zi)), (3, .int x), (4, .int y)]) hx hb d_T_firstBar_53 hl (by decide) rfl (fun ls hl => ?_)
        refine lv_iload hx hb d_T_firstBar_55 (lv_at hl 0 rfl) ?_
        refine lv_iconst (v := -1) hx hb d_T_firstBar_57 (by decide) ?_
        refine lv_icmp_ne (tgt := 65) hx hb d_T_firstBar_58 (by decide) (fun c_8 => ?_) (fun c_8 => ?_)
        · refine lv_bipush (v := 64) hx hb d_T_firstBar_65 (by decide) ?_
          refine lv_iload hx hb d_T_firstBar_67 (lv_at hl 0 rfl) ?_
          refine lv_iadd hx hb d_T_firstBar_69 ?_
          refine lv_topi (fun v_9 e_9 => ?_)
          exact W.iret (v := v_9) hx hb hr (fun t ht hW => ⟨v_9, rfl, (by unfold fbB; rw [← e_1, if_pos c_2, if_neg (by rw [q_4]; decide), ← e_5, if_pos c_6, ← e_7, if_neg c_8]; exact e_9), ht⟩) t_nil d_T_firstBar_70
        · refine lv_iconst (v := 0) hx hb d_T_firstBar_61 (by decide) ?_
          refine lv_goto (tgt := 70) hx hb d_T_firstBar_62 (by decide) ?_
          exact W.iret (v := 0) hx hb hr (fun t ht hW => ⟨0, rfl, (by unfold fbB; rw [← e_1, if_pos c_2, if_neg (by rw [q_4]; decide), ← e_5, if_pos c_6, ← e_7, if_pos c_8]), ht⟩) t_nil d_T_firstBar_70
      · refine lv_bipush (v := 48) hx hb d_T_firstBar_38 (by decide) ?_
        refine lv_iload hx hb d_T_firstBar_40 (lv_at hl 0 rfl) ?_
        refine lv_iadd hx hb d_T_firstBar_42 ?_
        refine lv_topi (fun v_10 e_10 => ?_)
        exact W.iret (v := v_10) hx hb hr (fun t ht hW => ⟨v_10, rfl, (by unfold fbB; rw [← e_1, if_pos c_2, if_neg (by rw [q_4]; decide), ← e_5, if_neg c_6]; exact e_10), ht⟩) t_nil d_T_firstBar_43
    · have q_4 := b2_t e_3 c_4
      refine lv_bipush (v := 32) hx hb d_T_firstBar_21 (by decide) ?_
      exact W.iret (v := 32) hx hb hr (fun t ht hW => ⟨32, rfl, (by unfold fbB; rw [← e_1, if_pos c_2, if_pos q_4]), ht⟩) t_nil d_T_firstBar_23
  · refine lv_bipush (v := 16) hx hb d_T_firstBar_7 (by decide) ?_
    exact W.iret (v := 16) hx hb hr (fun t ht hW => ⟨16, rfl, (by unfold fbB; rw [← e_1, if_neg c_2]), ht⟩) t_nil d_T_firstBar_9
end
