/-! METHODS OF THE FACE THAT ONLY READ, with what they throw -/
theorem xk_on {c : Cond} (h : xk c = true) : c.onTables = true := by cases c <;> first | rfl | (simp [xk] at h)
theorem atS_hat {own cls : String} {ic : Nat} {names : List String} {args : Array Value} {s : State} (h : ∀ c ∈ vx_atS own ic cls names, c ∈ lw_tbl ∧ (goodWord c || xk c) = true) (hts : ∀ w ∈ GW, w.before args s = true) (hx : ∀ c ∈ XW, va_Nw c s) : ∀ c ∈ vx_atS own ic cls names, c.before args s = true := by
  intro c hc
  obtain ⟨h1, h2⟩ := h c hc
  rcases (Bool.or_eq_true _ _).mp h2 with hg | hk
  · exact hts c (List.mem_filter.mpr ⟨h1, hg⟩)
  · exact va_Nw.use (xk_on hk) (hx c (List.mem_filter.mpr ⟨h1, hk⟩))
set_option maxRecDepth 100000 in
theorem at_IAE : ∀ c ∈ vx_atS "DangerTables" 68 "java/lang/IllegalArgumentException" ["java/lang/RuntimeException", "java/lang/Exception"], c ∈ lw_tbl ∧ (goodWord c || xk c) = true := by decide +kernel
set_option maxRecDepth 100000 in
theorem gd_IAE : ∀ w ∈ Cond.classLink "DangerTables" 64 "java/lang/IllegalArgumentException" :: Cond.initialized "java/lang/IllegalArgumentException" :: vx_atS "DangerTables" 68 "java/lang/IllegalArgumentException" ["java/lang/RuntimeException", "java/lang/Exception"], vx_ot w = true := by decide +kernel
set_option maxRecDepth 100000 in
theorem at_ISE : ∀ c ∈ vx_atS "DangerTables" 90 "java/lang/IllegalStateException" ["java/lang/RuntimeException", "java/lang/Exception"], c ∈ lw_tbl ∧ (goodWord c || xk c) = true := by decide +kernel
set_option maxRecDepth 100000 in
theorem gd_ISE : ∀ w ∈ Cond.classLink "DangerTables" 86 "java/lang/IllegalStateException" :: Cond.initialized "java/lang/IllegalStateException" :: vx_atS "DangerTables" 90 "java/lang/IllegalStateException" ["java/lang/RuntimeException", "java/lang/Exception"], vx_ot w = true := by decide +kernel
set_option maxRecDepth 100000 in
theorem at_IOE : ∀ c ∈ vx_atS "DangerTables" 200 "java/lang/IndexOutOfBoundsException" ["java/lang/RuntimeException", "java/lang/Exception"], c ∈ lw_tbl ∧ (goodWord c || xk c) = true := by decide +kernel
set_option maxRecDepth 100000 in
theorem gd_IOE : ∀ w ∈ Cond.classLink "DangerTables" 196 "java/lang/IndexOutOfBoundsException" :: Cond.initialized "java/lang/IndexOutOfBoundsException" :: vx_atS "DangerTables" 200 "java/lang/IndexOutOfBoundsException" ["java/lang/RuntimeException", "java/lang/Exception"], vx_ot w = true := by decide +kernel
abbrev qR (post : Int32 → Prop) : Array Value → State → Outcome → State → Prop := va_Qi (S := Unit) (fun r _ => post r) (fun _ _ => True) (fun _ => False)
abbrev xQ (P : String → Prop) : String → State → State → Prop := vx_X (S := Unit) (fun _ => True) (fun E _ _ => P E) (fun _ => False)
section SW
variable {p : Program} {l : Launch} {e : Env} {R : Room} {s : State} {m : MethodId} {args : Array Value} {below : List Frame} {meth : Method} {c : Code} {H : Heap} {locs : List Loc} {cells slots : Nat} {Q : State → Prop} {cc : ByteArray} {pc : Nat} {ls : Array Slot} {rest : List Value}
theorem lv_sw (N : Nat) (tg : Nat → Nat) (td : Nat) (hexec : p.tables.exec = Jvm.exec) (hb : c.code = cc) {dflt hi : Int} {offs : Array Int} {len : Nat} {x : Int32} (hdg : decode cc pc = .ok (.tableswitch dflt 0 hi offs, len)) (hN : hi = (N : Int)) (hN2 : N < 1000) (htd : (pc : Int) + dflt = (td : Int)) (htg : ∀ j : Nat, j ≤ N → ∃ off : Int, offs[j]? = some off ∧ (pc : Int) + off = (tg j : Int))
    (k : ∀ j : Nat, j ≤ N → x = nI j → W p l e R s m args below meth c H locs cells slots Q (F0 m (tg j) ls rest)) (kd : (∀ j : Nat, j ≤ N → ¬ x = nI j) → W p l e R s m args below meth c H locs cells slots Q (F0 m td ls rest)) : W p l e R s m args below meth c H locs cells slots Q (F0 m pc ls (.int x :: rest)) := by
  subst hN
  by_cases h : ∃ j : Nat, j ≤ N ∧ x = nI j
  · obtain ⟨j, hj, rfl⟩ := h
    obtain ⟨off, ho, ht⟩ := htg j hj
    have hx : (nI j).toInt = (j : Int) := nI_toInt (by omega)
    refine lv_tableIn hexec hb hdg (by rw [hx]; omega) (by rw [hx]; omega) (off := off) ?_ ht (k j hj rfl)
    rw [hx, show ((j : Int) - 0).toNat = j by omega]
    exact ho
  · refine lv_tableOut hexec hb hdg ?_ htd (kd (fun j hj e => h ⟨j, hj, e⟩))
    by_cases h1 : x.toInt < 0
    · exact Or.inl h1
    · refine Or.inr ?_
      obtain ⟨j, hj, rfl⟩ := nI_of (x := x) (by rw [Int32.lt_iff_toInt_lt, Int32.toInt_zero]; exact h1)
      rw [nI_toInt hj]
      rcases Nat.lt_or_ge N j with h2 | h2
      · omega
      · exact absurd ⟨j, h2, rfl⟩ h
end SW
theorem inL_of {v : Int32} {n : Nat} (h : inL v n = true) (hn : n < 2 ^ 31) : ∃ i : Nat, i < n ∧ v = nI i := by
  simp only [inL, Bool.and_eq_true, Bool.not_eq_true', decide_eq_false_iff_not] at h
  obtain ⟨j, hj, rfl⟩ := nI_of h.1
  refine ⟨j, ?_, rfl⟩
  rcases Nat.lt_or_ge j n with h2 | h2
  · exact h2
  · exact absurd (nI_le h2 hj) h.2
