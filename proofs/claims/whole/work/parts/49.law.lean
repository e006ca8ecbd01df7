/-! THE LAW'S LOOP AND ITS START -/
theorem ww.sub {D : va_G} {cl : List vw_C} {A : Nat → Prop} {w w1 : Nat → Option va_E} {H : Heap} (h : ww D cl A w H) (hs : ∀ (a : Nat) (e : va_E), w1 a = some e → w a = some e) : ww D cl A w1 H := by
  obtain ⟨L, hP, hD, hL⟩ := h
  have mem : ∀ (k : Nat) (q : Nat × va_E), (L.filter (fun p => (w1 p.1).isSome))[k]? = some q → ∃ j : Nat, L[j]? = some q ∧ (w1 q.1).isSome = true := fun k q hk => by
    obtain ⟨h2, h3⟩ := List.mem_filter.mp (List.mem_of_getElem? hk)
    obtain ⟨j, hj⟩ := List.mem_iff_getElem?.mp h2
    exact ⟨j, hj, h3⟩
  refine ⟨L.filter (fun p => (w1 p.1).isSome), fun k q hk => ?_, ⟨fun i j p q hp hq e => ?_, fun k q hk => ?_⟩, fun a e => ⟨fun h => ?_, fun h => ?_⟩⟩
  · obtain ⟨j, hj, -⟩ := mem k q hk
    exact hP j q hj
  · have pw : L.Pairwise (fun p q => p.1 ≠ q.1) := List.pairwise_iff_getElem.mpr (fun i j hi hj hij e => by
      have := hD.1 i j _ _ (List.getElem?_eq_getElem hi) (List.getElem?_eq_getElem hj) e
      omega)
    have pf := List.pairwise_iff_getElem.mp (pw.filter (fun p => (w1 p.1).isSome))
    obtain ⟨hi, rfl⟩ := List.getElem?_eq_some_iff.mp hp
    obtain ⟨hj, rfl⟩ := List.getElem?_eq_some_iff.mp hq
    rcases Nat.lt_trichotomy i j with h1 | h1 | h1
    · exact absurd e (pf i j hi hj h1)
    · exact h1
    · exact absurd e.symm (pf j i hj hi h1)
  · obtain ⟨j, hj, -⟩ := mem k q hk
    exact hD.2 j q hj
  · obtain ⟨k, hk⟩ := (hL a e).mp (hs a e h)
    exact List.mem_iff_getElem?.mp (List.mem_filter.mpr ⟨List.mem_of_getElem? hk, by show (w1 a).isSome = true; rw [h]; rfl⟩)
  · obtain ⟨k, hk⟩ := h
    obtain ⟨j, hj, h3⟩ := mem k _ hk
    have h4 := (hL a e).mpr ⟨j, hj⟩
    obtain ⟨e1, he1⟩ := Option.isSome_iff_exists.mp h3
    have h5 := hs a e1 he1
    rw [h4] at h5
    cases h5
    exact he1
def un (w1 w2 : Nat → Option va_E) : Nat → Option va_E := fun a => match w1 a with
  | some e => some e
  | none => w2 a
theorem un_l {w1 w2 : Nat → Option va_E} {a : Nat} {e : va_E} (h : w1 a = some e) : un w1 w2 a = some e := by unfold un; rw [h]
theorem un_r {w1 w2 : Nat → Option va_E} (hd : dj w1 w2) {a : Nat} {e : va_E} (h : w2 a = some e) : un w1 w2 a = some e := by
  unfold un
  cases h1 : w1 a with
  | none => exact h
  | some e1 => exact (hd a e1 e h1 h).elim
theorem un_n {w1 w2 : Nat → Option va_E} {a : Nat} (h : un w1 w2 a = none) : w1 a = none ∧ w2 a = none := by
  unfold un at h
  cases h1 : w1 a with
  | none => rw [h1] at h; exact ⟨rfl, h⟩
  | some e1 => rw [h1] at h; cases h
theorem ww.un {D : va_G} {cl : List vw_C} {A : Nat → Prop} {w1 w2 : Nat → Option va_E} {H : Heap} (h1 : ww D cl A w1 H) (h2 : ww D cl A w2 H) (hd : dj w1 w2) : ww D cl A (un w1 w2) H := by
  obtain ⟨L1, hP1, hD1, hL1⟩ := h1
  obtain ⟨L2, hP2, hD2, hL2⟩ := h2
  refine ⟨L1 ++ L2, hP1.app hP2, hD1.app hD2 (fun i j p q hp hq e => ?_), fun a e => ⟨fun h => ?_, fun h => ?_⟩⟩
  · exact hd p.1 p.2 q.2 ((hL1 _ _).mpr ⟨i, hp⟩) ((hL2 _ _).mpr ⟨j, by rw [e]; exact hq⟩)
  · refine List.mem_iff_getElem?.mp (List.mem_append.mpr ?_)
    cases h3 : w1 a with
    | some e1 =>
      rw [un_l h3] at h
      cases h
      obtain ⟨k, hk⟩ := (hL1 _ _).mp h3
      exact Or.inl (List.mem_of_getElem? hk)
    | none =>
      have h : w2 a = some e := by have h9 : (match w1 a with | some e => some e | none => w2 a) = some e := h; rw [h3] at h9; exact h9
      obtain ⟨k, hk⟩ := (hL2 _ _).mp h
      exact Or.inr (List.mem_of_getElem? hk)
  · rcases List.mem_append.mp (List.mem_iff_getElem?.mpr h) with h3 | h3
    · exact un_l ((hL1 _ _).mpr (List.mem_iff_getElem?.mp h3))
    · exact un_r hd ((hL2 _ _).mpr (List.mem_iff_getElem?.mp h3))

theorem st_init {g : GT} {wC wM : Nat → Option va_E} {th mo out : Nat} (hC : ∃ (tx ru go bo zo sg fo : Nat) (r : Nat → Nat) (f0 ff rf : Nat → Int32), wC th = some (cT tx ru 0 go bo zo) ∧ wC tx = some (cU sg 0 fo) ∧ wC sg = some (cA g 300 f0) ∧ wC fo = some (cA g 45 ff) ∧ wC ru = some (cA g 45 rf) ∧ (∀ j : Nat, j < 45 → rf j = 4) ∧ wC go = some (cL 0 (g.2.2 1) 0) ∧ wC bo = some (cL 0 (g.2.2 1) 0) ∧ go ≠ bo ∧ ru ≠ fo ∧ wC zo = some (cZ g (fun i => if i < 4 then some (r i) else none)) ∧ (∀ k : Nat, k < 4 → ∃ m : Nat → Int32, wC (r k) = some (cA g 10 m) ∧ ∀ j : Nat, j < 10 → m j = 100000) ∧ ∀ i j : Nat, i < 4 → j < 4 → r i = r j → i = j) (hn : wC out = none) (hM : ∃ (ad : Nat → Nat) (F : Nat → Nat → Int32), isM g wM mo ad 0 0 0 0 0 F ∧ (∀ j : Nat, j < 81 → F 1 j = 4) ∧ (∀ j : Nat, j < 36 → F 16 j = 100000) ∧ (∀ j : Nat, j < 12 → F 10 j = -1) ∧ ∀ k : Nat, k ≠ 1 → k ≠ 16 → k ≠ 10 → F k = fun _ => 0) : ST g (va_up wC out (some (cJ g (fun _ => 0)))) th out wM mo := by
  obtain ⟨tx, ru, go, bo, zo, sg, fo, r, f0, ff, rf, h1, h2, h3, h4, h5, h6, h7, h8, h9, h10, h11, h12, h13⟩ := hC
  obtain ⟨ad, F, m1, m2, m3, m4, m5⟩ := hM
  obtain ⟨r0, hr0, hv0⟩ := h12 0 (by decide)
  obtain ⟨r1, hr1, hv1⟩ := h12 1 (by decide)
  obtain ⟨r2, hr2, hv2⟩ := h12 2 (by decide)
  obtain ⟨r3, hr3, hv3⟩ := h12 3 (by decide)
  have up : ∀ {a : Nat} {e : va_E}, wC a = some e → va_up wC out (some (cJ g (fun _ => 0))) a = some e := fun h => (va_up_ne _ _ (ne_n hn h)).trans h
  obtain ⟨mz, z0, z1, z2, z3⟩ : ∃ mz : Nat → Nat → Int32, mz 0 = r0 ∧ mz 1 = r1 ∧ mz 2 = r2 ∧ mz 3 = r3 := ⟨fun k => match k with | 0 => r0 | 1 => r1 | 2 => r2 | _ => r3, rfl, rfl, rfl, rfl⟩
  have nr : ∀ k : Nat, k < 4 → r k ≠ go ∧ r k ≠ bo ∧ r k ≠ zo := fun k hk => by
    obtain ⟨mm, hm, -⟩ := h12 k hk
    exact ⟨ne_c h7 hm (fun z => by cases z), ne_c h8 hm (fun z => by cases z), ne_c h11 hm (fun z => by simp at z)⟩
  obtain ⟨own, o1, o2, o3, o4⟩ : ∃ own : Nat → Nat, own go = 100 ∧ own bo = 101 ∧ own zo = 102 ∧ ∀ k : Nat, k < 4 → own (r k) = k := by
    refine ⟨fun a => if a = go then 100 else if a = bo then 101 else if a = zo then 102 else if a = r 0 then 0 else if a = r 1 then 1 else if a = r 2 then 2 else 3, if_pos rfl, ?_, ?_, fun k hk => ?_⟩
    · show (if bo = go then _ else _) = 101
      rw [if_neg h9.symm, if_pos rfl]
    · show (if zo = go then _ else _) = 102
      rw [if_neg (ne_c h7 h11 (fun z => by cases z)), if_neg (ne_c h8 h11 (fun z => by cases z)), if_pos rfl]
    · obtain ⟨n1, n2, n3⟩ := nr k hk
      show (if r k = go then _ else _) = k
      rw [if_neg n1, if_neg n2, if_neg n3]
      have hne : ∀ j : Nat, j < 4 → j ≠ k → r k ≠ r j := fun j hj hjk e => hjk (h13 k j hk hj e).symm
      rcases (show k = 0 ∨ k = 1 ∨ k = 2 ∨ k = 3 by omega) with rfl | rfl | rfl | rfl
      · rw [if_pos rfl]
      · rw [if_neg (hne 0 (by decide) (by decide)), if_pos rfl]
      · rw [if_neg (hne 0 (by decide) (by decide)), if_neg (hne 1 (by decide) (by decide)), if_pos rfl]
      · rw [if_neg (hne 0 (by decide) (by decide)), if_neg (hne 1 (by decide) (by decide)), if_neg (hne 2 (by decide) (by decide))]
  have em : ∀ {a : Nat}, wC a = some (cL 0 (g.2.2 1) 0) → isL g (va_up wC out (some (cJ g (fun _ => 0)))) a (g.2.2 1) [] := fun h => ⟨0, 10, fun _ => none, up h, by decide, by decide, (fun i q hq => by cases hq), Or.inr ⟨rfl, rfl⟩⟩
  have zero : ∀ k j : Nat, k ≠ 1 → k ≠ 16 → k ≠ 10 → F k j = 0 := fun k j a b c => by rw [m5 k a b c]
  have row : ∀ k : Nat, k < 4 → wC (r k) = some (cA g 10 (mz k)) ∧ ∀ j : Nat, j < 10 → mz k j = 100000 := four (by rw [z0]; exact ⟨hr0, hv0⟩) (by rw [z1]; exact ⟨hr1, hv1⟩) (by rw [z2]; exact ⟨hr2, hv2⟩) (by rw [z3]; exact ⟨hr3, hv3⟩)
  refine ⟨f0, 0, false, rf, fun _ => (0, 0, 0, 0, 0), 0, [], mz, ⟨tx, ru, go, bo, zo, sg, fo, g.2.2 1, g.2.2 1, ff, [], [], (fun i => if i < 4 then some (r i) else none), fun _ => 0, fun _ => 0, fun _ => [], own, fun _ => 0, up h1, up h2, up h3, up h4, up h5, h10, ⟨em h7, rfl, o1, Or.inl rfl⟩, (fun i a h => by cases h), ⟨em h8, rfl, o2, Or.inl rfl⟩, (fun i a h => by cases h), ⟨up h11, o3⟩, (fun k hk => ⟨r k, if_pos hk, up (row k hk).1, o4 k hk⟩), va_up_self _ _ _⟩, ⟨0, ad, F, m1, (fun j hj => absurd hj (Nat.not_lt_zero _)), Nat.zero_le _, (fun j hj => ⟨4, by decide, h6 j hj⟩), (fun i j hi hj => ?_), ⟨Nat.zero_le _, fun k hk => absurd hk (Nat.not_lt_zero _)⟩, ⟨Nat.zero_le _, rfl, fun i b hb => by cases hb⟩, (fun z c hz hc => ?_), (fun i _ hi => ⟨zero 9 i (by decide) (by decide) (by decide), m4 i hi, zero 13 i (by decide) (by decide) (by decide)⟩), (fun k _ _ => zero 8 k (by decide) (by decide) (by decide))⟩⟩
  · rw [m2 _ (by omega), pzN_eq i hi j hj, h6 _ (pzN_lt i hi j hj)]
  · rw [m3 _ (by omega), (row z hz).2 _ (by omega)]
theorem go_on {L i : Nat} (hL : L ≤ 3584) (hi : 7 * i ≤ L) (h : ¬ nI L - 7 < nI (7 * i)) : 7 * i + 7 ≤ L := by
  rw [Int32.lt_iff_toInt_lt, show nI L - 7 = nI L - nI 7 from rfl, pk_sub_toInt (by omega) (by omega), nI_toInt (by omega)] at h
  omega
set_option maxHeartbeats 4000000 in
set_option maxRecDepth 100000 in
theorem law_loop (l : Launch) {p : Program} {e : Env} {s : State} {m : MethodId} {below : List Frame} {meth : Method} {c : Code} {b L : Nat} {xs : Nat → Int32} {g : GT} (hLX : LX p l s m meth c b L xs g) {Q : State → Prop} {th mo out : Nat} (kend : ∀ (H : Heap) (locs : List Loc) (ls : Array Slot) (i : Nat), va_S (gB g) s.heap H locs → i ≤ 513 → W p l e room_1 s m #[Value.ref b] below meth c H locs (40 + 20 * i) (3000 + 400 * i) Q (F0 m 1189 ls [])) : ∀ (k i : Nat) {wC wM : Nat → Option va_E} {H : Heap} {locs : List Loc} {ls : Array Slot}, 7 * i ≤ L → L + 7 < 7 * (i + k) → LI g s wC wM th mo out H locs → lv_has ls 7 [(0, .ref b), (1, .ref th), (2, .ref mo), (3, .ref out), (4, .int (nI (7 * i)))] → W p l e room_1 s m #[Value.ref b] below meth c H locs (40 + 20 * i) (3000 + 400 * i) Q (F0 m 23 ls []) := by
  intro k
  induction k with
  | zero =>
    intro i wC wM H locs ls h1 h2
    exact absurd h2 (by omega)
  | succ k ih =>
    intro i wC wM H locs ls h1 h2 hI hl
    obtain ⟨hx, hb, hr, hml, hown, hts, hG, hg0, hX, hbl, hL, hl0⟩ := id hLX
    have hS := hI.2.2.2.1
    have hbA : ¬ gB g b := fun z => absurd hbl (Nat.not_lt.mpr (hg0 ▸ z))
    refine lv_iload hx hb d_L_law_23 (lv_at hl 4 rfl) ?_
    refine lv_aload_n hx hb d_L_law_25 rfl (lv_at hl 0 rfl) ?_
    refine va_slen hx hb hX hbl hbA hS d_L_law_26 ?_
    refine lv_bipush (v := 7) hx hb d_L_law_27 (by decide) ?_
    refine lv_isub hx hb d_L_law_29 ?_
    refine lv_icmp_gt (tgt := 1189) hx hb d_L_law_30 (by decide) (fun _ => kend H locs ls i hS (by omega)) (fun c1 => ?_)
    have hi : 7 * i + 7 ≤ L := go_on hL h1 c1
    have kk : ∀ (wC wM : Nat → Option va_E) (H : Heap) (locs : List Loc) (ls : Array Slot), LI g s wC wM th mo out H locs → lv_has ls 7 [(0, .ref b), (1, .ref th), (2, .ref mo), (3, .ref out), (4, .int (nI (7 * i)))] → W p l e room_1 s m #[Value.ref b] below meth c H locs (40 + 20 * (i + 1)) (3000 + 400 * (i + 1)) Q (F0 m 1183 ls []) := by
      intro wC wM H locs ls hI hl
      refine lv_iinc (v := (nI (7 * i + 7))) (lv' := [(4, .int (nI (7 * (i + 1)))), (0, .ref b), (1, .ref th), (2, .ref mo), (3, .ref out)]) hx hb d_L_law_1183 hl (k := 4) rfl (nI_add _ 7) (by decide) rfl (fun ls hl => ?_)
      refine lv_goto (tgt := 23) hx hb d_L_law_1186 (by decide) ?_
      exact ih (i + 1) (by omega) (by omega) hI (lv_sub hl [1, 2, 3, 4, 0] rfl)
    refine lv_aload_n hx hb d_L_law_33 rfl (lv_at hl 0 rfl) ?_
    refine lv_iload hx hb d_L_law_34 (lv_at hl 4 rfl) ?_
    refine ww_sld (v := xs (7 * i)) hx hb hX hbl hbA hS (vp_in_nI (by omega) (by omega)) (by rw [nI_clamp (by omega)]) d_L_law_36 ?_
    refine lv_bipush (v := 31) hx hb d_L_law_37 (by decide) ?_
    refine lv_iand hx hb d_L_law_39 ?_
    refine lv_topi (fun v_1 e_1 => ?_)
    refine lv_sw (N := 16) (tg := fun j => match j with | 0 => 124 | 1 => 149 | 2 => 162 | 3 => 230 | 4 => 380 | 5 => 429 | 6 => 497 | 7 => 577 | 8 => 645 | 9 => 732 | 10 => 781 | 11 => 849 | 12 => 941 | 13 => 997 | 14 => 1034 | 15 => 1090 | _ => 1158) (td := 1183) hx hb d_L_law_40 rfl (by decide) (by decide) (fun j hj => by rcases (show j = 0 ∨ j = 1 ∨ j = 2 ∨ j = 3 ∨ j = 4 ∨ j = 5 ∨ j = 6 ∨ j = 7 ∨ j = 8 ∨ j = 9 ∨ j = 10 ∨ j = 11 ∨ j = 12 ∨ j = 13 ∨ j = 14 ∨ j = 15 ∨ j = 16 by omega) with rfl | rfl | rfl | rfl | rfl | rfl | rfl | rfl | rfl | rfl | rfl | rfl | rfl | rfl | rfl | rfl | rfl <;> exact ⟨_, rfl, by decide⟩) (fun j hj ej => ?_) (fun hd => ?_)
    · rcases (show j = 0 ∨ j = 1 ∨ j = 2 ∨ j = 3 ∨ j = 4 ∨ j = 5 ∨ j = 6 ∨ j = 7 ∨ j = 8 ∨ j = 9 ∨ j = 10 ∨ j = 11 ∨ j = 12 ∨ j = 13 ∨ j = 14 ∨ j = 15 ∨ j = 16 by omega) with rfl | rfl | rfl | rfl | rfl | rfl | rfl | rfl | rfl | rfl | rfl | rfl | rfl | rfl | rfl | rfl | rfl
      · exact lc_0 l hLX hi kk hI hl
      · exact lc_1 l hLX hi kk hI hl
      · exact lc_2 l hLX hi kk hI hl
      · exact lc_3 l hLX hi kk hI hl
      · exact lc_4 l hLX hi kk hI hl
      · exact lc_5 l hLX hi kk hI hl
      · exact lc_6 l hLX hi kk hI hl
      · exact lc_7 l hLX hi kk hI hl
      · exact lc_8 l hLX hi kk hI hl
      · exact lc_9 l hLX hi kk hI hl
      · exact lc_10 l hLX hi kk hI hl
      · exact lc_11 l hLX hi kk hI hl
      · exact lc_12 l hLX hi kk hI hl
      · exact lc_13 l hLX hi kk hI hl
      · exact lc_14 l hLX hi kk hI hl
      · exact lc_15 l hLX hi kk hI hl
      · exact lc_16 l hLX hi kk hI hl
    · refine W.widen (k := 40 + 20 * (i + 1)) (n := 3000 + 400 * (i + 1)) (by omega) (by omega) ?_
      exact kk wC wM H locs ls hI hl
set_option maxHeartbeats 4000000 in
set_option maxRecDepth 100000 in
theorem whole_start {p : Program} {e : Env} {s : State} {m : MethodId} {below : List Frame} {meth : Method} {c : Code} (l : Launch) (hl0 : l.stackTraces = false) {b L : Nat} {xs : Nat → Int32} (hL : L ≤ 3584) (C0 : lw_At p s m meth c b L xs) : W p l e room_1 s m #[Value.ref b] below meth c s.heap [] 0 0 (lw_Z below #[Value.ref b] s) (entryFrame m ([Value.ref b] : List Value).toArray 7) := by
  obtain ⟨hx, hb, hr, hml, hown, hts9, hX, hbl, hlocks, hgv⟩ := id C0
  obtain ⟨g, hG, hg0⟩ := gx_start hts9 hgv
  have hts : ∀ w ∈ GW, w.before #[Value.ref b] s = true := fun w h => hts9 w (List.mem_filter.mp h).1
  have hown : s.vm.findClass "DangerTablesLaw" = some m.cls := hown
  have hf := hG.here
  have hK := hf.1
  have hA : ∀ q, s.heap.size ≤ q → gB g q := fun q h => by show g.2.2 0 ≤ q; rw [hg0]; exact h
  have hAB : ∀ q, gB g q → gB g q := fun _ h => h
  have hS : va_S (gB g) s.heap s.heap [] := va_S.rf
  have hw := ww_nil g.1 vwCl (gB g) s.heap
  have hl := lv_entry ([.ref b]) (n := 7) (Nat.le_of_ble_eq_true rfl)
  rw [lg_entry_eq]
  generalize (lg_sl ([.ref b]) ++ List.replicate (7 - (lg_sl ([.ref b])).length) Slot.unset).toArray = ls at hl ⊢
  have hl : lv_has ls 7 [(0, .ref b)] := hl
  refine ww_new (C := R_T) (T := F_T) (N := 6) (ci := 0) (fs := [.null, .null, .int 0, .null, .null, .null]) hx hb hts i_T ft_T ft_T_ok hown (hts _ k_22) (hts _ k_23) (hts _ k_1) hK hw hS hA rfl (fun j hj => by rcases (show j = 0 ∨ j = 1 ∨ j = 2 ∨ j = 3 ∨ j = 4 ∨ j = 5 by omega) with rfl | rfl | rfl | rfl | rfl | rfl <;> rfl) (by show _ ≤ 601024; omega) (by show _ ≤ 7293034; omega) d_L_law_0 (fun th H0 hn0 hw hS => ?_)
  have hth := va_up_self (fun _ => none) th (some (.inr (0, [.null, .null, .int 0, .null, .null, .null]) : va_E))
  refine lv_dup hx hb d_L_law_3 rfl ?_
  refine ww_v (cI (As := []) (rest := [.ref th]) 0 ⟨hx, hb, hml, hown, hts⟩ (c_T_init l g H0.size _ th hth) k_26 k_24 k_1 k_25 rfl (by decide +kernel) ⟨Nat.le_of_ble_eq_true rfl, Nat.le_of_ble_eq_true rfl⟩ rfl rfl ⟨prW_blind _ _ _ _, prW_at hG hAB hS hw⟩ rfl hl.1 rfl (Nat.le_of_ble_eq_true rfl) d_L_law_4 ⟨by show _ ≤ 601024; omega, by show _ ≤ 7293034; omega⟩) hw hS hA (fun wC H1 locs1 e_1 hw hS hz_1 hk_1 hg_1 => ?_)
  refine lv_astore_n (lv' := [(1, .ref th), (0, .ref b)]) hx hb d_L_law_7 rfl hl (by decide) rfl (fun ls hl => ?_)
  refine ww_new (C := R_M) (T := F_M) (N := 22) (ci := 5) (fs := [.int 0, .null, .int 0, .int 0, .null, .int 0, .null, .null, .null, .null, .null, .null, .null, .int 0, .null, .null, .null, .null, .null, .null, .null, .null]) hx hb hts i_M ft_M ft_M_ok hown (hts _ k_648) (hts _ k_649) (hts _ k_7) hK hw hS hA rfl (fun j hj => by rcases (show j = 0 ∨ j = 1 ∨ j = 2 ∨ j = 3 ∨ j = 4 ∨ j = 5 ∨ j = 6 ∨ j = 7 ∨ j = 8 ∨ j = 9 ∨ j = 10 ∨ j = 11 ∨ j = 12 ∨ j = 13 ∨ j = 14 ∨ j = 15 ∨ j = 16 ∨ j = 17 ∨ j = 18 ∨ j = 19 ∨ j = 20 ∨ j = 21 by omega) with rfl | rfl | rfl | rfl | rfl | rfl | rfl | rfl | rfl | rfl | rfl | rfl | rfl | rfl | rfl | rfl | rfl | rfl | rfl | rfl | rfl | rfl <;> rfl) (by show _ ≤ 601024; omega) (by show _ ≤ 7293034; omega) d_L_law_8 (fun mo H2 hn1 hw hS => ?_)
  have hwC : ww g.1 vwCl (gB g) wC H2 := hw.sub (fun a e h => (va_up_ne _ _ (ne_n hn1 h)).trans h)
  obtain ⟨w0, ew0⟩ : ∃ w0 : Nat → Option va_E, w0 = va_up (fun _ => none) mo (some (.inr (5, [.int 0, .null, .int 0, .int 0, .null, .int 0, .null, .null, .null, .null, .null, .null, .null, .int 0, .null, .null, .null, .null, .null, .null, .null, .null]))) := ⟨_, rfl⟩
  have hmo : w0 mo = some (.inr (5, [.int 0, .null, .int 0, .int 0, .null, .int 0, .null, .null, .null, .null, .null, .null, .null, .int 0, .null, .null, .null, .null, .null, .null, .null, .null])) := by rw [ew0]; exact va_up_self _ _ _
  have hw : ww g.1 vwCl (gB g) w0 H2 := hw.sub (fun a e h => by
    by_cases ha : a = mo
    · subst ha
      rw [hmo] at h
      cases h
      exact va_up_self _ _ _
    · rw [ew0, va_up_ne _ _ ha] at h
      cases h)
  have hd : dj wC w0 := fun q e e' h1 h2 => by
    by_cases ha : q = mo
    · rw [ha, hn1] at h1
      cases h1
    · rw [ew0, va_up_ne _ _ ha] at h2
      cases h2
  refine lv_dup hx hb d_L_law_11 rfl ?_
  refine ww_v (cI (As := []) (rest := [.ref mo]) 0 ⟨hx, hb, hml, hown, hts⟩ (c_M_init l g H2.size w0 mo hmo) k_652 k_650 k_7 k_651 rfl (by decide +kernel) ⟨Nat.le_of_ble_eq_true rfl, Nat.le_of_ble_eq_true rfl⟩ rfl rfl ⟨prW_blind _ _ _ _, prW_at hG hAB hS hw⟩ rfl hl.1 rfl (Nat.le_of_ble_eq_true rfl) d_L_law_12 ⟨by show _ ≤ 601024; omega, by show _ ≤ 7293034; omega⟩) hw hS hA (fun wM H3 locs3 e_2 hwM hS hz_2 hk_2 hg_2 => ?_)
  have hwCo := hwC
  have hwC := hwC.other hd hk_2
  have hd := (dj.step hd.symm hwCo hg_2).symm
  refine lv_astore_n (lv' := [(2, .ref mo), (1, .ref th), (0, .ref b)]) hx hb d_L_law_15 rfl hl (by decide) rfl (fun ls hl => ?_)
  refine lv_iconst (v := 1) hx hb d_L_law_16 (by decide) ?_
  have hw := hwC.un hwM hd
  refine ww_newa (atype := .long) (ty := .long) (a0 := (1, .inr (.inl (fun _ => 0)))) hx hb (hts _ k_870) rfl hK hw hS hA 2 rfl (fun C h => by cases h) (fun _ => rfl) (by decide) (by decide) (by decide) (by show _ ≤ 601024; omega) (by show _ ≤ 7293034; omega) d_L_law_17 (fun out H4 hn2 hw hS => ?_)
  obtain ⟨hnC, hnM⟩ := un_n hn2
  have hwM : ww g.1 vwCl (gB g) wM H4 := hw.sub (fun a e h => (va_up_ne _ _ (ne_n hnM h)).trans (un_r hd h))
  have hwC : ww g.1 vwCl (gB g) (va_up wC out (some (cJ g (fun _ => 0)))) H4 := hw.sub (fun a e h => by
    by_cases ha : a = out
    · subst ha
      rw [va_up_self] at h ⊢
      exact h
    · rw [va_up_ne _ _ ha] at h ⊢
      exact un_l h)
  have hd : dj (va_up wC out (some (cJ g (fun _ => 0)))) wM := fun q e e' h1 h2 => by
    by_cases ha : q = out
    · rw [ha, hnM] at h2
      cases h2
    · rw [va_up_ne _ _ ha] at h1
      exact hd q e e' h1 h2
  refine lv_astore_n (lv' := [(3, .ref out), (2, .ref mo), (1, .ref th), (0, .ref b)]) hx hb d_L_law_19 rfl hl (by decide) rfl (fun ls hl => ?_)
  refine lv_iconst (v := 0) hx hb d_L_law_20 (by decide) ?_
  refine lv_istore (lv' := [(4, .int (nI (7 * 0))), (3, .ref out), (2, .ref mo), (1, .ref th), (0, .ref b)]) hx hb d_L_law_21 hl (by decide) rfl (fun ls hl => ?_)
  refine W.widen (k := 40 + 20 * 0) (n := 3000 + 400 * 0) (by omega) (by omega) ?_
  refine law_loop l (Q := lw_Z below #[Value.ref b] s) (th := th) (mo := mo) (out := out) ⟨hx, hb, hr, hml, hown, hts, hG, hg0, hX, hbl, hL, hl0⟩ (fun H locs ls i hS hi => ?_) (L + 8) 0 (Nat.zero_le _) (by omega) ⟨hwC, hwM, hd, hS, st_init e_1 hnC e_2⟩ (lv_sub hl [4, 3, 2, 1, 0] rfl)
  refine lv_iconst (v := 1) hx hb d_L_law_1189 (by decide) ?_
  refine va_forget (fun q hq => by have h9 := hS.2.2 q hq; exact hg0 ▸ h9) ?_
  refine W.widen (k := 601024) (n := 7293034) (by omega) (by omega) ?_
  exact lw_ret hx hb hr hlocks d_L_law_1190
