/-! THE CLASS'S STATE, one more in a list -/
section KEY
variable {g : GT} {w w1 : Nat → Option va_E} {own : Nat → Nat} {lx ax arr1 T : Nat} {xs : List Nat}
theorem key_a (hz : w (g.2.2 1) = none) (hL : isL g w lx ax xs) (hor : (arr1 = ax ∧ ∃ z, w ax = some (.inl z)) ∨ w arr1 = none) : (∃ c f, w arr1 = some (cO g c f) ∧ arr1 = ax) ∨ w arr1 = none := by
  rcases hor with ⟨h1, z, h2⟩ | h
  · rcases isL_arr hL with ⟨c, f, h3⟩ | h3
    · exact Or.inl ⟨c, f, by rw [h1]; exact h3, h1⟩
    · rw [h3, hz] at h2
      cases h2
  · exact Or.inr h
theorem key_1 (hz : w (g.2.2 1) = none) (hL : isL g w lx ax xs) (hor : (arr1 = ax ∧ ∃ z, w ax = some (.inl z)) ∨ w arr1 = none) (hfr : ∀ (b : Nat) (e : va_E), w b = some e → b ≠ lx → b ≠ arr1 → w1 b = w b) {b : Nat} {e : va_E} (hb : w b = some e) (h6 : ∀ vs, (.inr (6, vs) : va_E) ≠ e) (hO : ∀ c f, cO g c f ≠ e) : w1 b = some e ∧ b ≠ arr1 := by
  have h1 : b ≠ lx := by
    obtain ⟨vs, hc⟩ := isL_cell hL
    exact ne_c hc hb (h6 vs)
  have h2 : b ≠ arr1 := by
    rcases key_a hz hL hor with ⟨c, f, h3, -⟩ | h3
    · exact ne_c h3 hb (hO c f)
    · exact ne_n h3 hb
  exact ⟨(hfr b e hb h1 h2).trans hb, h2⟩
theorem key_3 (hz : w (g.2.2 1) = none) (hL : isL g w lx ax xs) (hT : own lx = T) (hTa : ax = g.2.2 1 ∨ own ax = T) (hor : (arr1 = ax ∧ ∃ z, w ax = some (.inl z)) ∨ w arr1 = none) (hfr : ∀ (b : Nat) (e : va_E), w b = some e → b ≠ lx → b ≠ arr1 → w1 b = w b) {b T2 : Nat} {e : va_E} (hb : w b = some e) (ho : own b = T2) (hne : T2 ≠ T) : w1 b = some e ∧ b ≠ arr1 := by
  have h2 : b ≠ arr1 := by
    rcases key_a hz hL hor with ⟨c2, f2, h5, h6⟩ | h5
    · intro e1
      have e2 : own ax = T := hTa.resolve_left (fun z => by rw [h6, z, hz] at h5; cases h5)
      exact hne (by rw [← ho, ← e2, e1, h6])
    · exact ne_n h5 hb
  exact ⟨(hfr b e hb (fun e1 => hne (by rw [← ho, ← hT, e1])) h2).trans hb, h2⟩
theorem key_2 (hz : w (g.2.2 1) = none) (hL : isL g w lx ax xs) (hT : own lx = T) (hTa : ax = g.2.2 1 ∨ own ax = T) (hor : (arr1 = ax ∧ ∃ z, w ax = some (.inl z)) ∨ w arr1 = none) (hfr : ∀ (b : Nat) (e : va_E), w b = some e → b ≠ lx → b ≠ arr1 → w1 b = w b) {a arr T2 : Nat} {ys : List Nat} (h : isL g w a arr ys) (ha : own a = T2) (hr : arr = g.2.2 1 ∨ own arr = T2) (hne : T2 ≠ T) : isL g w1 a arr ys ∧ a ≠ arr1 ∧ (arr = g.2.2 1 ∨ arr ≠ arr1) := by
  obtain ⟨vs, hc⟩ := isL_cell h
  have h1 : a ≠ lx := fun e => hne (by rw [← ha, ← hT, e])
  have h2 : a ≠ arr1 := by
    rcases key_a hz hL hor with ⟨c, f, h3, -⟩ | h3
    · exact ne_c h3 hc (fun z => by cases z)
    · exact ne_n h3 hc
  have h3 : ∀ c f, w arr = some (cO g c f) → arr ≠ lx ∧ arr ≠ arr1 := by
    intro c f h4
    obtain ⟨vs2, hc2⟩ := isL_cell hL
    refine ⟨ne_c hc2 h4 (fun z => by cases z), ?_⟩
    rcases key_a hz hL hor with ⟨c2, f2, h5, h6⟩ | h5
    · intro e
      have e1 : own arr = T2 := hr.resolve_left (fun z => by rw [z, hz] at h4; cases h4)
      have e2 : own ax = T := hTa.resolve_left (fun z => by rw [h6, z, hz] at h5; cases h5)
      exact hne (by rw [← e1, ← e2, e, h6])
    · exact ne_n h5 h4
  refine ⟨isL_keep h (hfr a _ hc h1 h2) (fun z hw => ?_), h2, ?_⟩
  · rcases isL_arr h with ⟨c, f, h4⟩ | h4
    · exact hfr arr _ h4 (h3 c f h4).1 (h3 c f h4).2
    · rw [h4, hz] at hw
      cases hw
  · rcases isL_arr h with ⟨c, f, h4⟩ | h4
    · exact Or.inr (h3 c f h4).2
    · exact Or.inl h4
end KEY
section RCA
variable {g : GT} {w : Nat → Option va_E} {th out : Nat} {f : Nat → Int32} {n : Nat} {rb : Bool} {rf : Nat → Int32} {gd : Nat → GD} {gn : Nat} {br : List BR} {mz : Nat → Nat → Int32} {tx ru go bo zo sg fo garr barr : Nat} {ff : Nat → Int32} {gxs bxs : List Nat} {fz : Nat → Option Nat} {pl pa : Nat → Nat} {pss : Nat → List Nat} {own : Nat → Nat} {jf : Nat → Int64}
variable {w1 : Nat → Option va_E} {arr1 q : Nat}
theorem RC_addg {d : GD} (hz : w (g.2.2 1) = none) (hb12 : br.length ≤ 12) (hq : w q = none) (hL1 : isL g w1 go arr1 (gxs ++ [q])) (hcq : w1 q = some (cGd d)) (hor : (arr1 = garr ∧ ∃ z, w garr = some (.inl z)) ∨ w arr1 = none) (hfr : ∀ (b : Nat) (e : va_E), w b = some e → b ≠ go → b ≠ arr1 → w1 b = w b) (h : RC g w th out f n rb rf gd gn br mz tx ru go bo zo sg fo garr barr ff gxs bxs fz pl pa pss own jf) : RC g w1 th out f n rb rf (va_up gd gn d) (gn + 1) br mz tx ru go bo zo sg fo arr1 barr ff (gxs ++ [q]) bxs fz pl pa pss (va_up (va_up own arr1 100) q gn) jf := by
  obtain ⟨hth, htx, hsg, hfo, hru, hne, ⟨hgl, hgn, ogo, oga⟩, hgs, ⟨hbl, hbn, obo, oba⟩, hbs, ⟨hzo, ozo⟩, hzr, hout⟩ := h
  have ow : ∀ (b : Nat) (e : va_E), w b = some e → b ≠ arr1 → va_up (va_up own arr1 100) q gn b = own b := fun b e hb h1 => by rw [va_up_ne _ _ (ne_n hq hb), va_up_ne _ _ h1]
  have hgc := isL_cell hgl
  refine ⟨(key_1 hz hgl hor hfr hth (fun _ z => by first | cases z | simp at z) (fun _ _ z => by first | cases z | simp at z)).1, (key_1 hz hgl hor hfr htx (fun _ z => by first | cases z | simp at z) (fun _ _ z => by first | cases z | simp at z)).1, (key_1 hz hgl hor hfr hsg (fun _ z => by first | cases z | simp at z) (fun _ _ z => by first | cases z | simp at z)).1, (key_1 hz hgl hor hfr hfo (fun _ z => by first | cases z | simp at z) (fun _ _ z => by first | cases z | simp at z)).1, (key_1 hz hgl hor hfr hru (fun _ z => by first | cases z | simp at z) (fun _ _ z => by first | cases z | simp at z)).1, hne, ?_, ?_, ?_, ?_, ⟨(key_3 hz hgl ogo oga hor hfr hzo ozo (by omega)).1, by rw [ow zo _ hzo (key_3 hz hgl ogo oga hor hfr hzo ozo (by omega)).2]; exact ozo⟩, ?_, (key_1 hz hgl hor hfr hout (fun _ z => by first | cases z | simp at z) (fun _ _ z => by first | cases z | simp at z)).1⟩
  · -- the list of goods
    obtain ⟨vs, hc⟩ := hgc
    refine ⟨hL1, by rw [List.length_append, hgn]; rfl, by rw [ow go _ hc (by rcases key_a hz hgl hor with ⟨c, f, h3, -⟩ | h3; exact ne_c h3 hc (fun z => by cases z); exact ne_n h3 hc)]; exact ogo, ?_⟩
    rcases isL_arr hL1 with ⟨c, f, h3⟩ | h3
    · refine Or.inr ?_
      rw [va_up_ne _ _ (ne_c hcq h3 (fun z => by cases z))]
      exact va_up_self _ _ _
    · exact Or.inl h3
  · -- the goods
    intro i a hi
    rcases Nat.lt_or_ge i gxs.length with hlt | hge
    · rw [List.getElem?_append_left hlt] at hi
      obtain ⟨h1, h2⟩ := hgs i a hi
      obtain ⟨h3, h4⟩ := (key_1 hz hgl hor hfr h1 (fun _ z => by first | cases z | simp at z) (fun _ _ z => by first | cases z | simp at z))
      exact ⟨by rw [va_up_ne _ _ (by omega)]; exact h3, by rw [ow a _ h1 h4]; exact h2⟩
    · rw [List.getElem?_append_right hge] at hi
      rcases Nat.lt_or_ge 0 (i - gxs.length) with h2 | h2
      · rw [List.getElem?_eq_none (by simp; omega)] at hi
        cases hi
      · obtain rfl : gn = i := by omega
        rw [show gn - gxs.length = 0 by omega] at hi
        cases hi
        exact ⟨by rw [va_up_self]; exact hcq, va_up_self _ _ _⟩
  · -- the list of boxes
    obtain ⟨h1, h2, h3⟩ := key_2 hz hgl ogo oga hor hfr hbl obo oba (by decide)
    obtain ⟨vs, hc⟩ := isL_cell hbl
    refine ⟨h1, hbn, by rw [ow bo _ hc h2]; exact obo, ?_⟩
    rcases isL_arr hbl with ⟨c, f, h4⟩ | h4
    · exact h3.imp id (fun h5 => by rw [ow barr _ h4 h5]; exact oba.resolve_left (fun z => by rw [z, hz] at h4; cases h4))
    · exact Or.inl h4
  · -- the boxes
    intro i a hi
    obtain ⟨b, hb1, hq1, hq2, hq3, hq4, hq5, hq6⟩ := hbs i a hi
    have hi12 : i < 12 := Nat.lt_of_lt_of_le (List.getElem?_eq_some_iff.mp hb1).1 hb12
    obtain ⟨h3, h4⟩ := (key_1 hz hgl hor hfr hq2 (fun _ z => by first | cases z | simp at z) (fun _ _ z => by first | cases z | simp at z))
    obtain ⟨h5, h6, h7⟩ := key_2 hz hgl ogo oga hor hfr hq3 hq4 hq5 (by omega)
    obtain ⟨vs, hc⟩ := isL_cell hq3
    refine ⟨b, hb1, by rw [ow a _ hq2 h4]; exact hq1, h3, h5, by rw [ow _ _ hc h6]; exact hq4, ?_, isPq_more (isPq_keep hq6 (fun p vs hp => by rw [(key_1 hz hgl hor hfr hp (fun _ z => by first | cases z | simp at z) (fun _ _ z => by first | cases z | simp at z)).1]; exact hp.symm))⟩
    rcases isL_arr hq3 with ⟨c, f, h8⟩ | h8
    · exact h7.imp id (fun h9 => by rw [ow _ _ h8 h9]; exact hq5.resolve_left (fun z => by rw [z, hz] at h8; cases h8))
    · exact Or.inl h8
  · intro k hk
    obtain ⟨q0, h1, h2, h3⟩ := hzr k hk
    obtain ⟨h4, h5⟩ := (key_1 hz hgl hor hfr h2 (fun _ z => by first | cases z | simp at z) (fun _ _ z => by first | cases z | simp at z))
    exact ⟨q0, h1, h4, by rw [ow q0 _ h2 h5]; exact h3⟩
theorem RC_adda {i qb qg : Nat} {b : BR} {p : Nat × Int32} (hz : w (g.2.2 1) = none) (hb12 : br.length ≤ 12) (hi : bxs[i]? = some qb) (hb0 : br[i]? = some b) (hqg : gxs[p.1]? = some qg) (hq : w q = none) (hL1 : isL g w1 (pl i) arr1 (pss i ++ [q])) (hcq : w1 q = some (cP qg (nI p.1) p.2)) (hor : (arr1 = pa i ∧ ∃ z, w (pa i) = some (.inl z)) ∨ w arr1 = none) (hfr : ∀ (b : Nat) (e : va_E), w b = some e → b ≠ pl i → b ≠ arr1 → w1 b = w b) (h : RC g w th out f n rb rf gd gn br mz tx ru go bo zo sg fo garr barr ff gxs bxs fz pl pa pss own jf) : RC g w1 th out f n rb rf gd gn (br.set i (b.1 ++ [p], b.2)) mz tx ru go bo zo sg fo garr barr ff gxs bxs fz pl (va_up pa i arr1) (va_up pss i (pss i ++ [q])) (va_up own arr1 i) jf := by
  obtain ⟨hth, htx, hsg, hfo, hru, hne, ⟨hgl, hgn, ogo, oga⟩, hgs, ⟨hbl, hbn, obo, oba⟩, hbs, ⟨hzo, ozo⟩, hzr, hout⟩ := h
  obtain ⟨b1, hb1, hQ1, hQ2, hQ3, hQ4, hQ5, hQ6⟩ := hbs i qb hi
  cases Option.some.inj (hb1.symm.trans hb0)
  have hil : i < br.length := (List.getElem?_eq_some_iff.mp hb0).1
  have ow : ∀ (b : Nat) (e : va_E), w b = some e → b ≠ arr1 → va_up own arr1 i b = own b := fun b e hb h1 => va_up_ne _ _ h1
  refine ⟨(key_1 hz hQ3 hor hfr hth (fun _ z => by first | cases z | simp at z) (fun _ _ z => by first | cases z | simp at z)).1, (key_1 hz hQ3 hor hfr htx (fun _ z => by first | cases z | simp at z) (fun _ _ z => by first | cases z | simp at z)).1, (key_1 hz hQ3 hor hfr hsg (fun _ z => by first | cases z | simp at z) (fun _ _ z => by first | cases z | simp at z)).1, (key_1 hz hQ3 hor hfr hfo (fun _ z => by first | cases z | simp at z) (fun _ _ z => by first | cases z | simp at z)).1, (key_1 hz hQ3 hor hfr hru (fun _ z => by first | cases z | simp at z) (fun _ _ z => by first | cases z | simp at z)).1, hne, ?_, ?_, ?_, ?_, ⟨(key_3 hz hQ3 hQ4 hQ5 hor hfr hzo ozo (by omega)).1, by rw [ow zo _ hzo (key_3 hz hQ3 hQ4 hQ5 hor hfr hzo ozo (by omega)).2]; exact ozo⟩, ?_, (key_1 hz hQ3 hor hfr hout (fun _ z => by first | cases z | simp at z) (fun _ _ z => by first | cases z | simp at z)).1⟩
  · obtain ⟨h1, h2, h3⟩ := key_2 hz hQ3 hQ4 hQ5 hor hfr hgl ogo oga (by omega)
    obtain ⟨vs, hc⟩ := isL_cell hgl
    refine ⟨h1, hgn, by rw [ow go _ hc h2]; exact ogo, ?_⟩
    rcases isL_arr hgl with ⟨c, f, h4⟩ | h4
    · exact h3.imp id (fun h5 => by rw [ow garr _ h4 h5]; exact oga.resolve_left (fun z => by rw [z, hz] at h4; cases h4))
    · exact Or.inl h4
  · intro k a hk
    obtain ⟨h1, h2⟩ := hgs k a hk
    obtain ⟨h3, h4⟩ := (key_1 hz hQ3 hor hfr h1 (fun _ z => by first | cases z | simp at z) (fun _ _ z => by first | cases z | simp at z))
    exact ⟨h3, by rw [ow a _ h1 h4]; exact h2⟩
  · obtain ⟨h1, h2, h3⟩ := key_2 hz hQ3 hQ4 hQ5 hor hfr hbl obo oba (by omega)
    obtain ⟨vs, hc⟩ := isL_cell hbl
    refine ⟨h1, by rw [List.length_set]; exact hbn, by rw [ow bo _ hc h2]; exact obo, ?_⟩
    rcases isL_arr hbl with ⟨c, f, h4⟩ | h4
    · exact h3.imp id (fun h5 => by rw [ow barr _ h4 h5]; exact oba.resolve_left (fun z => by rw [z, hz] at h4; cases h4))
    · exact Or.inl h4
  · intro k a hk
    obtain ⟨b2, hb2, hq1, hq2, hq3, hq4, hq5, hq6⟩ := hbs k a hk
    have hk12 : k < 12 := Nat.lt_of_lt_of_le (List.getElem?_eq_some_iff.mp hb2).1 hb12
    obtain ⟨h3, h4⟩ := (key_1 hz hQ3 hor hfr hq2 (fun _ z => by first | cases z | simp at z) (fun _ _ z => by first | cases z | simp at z))
    by_cases hki : k = i
    · subst hki
      cases Option.some.inj (hb2.symm.trans hb0)
      obtain ⟨vs, hc⟩ := isL_cell hq3
      have h6 : pl k ≠ arr1 := by
        rcases key_a hz hQ3 hor with ⟨c, f, h3, -⟩ | h3
        · exact ne_c h3 hc (fun z => by cases z)
        · exact ne_n h3 hc
      refine ⟨_, List.getElem?_set_self hil, by rw [ow a _ hq2 h4]; exact hq1, h3, by rw [va_up_self, va_up_self]; exact hL1, by rw [ow _ _ hc h6]; exact hq4, by rw [va_up_self]; exact Or.inr (va_up_self _ _ _), ?_⟩
      rw [va_up_self]
      refine ⟨by rw [List.length_append, List.length_append, hq6.1]; rfl, fun j q9 hj => ?_⟩
      rcases Nat.lt_or_ge j (pss k).length with hlt | hge
      · rw [List.getElem?_append_left hlt] at hj
        obtain ⟨p9, ga9, e1, e2, e3⟩ := hq6.2 j q9 hj
        exact ⟨p9, ga9, by show (b.1 ++ [p])[j]? = _; rw [List.getElem?_append_left (List.getElem?_eq_some_iff.mp e1).1]; exact e1, e2, (key_1 hz hQ3 hor hfr e3 (fun _ z => by first | cases z | simp at z) (fun _ _ z => by first | cases z | simp at z)).1⟩
      · rw [List.getElem?_append_right hge] at hj
        rcases Nat.lt_or_ge 0 (j - (pss k).length) with h2 | h2
        · rw [List.getElem?_eq_none (by simp; omega)] at hj
          cases hj
        · obtain rfl : j = (pss k).length := by omega
          rw [Nat.sub_self] at hj
          cases hj
          exact ⟨p, qg, by show (b.1 ++ [p])[(pss k).length]? = _; rw [hq6.1, List.getElem?_append_right (Nat.le_refl _), Nat.sub_self]; rfl, hqg, hcq⟩
    · obtain ⟨h5, h6, h7⟩ := key_2 hz hQ3 hQ4 hQ5 hor hfr hq3 hq4 hq5 hki
      obtain ⟨vs, hc⟩ := isL_cell hq3
      refine ⟨b2, by rw [List.getElem?_set_ne (fun e => hki e.symm)]; exact hb2, by rw [ow a _ hq2 h4]; exact hq1, h3, by rw [va_up_ne _ _ hki, va_up_ne _ _ hki]; exact h5, by rw [ow _ _ hc h6]; exact hq4, ?_, by rw [va_up_ne _ _ hki]; exact isPq_keep hq6 (fun p vs hp => by rw [(key_1 hz hQ3 hor hfr hp (fun _ z => by first | cases z | simp at z) (fun _ _ z => by first | cases z | simp at z)).1]; exact hp.symm)⟩
      rw [va_up_ne _ _ hki]
      rcases isL_arr hq3 with ⟨c, f, h8⟩ | h8
      · exact h7.imp id (fun h9 => by rw [ow _ _ h8 h9]; exact hq5.resolve_left (fun z => by rw [z, hz] at h8; cases h8))
      · exact Or.inl h8
  · intro k hk
    obtain ⟨q0, h1, h2, h3⟩ := hzr k hk
    obtain ⟨h4, h5⟩ := (key_1 hz hQ3 hor hfr h2 (fun _ z => by first | cases z | simp at z) (fun _ _ z => by first | cases z | simp at z))
    exact ⟨q0, h1, h4, by rw [ow q0 _ h2 h5]; exact h3⟩
theorem RC_addb {qb plq parr qp qg : Nat} {p : Nat × Int32} (hz : w (g.2.2 1) = none) (hb12 : br.length < 12) (hqg : gxs[p.1]? = some qg) (hqb : w qb = none) (hwpl : w plq = none) (hwpa : w parr = none) (hwqp : w qp = none) (h1qb : w1 qb = some (cX plq (-1) (-1) (-1) 0)) (hLp : isL g w1 plq parr [qp]) (hcp : w1 qp = some (cP qg (nI p.1) p.2)) (hL1 : isL g w1 bo arr1 (bxs ++ [qb])) (hor : (arr1 = barr ∧ ∃ z, w barr = some (.inl z)) ∨ w arr1 = none) (hpa : parr ≠ arr1) (hfr : ∀ (b : Nat) (e : va_E), w b = some e → b ≠ bo → b ≠ arr1 → w1 b = w b) (h : RC g w th out f n rb rf gd gn br mz tx ru go bo zo sg fo garr barr ff gxs bxs fz pl pa pss own jf) : RC g w1 th out f n rb rf gd gn (br ++ [([p], -1, -1, -1, 0)]) mz tx ru go bo zo sg fo garr arr1 ff gxs (bxs ++ [qb]) fz (va_up pl br.length plq) (va_up pa br.length parr) (va_up pss br.length [qp]) (va_up (va_up (va_up (va_up own arr1 101) qb br.length) plq br.length) parr br.length) jf := by
  obtain ⟨hth, htx, hsg, hfo, hru, hne, ⟨hgl, hgn, ogo, oga⟩, hgs, ⟨hbl, hbn, obo, oba⟩, hbs, ⟨hzo, ozo⟩, hzr, hout⟩ := h
  have ow : ∀ (b : Nat) (e : va_E), w b = some e → b ≠ arr1 → va_up (va_up (va_up (va_up own arr1 101) qb br.length) plq br.length) parr br.length b = own b := fun b e hb h1 => by rw [va_up_ne _ _ (ne_n hwpa hb), va_up_ne _ _ (ne_n hwpl hb), va_up_ne _ _ (ne_n hqb hb), va_up_ne _ _ h1]
  obtain ⟨vp, hplc⟩ := isL_cell hLp
  refine ⟨(key_1 hz hbl hor hfr hth (fun _ z => by first | cases z | simp at z) (fun _ _ z => by first | cases z | simp at z)).1, (key_1 hz hbl hor hfr htx (fun _ z => by first | cases z | simp at z) (fun _ _ z => by first | cases z | simp at z)).1, (key_1 hz hbl hor hfr hsg (fun _ z => by first | cases z | simp at z) (fun _ _ z => by first | cases z | simp at z)).1, (key_1 hz hbl hor hfr hfo (fun _ z => by first | cases z | simp at z) (fun _ _ z => by first | cases z | simp at z)).1, (key_1 hz hbl hor hfr hru (fun _ z => by first | cases z | simp at z) (fun _ _ z => by first | cases z | simp at z)).1, hne, ?_, ?_, ?_, ?_, ⟨(key_3 hz hbl obo oba hor hfr hzo ozo (by omega)).1, by rw [ow zo _ hzo (key_3 hz hbl obo oba hor hfr hzo ozo (by omega)).2]; exact ozo⟩, ?_, (key_1 hz hbl hor hfr hout (fun _ z => by first | cases z | simp at z) (fun _ _ z => by first | cases z | simp at z)).1⟩
  · obtain ⟨h1, h2, h3⟩ := key_2 hz hbl obo oba hor hfr hgl ogo oga (by decide)
    obtain ⟨vs, hc⟩ := isL_cell hgl
    refine ⟨h1, hgn, by rw [ow go _ hc h2]; exact ogo, ?_⟩
    rcases isL_arr hgl with ⟨c, f, h4⟩ | h4
    · exact h3.imp id (fun h5 => by rw [ow garr _ h4 h5]; exact oga.resolve_left (fun z => by rw [z, hz] at h4; cases h4))
    · exact Or.inl h4
  · intro k a hk
    obtain ⟨h1, h2⟩ := hgs k a hk
    obtain ⟨h3, h4⟩ := (key_1 hz hbl hor hfr h1 (fun _ z => by first | cases z | simp at z) (fun _ _ z => by first | cases z | simp at z))
    exact ⟨h3, by rw [ow a _ h1 h4]; exact h2⟩
  · obtain ⟨vs, hc⟩ := isL_cell hbl
    refine ⟨hL1, by rw [List.length_append, List.length_append, hbn]; rfl, by rw [ow bo _ hc (by rcases key_a hz hbl hor with ⟨c, f, h3, -⟩ | h3; exact ne_c h3 hc (fun z => by cases z); exact ne_n h3 hc)]; exact obo, ?_⟩
    rcases isL_arr hL1 with ⟨c, f, h3⟩ | h3
    · refine Or.inr ?_
      rw [va_up_ne _ _ hpa.symm, va_up_ne _ _ (ne_c hplc h3 (fun z => by cases z)), va_up_ne _ _ (ne_c h1qb h3 (fun z => by cases z))]
      exact va_up_self _ _ _
    · exact Or.inl h3
  · intro k a hk
    rcases Nat.lt_or_ge k bxs.length with hlt | hge
    · rw [List.getElem?_append_left hlt] at hk
      obtain ⟨b2, hb2, hq1, hq2, hq3, hq4, hq5, hq6⟩ := hbs k a hk
      have hkn : k ≠ br.length := by omega
      obtain ⟨h3, h4⟩ := (key_1 hz hbl hor hfr hq2 (fun _ z => by first | cases z | simp at z) (fun _ _ z => by first | cases z | simp at z))
      obtain ⟨h5, h6, h7⟩ := key_2 hz hbl obo oba hor hfr hq3 hq4 hq5 (by omega)
      obtain ⟨vs, hc⟩ := isL_cell hq3
      refine ⟨b2, by rw [List.getElem?_append_left (by omega)]; exact hb2, by rw [ow a _ hq2 h4]; exact hq1, by rw [va_up_ne _ _ hkn]; exact h3, by rw [va_up_ne _ _ hkn, va_up_ne _ _ hkn, va_up_ne _ _ hkn]; exact h5, by rw [va_up_ne pl _ hkn, ow _ _ hc h6]; exact hq4, ?_, by rw [va_up_ne _ _ hkn]; exact isPq_keep hq6 (fun p vs hp => by rw [(key_1 hz hbl hor hfr hp (fun _ z => by first | cases z | simp at z) (fun _ _ z => by first | cases z | simp at z)).1]; exact hp.symm)⟩
      rw [va_up_ne pa _ hkn]
      rcases isL_arr hq3 with ⟨c, f, h8⟩ | h8
      · exact h7.imp id (fun h9 => by rw [ow _ _ h8 h9]; exact hq5.resolve_left (fun z => by rw [z, hz] at h8; cases h8))
      · exact Or.inl h8
    · rw [List.getElem?_append_right hge] at hk
      rcases Nat.lt_or_ge 0 (k - bxs.length) with h2 | h2
      · rw [List.getElem?_eq_none (by simp; omega)] at hk
        cases hk
      · obtain rfl : k = br.length := by omega
        rw [show br.length - bxs.length = 0 by omega] at hk
        cases hk
        refine ⟨_, by rw [List.getElem?_append_right (Nat.le_refl _), Nat.sub_self]; rfl, ?_, by rw [va_up_self]; exact h1qb, by rw [va_up_self, va_up_self, va_up_self]; exact hLp, ?_, Or.inr (by rw [va_up_self pa _ _]; exact va_up_self _ _ _), ?_⟩
        · by_cases h5 : qb = parr
          · rw [h5]; exact va_up_self _ _ _
          · rw [va_up_ne _ _ h5]
            by_cases h6 : qb = plq
            · rw [h6]; exact va_up_self _ _ _
            · rw [va_up_ne _ _ h6]; exact va_up_self _ _ _
        · rw [va_up_self pl _ _]
          by_cases h5 : plq = parr
          · rw [h5]; exact va_up_self _ _ _
          · rw [va_up_ne _ _ h5]; exact va_up_self _ _ _
        · rw [va_up_self]
          refine ⟨rfl, fun j q9 hj => ?_⟩
          cases j with
          | zero =>
            cases hj
            exact ⟨p, qg, rfl, hqg, hcp⟩
          | succ j => cases hj
  · intro k hk
    obtain ⟨q0, h1, h2, h3⟩ := hzr k hk
    obtain ⟨h4, h5⟩ := (key_1 hz hbl hor hfr h2 (fun _ z => by first | cases z | simp at z) (fun _ _ z => by first | cases z | simp at z))
    exact ⟨q0, h1, h4, by rw [ow q0 _ h2 h5]; exact h3⟩
end RCA
