/-! THE CLASS'S STATE, one cell changed -/
theorem up_k {w : Nat → Option va_E} {x b : Nat} {e0 e : va_E} {e1 : Option va_E} (hx : w x = some e0) (hb : w b = some e) (hne : e0 ≠ e) : va_up w x e1 b = w b := va_up_ne _ _ (ne_c hx hb hne)
theorem up_v {w : Nat → Option va_E} {x b : Nat} {e0 e : va_E} {e1 : Option va_E} (hx : w x = some e0) (hb : w b = some e) (hne : e0 ≠ e) : va_up w x e1 b = some e := (up_k hx hb hne).trans hb
theorem isL_upx {g : GT} {w : Nat → Option va_E} {a arr x : Nat} {e0 : va_E} {e1 : Option va_E} {xs : List Nat} (h : isL g w a arr xs) (hz : w (g.2.2 1) = none) (hx : w x = some e0) (h6 : ∀ vs, e0 ≠ .inr (6, vs)) (hO : ∀ c f, e0 ≠ cO g c f) : isL g (va_up w x e1) a arr xs := by
  refine isL_keep h ?_ (fun z hw => ?_)
  · obtain ⟨vs, hc⟩ := isL_cell h
    exact up_k hx hc (h6 vs)
  · rcases isL_arr h with ⟨c, f, hc⟩ | hc
    · exact up_k hx hc (hO c f)
    · rw [hc, hz] at hw
      cases hw
theorem isQx_upx {g : GT} {w : Nat → Option va_E} {own : Nat → Nat} {gxs : List Nat} {pl pa : Nat → Nat} {pss : Nat → List Nat} {i a x : Nat} {b : BR} {e0 : va_E} {e1 : Option va_E} (h : isQx g w own gxs pl pa pss i a b) (hz : w (g.2.2 1) = none) (hx : w x = some e0) (h1 : a ≠ x) (h3 : ∀ vs, e0 ≠ .inr (3, vs)) (h6 : ∀ vs, e0 ≠ .inr (6, vs)) (hO : ∀ c f, e0 ≠ cO g c f) : isQx g (va_up w x e1) own gxs pl pa pss i a b :=
  ⟨h.1, by rw [va_up_ne _ _ h1]; exact h.2.1, isL_upx h.2.2.1 hz hx h6 hO, h.2.2.2.1, h.2.2.2.2.1, isPq_keep h.2.2.2.2.2 (fun q vs hq => up_k hx hq (h3 vs))⟩
section RCS
variable {g : GT} {w : Nat → Option va_E} {th out : Nat} {f : Nat → Int32} {n : Nat} {rb : Bool} {rf : Nat → Int32} {gd : Nat → GD} {gn : Nat} {br : List BR} {mz : Nat → Nat → Int32} {tx ru go bo zo sg fo garr barr : Nat} {ff : Nat → Int32} {gxs bxs : List Nat} {fz : Nat → Option Nat} {pl pa : Nat → Nat} {pss : Nat → List Nat} {own : Nat → Nat} {jf : Nat → Int64}
theorem bs_upx {x : Nat} {e0 : va_E} {e1 : Option va_E} (h : ∀ i a : Nat, bxs[i]? = some a → ∃ b, br[i]? = some b ∧ isQx g w own gxs pl pa pss i a b) (hz : w (g.2.2 1) = none) (hx : w x = some e0) (h1 : ∀ vs, e0 ≠ .inr (1, vs)) (h3 : ∀ vs, e0 ≠ .inr (3, vs)) (h6 : ∀ vs, e0 ≠ .inr (6, vs)) (hO : ∀ c f, e0 ≠ cO g c f) : ∀ i a : Nat, bxs[i]? = some a → ∃ b, br[i]? = some b ∧ isQx g (va_up w x e1) own gxs pl pa pss i a b := by
  intro i a ha
  obtain ⟨b, hb, hq⟩ := h i a ha
  exact ⟨b, hb, isQx_upx hq hz hx (ne_c hx hq.2.1 (h1 _)) h3 h6 hO⟩
theorem gs_upx {x : Nat} {e0 : va_E} {e1 : Option va_E} (h : ∀ i a : Nat, gxs[i]? = some a → w a = some (cGd (gd i)) ∧ own a = i) (hx : w x = some e0) (h2 : ∀ vs, e0 ≠ .inr (2, vs)) : ∀ i a : Nat, gxs[i]? = some a → va_up w x e1 a = some (cGd (gd i)) ∧ own a = i :=
  fun i a ha => ⟨up_v hx (h i a ha).1 (h2 _), (h i a ha).2⟩
theorem zr_upx {x : Nat} {e0 : va_E} {e1 : Option va_E} (h : ∀ k : Nat, k < 4 → ∃ q : Nat, fz k = some q ∧ w q = some (cA g 10 (mz k)) ∧ own q = k) (hx : w x = some e0) (hA : ∀ f, e0 ≠ cA g 10 f) : ∀ k : Nat, k < 4 → ∃ q : Nat, fz k = some q ∧ va_up w x e1 q = some (cA g 10 (mz k)) ∧ own q = k := fun k hk => by
  obtain ⟨q, h1, h2, h3⟩ := h k hk
  exact ⟨q, h1, up_v hx h2 (hA _), h3⟩
theorem RC_out {jf1 : Nat → Int64} (hz : w (g.2.2 1) = none) (h : RC g w th out f n rb rf gd gn br mz tx ru go bo zo sg fo garr barr ff gxs bxs fz pl pa pss own jf) : RC g (va_up w out (some (cJ g jf1))) th out f n rb rf gd gn br mz tx ru go bo zo sg fo garr barr ff gxs bxs fz pl pa pss own jf1 := by
  obtain ⟨hth, htx, hsg, hfo, hru, hne, ⟨hgl, hgn, ogo, oga⟩, hgs, ⟨hbl, hbn, obo, oba⟩, hbs, ⟨hzo, ozo⟩, hzr, hout⟩ := h
  exact ⟨up_v hout hth (fun z => by first | cases z | simp at z), up_v hout htx (fun z => by first | cases z | simp at z), up_v hout hsg (fun z => by first | cases z | simp at z), up_v hout hfo (fun z => by first | cases z | simp at z), up_v hout hru (fun z => by first | cases z | simp at z), hne, ⟨isL_upx hgl hz hout (fun _ z => by first | cases z | simp at z) (fun _ _ z => by first | cases z | simp at z), hgn, ogo, oga⟩, gs_upx hgs hout (fun _ z => by first | cases z | simp at z), ⟨isL_upx hbl hz hout (fun _ z => by first | cases z | simp at z) (fun _ _ z => by first | cases z | simp at z), hbn, obo, oba⟩, bs_upx hbs hz hout (fun _ z => by first | cases z | simp at z) (fun _ z => by first | cases z | simp at z) (fun _ z => by first | cases z | simp at z) (fun _ _ z => by first | cases z | simp at z), ⟨up_v hout hzo (fun z => by first | cases z | simp at z), ozo⟩, zr_upx hzr hout (fun _ z => by first | cases z | simp at z), va_up_self _ _ _⟩
theorem RC_sg {f1 : Nat → Int32} (hz : w (g.2.2 1) = none) (h : RC g w th out f n rb rf gd gn br mz tx ru go bo zo sg fo garr barr ff gxs bxs fz pl pa pss own jf) : RC g (va_up w sg (some (cA g 300 f1))) th out f1 n rb rf gd gn br mz tx ru go bo zo sg fo garr barr ff gxs bxs fz pl pa pss own jf := by
  obtain ⟨hth, htx, hsg, hfo, hru, hne, ⟨hgl, hgn, ogo, oga⟩, hgs, ⟨hbl, hbn, obo, oba⟩, hbs, ⟨hzo, ozo⟩, hzr, hout⟩ := h
  exact ⟨up_v hsg hth (fun z => by first | cases z | simp at z), up_v hsg htx (fun z => by first | cases z | simp at z), va_up_self _ _ _, up_v hsg hfo (fun z => by first | cases z | simp at z), up_v hsg hru (fun z => by first | cases z | simp at z), hne, ⟨isL_upx hgl hz hsg (fun _ z => by first | cases z | simp at z) (fun _ _ z => by first | cases z | simp at z), hgn, ogo, oga⟩, gs_upx hgs hsg (fun _ z => by first | cases z | simp at z), ⟨isL_upx hbl hz hsg (fun _ z => by first | cases z | simp at z) (fun _ _ z => by first | cases z | simp at z), hbn, obo, oba⟩, bs_upx hbs hz hsg (fun _ z => by first | cases z | simp at z) (fun _ z => by first | cases z | simp at z) (fun _ z => by first | cases z | simp at z) (fun _ _ z => by first | cases z | simp at z), ⟨up_v hsg hzo (fun z => by first | cases z | simp at z), ozo⟩, zr_upx hzr hsg (fun _ z => by first | cases z | simp at z), up_v hsg hout (fun z => by first | cases z | simp at z)⟩
theorem RC_fo {ff1 : Nat → Int32} (hz : w (g.2.2 1) = none) (h : RC g w th out f n rb rf gd gn br mz tx ru go bo zo sg fo garr barr ff gxs bxs fz pl pa pss own jf) : RC g (va_up w fo (some (cA g 45 ff1))) th out f n rb rf gd gn br mz tx ru go bo zo sg fo garr barr ff1 gxs bxs fz pl pa pss own jf := by
  obtain ⟨hth, htx, hsg, hfo, hru, hne, ⟨hgl, hgn, ogo, oga⟩, hgs, ⟨hbl, hbn, obo, oba⟩, hbs, ⟨hzo, ozo⟩, hzr, hout⟩ := h
  exact ⟨up_v hfo hth (fun z => by first | cases z | simp at z), up_v hfo htx (fun z => by first | cases z | simp at z), up_v hfo hsg (fun z => by first | cases z | simp at z), va_up_self _ _ _, (va_up_ne _ _ hne).trans hru, hne, ⟨isL_upx hgl hz hfo (fun _ z => by first | cases z | simp at z) (fun _ _ z => by first | cases z | simp at z), hgn, ogo, oga⟩, gs_upx hgs hfo (fun _ z => by first | cases z | simp at z), ⟨isL_upx hbl hz hfo (fun _ z => by first | cases z | simp at z) (fun _ _ z => by first | cases z | simp at z), hbn, obo, oba⟩, bs_upx hbs hz hfo (fun _ z => by first | cases z | simp at z) (fun _ z => by first | cases z | simp at z) (fun _ z => by first | cases z | simp at z) (fun _ _ z => by first | cases z | simp at z), ⟨up_v hfo hzo (fun z => by first | cases z | simp at z), ozo⟩, zr_upx hzr hfo (fun _ z => by first | cases z | simp at z), up_v hfo hout (fun z => by first | cases z | simp at z)⟩
theorem RC_ru {rf1 : Nat → Int32} (hz : w (g.2.2 1) = none) (h : RC g w th out f n rb rf gd gn br mz tx ru go bo zo sg fo garr barr ff gxs bxs fz pl pa pss own jf) : RC g (va_up w ru (some (cA g 45 rf1))) th out f n rb rf1 gd gn br mz tx ru go bo zo sg fo garr barr ff gxs bxs fz pl pa pss own jf := by
  obtain ⟨hth, htx, hsg, hfo, hru, hne, ⟨hgl, hgn, ogo, oga⟩, hgs, ⟨hbl, hbn, obo, oba⟩, hbs, ⟨hzo, ozo⟩, hzr, hout⟩ := h
  exact ⟨up_v hru hth (fun z => by first | cases z | simp at z), up_v hru htx (fun z => by first | cases z | simp at z), up_v hru hsg (fun z => by first | cases z | simp at z), (va_up_ne _ _ hne.symm).trans hfo, va_up_self _ _ _, hne, ⟨isL_upx hgl hz hru (fun _ z => by first | cases z | simp at z) (fun _ _ z => by first | cases z | simp at z), hgn, ogo, oga⟩, gs_upx hgs hru (fun _ z => by first | cases z | simp at z), ⟨isL_upx hbl hz hru (fun _ z => by first | cases z | simp at z) (fun _ _ z => by first | cases z | simp at z), hbn, obo, oba⟩, bs_upx hbs hz hru (fun _ z => by first | cases z | simp at z) (fun _ z => by first | cases z | simp at z) (fun _ z => by first | cases z | simp at z) (fun _ _ z => by first | cases z | simp at z), ⟨up_v hru hzo (fun z => by first | cases z | simp at z), ozo⟩, zr_upx hzr hru (fun _ z => by first | cases z | simp at z), up_v hru hout (fun z => by first | cases z | simp at z)⟩
theorem RC_tx {n1 : Nat} (hz : w (g.2.2 1) = none) (h : RC g w th out f n rb rf gd gn br mz tx ru go bo zo sg fo garr barr ff gxs bxs fz pl pa pss own jf) : RC g (va_up w tx (some (cU sg (nI n1) fo))) th out f n1 rb rf gd gn br mz tx ru go bo zo sg fo garr barr ff gxs bxs fz pl pa pss own jf := by
  obtain ⟨hth, htx, hsg, hfo, hru, hne, ⟨hgl, hgn, ogo, oga⟩, hgs, ⟨hbl, hbn, obo, oba⟩, hbs, ⟨hzo, ozo⟩, hzr, hout⟩ := h
  exact ⟨up_v htx hth (fun z => by first | cases z | simp at z), va_up_self _ _ _, up_v htx hsg (fun z => by first | cases z | simp at z), up_v htx hfo (fun z => by first | cases z | simp at z), up_v htx hru (fun z => by first | cases z | simp at z), hne, ⟨isL_upx hgl hz htx (fun _ z => by first | cases z | simp at z) (fun _ _ z => by first | cases z | simp at z), hgn, ogo, oga⟩, gs_upx hgs htx (fun _ z => by first | cases z | simp at z), ⟨isL_upx hbl hz htx (fun _ z => by first | cases z | simp at z) (fun _ _ z => by first | cases z | simp at z), hbn, obo, oba⟩, bs_upx hbs hz htx (fun _ z => by first | cases z | simp at z) (fun _ z => by first | cases z | simp at z) (fun _ z => by first | cases z | simp at z) (fun _ _ z => by first | cases z | simp at z), ⟨up_v htx hzo (fun z => by first | cases z | simp at z), ozo⟩, zr_upx hzr htx (fun _ z => by first | cases z | simp at z), up_v htx hout (fun z => by first | cases z | simp at z)⟩
theorem RC_th {rb1 : Bool} (hz : w (g.2.2 1) = none) (h : RC g w th out f n rb rf gd gn br mz tx ru go bo zo sg fo garr barr ff gxs bxs fz pl pa pss own jf) : RC g (va_up w th (some (cT tx ru (b2 rb1) go bo zo))) th out f n rb1 rf gd gn br mz tx ru go bo zo sg fo garr barr ff gxs bxs fz pl pa pss own jf := by
  obtain ⟨hth, htx, hsg, hfo, hru, hne, ⟨hgl, hgn, ogo, oga⟩, hgs, ⟨hbl, hbn, obo, oba⟩, hbs, ⟨hzo, ozo⟩, hzr, hout⟩ := h
  exact ⟨va_up_self _ _ _, up_v hth htx (fun z => by first | cases z | simp at z), up_v hth hsg (fun z => by first | cases z | simp at z), up_v hth hfo (fun z => by first | cases z | simp at z), up_v hth hru (fun z => by first | cases z | simp at z), hne, ⟨isL_upx hgl hz hth (fun _ z => by first | cases z | simp at z) (fun _ _ z => by first | cases z | simp at z), hgn, ogo, oga⟩, gs_upx hgs hth (fun _ z => by first | cases z | simp at z), ⟨isL_upx hbl hz hth (fun _ z => by first | cases z | simp at z) (fun _ _ z => by first | cases z | simp at z), hbn, obo, oba⟩, bs_upx hbs hz hth (fun _ z => by first | cases z | simp at z) (fun _ z => by first | cases z | simp at z) (fun _ z => by first | cases z | simp at z) (fun _ _ z => by first | cases z | simp at z), ⟨up_v hth hzo (fun z => by first | cases z | simp at z), ozo⟩, zr_upx hzr hth (fun _ z => by first | cases z | simp at z), up_v hth hout (fun z => by first | cases z | simp at z)⟩
theorem RC_row {zi zr : Nat} {m : Nat → Int32} (hz : w (g.2.2 1) = none) (hzi : zi < 4) (hf : fz zi = some zr) (h : RC g w th out f n rb rf gd gn br mz tx ru go bo zo sg fo garr barr ff gxs bxs fz pl pa pss own jf) : RC g (va_up w zr (some (cA g 10 m))) th out f n rb rf gd gn br (va_up mz zi m) tx ru go bo zo sg fo garr barr ff gxs bxs fz pl pa pss own jf := by
  obtain ⟨hth, htx, hsg, hfo, hru, hne, ⟨hgl, hgn, ogo, oga⟩, hgs, ⟨hbl, hbn, obo, oba⟩, hbs, ⟨hzo, ozo⟩, hzr, hout⟩ := h
  obtain ⟨q0, hq1, hx, hq3⟩ := hzr zi hzi
  cases Option.some.inj (hf.symm.trans hq1)
  refine ⟨up_v hx hth (fun z => by first | cases z | simp at z), up_v hx htx (fun z => by first | cases z | simp at z), up_v hx hsg (fun z => by first | cases z | simp at z), up_v hx hfo (fun z => by first | cases z | simp at z), up_v hx hru (fun z => by first | cases z | simp at z), hne, ⟨isL_upx hgl hz hx (fun _ z => by first | cases z | simp at z) (fun _ _ z => by first | cases z | simp at z), hgn, ogo, oga⟩, gs_upx hgs hx (fun _ z => by first | cases z | simp at z), ⟨isL_upx hbl hz hx (fun _ z => by first | cases z | simp at z) (fun _ _ z => by first | cases z | simp at z), hbn, obo, oba⟩, bs_upx hbs hz hx (fun _ z => by first | cases z | simp at z) (fun _ z => by first | cases z | simp at z) (fun _ z => by first | cases z | simp at z) (fun _ _ z => by first | cases z | simp at z), ⟨up_v hx hzo (fun z => by first | cases z | simp at z), ozo⟩, ?_, up_v hx hout (fun z => by first | cases z | simp at z)⟩
  intro k hk
  obtain ⟨q, h1, h2, h3⟩ := hzr k hk
  by_cases hkz : k = zi
  · subst hkz
    cases Option.some.inj (h1.symm.trans hf)
    refine ⟨zr, h1, ?_, h3⟩
    rw [va_up_self, va_up_self]
  · refine ⟨q, h1, ?_, h3⟩
    rw [va_up_ne _ _ (fun e => hkz (by rw [← h3, ← hq3, e])), va_up_ne _ _ hkz]
    exact h2
theorem RC_good {i qg : Nat} {d : GD} (hz : w (g.2.2 1) = none) (hi : gxs[i]? = some qg) (h : RC g w th out f n rb rf gd gn br mz tx ru go bo zo sg fo garr barr ff gxs bxs fz pl pa pss own jf) : RC g (va_up w qg (some (cGd d))) th out f n rb rf (va_up gd i d) gn br mz tx ru go bo zo sg fo garr barr ff gxs bxs fz pl pa pss own jf := by
  obtain ⟨hth, htx, hsg, hfo, hru, hne, ⟨hgl, hgn, ogo, oga⟩, hgs, ⟨hbl, hbn, obo, oba⟩, hbs, ⟨hzo, ozo⟩, hzr, hout⟩ := h
  obtain ⟨hx, hq3⟩ := hgs i qg hi
  refine ⟨up_v hx hth (fun z => by first | cases z | simp at z), up_v hx htx (fun z => by first | cases z | simp at z), up_v hx hsg (fun z => by first | cases z | simp at z), up_v hx hfo (fun z => by first | cases z | simp at z), up_v hx hru (fun z => by first | cases z | simp at z), hne, ⟨isL_upx hgl hz hx (fun _ z => by first | cases z | simp at z) (fun _ _ z => by first | cases z | simp at z), hgn, ogo, oga⟩, ?_, ⟨isL_upx hbl hz hx (fun _ z => by first | cases z | simp at z) (fun _ _ z => by first | cases z | simp at z), hbn, obo, oba⟩, bs_upx hbs hz hx (fun _ z => by first | cases z | simp at z) (fun _ z => by first | cases z | simp at z) (fun _ z => by first | cases z | simp at z) (fun _ _ z => by first | cases z | simp at z), ⟨up_v hx hzo (fun z => by first | cases z | simp at z), ozo⟩, zr_upx hzr hx (fun _ z => by first | cases z | simp at z), up_v hx hout (fun z => by first | cases z | simp at z)⟩
  intro k a hk
  obtain ⟨h2, h3⟩ := hgs k a hk
  by_cases hki : k = i
  · subst hki
    cases Option.some.inj (hk.symm.trans hi)
    refine ⟨?_, h3⟩
    rw [va_up_self, va_up_self]
  · refine ⟨?_, h3⟩
    rw [va_up_ne _ _ (fun e => hki (by rw [← h3, ← hq3, e])), va_up_ne _ _ hki]
    exact h2
theorem RC_box {i qb : Nat} {b : BR} {z x y t : Int32} (hz : w (g.2.2 1) = none) (hi : bxs[i]? = some qb) (hb0 : br[i]? = some b) (h : RC g w th out f n rb rf gd gn br mz tx ru go bo zo sg fo garr barr ff gxs bxs fz pl pa pss own jf) : RC g (va_up w qb (some (cX (pl i) z x y t))) th out f n rb rf gd gn (br.set i (b.1, z, x, y, t)) mz tx ru go bo zo sg fo garr barr ff gxs bxs fz pl pa pss own jf := by
  obtain ⟨hth, htx, hsg, hfo, hru, hne, ⟨hgl, hgn, ogo, oga⟩, hgs, ⟨hbl, hbn, obo, oba⟩, hbs, ⟨hzo, ozo⟩, hzr, hout⟩ := h
  obtain ⟨b1, hb1, hq⟩ := hbs i qb hi
  cases Option.some.inj (hb1.symm.trans hb0)
  have hx := hq.2.1
  have hil : i < br.length := (List.getElem?_eq_some_iff.mp hb0).1
  refine ⟨up_v hx hth (fun z => by first | cases z | simp at z), up_v hx htx (fun z => by first | cases z | simp at z), up_v hx hsg (fun z => by first | cases z | simp at z), up_v hx hfo (fun z => by first | cases z | simp at z), up_v hx hru (fun z => by first | cases z | simp at z), hne, ⟨isL_upx hgl hz hx (fun _ z => by first | cases z | simp at z) (fun _ _ z => by first | cases z | simp at z), hgn, ogo, oga⟩, gs_upx hgs hx (fun _ z => by first | cases z | simp at z), ⟨isL_upx hbl hz hx (fun _ z => by first | cases z | simp at z) (fun _ _ z => by first | cases z | simp at z), by rw [List.length_set]; exact hbn, obo, oba⟩, ?_, ⟨up_v hx hzo (fun z => by first | cases z | simp at z), ozo⟩, zr_upx hzr hx (fun _ z => by first | cases z | simp at z), up_v hx hout (fun z => by first | cases z | simp at z)⟩
  intro k a hk
  obtain ⟨b2, h2, h3⟩ := hbs k a hk
  by_cases hki : k = i
  · subst hki
    cases Option.some.inj (hk.symm.trans hi)
    cases Option.some.inj (h2.symm.trans hb0)
    refine ⟨_, List.getElem?_set_self hil, h3.1, va_up_self _ _ _, isL_upx h3.2.2.1 hz hx (fun _ z => by first | cases z | simp at z) (fun _ _ z => by first | cases z | simp at z), h3.2.2.2.1, h3.2.2.2.2.1, isPq_keep h3.2.2.2.2.2 (fun q vs hq => up_k hx hq (fun z => by first | cases z | simp at z))⟩
  · refine ⟨b2, by rw [List.getElem?_set_ne (fun e => hki e.symm)]; exact h2, isQx_upx h3 hz hx (fun e => hki (by rw [← h3.1, ← hq.1, e])) (fun _ z => by first | cases z | simp at z) (fun _ z => by first | cases z | simp at z) (fun _ _ z => by first | cases z | simp at z)⟩
end RCS
