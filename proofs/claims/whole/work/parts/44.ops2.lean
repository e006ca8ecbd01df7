/-! CALLS THAT MAY THROW, ON BOTH SIDES -/
section OPT
variable {g : GT} {wC wC1 wM wM1 : Nat → Option va_E} {th out : Nat} {f : Nat → Int32} {n : Nat} {rb : Bool} {rf : Nat → Int32} {gd : Nat → GD} {gn : Nat} {br : List BR} {mz : Nat → Nat → Int32} {tx ru go bo zo sg fo garr barr : Nat} {ff : Nat → Int32} {gxs bxs : List Nat} {fz : Nat → Option Nat} {pl pa : Nat → Nat} {pss : Nat → List Nat} {own : Nat → Nat} {jf : Nat → Int64}
variable {mo : Nat} {t : Int32} {ad : Nat → Nat} {F : Nat → Nat → Int32} {u v x y kC rC rM : Int32}
theorem STk_ok (hz : wC (g.2.2 1) = none) (hC : RC g wC th out f n rb rf gd gn br mz tx ru go bo zo sg fo garr barr ff gxs bxs fz pl pa pss own jf) (hM : RM g wM mo t ad F f n rb rf gd gn br mz) {r : Int32} (h : wC1 = va_up wC out (some (cJ g (vp_updL jf 0 r.toInt64)))) (e : isM g wM1 mo ad 0 n (b2 rb) gn br.length F) (hr : r = rM) : STk g wC1 th out wM1 mo 0 rM := by
  subst hr
  refine ⟨f, n, rb, rf, gd, gn, br, mz, tx, ru, go, bo, zo, sg, fo, garr, barr, ff, gxs, bxs, fz, pl, pa, pss, own, (vp_updL jf 0 r.toInt64), ad, F, ?_, hM.again e, fun _ => pk_uLs⟩
  rw [h]
  exact RC_out hz hC
theorem STk_ex (hC : RC g wC th out f n rb rf gd gn br mz tx ru go bo zo sg fo garr barr ff gxs bxs fz pl pa pss own jf) (hM : RM g wM mo t ad F f n rb rf gd gn br mz) {k : Int32} (h : wC1 = wC) (e : isM g wM1 mo ad k n (b2 rb) gn br.length F) (hk : k ≠ 0) : STk g wC1 th out wM1 mo k rM := by
  subst h
  exact ⟨f, n, rb, rf, gd, gn, br, mz, tx, ru, go, bo, zo, sg, fo, garr, barr, ff, gxs, bxs, fz, pl, pa, pss, own, jf, ad, F, hC, hM.again e, fun z => absurd z hk⟩
theorem op_rule  (hz : wC (g.2.2 1) = none) (hC : RC g wC th out f n rb rf gd gn br mz tx ru go bo zo sg fo garr barr ff gxs bxs fz pl pa pss own jf) (hM : RM g wM mo t ad F f n rb rf gd gn br mz) (pC : (kC = 0 ∧ ∃ r : Int32, ((isCls u && isCls v) = true ∧ r = rf (prI u v).toNatClampNeg) ∧ wC1 = va_up wC out (some (cJ g (vp_updL jf 0 r.toInt64)))) ∨ (kC = 1 ∧ (isCls u && isCls v) = false ∧ wC1 = wC)) (pM : ((isCls u && isCls v) = true ∧ rM = rf (prI u v).toNatClampNeg ∧ isM g wM1 mo ad 0 n (b2 rb) gn br.length F) ∨ ((isCls u && isCls v) = false ∧ rM = 0 ∧ isM g wM1 mo ad 1 n (b2 rb) gn br.length F)) : STk g wC1 th out wM1 mo kC rM := by
  rcases pC with ⟨hk, r, ⟨h1, h2⟩, h3⟩ | ⟨hk, h1, h3⟩ <;> rcases pM with ⟨e1, e2⟩ | ⟨e1, e2, e3⟩ <;> subst hk
  · exact STk_ok hz hC hM h3 e2.2 (h2.trans e2.1.symm)
  · exact absurd (h1.symm.trans e1) (by decide)
  · exact absurd (e1.symm.trans h1) (by decide)
  · exact STk_ex hC hM h3 e3 (by decide)
theorem op_zone  (hz : wC (g.2.2 1) = none) (hC : RC g wC th out f n rb rf gd gn br mz tx ru go bo zo sg fo garr barr ff gxs bxs fz pl pa pss own jf) (hM : RM g wM mo t ad F f n rb rf gd gn br mz) (pC : (kC = 0 ∧ ∃ r : Int32, ((isZn u && isCls v) = true ∧ r = kzB (br.map (bxOf gd)) u v) ∧ wC1 = va_up wC out (some (cJ g (vp_updL jf 0 r.toInt64)))) ∨ (kC = 1 ∧ (isZn u && isCls v) = false ∧ wC1 = wC)) (pM : ((isZn u && isCls v) = true ∧ rM = kzB (br.map (bxOf gd)) u v ∧ isM g wM1 mo ad 0 n (b2 rb) gn br.length F) ∨ ((isZn u && isCls v) = false ∧ rM = 0 ∧ isM g wM1 mo ad 1 n (b2 rb) gn br.length F)) : STk g wC1 th out wM1 mo kC rM := by
  rcases pC with ⟨hk, r, ⟨h1, h2⟩, h3⟩ | ⟨hk, h1, h3⟩ <;> rcases pM with ⟨e1, e2⟩ | ⟨e1, e2, e3⟩ <;> subst hk
  · exact STk_ok hz hC hM h3 e2.2 (h2.trans e2.1.symm)
  · exact absurd (h1.symm.trans e1) (by decide)
  · exact absurd (e1.symm.trans h1) (by decide)
  · exact STk_ex hC hM h3 e3 (by decide)
theorem op_apart  (hz : wC (g.2.2 1) = none) (hC : RC g wC th out f n rb rf gd gn br mz tx ru go bo zo sg fo garr barr ff gxs bxs fz pl pa pss own jf) (hM : RM g wM mo t ad F f n rb rf gd gn br mz) (pC : (kC = 0 ∧ ∃ r : Int32, ((inL u (br.map (bxOf gd)).length && inL v (br.map (bxOf gd)).length && !decide (u = v)) = true ∧ ∃ (i j : Nat) (bi bj : BX), u = nI i ∧ v = nI j ∧ (br.map (bxOf gd))[i]? = some bi ∧ (br.map (bxOf gd))[j]? = some bj ∧ r = ruB rf bi.1 bj.1) ∧ wC1 = va_up wC out (some (cJ g (vp_updL jf 0 r.toInt64)))) ∨ (kC = 1 ∧ (inL u (br.map (bxOf gd)).length && inL v (br.map (bxOf gd)).length && !decide (u = v)) = false ∧ wC1 = wC)) (pM : ((inL u br.length && inL v br.length && !decide (u = v)) = true ∧ ∃ (i j : Nat) (bi bj : BR), u = nI i ∧ v = nI j ∧ br[i]? = some bi ∧ br[j]? = some bj ∧ rM = ruB rf (bxOf gd bi).1 (bxOf gd bj).1 ∧ isM g wM1 mo ad 0 n (b2 rb) gn br.length F) ∨ ((inL u br.length && inL v br.length && !decide (u = v)) = false ∧ rM = 0 ∧ isM g wM1 mo ad 1 n (b2 rb) gn br.length F)) : STk g wC1 th out wM1 mo kC rM := by
  rw [List.length_map] at pC
  rcases pC with ⟨hk, r, ⟨h1, h2⟩, h3⟩ | ⟨hk, h1, h3⟩ <;> rcases pM with ⟨e1, e2⟩ | ⟨e1, e2, e3⟩ <;> subst hk
  · obtain ⟨m1, m2, m3, m4, m5, m6, m7, m8, m9, m10⟩ := hM
    have h12 := m7.1
    obtain ⟨i, j, bi, bj, hu, hv, hbi, hbj, hr⟩ := h2
    obtain ⟨i2, j2, bi2, bj2, hu2, hv2, hbi2, hbj2, hr2, e3⟩ := e2
    have hi1 := (List.getElem?_eq_some_iff.mp hbi).1
    have hj1 := (List.getElem?_eq_some_iff.mp hbj).1
    have hi2 := (List.getElem?_eq_some_iff.mp hbi2).1
    have hj2 := (List.getElem?_eq_some_iff.mp hbj2).1
    rw [List.length_map] at hi1 hj1
    obtain rfl : i = i2 := (nI_eq (by omega) (by omega)).mp (hu.symm.trans hu2)
    obtain rfl : j = j2 := (nI_eq (by omega) (by omega)).mp (hv.symm.trans hv2)
    rw [List.getElem?_map, hbi2] at hbi
    rw [List.getElem?_map, hbj2] at hbj
    cases hbi
    cases hbj
    exact STk_ok hz hC ⟨m1, m2, m3, m4, m5, m6, m7, m8, m9, m10⟩ h3 e3 (hr.trans hr2.symm)
  · exact absurd (h1.symm.trans e1) (by decide)
  · exact absurd (e1.symm.trans h1) (by decide)
  · exact STk_ex hC hM h3 e3 (by decide)
theorem op_ship  (hz : wC (g.2.2 1) = none) (hC : RC g wC th out f n rb rf gd gn br mz tx ru go bo zo sg fo garr barr ff gxs bxs fz pl pa pss own jf) (hM : RM g wM mo t ad F f n rb rf gd gn br mz) (pC : (kC = 0 ∧ ∃ r : Int32, (((inL u (br.map (bxOf gd)).length && inL v (br.map (bxOf gd)).length && !decide (u = v)) && (!decide (x < 0) && !decide (100 < x))) = true ∧ ∃ (i j : Nat) (bi bj : BX), u = nI i ∧ v = nI j ∧ (br.map (bxOf gd))[i]? = some bi ∧ (br.map (bxOf gd))[j]? = some bj ∧ r = b2 (!decide (x < shipI (ruB rf bi.1 bj.1).toNatClampNeg))) ∧ wC1 = va_up wC out (some (cJ g (vp_updL jf 0 r.toInt64)))) ∨ (kC = 1 ∧ ((inL u (br.map (bxOf gd)).length && inL v (br.map (bxOf gd)).length && !decide (u = v)) && (!decide (x < 0) && !decide (100 < x))) = false ∧ wC1 = wC)) (pM : (((inL u br.length && inL v br.length && !decide (u = v)) && inR x 0 100) = true ∧ ∃ (i j : Nat) (bi bj : BR), u = nI i ∧ v = nI j ∧ br[i]? = some bi ∧ br[j]? = some bj ∧ rM = b2 (!decide (x < shipI (ruB rf (bxOf gd bi).1 (bxOf gd bj).1).toNatClampNeg)) ∧ isM g wM1 mo ad 0 n (b2 rb) gn br.length F) ∨ (((inL u br.length && inL v br.length && !decide (u = v)) && inR x 0 100) = false ∧ rM = 0 ∧ isM g wM1 mo ad 1 n (b2 rb) gn br.length F)) : STk g wC1 th out wM1 mo kC rM := by
  rw [List.length_map] at pC
  rcases pC with ⟨hk, r, ⟨h1, h2⟩, h3⟩ | ⟨hk, h1, h3⟩ <;> rcases pM with ⟨e1, e2⟩ | ⟨e1, e2, e3⟩ <;> subst hk
  · obtain ⟨m1, m2, m3, m4, m5, m6, m7, m8, m9, m10⟩ := hM
    have h12 := m7.1
    obtain ⟨i, j, bi, bj, hu, hv, hbi, hbj, hr⟩ := h2
    obtain ⟨i2, j2, bi2, bj2, hu2, hv2, hbi2, hbj2, hr2, e3⟩ := e2
    have hi1 := (List.getElem?_eq_some_iff.mp hbi).1
    have hj1 := (List.getElem?_eq_some_iff.mp hbj).1
    have hi2 := (List.getElem?_eq_some_iff.mp hbi2).1
    have hj2 := (List.getElem?_eq_some_iff.mp hbj2).1
    rw [List.length_map] at hi1 hj1
    obtain rfl : i = i2 := (nI_eq (by omega) (by omega)).mp (hu.symm.trans hu2)
    obtain rfl : j = j2 := (nI_eq (by omega) (by omega)).mp (hv.symm.trans hv2)
    rw [List.getElem?_map, hbi2] at hbi
    rw [List.getElem?_map, hbj2] at hbj
    cases hbi
    cases hbj
    exact STk_ok hz hC ⟨m1, m2, m3, m4, m5, m6, m7, m8, m9, m10⟩ h3 e3 (hr.trans hr2.symm)
  · exact absurd (h1.symm.trans e1) (by decide)
  · exact absurd (e1.symm.trans h1) (by decide)
  · exact STk_ex hC hM h3 e3 (by decide)
theorem op_missing  (hz : wC (g.2.2 1) = none) (hC : RC g wC th out f n rb rf gd gn br mz tx ru go bo zo sg fo garr barr ff gxs bxs fz pl pa pss own jf) (hM : RM g wM mo t ad F f n rb rf gd gn br mz) (pC : (kC = 0 ∧ ∃ r : Int32, (inL u (br.map (bxOf gd)).length = true ∧ ∃ (i : Nat) (bi : BX), u = nI i ∧ (br.map (bxOf gd))[i]? = some bi ∧ r = wtB bi.1 &&& (bi.2.2.2.2 ^^^ -1)) ∧ wC1 = va_up wC out (some (cJ g (vp_updL jf 0 r.toInt64)))) ∨ (kC = 1 ∧ inL u (br.map (bxOf gd)).length = false ∧ wC1 = wC)) (pM : (inL u br.length = true ∧ ∃ (i : Nat) (b : BR), u = nI i ∧ i < br.length ∧ br[i]? = some b ∧ rM = wtB (bxOf gd b).1 &&& (b.2.2.2.2 ^^^ -1) ∧ isM g wM1 mo ad 0 n (b2 rb) gn br.length F) ∨ (inL u br.length = false ∧ rM = 0 ∧ isM g wM1 mo ad 1 n (b2 rb) gn br.length F)) : STk g wC1 th out wM1 mo kC rM := by
  rw [List.length_map] at pC
  rcases pC with ⟨hk, r, ⟨h1, h2⟩, h3⟩ | ⟨hk, h1, h3⟩ <;> rcases pM with ⟨e1, e2⟩ | ⟨e1, e2, e3⟩ <;> subst hk
  · obtain ⟨m1, m2, m3, m4, m5, m6, m7, m8, m9, m10⟩ := hM
    have h12 := m7.1
    obtain ⟨i, bi, hu, hbi, hr⟩ := h2
    obtain ⟨i2, b, hu2, hi2, hb, hr2, e3⟩ := e2
    have hi1 := (List.getElem?_eq_some_iff.mp hbi).1
    rw [List.length_map] at hi1
    obtain rfl : i = i2 := (nI_eq (by omega) (by omega)).mp (hu.symm.trans hu2)
    rw [List.getElem?_map, hb] at hbi
    cases hbi
    exact STk_ok hz hC ⟨m1, m2, m3, m4, m5, m6, m7, m8, m9, m10⟩ h3 e3 (hr.trans hr2.symm)
  · exact absurd (h1.symm.trans e1) (by decide)
  · exact absurd (e1.symm.trans h1) (by decide)
  · exact STk_ex hC hM h3 e3 (by decide)
theorem op_look  (hz : wC (g.2.2 1) = none) (hC : RC g wC th out f n rb rf gd gn br mz tx ru go bo zo sg fo garr barr ff gxs bxs fz pl pa pss own jf) (hM : RM g wM mo t ad F f n rb rf gd gn br mz) (pC : (kC = 0 ∧ ∃ r : Int32, ((inL u (br.map (bxOf gd)).length && (!decide (v < 0) && !decide (7 ≤ v))) = true ∧ ∃ (i : Nat) (bi : BX) (k : Nat), u = nI i ∧ (br.map (bxOf gd))[i]? = some bi ∧ v = nI k ∧ k < 7 ∧ r = lkI bi k) ∧ wC1 = va_up wC out (some (cJ g (vp_updL jf 0 r.toInt64)))) ∨ (kC = 1 ∧ (inL u (br.map (bxOf gd)).length && (!decide (v < 0) && !decide (7 ≤ v))) = false ∧ wC1 = wC)) (pM : ((inL u br.length && inR v 0 6) = true ∧ ∃ (i9 : Nat) (b9 : BR) (k9 : Nat), u = nI i9 ∧ i9 < br.length ∧ br[i9]? = some b9 ∧ v = nI k9 ∧ k9 < 7 ∧ rM = lkI (bxOf gd b9) k9 ∧ isM g wM1 mo ad 0 n (b2 rb) gn br.length F) ∨ ((inL u br.length && inR v 0 6) = false ∧ rM = 0 ∧ isM g wM1 mo ad 1 n (b2 rb) gn br.length F)) : STk g wC1 th out wM1 mo kC rM := by
  rw [List.length_map] at pC
  rw [← lk_eq] at pC
  rcases pC with ⟨hk, r, ⟨h1, h2⟩, h3⟩ | ⟨hk, h1, h3⟩ <;> rcases pM with ⟨e1, e2⟩ | ⟨e1, e2, e3⟩ <;> subst hk
  · obtain ⟨m1, m2, m3, m4, m5, m6, m7, m8, m9, m10⟩ := hM
    have h12 := m7.1
    obtain ⟨i, bi, k, hu, hbi, hv, hk7, hr⟩ := h2
    obtain ⟨i2, b, k2, hu2, hi2, hb, hv2, hk2, hr2, e3⟩ := e2
    have hi1 := (List.getElem?_eq_some_iff.mp hbi).1
    rw [List.length_map] at hi1
    obtain rfl : i = i2 := (nI_eq (by omega) (by omega)).mp (hu.symm.trans hu2)
    rw [List.getElem?_map, hb] at hbi
    cases hbi
    have hkk : lkI (bxOf gd b) k = lkI (bxOf gd b) k2 := by rw [(nI_eq (by omega) (by omega)).mp (hv.symm.trans hv2)]
    exact STk_ok hz hC ⟨m1, m2, m3, m4, m5, m6, m7, m8, m9, m10⟩ h3 e3 (hr.trans (hkk.trans hr2.symm))
  · exact absurd (h1.symm.trans e1) (by decide)
  · exact absurd (e1.symm.trans h1) (by decide)
  · exact STk_ex hC hM h3 e3 (by decide)
theorem gd_RG {z tt : Int32} (h : RG gd gn F) (hg : gn < 16) (hx0 : ∀ k : Nat, 81 * gn ≤ k → k < 1296 → F 8 k = 0) (hok : (isCls u && isSd v u && (inR x 1 3 && inR y 0 1000)) = true) : RG (va_up gd gn (u, v, y, fieI x z tt, 0)) (gn + 1) (upd2 (upd2 (upd2 (upd2 (upd2 (upd2 F 2 (upd (F 2) gn u)) 3 (upd (F 3) gn v)) 4 (upd (F 4) gn x)) 5 (upd (F 5) gn y)) 6 (upd (F 6) gn z)) 7 (upd (F 7) gn tt)) := by
  rw [Bool.and_eq_true, Bool.and_eq_true] at hok
  refine ⟨by omega, fun k hk => ?_⟩
  by_cases hkn : k = gn
  · subst hkn
    rw [va_up_self]
    refine ⟨pk_us, pk_us, pk_us, ?_, hok.1.1, ?_, fun i j hi hj => ?_⟩
    · show fieI x z tt = fieI (upd (F 4) k x k) (upd (F 6) k z k) (upd (F 7) k tt k)
      rw [pk_us, pk_us, pk_us]
    · have h1 := hok.1.2
      unfold isSd at h1
      rw [Bool.or_eq_true] at h1
      exact h1.imp of_decide_eq_true (fun h2 => ((Bool.and_eq_true _ _).mp h2).1)
    · show F 8 (81 * k + (9 * i + j)) = _
      rw [hx0 _ (by omega) (by omega), prI_nat i hi j hj]
      show 0 = b2 (isEx 0 (nI (pzN i j)))
      rw [isEx_0 (pzN_lt i hi j hj)]
      rfl
  · rw [va_up_ne _ _ hkn]
    obtain ⟨h1, h2, h3, h4, h5, h6, h7⟩ := h.2 k (by omega)
    refine ⟨(pk_un hkn).trans h1, (pk_un hkn).trans h2, (pk_un hkn).trans h3, ?_, h5, h6, h7⟩
    show _ = fieI (upd (F 4) gn x k) (upd (F 6) gn z k) (upd (F 7) gn tt k)
    rw [pk_un hkn, pk_un hkn, pk_un hkn]
    exact h4
theorem RBx_more {F : Nat → Nat → Int32} {gn i : Nat} {b : BR} (h : RBx F gn i b) : RBx F (gn + 1) i b := by
  obtain ⟨a1, a2, a3, a4, a5, a6⟩ := h
  exact ⟨a1, a2, a3, a4, a5, fun j p hp => ⟨by have := (a6 j p hp).1; omega, (a6 j p hp).2⟩⟩
theorem op_good {z tt : Int32} (hz : wC (g.2.2 1) = none) (hC : RC g wC th out f n rb rf gd gn br mz tx ru go bo zo sg fo garr barr ff gxs bxs fz pl pa pss own jf) (hM : RM g wM mo t ad F f n rb rf gd gn br mz) (pC : (kC = 0 ∧ ∃ (r : Int32) (w2 : Nat → Option va_E), ((isCls u && isSd v u && (inR x 1 3 && inR y 0 1000)) = true ∧ gxs.length < 16 ∧ r = nI gxs.length ∧ ∃ q arr1 : Nat, wC q = none ∧ isL g w2 go arr1 (gxs ++ [q]) ∧ w2 q = some (cG u v y (fieI x z tt) 0) ∧ ((arr1 = garr ∧ ∃ z, wC garr = some (.inl z)) ∨ wC arr1 = none) ∧ ∀ (b : Nat) (e : va_E), wC b = some e → b ≠ go → b ≠ arr1 → w2 b = wC b) ∧ w2 (g.2.2 1) = none ∧ wC1 = va_up w2 out (some (cJ g (vp_updL jf 0 r.toInt64)))) ∨ ((kC = 1 ∧ (isCls u && isSd v u && (inR x 1 3 && inR y 0 1000)) = false ∧ wC1 = wC) ∨ (kC = 2 ∧ (isCls u && isSd v u && (inR x 1 3 && inR y 0 1000)) = true ∧ ¬ gxs.length < 16 ∧ wC1 = wC)))
    (pM : ((isCls u && isSd v u && (inR x 1 3 && inR y 0 1000)) = true ∧ gn < 16 ∧ rM = nI gn ∧ isM g wM1 mo ad 0 n (b2 rb) (gn + 1) br.length (upd2 (upd2 (upd2 (upd2 (upd2 (upd2 F 2 (upd (F 2) gn u)) 3 (upd (F 3) gn v)) 4 (upd (F 4) gn x)) 5 (upd (F 5) gn y)) 6 (upd (F 6) gn z)) 7 (upd (F 7) gn tt))) ∨ ((isCls u && isSd v u && (inR x 1 3 && inR y 0 1000)) = false ∧ rM = 0 ∧ isM g wM1 mo ad 1 n (b2 rb) gn br.length F) ∨ ((isCls u && isSd v u && (inR x 1 3 && inR y 0 1000)) = true ∧ gn = 16 ∧ rM = 0 ∧ isM g wM1 mo ad 2 n (b2 rb) gn br.length F)) : STk g wC1 th out wM1 mo kC rM := by
  have hgn := hC.2.2.2.2.2.2.1.2.1
  obtain ⟨m1, m2, m3, m4, m5, m6, m7, m8, m9, m10⟩ := hM
  rcases pC with ⟨hk, r, w2, ⟨h1, h2, h3, q, arr1, h4, h5, h6, h7, h8⟩, hz2, h9⟩ | ⟨hk, h1, h9⟩ | ⟨hk, h1, h2, h9⟩ <;> rcases pM with ⟨e1, e2, e3, e4⟩ | ⟨e1, e2, e3⟩ | ⟨e1, e2, e3, e4⟩ <;> subst hk
  · refine ⟨f, n, rb, rf, va_up gd gn (u, v, y, fieI x z tt, 0), gn + 1, br, mz, tx, ru, go, bo, zo, sg, fo, arr1, barr, ff, (gxs ++ [q]), bxs, fz, pl, pa, pss, (va_up (va_up own arr1 100) q gn), (vp_updL jf 0 r.toInt64), ad, (upd2 (upd2 (upd2 (upd2 (upd2 (upd2 F 2 (upd (F 2) gn u)) 3 (upd (F 3) gn v)) 4 (upd (F 4) gn x)) 5 (upd (F 5) gn y)) 6 (upd (F 6) gn z)) 7 (upd (F 7) gn tt)), ?_, ⟨e4, m2, m3, m4, m5, gd_RG m6 e2 m10 h1, ⟨m7.1, m7.2.1, fun i b hb => RBx_more (m7.2.2 i b hb)⟩, m8, m9, fun k hk1 hk2 => m10 k (by omega) hk2⟩, fun _ => by rw [pk_uLs, h3, e3, hgn]⟩
    rw [h9]
    exact RC_out hz2 (RC_addg (d := (u, v, y, fieI x z tt, 0)) hz m7.1 h4 h5 h6 h7 h8 hC)
  · exact absurd (h1.symm.trans e1) (by decide)
  · omega
  · exact absurd (h1.symm.trans e1) (by decide)
  · exact STk_ex hC ⟨m1, m2, m3, m4, m5, m6, m7, m8, m9, m10⟩ h9 e3 (by decide)
  · exact absurd (h1.symm.trans e1) (by decide)
  · omega
  · exact absurd (h1.symm.trans e1) (by decide)
  · exact STk_ex hC ⟨m1, m2, m3, m4, m5, m6, m7, m8, m9, m10⟩ h9 e4 (by decide)
theorem op_box  (hz : wC (g.2.2 1) = none) (hC : RC g wC th out f n rb rf gd gn br mz tx ru go bo zo sg fo garr barr ff gxs bxs fz pl pa pss own jf) (hM : RM g wM mo t ad F f n rb rf gd gn br mz) (pC : (kC = 0 ∧ ∃ (r : Int32) (w2 : Nat → Option va_E), ((inL u gxs.length && isAmt v) = true ∧ bxs.length < 12 ∧ r = nI bxs.length ∧ ∃ j qg qb pl1 parr qp arr1 : Nat, u = nI j ∧ gxs[j]? = some qg ∧ wC qb = none ∧ wC pl1 = none ∧ wC parr = none ∧ wC qp = none ∧ w2 qb = some (cX pl1 (-1) (-1) (-1) 0) ∧ isL g w2 pl1 parr [qp] ∧ w2 qp = some (cP qg u v) ∧ isL g w2 bo arr1 (bxs ++ [qb]) ∧ ((arr1 = barr ∧ ∃ z, wC barr = some (.inl z)) ∨ wC arr1 = none) ∧ parr ≠ arr1 ∧ ∀ (b : Nat) (e : va_E), wC b = some e → b ≠ bo → b ≠ arr1 → w2 b = wC b) ∧ w2 (g.2.2 1) = none ∧ wC1 = va_up w2 out (some (cJ g (vp_updL jf 0 r.toInt64)))) ∨ ((kC = 1 ∧ (inL u gxs.length && isAmt v) = false ∧ wC1 = wC) ∨ (kC = 2 ∧ (inL u gxs.length && isAmt v) = true ∧ ¬ bxs.length < 12 ∧ wC1 = wC)))
    (pM : ((inL u gn && inR v 1 30000) = true ∧ br.length < 12 ∧ rM = nI br.length ∧ isM g wM1 mo ad 0 n (b2 rb) gn (br.length + 1) (upd2 (upd2 (upd2 F 14 (upd (F 14) (4 * br.length + 0) u)) 15 (upd (F 15) (4 * br.length + 0) v)) 9 (upd (F 9) br.length (nI (0 + 1))))) ∨ ((inL u gn && inR v 1 30000) = false ∧ rM = 0 ∧ isM g wM1 mo ad 1 n (b2 rb) gn br.length F) ∨ ((inL u gn && inR v 1 30000) = true ∧ br.length = 12 ∧ rM = 0 ∧ isM g wM1 mo ad 2 n (b2 rb) gn br.length F)) : STk g wC1 th out wM1 mo kC rM := by
  have hgn := hC.2.2.2.2.2.2.1.2.1
  have hbn := hC.2.2.2.2.2.2.2.2.1.2.1
  obtain ⟨m1, m2, m3, m4, m5, m6, m7, m8, m9, m10⟩ := hM
  have h16 := m6.1
  rw [hgn] at pC
  rcases pC with ⟨hk, r, w2, ⟨h1, h2, h3, j, qg, qb, pl1, parr, qp, arr1, hu, hj, a1, a2, a3, a4, a5, a6, a7, a8, a9, a10, a11⟩, hz2, h9⟩ | ⟨hk, h1, h9⟩ | ⟨hk, h1, h2, h9⟩ <;> rcases pM with ⟨e1, e2, e3, e4⟩ | ⟨e1, e2, e3⟩ | ⟨e1, e2, e3, e4⟩ <;> subst hk
  · subst hu
    have hjl : j < gxs.length := (List.getElem?_eq_some_iff.mp hj).1
    obtain ⟨z1, z2, z3⟩ := m9 br.length (Nat.le_refl _) e2
    refine ⟨f, n, rb, rf, gd, gn, br ++ [([(j, v)], -1, -1, -1, 0)], mz, tx, ru, go, bo, zo, sg, fo, garr, arr1, ff, gxs, (bxs ++ [qb]), fz, (va_up pl br.length pl1), (va_up pa br.length parr), (va_up pss br.length [qp]), (va_up (va_up (va_up (va_up own arr1 101) qb br.length) pl1 br.length) parr br.length), (vp_updL jf 0 r.toInt64), ad, (upd2 (upd2 (upd2 F 14 (upd (F 14) (4 * br.length + 0) (nI j))) 15 (upd (F 15) (4 * br.length + 0) v)) 9 (upd (F 9) br.length (nI (0 + 1)))), ?_, ⟨by rw [List.length_append]; exact e4, m2, m3, m4, m5, m6, ?_, m8, ?_, m10⟩, fun _ => by rw [pk_uLs, h3, e3, hbn]⟩
    · rw [h9]
      exact RC_out hz2 (RC_addb (p := (j, v)) hz (by omega) hj a1 a2 a3 a4 a5 a6 a7 a8 a9 a10 a11 hC)
    · refine ⟨by rw [List.length_append]; show br.length + 1 ≤ 12; omega, rfl, fun i b hb => ?_⟩
      rcases Nat.lt_or_ge i br.length with hlt | hge
      · rw [List.getElem?_append_left hlt] at hb
        obtain ⟨c1, c2, c3, c4, c5, c6⟩ := m7.2.2 i b hb
        refine ⟨c1, (pk_un (by omega)).trans c2, c3, c4, c5, fun j1 p hp => ?_⟩
        have hj1 := (List.getElem?_eq_some_iff.mp hp).1
        obtain ⟨d1, d2, d3⟩ := c6 j1 p hp
        exact ⟨d1, (pk_un (by omega)).trans d2, (pk_un (by omega)).trans d3⟩
      · rw [List.getElem?_append_right hge] at hb
        rcases Nat.lt_or_ge 0 (i - br.length) with h0 | h0
        · rw [List.getElem?_eq_none (by simp; omega)] at hb
          cases hb
        · obtain rfl : i = br.length := by omega
          rw [Nat.sub_self] at hb
          cases hb
          refine ⟨⟨by show 0 < 1; decide, by show 1 ≤ 4; decide⟩, pk_us, z2, z3, Or.inl ⟨rfl, rfl, rfl⟩, fun j1 p hp => ?_⟩
          cases j1 with
          | zero =>
            cases hp
            exact ⟨by rw [← hgn]; exact hjl, pk_us, pk_us⟩
          | succ j1 => cases hp
    · intro i hi1 hi2
      rw [List.length_append] at hi1
      have hi3 : br.length + 1 ≤ i := hi1
      obtain ⟨y1, y2, y3⟩ := m9 i (by omega) hi2
      exact ⟨(pk_un (by omega)).trans y1, y2, y3⟩
  · exact absurd (h1.symm.trans e1) (by decide)
  · omega
  · exact absurd (h1.symm.trans e1) (by decide)
  · exact STk_ex hC ⟨m1, m2, m3, m4, m5, m6, m7, m8, m9, m10⟩ h9 e3 (by decide)
  · exact absurd (h1.symm.trans e1) (by decide)
  · omega
  · exact absurd (h1.symm.trans e1) (by decide)
  · exact STk_ex hC ⟨m1, m2, m3, m4, m5, m6, m7, m8, m9, m10⟩ h9 e4 (by decide)
end OPT
