/-! ALSO, PUT, TAKE, ON BOTH SIDES -/
section OPU
variable {g : GT} {wC wC1 wM wM1 : Nat → Option va_E} {th out : Nat} {f : Nat → Int32} {n : Nat} {rb : Bool} {rf : Nat → Int32} {gd : Nat → GD} {gn : Nat} {br : List BR} {mz : Nat → Nat → Int32} {tx ru go bo zo sg fo garr barr : Nat} {ff : Nat → Int32} {gxs bxs : List Nat} {fz : Nat → Option Nat} {pl pa : Nat → Nat} {pss : Nat → List Nat} {own : Nat → Nat} {jf : Nat → Int64}
variable {mo : Nat} {t : Int32} {ad : Nat → Nat} {F : Nat → Nat → Int32} {u v x y kC rC rM : Int32}
theorem bx_of (hC : RC g wC th out f n rb rf gd gn br mz tx ru go bo zo sg fo garr barr ff gxs bxs fz pl pa pss own jf) {i qb pl1 : Nat} {bi : BX} {b : BR} (hi : bxs[i]? = some qb) (hbi : (br.map (bxOf gd))[i]? = some bi) (hb : br[i]? = some b) (hx : wC qb = some (cX pl1 bi.2.1 bi.2.2.1 bi.2.2.2.1 bi.2.2.2.2)) : bi = bxOf gd b ∧ pl1 = pl i := by
  have e1 : bi = bxOf gd b := by rw [List.getElem?_map, hb] at hbi; exact (Option.some.inj hbi).symm
  subst e1
  obtain ⟨b9, hb9, hq9⟩ := hC.2.2.2.2.2.2.2.2.2.1 i qb hi
  cases Option.some.inj (hb9.symm.trans hb)
  have z := Option.some.inj (hx.symm.trans hq9.2.1)
  simp at z
  exact ⟨rfl, z.1⟩
theorem op_take  (hz : wC (g.2.2 1) = none) (hC : RC g wC th out f n rb rf gd gn br mz tx ru go bo zo sg fo garr barr ff gxs bxs fz pl pa pss own jf) (hM : RM g wM mo t ad F f n rb rf gd gn br mz) (pC : (kC = 0 ∧ ∃ (r : Int32) (w2 : Nat → Option va_E), (inL u bxs.length = true ∧ ∃ (i qb pl1 : Nat) (bi : BX), u = nI i ∧ bxs[i]? = some qb ∧ (br.map (bxOf gd))[i]? = some bi ∧ wC qb = some (cX pl1 bi.2.1 bi.2.2.1 bi.2.2.2.1 bi.2.2.2.2) ∧ r = bi.2.1 ∧ w2 = va_up wC qb (some (cX pl1 (-1) (-1) (-1) bi.2.2.2.2))) ∧ w2 (g.2.2 1) = none ∧ wC1 = va_up w2 out (some (cJ g (vp_updL jf 0 r.toInt64)))) ∨ (kC = 1 ∧ inL u bxs.length = false ∧ wC1 = wC))
    (pM : (inL u br.length = true ∧ ∃ (i : Nat) (b : BR), u = nI i ∧ i < br.length ∧ br[i]? = some b ∧ rM = b.2.1 ∧ isM g wM1 mo ad 0 n (b2 rb) gn br.length (upd2 F 10 (upd (F 10) i (-1)))) ∨ (inL u br.length = false ∧ rM = 0 ∧ isM g wM1 mo ad 1 n (b2 rb) gn br.length F)) : STk g wC1 th out wM1 mo kC rM := by
  have hbn := hC.2.2.2.2.2.2.2.2.1.2.1
  obtain ⟨m1, m2, m3, m4, m5, m6, m7, m8, m9, m10⟩ := hM
  have h12 := m7.1
  rw [hbn] at pC
  rcases pC with ⟨hk, r, w2, ⟨h1, i, qb, pl1, bi, hu, hi, hbi, hx, hr, hw2⟩, hz2, h9⟩ | ⟨hk, h1, h9⟩ <;> rcases pM with ⟨e1, i2, b, hu2, hi2, hb, hr2, e3⟩ | ⟨e1, e2, e3⟩ <;> subst hk
  · have hil : i < bxs.length := (List.getElem?_eq_some_iff.mp hi).1
    obtain rfl : i = i2 := (nI_eq (by omega) (by omega)).mp (hu.symm.trans hu2)
    obtain ⟨rfl, rfl⟩ := bx_of hC hi hbi hb hx
    have hB := m7.2.2 i b hb
    refine ⟨f, n, rb, rf, gd, gn, br.set i (b.1, -1, -1, -1, b.2.2.2.2), mz, tx, ru, go, bo, zo, sg, fo, garr, barr, ff, gxs, bxs, fz, pl, pa, pss, own, (vp_updL jf 0 r.toInt64), ad, (upd2 F 10 (upd (F 10) i (-1))), ?_, ⟨?_, m2, m3, m4, m5, m6, RBs_set (b1 := (b.1, -1, -1, -1, b.2.2.2.2)) (by rw [set_len]; exact m7) hb ?_ ?_, m8, ?_, m10⟩, fun _ => by rw [pk_uLs, hr, hr2]; rfl⟩
    · rw [h9]
      refine RC_out (jf := jf) hz2 ?_
      rw [hw2]
      exact RC_box hz hi hb hC
    · rw [set_len]
      exact e3
    · obtain ⟨a1, a2, a3, a4, a5, a6⟩ := hB
      exact ⟨a1, a2, pk_us, a4, Or.inl ⟨rfl, rfl, rfl⟩, a6⟩
    · intro k c hk hBk
      obtain ⟨a1, a2, a3, a4, a5, a6⟩ := hBk
      exact ⟨a1, a2, (pk_un hk).trans a3, a4, a5, a6⟩
    · intro k hk1 hk2
      rw [set_len] at hk1
      obtain ⟨a1, a2, a3⟩ := m9 k hk1 hk2
      exact ⟨a1, (pk_un (by omega)).trans a2, a3⟩
  · exact absurd (h1.symm.trans e1) (by decide)
  · exact absurd (e1.symm.trans h1) (by decide)
  · exact STk_ex hC ⟨m1, m2, m3, m4, m5, m6, m7, m8, m9, m10⟩ h9 e3 (by decide)
theorem op_put  (hz : wC (g.2.2 1) = none) (hC : RC g wC th out f n rb rf gd gn br mz tx ru go bo zo sg fo garr barr ff gxs bxs fz pl pa pss own jf) (hM : RM g wM mo t ad F f n rb rf gd gn br mz) (pC : (kC = 0 ∧ ∃ (r : Int32) (w2 : Nat → Option va_E), ((isZn u && inL v bxs.length && isSl x y) = true ∧ ∃ (zi i qb pl1 : Nat) (bi : BX), u = nI zi ∧ zi < 4 ∧ v = nI i ∧ bxs[i]? = some qb ∧ (br.map (bxOf gd))[i]? = some bi ∧ wC qb = some (cX pl1 bi.2.1 bi.2.2.1 bi.2.2.2.1 bi.2.2.2.2) ∧ bi.2.1 = -1 ∧ r = fbB rf (mz zi) (br.map (bxOf gd)) bi u x y ∧ ((r = 0 ∧ w2 = va_up wC qb (some (cX pl1 u x y bi.2.2.2.2))) ∨ (¬ r = 0 ∧ w2 = wC))) ∧ w2 (g.2.2 1) = none ∧ wC1 = va_up w2 out (some (cJ g (vp_updL jf 0 r.toInt64)))) ∨ ((kC = 1 ∧ (isZn u && inL v bxs.length && isSl x y) = false ∧ wC1 = wC) ∨ (kC = 2 ∧ (isZn u && inL v bxs.length && isSl x y) = true ∧ (∃ (i : Nat) (bi : BX), v = nI i ∧ (br.map (bxOf gd))[i]? = some bi ∧ ¬ bi.2.1 = -1) ∧ wC1 = wC)))
    (pM : ((isZn u && inL v br.length && isSl x y) = true ∧ ∃ (zi i : Nat) (b : BR), u = nI zi ∧ zi < 4 ∧ v = nI i ∧ i < br.length ∧ br[i]? = some b ∧ b.2.1 = -1 ∧ rM = fbB rf (mz zi) (br.map (bxOf gd)) (bxOf gd b) u x y ∧ ((rM = 0 ∧ isM g wM1 mo ad 0 n (b2 rb) gn br.length (upd2 (upd2 (upd2 F 10 (upd (F 10) i u)) 11 (upd (F 11) i x)) 12 (upd (F 12) i y))) ∨ (¬ rM = 0 ∧ isM g wM1 mo ad 0 n (b2 rb) gn br.length F))) ∨ ((isZn u && inL v br.length && isSl x y) = false ∧ rM = 0 ∧ isM g wM1 mo ad 1 n (b2 rb) gn br.length F) ∨ ((isZn u && inL v br.length && isSl x y) = true ∧ ∃ (i : Nat) (b : BR), v = nI i ∧ i < br.length ∧ br[i]? = some b ∧ ¬ b.2.1 = -1 ∧ rM = 0 ∧ isM g wM1 mo ad 2 n (b2 rb) gn br.length F)) : STk g wC1 th out wM1 mo kC rM := by
  have hbn := hC.2.2.2.2.2.2.2.2.1.2.1
  obtain ⟨m1, m2, m3, m4, m5, m6, m7, m8, m9, m10⟩ := hM
  have h12 := m7.1
  rw [hbn] at pC
  rcases pC with ⟨hk, r, w2, ⟨h1, zi, i, qb, pl1, bi, hu, hzi, hv, hi, hbi, hx, hlie, hr, hw2⟩, hz2, h9⟩ | ⟨hk, h1, h9⟩ | ⟨hk, h1, ⟨i, bi, hv, hbi, hlie⟩, h9⟩ <;> rcases pM with ⟨e1, z2, i2, b, hu2, hzi2, hv2, hi2, hb, hlie2, hr2, e3⟩ | ⟨e1, e2, e3⟩ | ⟨e1, i2, b, hv2, hi2, hb, hlie2, hr2, e3⟩ <;> subst hk
  · have hil : i < bxs.length := (List.getElem?_eq_some_iff.mp hi).1
    obtain rfl : zi = z2 := (nI_eq (by omega) (by omega)).mp (hu.symm.trans hu2)
    obtain rfl : i = i2 := (nI_eq (by omega) (by omega)).mp (hv.symm.trans hv2)
    obtain ⟨rfl, rfl⟩ := bx_of hC hi hbi hb hx
    have hB := m7.2.2 i b hb
    have hrr : r = rM := hr.trans hr2.symm
    rcases hw2 with ⟨q1, q2⟩ | ⟨q1, q2⟩ <;> rcases e3 with ⟨q3, q4⟩ | ⟨q3, q4⟩
    · refine ⟨f, n, rb, rf, gd, gn, br.set i (b.1, u, x, y, b.2.2.2.2), mz, tx, ru, go, bo, zo, sg, fo, garr, barr, ff, gxs, bxs, fz, pl, pa, pss, own, (vp_updL jf 0 r.toInt64), ad, (upd2 (upd2 (upd2 F 10 (upd (F 10) i u)) 11 (upd (F 11) i x)) 12 (upd (F 12) i y)), ?_, ⟨?_, m2, m3, m4, m5, m6, RBs_set (b1 := (b.1, u, x, y, b.2.2.2.2)) (by rw [set_len]; exact m7) hb ?_ ?_, m8, ?_, m10⟩, fun _ => by rw [pk_uLs, hrr]⟩
      · rw [h9]
        refine RC_out (jf := jf) hz2 ?_
        rw [q2]
        exact RC_box hz hi hb hC
      · rw [set_len]
        exact q4
      · obtain ⟨a1, a2, a3, a4, a5, a6⟩ := hB
        rw [Bool.and_eq_true, Bool.and_eq_true] at h1
        exact ⟨a1, a2, pk_us, a4, Or.inr ⟨h1.1.1, pk_us, pk_us, h1.2⟩, a6⟩
      · intro k c hk hBk
        obtain ⟨a1, a2, a3, a4, a5, a6⟩ := hBk
        exact ⟨a1, a2, (pk_un hk).trans a3, a4, a5.imp id (fun h => ⟨h.1, (pk_un hk).trans h.2.1, (pk_un hk).trans h.2.2.1, h.2.2.2⟩), a6⟩
      · intro k hk1 hk2
        rw [set_len] at hk1
        obtain ⟨a1, a2, a3⟩ := m9 k hk1 hk2
        exact ⟨a1, (pk_un (by omega)).trans a2, a3⟩
    · exact absurd (hrr ▸ q1) q3
    · exact absurd (hrr.symm ▸ q3) q1
    · subst q2
      exact STk_ok hz hC ⟨m1, m2, m3, m4, m5, m6, m7, m8, m9, m10⟩ h9 q4 hrr
  · exact absurd (h1.symm.trans e1) (by decide)
  ·
    have hil := (List.getElem?_eq_some_iff.mp hbi).1
    rw [List.length_map] at hil
    obtain rfl : i = i2 := (nI_eq (by omega) (by omega)).mp (hv.symm.trans hv2)
    obtain rfl : bi = bxOf gd b := by rw [List.getElem?_map, hb] at hbi; exact (Option.some.inj hbi).symm
    exact absurd hlie hlie2
  · exact absurd (h1.symm.trans e1) (by decide)
  · exact STk_ex hC ⟨m1, m2, m3, m4, m5, m6, m7, m8, m9, m10⟩ h9 e3 (by decide)
  · exact absurd (h1.symm.trans e1) (by decide)
  ·
    have hil := (List.getElem?_eq_some_iff.mp hbi).1
    rw [List.length_map] at hil
    obtain rfl : i = i2 := (nI_eq (by omega) (by omega)).mp (hv.symm.trans hv2)
    obtain rfl : bi = bxOf gd b := by rw [List.getElem?_map, hb] at hbi; exact (Option.some.inj hbi).symm
    exact absurd hlie2 hlie
  · exact absurd (h1.symm.trans e1) (by decide)
  · exact STk_ex hC ⟨m1, m2, m3, m4, m5, m6, m7, m8, m9, m10⟩ h9 e3 (by decide)
theorem op_also  (hz : wC (g.2.2 1) = none) (hC : RC g wC th out f n rb rf gd gn br mz tx ru go bo zo sg fo garr barr ff gxs bxs fz pl pa pss own jf) (hM : RM g wM mo t ad F f n rb rf gd gn br mz) (pC : (kC = 0 ∧ ∃ (r : Int32) (w2 : Nat → Option va_E), ((inL u bxs.length && inL v gxs.length && isAmt x) = true ∧ ∃ (i j qb qg : Nat) (bi : BX) (q arr1 : Nat), u = nI i ∧ v = nI j ∧ bxs[i]? = some qb ∧ (br.map (bxOf gd))[i]? = some bi ∧ gxs[j]? = some qg ∧ wC qb = some (cX (pl i) bi.2.1 bi.2.2.1 bi.2.2.2.1 bi.2.2.2.2) ∧ isL g wC (pl i) (pa i) (pss i) ∧ isPs wC (pss i) bi.1 ∧ hsB bi.1 v = false ∧ bi.2.1 = -1 ∧ bi.1.length < 4 ∧ r = nI (bi.1.length + 1) ∧ wC q = none ∧ isL g w2 (pl i) arr1 (pss i ++ [q]) ∧ w2 q = some (cP qg v x) ∧ ((arr1 = pa i ∧ ∃ z, wC (pa i) = some (.inl z)) ∨ wC arr1 = none) ∧ ∀ (b : Nat) (e : va_E), wC b = some e → b ≠ pl i → b ≠ arr1 → w2 b = wC b) ∧ w2 (g.2.2 1) = none ∧ wC1 = va_up w2 out (some (cJ g (vp_updL jf 0 r.toInt64)))) ∨ ((kC = 1 ∧ ((inL u bxs.length && inL v gxs.length && isAmt x) = false ∨ ((inL u bxs.length && inL v gxs.length && isAmt x) = true ∧ ∃ (i : Nat) (bi : BX), u = nI i ∧ (br.map (bxOf gd))[i]? = some bi ∧ hsB bi.1 v = true)) ∧ wC1 = wC) ∨ (kC = 2 ∧ (inL u bxs.length && inL v gxs.length && isAmt x) = true ∧ (∃ (i : Nat) (bi : BX), u = nI i ∧ (br.map (bxOf gd))[i]? = some bi ∧ hsB bi.1 v = false ∧ (¬ bi.2.1 = -1 ∨ ¬ bi.1.length < 4)) ∧ wC1 = wC)))
    (pM : ((inL u br.length && inL v gn && inR x 1 30000) = true ∧ ∃ (i : Nat) (b : BR), u = nI i ∧ i < br.length ∧ br[i]? = some b ∧ hsB (b.1.map (prOf gd)) v = false ∧ b.2.1 = -1 ∧ b.1.length < 4 ∧ rM = nI (b.1.length + 1) ∧ isM g wM1 mo ad 0 n (b2 rb) gn br.length (upd2 (upd2 (upd2 F 14 (upd (F 14) (4 * i + b.1.length) v)) 15 (upd (F 15) (4 * i + b.1.length) x)) 9 (upd (F 9) i (nI (b.1.length + 1))))) ∨ (((inL u br.length && inL v gn && inR x 1 30000) = false ∨ ((inL u br.length && inL v gn && inR x 1 30000) = true ∧ ∃ (i : Nat) (b : BR), u = nI i ∧ i < br.length ∧ br[i]? = some b ∧ hsB (b.1.map (prOf gd)) v = true)) ∧ rM = 0 ∧ isM g wM1 mo ad 1 n (b2 rb) gn br.length F) ∨ ((inL u br.length && inL v gn && inR x 1 30000) = true ∧ ∃ (i : Nat) (b : BR), u = nI i ∧ i < br.length ∧ br[i]? = some b ∧ hsB (b.1.map (prOf gd)) v = false ∧ (¬ b.2.1 = -1 ∨ ¬ b.1.length < 4) ∧ rM = 0 ∧ isM g wM1 mo ad 2 n (b2 rb) gn br.length F)) : STk g wC1 th out wM1 mo kC rM := by
  have hgn := hC.2.2.2.2.2.2.1.2.1
  have hbn := hC.2.2.2.2.2.2.2.2.1.2.1
  obtain ⟨m1, m2, m3, m4, m5, m6, m7, m8, m9, m10⟩ := hM
  have h12 := m7.1
  have h16 := m6.1
  rw [hbn, hgn] at pC
  have hlm : ∀ b : BR, (bxOf gd b).1.length = b.1.length := fun b => List.length_map _
  rcases pC with ⟨hk, r, w2, ⟨h1, i, j, qb, qg, bi, q, arr1, hu, hv, hi, hbi, hj, hx, hL, hP, hs, hlie, hl4, hr, a1, a2, a3, a4, a5⟩, hz2, h9⟩ | ⟨hk, h1, h9⟩ | ⟨hk, h1, ⟨i, bi, hu, hbi, hs, hwhy⟩, h9⟩ <;> rcases pM with ⟨e1, i2, b, hu2, hi2, hb, hs2, hlie2, hl42, hr2, e3⟩ | ⟨e1, e2, e3⟩ | ⟨e1, i2, b, hu2, hi2, hb, hs2, hwhy2, hr2, e3⟩ <;> subst hk
  ·
    have hil := (List.getElem?_eq_some_iff.mp hbi).1
    rw [List.length_map] at hil
    obtain rfl : i = i2 := (nI_eq (by omega) (by omega)).mp (hu.symm.trans hu2)
    obtain rfl : bi = bxOf gd b := by rw [List.getElem?_map, hb] at hbi; exact (Option.some.inj hbi).symm
    have hjl : j < gxs.length := (List.getElem?_eq_some_iff.mp hj).1
    have hB := m7.2.2 i b hb
    subst hv
    refine ⟨f, n, rb, rf, gd, gn, br.set i (b.1 ++ [(j, x)], b.2), mz, tx, ru, go, bo, zo, sg, fo, garr, barr, ff, gxs, bxs, fz, pl, (va_up pa i arr1), (va_up pss i (pss i ++ [q])), (va_up own arr1 i), (vp_updL jf 0 r.toInt64), ad, (upd2 (upd2 (upd2 F 14 (upd (F 14) (4 * i + b.1.length) (nI j))) 15 (upd (F 15) (4 * i + b.1.length) x)) 9 (upd (F 9) i (nI (b.1.length + 1)))), ?_, ⟨?_, m2, m3, m4, m5, m6, RBs_set (b1 := (b.1 ++ [(j, x)], b.2)) (by rw [set_len]; exact m7) hb ?_ ?_, m8, ?_, m10⟩, fun _ => by rw [pk_uLs, hr, hr2, hlm]⟩
    · rw [h9]
      exact RC_out hz2 (RC_adda (p := (j, x)) hz h12 hi hb hj a1 a2 a3 a4 a5 hC)
    · rw [set_len]
      exact e3
    · obtain ⟨c1, c2, c3, c4, c5, c6⟩ := hB
      refine ⟨⟨by rw [List.length_append]; show 0 < b.1.length + 1; omega, by rw [List.length_append]; show b.1.length + 1 ≤ 4; omega⟩, by rw [List.length_append]; exact pk_us, c3, c4, c5, fun j1 p hp => ?_⟩
      rcases Nat.lt_or_ge j1 b.1.length with hlt | hge
      · rw [List.getElem?_append_left hlt] at hp
        obtain ⟨d1, d2, d3⟩ := c6 j1 p hp
        exact ⟨d1, (pk_un (by omega)).trans d2, (pk_un (by omega)).trans d3⟩
      · rw [List.getElem?_append_right hge] at hp
        rcases Nat.lt_or_ge 0 (j1 - b.1.length) with h0 | h0
        · rw [List.getElem?_eq_none (by simp; omega)] at hp
          cases hp
        · obtain rfl : j1 = b.1.length := by omega
          rw [Nat.sub_self] at hp
          cases hp
          exact ⟨by rw [← hgn]; exact hjl, pk_us, pk_us⟩
    · intro k c hk hBk
      obtain ⟨c1, c2, c3, c4, c5, c6⟩ := hBk
      refine ⟨c1, (pk_un hk).trans c2, c3, c4, c5, fun j1 p hp => ?_⟩
      have hj1 := (List.getElem?_eq_some_iff.mp hp).1
      obtain ⟨d1, d2, d3⟩ := c6 j1 p hp
      exact ⟨d1, (pk_un (by omega)).trans d2, (pk_un (by omega)).trans d3⟩
    · intro k hk1 hk2
      rw [set_len] at hk1
      obtain ⟨y1, y2, y3⟩ := m9 k hk1 hk2
      exact ⟨(pk_un (by omega)).trans y1, y2, y3⟩
  · rcases e1 with e1 | ⟨e1, i2, b, hu2, hi2, hb, hs2⟩
    · exact absurd (h1.symm.trans e1) (by decide)
    ·
      have hil := (List.getElem?_eq_some_iff.mp hbi).1
      rw [List.length_map] at hil
      obtain rfl : i = i2 := (nI_eq (by omega) (by omega)).mp (hu.symm.trans hu2)
      obtain rfl : bi = bxOf gd b := by rw [List.getElem?_map, hb] at hbi; exact (Option.some.inj hbi).symm
      exact absurd (hs.symm.trans hs2) (by decide)
  ·
    have hil := (List.getElem?_eq_some_iff.mp hbi).1
    rw [List.length_map] at hil
    obtain rfl : i = i2 := (nI_eq (by omega) (by omega)).mp (hu.symm.trans hu2)
    obtain rfl : bi = bxOf gd b := by rw [List.getElem?_map, hb] at hbi; exact (Option.some.inj hbi).symm
    exact absurd hwhy2 (by rw [hlm] at hl4; rintro (z | z); exact z hlie; exact z hl4)
  · rcases h1 with h1 | ⟨h1, i, bi, hu, hbi, hs⟩
    · exact absurd (h1.symm.trans e1) (by decide)
    ·
      have hil := (List.getElem?_eq_some_iff.mp hbi).1
      rw [List.length_map] at hil
      obtain rfl : i = i2 := (nI_eq (by omega) (by omega)).mp (hu.symm.trans hu2)
      obtain rfl : bi = bxOf gd b := by rw [List.getElem?_map, hb] at hbi; exact (Option.some.inj hbi).symm
      exact absurd (hs.symm.trans hs2) (by decide)
  · exact STk_ex hC ⟨m1, m2, m3, m4, m5, m6, m7, m8, m9, m10⟩ h9 e3 (by decide)
  · rcases h1 with h1 | ⟨h1, i, bi, hu, hbi, hs⟩
    · exact absurd (h1.symm.trans e1) (by decide)
    ·
      have hil := (List.getElem?_eq_some_iff.mp hbi).1
      rw [List.length_map] at hil
      obtain rfl : i = i2 := (nI_eq (by omega) (by omega)).mp (hu.symm.trans hu2)
      obtain rfl : bi = bxOf gd b := by rw [List.getElem?_map, hb] at hbi; exact (Option.some.inj hbi).symm
      exact absurd (hs.symm.trans hs2) (by decide)
  ·
    have hil := (List.getElem?_eq_some_iff.mp hbi).1
    rw [List.length_map] at hil
    obtain rfl : i = i2 := (nI_eq (by omega) (by omega)).mp (hu.symm.trans hu2)
    obtain rfl : bi = bxOf gd b := by rw [List.getElem?_map, hb] at hbi; exact (Option.some.inj hbi).symm
    exact absurd hwhy (by rw [hlm]; rintro (z | z); exact z hlie2; exact z hl42)
  · rcases e1 with e1 | ⟨e1, i2, b, hu2, hi2, hb, hs2⟩
    · exact absurd (h1.symm.trans e1) (by decide)
    ·
      have hil := (List.getElem?_eq_some_iff.mp hbi).1
      rw [List.length_map] at hil
      obtain rfl : i = i2 := (nI_eq (by omega) (by omega)).mp (hu.symm.trans hu2)
      obtain rfl : bi = bxOf gd b := by rw [List.getElem?_map, hb] at hbi; exact (Option.some.inj hbi).symm
      exact absurd (hs.symm.trans hs2) (by decide)
  · exact STk_ex hC ⟨m1, m2, m3, m4, m5, m6, m7, m8, m9, m10⟩ h9 e3 (by decide)
end OPU
