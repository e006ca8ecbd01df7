/-! ONE CALL ON BOTH SIDES -/
/-- behind a call: what was thrown is k, and if nothing was, the law's cell holds the answer r -/
def STk (g : GT) (wC : Nat → Option va_E) (th out : Nat) (wM : Nat → Option va_E) (mo : Nat) (k r : Int32) : Prop := ∃ (f : Nat → Int32) (n : Nat) (rb : Bool) (rf : Nat → Int32) (gd : Nat → GD) (gn : Nat) (br : List BR) (mz : Nat → Nat → Int32) (tx ru go bo zo sg fo garr barr : Nat) (ff : Nat → Int32) (gxs bxs : List Nat) (fz : Nat → Option Nat) (pl pa : Nat → Nat) (pss : Nat → List Nat) (own : Nat → Nat) (jf : Nat → Int64) (ad : Nat → Nat) (F : Nat → Nat → Int32), RC g wC th out f n rb rf gd gn br mz tx ru go bo zo sg fo garr barr ff gxs bxs fz pl pa pss own jf ∧ RM g wM mo k ad F f n rb rf gd gn br mz ∧ (k = 0 → jf 0 = r.toInt64)
theorem STk.st {g : GT} {wC : Nat → Option va_E} {th out : Nat} {wM : Nat → Option va_E} {mo : Nat} {k r : Int32} (h : STk g wC th out wM mo k r) : ST g wC th out wM mo := by
  obtain ⟨f, n, rb, rf, gd, gn, br, mz, tx, ru, go, bo, zo, sg, fo, garr, barr, ff, gxs, bxs, fz, pl, pa, pss, own, jf, ad, F, hC, hM, -⟩ := h
  exact ⟨f, n, rb, rf, gd, gn, br, mz, ⟨tx, ru, go, bo, zo, sg, fo, garr, barr, ff, gxs, bxs, fz, pl, pa, pss, own, jf, hC⟩, ⟨k, ad, F, hM⟩⟩
theorem hz_up {g : GT} {w : Nat → Option va_E} {x : Nat} {e0 : va_E} {e1 : Option va_E} (hz : w (g.2.2 1) = none) (hx : w x = some e0) : va_up w x e1 (g.2.2 1) = none := by
  rw [va_up_ne _ _ (fun e => by rw [e, hx] at hz; cases hz)]
  exact hz
section OPS
variable {g : GT} {wC wC1 wM wM1 : Nat → Option va_E} {th out : Nat} {f : Nat → Int32} {n : Nat} {rb : Bool} {rf : Nat → Int32} {gd : Nat → GD} {gn : Nat} {br : List BR} {mz : Nat → Nat → Int32} {tx ru go bo zo sg fo garr barr : Nat} {ff : Nat → Int32} {gxs bxs : List Nat} {fz : Nat → Option Nat} {pl pa : Nat → Nat} {pss : Nat → List Nat} {own : Nat → Nat} {jf : Nat → Int64}
variable {mo : Nat} {t : Int32} {ad : Nat → Nat} {F : Nat → Nat → Int32} {u v x y rC rM : Int32}
theorem RM.again (h : RM g wM mo t ad F f n rb rf gd gn br mz) {t1 : Int32} (hM : isM g wM1 mo ad t1 n (b2 rb) gn br.length F) : RM g wM1 mo t1 ad F f n rb rf gd gn br mz := ⟨hM, h.2⟩
theorem op_sign (hz : wC (g.2.2 1) = none) (hC : RC g wC th out f n rb rf gd gn br mz tx ru go bo zo sg fo garr barr ff gxs bxs fz pl pa pss own jf) (hM : RM g wM mo t ad F f n rb rf gd gn br mz) (pC : (okS v = true ∧ n < 300 ∧ rC = 1 ∧ wC1 = va_up (va_up wC sg (some (cA g 300 (upd f n v)))) tx (some (cU sg (nI (n + 1)) fo))) ∨ ((okS v = false ∨ n = 300) ∧ rC = 0 ∧ wC1 = wC)) (pM : (okS v = true ∧ n < 300 ∧ rM = 1 ∧ isM g wM1 mo ad 0 (n + 1) (b2 rb) gn br.length (upd2 F 0 (upd (F 0) n v))) ∨ ((okS v = false ∨ n = 300) ∧ rM = 0 ∧ isM g wM1 mo ad 0 n (b2 rb) gn br.length F)) : rC = rM ∧ ST g wC1 th out wM1 mo := by
  rcases pC with ⟨h1, h2, h3, h4⟩ | ⟨h1, h3, h4⟩ <;> rcases pM with ⟨e1, e2, e3, e4⟩ | ⟨e1, e3, e4⟩
  · refine ⟨h3.trans e3.symm, upd f n v, n + 1, rb, rf, gd, gn, br, mz, ⟨tx, ru, go, bo, zo, sg, fo, garr, barr, ff, gxs, bxs, fz, pl, pa, pss, own, jf, ?_⟩, 0, ad, upd2 F 0 (upd (F 0) n v), ?_⟩
    · rw [h4]
      exact RC_tx (hz_up hz hC.2.2.1) (RC_sg hz hC)
    · obtain ⟨m1, m2, m3, m4, m5, m6, m7, m8, m9, m10⟩ := hM
      refine ⟨e4, fun j hj => ?_, by omega, m4, m5, m6, m7, m8, m9, m10⟩
      show upd (F 0) n v j = _
      exact lt2 (P := fun j => upd (F 0) n v j = upd f n v j) hj (by rw [pk_us, pk_us]) (fun h => by rw [pk_un (by omega), pk_un (by omega)]; exact m2 j h)
  · exact absurd e1 (by rw [h1]; rintro (z | z); cases z; omega)
  · exact absurd h1 (by rw [e1]; rintro (z | z); cases z; omega)
  · subst h4
    exact ⟨h3.trans e3.symm, f, n, rb, rf, gd, gn, br, mz, ⟨tx, ru, go, bo, zo, sg, fo, garr, barr, ff, gxs, bxs, fz, pl, pa, pss, own, jf, hC⟩, 0, ad, F, hM.again e4⟩
theorem op_read (hz : wC (g.2.2 1) = none) (hC : RC g wC th out f n rb rf gd gn br mz tx ru go bo zo sg fo garr barr ff gxs bxs fz pl pa pss own jf) (hM : RM g wM mo t ad F f n rb rf gd gn br mz) (pC : (¬ WR f n = -1 ∧ rC = -1 - WR f n ∧ ∃ ff1 : Nat → Int32, wC1 = va_up (va_up wC fo (some (cA g 45 ff1))) tx (some (cU sg 0 fo))) ∨ (WR f n = -1 ∧ rC = 45 ∧ n = 180 ∧ (∀ t : Nat, t < 180 → okPl f t = true) ∧ ∃ ff1 : Nat → Int32, (∀ j : Nat, j < 45 → ff1 j = tabAt f 45 j) ∧ wC1 = va_up (va_up (va_up (va_up wC fo (some (cA g 45 ff1))) tx (some (cU sg 0 fo))) ru (some (cA g 45 (va_cpy ff1 rf 0 0 45)))) th (some (cT tx ru 1 go bo zo))))
    (pM : (¬ WR (F 0) n = -1 ∧ rM = -1 - WR (F 0) n ∧ ∃ f2 : Nat → Int32, (∀ j : Nat, j < 81 → f2 j = F 1 j) ∧ isM g wM1 mo ad 0 0 (b2 rb) gn br.length (upd2 F 1 f2)) ∨ (WR (F 0) n = -1 ∧ rM = 45 ∧ ∃ f2 : Nat → Int32, (∀ i j : Nat, i < 9 → j < 9 → f2 (9 * i + j) = tabAt (F 0) 45 (prI (nI (i + 1)) (nI (j + 1))).toNatClampNeg) ∧ isM g wM1 mo ad 0 0 1 gn br.length (upd2 F 1 f2))) : rC = rM ∧ ST g wC1 th out wM1 mo := by
  obtain ⟨m1, m2, m3, m4, m5, m6, m7, m8, m9, m10⟩ := hM
  have hW : WR (F 0) n = WR f n := WR_cg m2
  have hfo := hC.2.2.2.1
  have htx := hC.2.1
  have hru := hC.2.2.2.2.1
  have hth := hC.1
  have hne := hC.2.2.2.2.2.1
  rcases pC with ⟨h1, h2, ff1, h4⟩ | ⟨h1, h2, h3, hok, ff1, hff, h4⟩ <;> rcases pM with ⟨e1, e2, f2, e3, e4⟩ | ⟨e1, e2, f2, e3, e4⟩
  · refine ⟨by rw [h2, e2, hW], f, 0, rb, rf, gd, gn, br, mz, ⟨tx, ru, go, bo, zo, sg, fo, garr, barr, ff1, gxs, bxs, fz, pl, pa, pss, own, jf, ?_⟩, 0, ad, _, e4, fun j hj => absurd hj (Nat.not_lt_zero _), Nat.zero_le _, m4, ?_, m6, m7, m8, m9, m10⟩
    · rw [h4]
      exact RC_tx (n1 := 0) (hz_up hz hfo) (RC_fo hz hC)
    · intro i j hi hj
      show f2 (9 * i + j) = _
      rw [e3 _ (by omega)]
      exact m5 i j hi hj
  · exact absurd (hW ▸ e1) h1
  · exact absurd (hW.symm ▸ h1) e1
  · have hrf : ∀ j : Nat, j < 45 → va_cpy ff1 rf 0 0 45 j = tabAt f 45 j := fun j hj => by rw [pk_cpy_in (Nat.zero_le _) (by omega), Nat.sub_zero, Nat.zero_add]; exact hff j hj
    refine ⟨h2.trans e2.symm, f, 0, true, va_cpy ff1 rf 0 0 45, gd, gn, br, mz, ⟨tx, ru, go, bo, zo, sg, fo, garr, barr, ff1, gxs, bxs, fz, pl, pa, pss, own, jf, ?_⟩, 0, ad, _, e4, fun j hj => absurd hj (Nat.not_lt_zero _), Nat.zero_le _, okR_45 hok hrf, ?_, m6, m7, m8, m9, m10⟩
    · rw [h4]
      have a1 := RC_fo (ff1 := ff1) hz hC
      have z1 := hz_up (e1 := some (cA g 45 ff1)) hz hfo
      have a2 := RC_tx (n1 := 0) z1 a1
      have z2 := hz_up (e1 := some (cU sg (nI 0) fo)) z1 a1.2.1
      have a3 := RC_ru (rf1 := va_cpy ff1 rf 0 0 45) z2 a2
      have z3 := hz_up (e1 := some (cA g 45 (va_cpy ff1 rf 0 0 45))) z2 a2.2.2.2.2.1
      exact RC_th (rb1 := true) z3 a3
    · intro i j hi hj
      show f2 (9 * i + j) = _
      rw [e3 i j hi hj, pzN_eq i hi j hj, hrf _ (pzN_lt i hi j hj), tab_cg 45 (fun j hj => m2 j (by omega))]
theorem op_count (hC : RC g wC th out f n rb rf gd gn br mz tx ru go bo zo sg fo garr barr ff gxs bxs fz pl pa pss own jf) (hM : RM g wM mo t ad F f n rb rf gd gn br mz) (pC : rC = ctI n gxs.length bxs.length (lyB (br.map (bxOf gd))) (b2 rb) v) (pM : rM = ctI n gn br.length (lyB (br.map (bxOf gd))) (b2 rb) v ∧ isM g wM1 mo ad 0 n (b2 rb) gn br.length F) : rC = rM ∧ ST g wC th out wM1 mo := by
  refine ⟨?_, f, n, rb, rf, gd, gn, br, mz, ⟨tx, ru, go, bo, zo, sg, fo, garr, barr, ff, gxs, bxs, fz, pl, pa, pss, own, jf, hC⟩, 0, ad, F, hM.again pM.2⟩
  rw [pC, pM.1, hC.2.2.2.2.2.2.1.2.1, hC.2.2.2.2.2.2.2.2.1.2.1]
theorem ex_RG {gd : Nat → GD} {gn n1 a b : Nat} {F : Nat → Nat → Int32} (h : RG gd gn F) (hn : n1 < gn) (ha : a < 9) (hb : b < 9) : RG (va_up gd n1 ((gd n1).1, (gd n1).2.1, (gd n1).2.2.1, (gd n1).2.2.2.1, exAdd (gd n1).2.2.2.2 (prI (nI (a + 1)) (nI (b + 1))))) gn (upd2 (upd2 F 8 (upd (F 8) (81 * n1 + (9 * a + b)) 1)) 8 (upd (upd (F 8) (81 * n1 + (9 * a + b)) 1) (81 * n1 + (9 * b + a)) 1)) := by
  refine ⟨h.1, fun k hk => ?_⟩
  obtain ⟨h1, h2, h3, h4, h5, h6, h7⟩ := h.2 k hk
  by_cases hkn : k = n1
  · subst hkn
    rw [va_up_self]
    refine ⟨h1, h2, h3, h4, h5, h6, fun i j hi hj => ?_⟩
    show upd (upd (F 8) _ 1) _ 1 (81 * k + (9 * i + j)) = _
    rw [prI_nat a ha b hb, prI_nat i hi j hj, isEx_add _ (pzN_lt a ha b hb) (pzN_lt i hi j hj)]
    have h8 := h7 i j hi hj
    rw [prI_nat i hi j hj] at h8
    by_cases e1 : i = b ∧ j = a
    · obtain ⟨rfl, rfl⟩ := e1
      rw [pk_us, decide_eq_true (pzN_sym i hi j hj), Bool.or_true]
      rfl
    · rw [pk_un (by omega)]
      by_cases e2 : i = a ∧ j = b
      · obtain ⟨rfl, rfl⟩ := e2
        rw [pk_us, decide_eq_true rfl, Bool.or_true]
        rfl
      · rw [pk_un (by omega), h8, decide_eq_false (fun z => (pzN_inj i hi j hj a ha b hb z).elim e2 e1), Bool.or_false]
  · rw [va_up_ne _ _ hkn]
    refine ⟨h1, h2, h3, h4, h5, h6, fun i j hi hj => ?_⟩
    show upd (upd (F 8) _ 1) _ 1 (81 * k + (9 * i + j)) = _
    rw [pk_un (by omega), pk_un (by omega)]
    exact h7 i j hi hj
theorem op_exempt (hz : wC (g.2.2 1) = none) (hC : RC g wC th out f n rb rf gd gn br mz tx ru go bo zo sg fo garr barr ff gxs bxs fz pl pa pss own jf) (hM : RM g wM mo t ad F f n rb rf gd gn br mz) (pC : ((inL u gxs.length && isCls x && isCls y) = false ∧ rC = 0 ∧ wC1 = wC) ∨ ((inL u gxs.length && isCls x && isCls y) = true ∧ ∃ i qg : Nat, u = nI i ∧ gxs[i]? = some qg ∧ ((isEx (gd i).2.2.2.2 (prI x y) = true ∧ rC = 0 ∧ wC1 = wC) ∨ (isEx (gd i).2.2.2.2 (prI x y) = false ∧ rC = 1 ∧ wC1 = va_up wC qg (some (cG (gd i).1 (gd i).2.1 (gd i).2.2.1 (gd i).2.2.2.1 (exAdd (gd i).2.2.2.2 (prI x y))))))))
    (pM : ((inL u gn && isCls x && isCls y) = false ∧ rM = 0 ∧ isM g wM1 mo ad 0 n (b2 rb) gn br.length F) ∨ ((inL u gn && isCls x && isCls y) = true ∧ ∃ n1 a b : Nat, u = nI n1 ∧ n1 < gn ∧ x = nI (a + 1) ∧ a < 9 ∧ y = nI (b + 1) ∧ b < 9 ∧ ((isEx (gd n1).2.2.2.2 (prI x y) = true ∧ rM = 0 ∧ isM g wM1 mo ad 0 n (b2 rb) gn br.length F) ∨ (isEx (gd n1).2.2.2.2 (prI x y) = false ∧ rM = 1 ∧ isM g wM1 mo ad 0 n (b2 rb) gn br.length (upd2 (upd2 F 8 (upd (F 8) (81 * n1 + (9 * a + b)) 1)) 8 (upd (upd (F 8) (81 * n1 + (9 * a + b)) 1) (81 * n1 + (9 * b + a)) 1)))))) : rC = rM ∧ ST g wC1 th out wM1 mo := by
  have hgn := hC.2.2.2.2.2.2.1.2.1
  rw [hgn] at pC
  rcases pC with ⟨h1, h2, h3⟩ | ⟨h1, i, qg, hu, hi, h2⟩ <;> rcases pM with ⟨e1, e2, e3⟩ | ⟨e1, n1, a, b, hn1, hn2, hxa, ha, hyb, hb, e2⟩
  · subst h3
    exact ⟨h2.trans e2.symm, f, n, rb, rf, gd, gn, br, mz, ⟨tx, ru, go, bo, zo, sg, fo, garr, barr, ff, gxs, bxs, fz, pl, pa, pss, own, jf, hC⟩, 0, ad, F, hM.again e3⟩
  · exact absurd (h1.symm.trans e1) (by decide)
  · exact absurd (e1.symm.trans h1) (by decide)
  · obtain ⟨m1, m2, m3, m4, m5, m6, m7, m8, m9, m10⟩ := hM
    have hil : i < gxs.length := (List.getElem?_eq_some_iff.mp hi).1
    have h16 := m6.1
    obtain rfl : i = n1 := (nI_eq (by omega) (by omega)).mp (hu.symm.trans hn1)
    subst hxa
    subst hyb
    rcases h2 with ⟨h3, h4, h5⟩ | ⟨h3, h4, h5⟩ <;> rcases e2 with ⟨e3, e4, e5⟩ | ⟨e3, e4, e5⟩
    · subst h5
      exact ⟨h4.trans e4.symm, f, n, rb, rf, gd, gn, br, mz, ⟨tx, ru, go, bo, zo, sg, fo, garr, barr, ff, gxs, bxs, fz, pl, pa, pss, own, jf, hC⟩, 0, ad, F, e5, m2, m3, m4, m5, m6, m7, m8, m9, m10⟩
    · exact absurd (h3.symm.trans e3) (by decide)
    · exact absurd (e3.symm.trans h3) (by decide)
    · refine ⟨h4.trans e4.symm, f, n, rb, rf, _, gn, br, mz, ⟨tx, ru, go, bo, zo, sg, fo, garr, barr, ff, gxs, bxs, fz, pl, pa, pss, own, jf, ?_⟩, 0, ad, _, e5, m2, m3, m4, m5, ex_RG m6 hn2 ha hb, ?_, m8, m9, ?_⟩
      · rw [h5]
        exact RC_good (d := ((gd i).1, (gd i).2.1, (gd i).2.2.1, (gd i).2.2.2.1, exAdd (gd i).2.2.2.2 (prI (nI (a + 1)) (nI (b + 1))))) hz hi hC
      · exact m7
      · intro k hk1 hk2
        show upd (upd (F 8) _ 1) _ 1 k = 0
        rw [pk_un (by omega), pk_un (by omega)]
        exact m10 k hk1 hk2
theorem op_most (hz : wC (g.2.2 1) = none) (hC : RC g wC th out f n rb rf gd gn br mz tx ru go bo zo sg fo garr barr ff gxs bxs fz pl pa pss own jf) (hM : RM g wM mo t ad F f n rb rf gd gn br mz) (pC : ((isZn u && isCls v && (!decide (x < 0) && !decide (100000 < x))) = false ∧ rC = 0 ∧ wC1 = wC) ∨ ((isZn u && isCls v && (!decide (x < 0) && !decide (100000 < x))) = true ∧ rC = 1 ∧ ∃ zi ci zr : Nat, u = nI zi ∧ zi < 4 ∧ v = nI ci ∧ 1 ≤ ci ∧ ci ≤ 9 ∧ fz zi = some zr ∧ wC1 = va_up wC zr (some (cA g 10 (upd (mz zi) ci x)))))
    (pM : ((isZn u && isCls v && inR x 0 100000) = false ∧ rM = 0 ∧ isM g wM1 mo ad 0 n (b2 rb) gn br.length F) ∨ ((isZn u && isCls v && inR x 0 100000) = true ∧ ∃ zi ci : Nat, u = nI zi ∧ zi < 4 ∧ v = nI (ci + 1) ∧ ci < 9 ∧ rM = 1 ∧ isM g wM1 mo ad 0 n (b2 rb) gn br.length (upd2 F 16 (upd (F 16) (9 * zi + (ci + 1) - 1) x)))) : rC = rM ∧ ST g wC1 th out wM1 mo := by
  rcases pC with ⟨h1, h2, h3⟩ | ⟨h1, h2, zi, ci, zr, hu, hzi, hv, hc1, hc9, hf, h3⟩ <;> rcases pM with ⟨e1, e2, e3⟩ | ⟨e1, z2, c2, hu2, hz2, hv2, hc2, e2, e3⟩
  · subst h3
    exact ⟨h2.trans e2.symm, f, n, rb, rf, gd, gn, br, mz, ⟨tx, ru, go, bo, zo, sg, fo, garr, barr, ff, gxs, bxs, fz, pl, pa, pss, own, jf, hC⟩, 0, ad, F, hM.again e3⟩
  · exact absurd (h1.symm.trans e1) (by decide)
  · exact absurd (e1.symm.trans h1) (by decide)
  · obtain ⟨m1, m2, m3, m4, m5, m6, m7, m8, m9, m10⟩ := hM
    obtain rfl : zi = z2 := (nI_eq (by omega) (by omega)).mp (hu.symm.trans hu2)
    obtain rfl : ci = c2 + 1 := (nI_eq (by omega) (by omega)).mp (hv.symm.trans hv2)
    refine ⟨h2.trans e2.symm, f, n, rb, rf, gd, gn, br, va_up mz zi (upd (mz zi) (c2 + 1) x), ⟨tx, ru, go, bo, zo, sg, fo, garr, barr, ff, gxs, bxs, fz, pl, pa, pss, own, jf, ?_⟩, 0, ad, _, e3, m2, m3, m4, m5, m6, m7, ?_, m9, m10⟩
    · rw [h3]
      exact RC_row hz hzi hf hC
    · intro z c hz1 hc
      show upd (F 16) _ x (9 * z + c) = _
      by_cases hzz : z = zi
      · subst hzz
        rw [va_up_self]
        by_cases hcc : c = c2
        · subst hcc
          rw [show 9 * z + (c + 1) - 1 = 9 * z + c by omega, pk_us, pk_us]
        · rw [pk_un (by omega), pk_un (by omega)]
          exact m8 z c hz1 hc
      · rw [va_up_ne _ _ hzz, pk_un (by omega)]
        exact m8 z c hz1 hc
theorem RBs_set {F F1 : Nat → Nat → Int32} {gn bn i : Nat} {br : List BR} {b b1 : BR} (h : RBs F gn bn br) (hb : br[i]? = some b) (h1 : RBx F1 gn i b1) (ho : ∀ (k : Nat) (c : BR), k ≠ i → RBx F gn k c → RBx F1 gn k c) : RBs F1 gn bn (br.set i b1) := by
  have hil : i < br.length := (List.getElem?_eq_some_iff.mp hb).1
  refine ⟨h.1, by rw [List.length_set]; exact h.2.1, fun k c hk => ?_⟩
  by_cases hki : k = i
  · subst hki
    rw [List.getElem?_set_self hil] at hk
    cases hk
    exact h1
  · rw [List.getElem?_set_ne (fun e => hki e.symm)] at hk
    exact ho k c hki (h.2.2 k c hk)
theorem set_len {br : List BR} {i : Nat} {b : BR} : (br.set i b).length = br.length := List.length_set
theorem op_paper (hz : wC (g.2.2 1) = none) (hC : RC g wC th out f n rb rf gd gn br mz tx ru go bo zo sg fo garr barr ff gxs bxs fz pl pa pss own jf) (hM : RM g wM mo t ad F f n rb rf gd gn br mz) (pC : ((inL u bxs.length && (!decide (v < 0) && decide (v < 5))) = false ∧ rC = 0 ∧ wC1 = wC) ∨ ((inL u bxs.length && (!decide (v < 0) && decide (v < 5))) = true ∧ ∃ (i qb pl1 : Nat) (bi : BX), u = nI i ∧ bxs[i]? = some qb ∧ (br.map (bxOf gd))[i]? = some bi ∧ wC qb = some (cX pl1 bi.2.1 bi.2.2.1 bi.2.2.2.1 bi.2.2.2.2) ∧ (((bi.2.2.2.2 &&& ((1 : Int32) <<< (v &&& 31)) = 0) ∧ rC = 1 ∧ wC1 = va_up wC qb (some (cX pl1 bi.2.1 bi.2.2.1 bi.2.2.2.1 (bi.2.2.2.2 ||| ((1 : Int32) <<< (v &&& 31)))))) ∨ (¬ (bi.2.2.2.2 &&& ((1 : Int32) <<< (v &&& 31)) = 0) ∧ rC = 0 ∧ wC1 = wC))))
    (pM : ((inL u br.length && inR v 0 4) = false ∧ rM = 0 ∧ isM g wM1 mo ad 0 n (b2 rb) gn br.length F) ∨ ((inL u br.length && inR v 0 4) = true ∧ ∃ (i : Nat) (b : BR), u = nI i ∧ i < br.length ∧ br[i]? = some b ∧ (((b.2.2.2.2 &&& ((1 : Int32) <<< (v &&& 31)) = 0) ∧ rM = 1 ∧ isM g wM1 mo ad 0 n (b2 rb) gn br.length (upd2 F 13 (upd (F 13) i (b.2.2.2.2 ||| ((1 : Int32) <<< (v &&& 31)))))) ∨ (¬ (b.2.2.2.2 &&& ((1 : Int32) <<< (v &&& 31)) = 0) ∧ rM = 0 ∧ isM g wM1 mo ad 0 n (b2 rb) gn br.length F)))) : rC = rM ∧ ST g wC1 th out wM1 mo := by
  have hbn := hC.2.2.2.2.2.2.2.2.1.2.1
  rw [hbn, ← pp_eq] at pC
  rcases pC with ⟨h1, h2, h3⟩ | ⟨h1, i, qb, pl1, bi, hu, hi, hbi, hx, h2⟩ <;> rcases pM with ⟨e1, e2, e3⟩ | ⟨e1, i2, b, hu2, hi2, hb, e2⟩
  · subst h3
    exact ⟨h2.trans e2.symm, f, n, rb, rf, gd, gn, br, mz, ⟨tx, ru, go, bo, zo, sg, fo, garr, barr, ff, gxs, bxs, fz, pl, pa, pss, own, jf, hC⟩, 0, ad, F, hM.again e3⟩
  · exact absurd (h1.symm.trans e1) (by decide)
  · exact absurd (e1.symm.trans h1) (by decide)
  · obtain ⟨m1, m2, m3, m4, m5, m6, m7, m8, m9, m10⟩ := hM
    have h12 := m7.1
    have hil : i < bxs.length := (List.getElem?_eq_some_iff.mp hi).1
    obtain rfl : i = i2 := (nI_eq (by omega) (by omega)).mp (hu.symm.trans hu2)
    obtain rfl : bi = bxOf gd b := by rw [List.getElem?_map, hb] at hbi; exact (Option.some.inj hbi).symm
    have hB := m7.2.2 i b hb
    obtain ⟨b9, hb9, hq9⟩ := hC.2.2.2.2.2.2.2.2.2.1 i qb hi
    cases Option.some.inj (hb9.symm.trans hb)
    obtain rfl : pl1 = pl i := by
      have z := Option.some.inj (hx.symm.trans hq9.2.1)
      simp at z
      exact z.1
    rcases h2 with ⟨h3, h4, h5⟩ | ⟨h3, h4, h5⟩ <;> rcases e2 with ⟨e3, e4, e5⟩ | ⟨e3, e4, e5⟩
    · refine ⟨h4.trans e4.symm, f, n, rb, rf, gd, gn, br.set i (b.1, b.2.1, b.2.2.1, b.2.2.2.1, b.2.2.2.2 ||| ((1 : Int32) <<< (v &&& 31))), mz, ⟨tx, ru, go, bo, zo, sg, fo, garr, barr, ff, gxs, bxs, fz, pl, pa, pss, own, jf, ?_⟩, 0, ad, upd2 F 13 (upd (F 13) i (b.2.2.2.2 ||| ((1 : Int32) <<< (v &&& 31)))), ?_, m2, m3, m4, m5, m6, RBs_set (b1 := (b.1, b.2.1, b.2.2.1, b.2.2.2.1, b.2.2.2.2 ||| ((1 : Int32) <<< (v &&& 31)))) (by rw [set_len]; exact m7) hb ?_ ?_, m8, ?_, m10⟩
      · rw [h5]
        exact RC_box hz hi hb hC
      · rw [set_len]
        exact e5
      · obtain ⟨a1, a2, a3, a4, a5, a6⟩ := hB
        exact ⟨a1, a2, a3, pk_us, a5, a6⟩
      · intro k c hk hBk
        obtain ⟨a1, a2, a3, a4, a5, a6⟩ := hBk
        exact ⟨a1, a2, a3, (pk_un hk).trans a4, a5, a6⟩
      · intro k hk1 hk2
        rw [set_len] at hk1
        obtain ⟨a1, a2, a3⟩ := m9 k hk1 hk2
        exact ⟨a1, a2, (pk_un (by omega)).trans a3⟩
    · exact absurd h3 e3
    · exact absurd e3 h3
    · subst h5
      exact ⟨h4.trans e4.symm, f, n, rb, rf, gd, gn, br, mz, ⟨tx, ru, go, bo, zo, sg, fo, garr, barr, ff, gxs, bxs, fz, pl, pa, pss, own, jf, hC⟩, 0, ad, F, e5, m2, m3, m4, m5, m6, m7, m8, m9, m10⟩
end OPS
