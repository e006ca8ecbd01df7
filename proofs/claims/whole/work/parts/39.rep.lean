/-! THE CLASS AND THE REFERENCE AT ONE STATE -/
abbrev cJ (g : GT) (f : Nat → Int64) : va_E := .inl (g.2.1 2, 1, .inr (.inl f))
/-- the goods of a box as cells: each part's good is the good of its number -/
def isPq (w : Nat → Option va_E) (gxs ps : List Nat) (bp : List (Nat × Int32)) : Prop := ps.length = bp.length ∧ ∀ j q : Nat, ps[j]? = some q → ∃ (p : Nat × Int32) (ga : Nat), bp[j]? = some p ∧ gxs[p.1]? = some ga ∧ w q = some (cP ga (nI p.1) p.2)
/-- box i at address a; 'own' tells lists, arrays, boxes, goods, rows apart -/
def isQx (g : GT) (w : Nat → Option va_E) (own : Nat → Nat) (gxs : List Nat) (pl pa : Nat → Nat) (pss : Nat → List Nat) (i a : Nat) (b : BR) : Prop := own a = i ∧ w a = some (cX (pl i) b.2.1 b.2.2.1 b.2.2.2.1 b.2.2.2.2) ∧ isL g w (pl i) (pa i) (pss i) ∧ own (pl i) = i ∧ (pa i = g.2.2 1 ∨ own (pa i) = i) ∧ isPq w gxs (pss i) b.1
/-- the class's object th, and the cell out of the law -/
def RC (g : GT) (w : Nat → Option va_E) (th out : Nat) (f : Nat → Int32) (n : Nat) (rb : Bool) (rf : Nat → Int32) (gd : Nat → GD) (gn : Nat) (br : List BR) (mz : Nat → Nat → Int32) (tx ru go bo zo sg fo garr barr : Nat) (ff : Nat → Int32) (gxs bxs : List Nat) (fz : Nat → Option Nat) (pl pa : Nat → Nat) (pss : Nat → List Nat) (own : Nat → Nat) (jf : Nat → Int64) : Prop :=
  w th = some (cT tx ru (b2 rb) go bo zo) ∧ w tx = some (cU sg (nI n) fo) ∧ w sg = some (cA g 300 f) ∧ w fo = some (cA g 45 ff) ∧ w ru = some (cA g 45 rf) ∧ ru ≠ fo ∧
  (isL g w go garr gxs ∧ gxs.length = gn ∧ own go = 100 ∧ (garr = g.2.2 1 ∨ own garr = 100)) ∧ (∀ i a : Nat, gxs[i]? = some a → w a = some (cGd (gd i)) ∧ own a = i) ∧
  (isL g w bo barr bxs ∧ bxs.length = br.length ∧ own bo = 101 ∧ (barr = g.2.2 1 ∨ own barr = 101)) ∧ (∀ i a : Nat, bxs[i]? = some a → ∃ b, br[i]? = some b ∧ isQx g w own gxs pl pa pss i a b) ∧
  (w zo = some (cZ g fz) ∧ own zo = 102) ∧ (∀ k : Nat, k < 4 → ∃ q : Nat, fz k = some q ∧ w q = some (cA g 10 (mz k)) ∧ own q = k) ∧ w out = some (cJ g jf)
def RM (g : GT) (w : Nat → Option va_E) (mo : Nat) (t : Int32) (ad : Nat → Nat) (F : Nat → Nat → Int32) (f : Nat → Int32) (n : Nat) (rb : Bool) (rf : Nat → Int32) (gd : Nat → GD) (gn : Nat) (br : List BR) (mz : Nat → Nat → Int32) : Prop :=
  isM g w mo ad t n (b2 rb) gn br.length F ∧ (∀ j : Nat, j < n → F 0 j = f j) ∧ n ≤ 300 ∧ okR rf ∧ RT rf F ∧ RG gd gn F ∧ RBs F gn br.length br ∧ RZ mz F ∧ (∀ i : Nat, br.length ≤ i → i < 12 → F 9 i = 0 ∧ F 10 i = -1 ∧ F 13 i = 0) ∧ ∀ k : Nat, 81 * gn ≤ k → k < 1296 → F 8 k = 0
def SC (g : GT) (w : Nat → Option va_E) (th out : Nat) (f : Nat → Int32) (n : Nat) (rb : Bool) (rf : Nat → Int32) (gd : Nat → GD) (gn : Nat) (br : List BR) (mz : Nat → Nat → Int32) : Prop := ∃ (tx ru go bo zo sg fo garr barr : Nat) (ff : Nat → Int32) (gxs bxs : List Nat) (fz : Nat → Option Nat) (pl pa : Nat → Nat) (pss : Nat → List Nat) (own : Nat → Nat) (jf : Nat → Int64), RC g w th out f n rb rf gd gn br mz tx ru go bo zo sg fo garr barr ff gxs bxs fz pl pa pss own jf
def SM (g : GT) (w : Nat → Option va_E) (mo : Nat) (f : Nat → Int32) (n : Nat) (rb : Bool) (rf : Nat → Int32) (gd : Nat → GD) (gn : Nat) (br : List BR) (mz : Nat → Nat → Int32) : Prop := ∃ (t : Int32) (ad : Nat → Nat) (F : Nat → Nat → Int32), RM g w mo t ad F f n rb rf gd gn br mz
def ST (g : GT) (wC : Nat → Option va_E) (th out : Nat) (wM : Nat → Option va_E) (mo : Nat) : Prop := ∃ (f : Nat → Int32) (n : Nat) (rb : Bool) (rf : Nat → Int32) (gd : Nat → GD) (gn : Nat) (br : List BR) (mz : Nat → Nat → Int32), SC g wC th out f n rb rf gd gn br mz ∧ SM g wM mo f n rb rf gd gn br mz
/-! frames: what stays when a cell changes -/
theorem isPq_keep {w w1 : Nat → Option va_E} {gxs ps : List Nat} {bp : List (Nat × Int32)} (h : isPq w gxs ps bp) (hk : ∀ (q : Nat) (vs : List Value), w q = some (.inr (3, vs)) → w1 q = w q) : isPq w1 gxs ps bp := by
  refine ⟨h.1, fun j q hq => ?_⟩
  obtain ⟨p, ga, h1, h2, h3⟩ := h.2 j q hq
  exact ⟨p, ga, h1, h2, by rw [hk q _ h3]; exact h3⟩
theorem isPq_more {w : Nat → Option va_E} {gxs ps : List Nat} {a : Nat} {bp : List (Nat × Int32)} (h : isPq w gxs ps bp) : isPq w (gxs ++ [a]) ps bp := by
  refine ⟨h.1, fun j q hq => ?_⟩
  obtain ⟨p, ga, h1, h2, h3⟩ := h.2 j q hq
  exact ⟨p, ga, h1, by rw [List.getElem?_append_left (List.getElem?_eq_some_iff.mp h2).1]; exact h2, h3⟩
theorem isQx_keep {g : GT} {w w1 : Nat → Option va_E} {own : Nat → Nat} {gxs : List Nat} {pl pa : Nat → Nat} {pss : Nat → List Nat} {i a : Nat} {b : BR} (h : isQx g w own gxs pl pa pss i a b) (ha : w1 a = w a) (hl : w1 (pl i) = w (pl i)) (hp : ∀ z, w (pa i) = some (.inl z) → w1 (pa i) = w (pa i)) (hk : ∀ (q : Nat) (vs : List Value), w q = some (.inr (3, vs)) → w1 q = w q) : isQx g w1 own gxs pl pa pss i a b :=
  ⟨h.1, by rw [ha]; exact h.2.1, isL_keep h.2.2.1 hl hp, h.2.2.2.1, h.2.2.2.2.1, isPq_keep h.2.2.2.2.2 hk⟩
theorem isL_cell {g : GT} {w : Nat → Option va_E} {a arr : Nat} {xs : List Nat} (h : isL g w a arr xs) : ∃ vs, w a = some (.inr (6, vs)) := by
  obtain ⟨mc, cap, f, he, -⟩ := h
  exact ⟨_, he⟩
theorem isL_arr {g : GT} {w : Nat → Option va_E} {a arr : Nat} {xs : List Nat} (h : isL g w a arr xs) : (∃ (c : Nat) (f : Nat → Option Nat), w arr = some (cO g c f)) ∨ arr = g.2.2 1 := by
  obtain ⟨mc, cap, f, -, -, -, -, hor⟩ := h
  exact hor.imp (fun h => ⟨_, _, h⟩) (fun h => h.2)
/-- the boxes as the class's methods see them -/
theorem qx_bx {g : GT} {w : Nat → Option va_E} {own : Nat → Nat} {gxs : List Nat} {gd : Nat → GD} {pl pa : Nat → Nat} {pss : Nat → List Nat} {i a : Nat} {b : BR} (hg : ∀ i a : Nat, gxs[i]? = some a → w a = some (cGd (gd i)) ∧ own a = i) (h : isQx g w own gxs pl pa pss i a b) : isPs w (pss i) (bxOf gd b).1 := by
  obtain ⟨-, -, -, -, -, h1, h2⟩ := h
  refine ⟨by rw [h1]; exact (List.length_map _).symm, fun j q hq => ?_⟩
  obtain ⟨p, ga, e1, e2, e3⟩ := h2 j q hq
  exact ⟨prOf gd p, by show (b.1.map (prOf gd))[j]? = _; rw [List.getElem?_map, e1]; rfl, ga, e3, (hg p.1 ga e2).1⟩
section REP
variable {g : GT} {w : Nat → Option va_E} {th out : Nat} {f : Nat → Int32} {n : Nat} {rb : Bool} {rf : Nat → Int32} {gd : Nat → GD} {gn : Nat} {br : List BR} {mz : Nat → Nat → Int32} {tx ru go bo zo sg fo garr barr : Nat} {ff : Nat → Int32} {gxs bxs : List Nat} {fz : Nat → Option Nat} {pl pa : Nat → Nat} {pss : Nat → List Nat} {own : Nat → Nat} {jf : Nat → Int64}
theorem RC.bp (h : RC g w th out f n rb rf gd gn br mz tx ru go bo zo sg fo garr barr ff gxs bxs fz pl pa pss own jf) : ∀ i a : Nat, bxs[i]? = some a → ∃ b, (br.map (bxOf gd))[i]? = some b ∧ w a = some (cX (pl i) b.2.1 b.2.2.1 b.2.2.2.1 b.2.2.2.2) ∧ isL g w (pl i) (pa i) (pss i) ∧ isPs w (pss i) b.1 := by
  intro i a ha
  obtain ⟨-, -, -, -, -, -, -, hg, -, hb, -⟩ := h
  obtain ⟨b, hb1, hq⟩ := hb i a ha
  exact ⟨bxOf gd b, by rw [List.getElem?_map, hb1]; rfl, hq.2.1, hq.2.2.1, qx_bx hg hq⟩
theorem RC.bs (h : RC g w th out f n rb rf gd gn br mz tx ru go bo zo sg fo garr barr ff gxs bxs fz pl pa pss own jf) : ∀ i a : Nat, bxs[i]? = some a → ∃ b, (br.map (bxOf gd))[i]? = some b ∧ isBx g w a b := by
  intro i a ha
  obtain ⟨b, h1, h2, h3, h4⟩ := h.bp i a ha
  exact ⟨b, h1, pl i, pa i, pss i, h2, h3, h4⟩
theorem RC.len (h : RC g w th out f n rb rf gd gn br mz tx ru go bo zo sg fo garr barr ff gxs bxs fz pl pa pss own jf) : bxs.length = (br.map (bxOf gd)).length := by
  rw [List.length_map]
  exact h.2.2.2.2.2.2.2.2.1.2.1
theorem RC.gs (h : RC g w th out f n rb rf gd gn br mz tx ru go bo zo sg fo garr barr ff gxs bxs fz pl pa pss own jf) : ∀ i a : Nat, gxs[i]? = some a → w a = some (cGd (gd i)) := fun i a ha => (h.2.2.2.2.2.2.2.1 i a ha).1
theorem RC.zr (h : RC g w th out f n rb rf gd gn br mz tx ru go bo zo sg fo garr barr ff gxs bxs fz pl pa pss own jf) : ∀ k : Nat, k < 4 → ∃ q : Nat, fz k = some q ∧ w q = some (cA g 10 (mz k)) := fun k hk => by
  obtain ⟨q, h1, h2, -⟩ := h.2.2.2.2.2.2.2.2.2.2.2.1 k hk
  exact ⟨q, h1, h2⟩
theorem RM_os {wM : Nat → Option va_E} {mo : Nat} {t : Int32} {ad : Nat → Nat} {F : Nat → Nat → Int32} (h : RM g wM mo t ad F f n rb rf gd gn br mz) : ∀ b ∈ br.map (bxOf gd), ∀ r ∈ b.1, okP r := by
  intro b hb r hr
  obtain ⟨b0, hb0, rfl⟩ := List.mem_map.mp hb
  obtain ⟨i, hi⟩ := List.mem_iff_getElem?.mp hb0
  exact okP_of h.2.2.2.2.2.1 (h.2.2.2.2.2.2.1.2.2 i b0 hi) r hr
end REP
