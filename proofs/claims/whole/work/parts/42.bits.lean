/-! EXEMPT PAIRS AS BITS; the text's reading depends on its signs alone; 45 rows fill the table -/
theorem i64x {x y : Int64} (h : ∀ i : Nat, i < 64 → x.toBitVec.getLsbD i = y.toBitVec.getLsbD i) : x = y := Int64.toBitVec_inj.mp (BitVec.eq_of_getLsbD_eq h)
theorem cmp_0 (x : Int64) : lg_cmp x 0 = 0 ↔ x = 0 := by
  unfold lg_cmp
  by_cases h1 : x > 0
  · rw [if_pos h1]
    refine ⟨fun z => absurd z (by decide), fun z => ?_⟩
    rw [z] at h1
    exact absurd h1 (by decide)
  · rw [if_neg h1]
    by_cases h2 : x = 0
    · rw [if_pos h2]
      exact ⟨fun _ => h2, fun _ => rfl⟩
    · rw [if_neg h2]
      exact ⟨fun z => absurd z (by decide), fun z => absurd z h2⟩
theorem cmp_r (x : Int64) : lg_cmp x x = 0 := by
  unfold lg_cmp
  rw [if_neg (Int64.lt_irrefl (a := x)), if_pos rfl]
theorem and1L (x : Int64) : x &&& 1 = if x.toBitVec.getLsbD 0 = true then 1 else 0 := by
  apply i64x
  intro i hi
  rw [Int64.toBitVec_and, BitVec.getLsbD_and]
  rcases Nat.eq_zero_or_pos i with rfl | h
  · cases x.toBitVec.getLsbD 0 <;> rfl
  · have h1 : (1 : Int64).toBitVec.getLsbD i = false := by
      show (1#64).getLsbD i = false
      rw [BitVec.getLsbD_one]
      simp
      omega
    rw [h1, Bool.and_false]
    cases x.toBitVec.getLsbD 0
    · exact (BitVec.getLsbD_zero (w := 64)).symm
    · exact h1.symm
theorem sh_amt : ∀ k : Nat, k < 45 → (((nI k).toInt64 &&& 63).toBitVec.smod 64).toNat = k := by decide +kernel
theorem isEx_bit (x : Int64) {k : Nat} (hk : k < 45) : isEx x (nI k) = x.toBitVec.getLsbD k := by
  unfold isEx
  have h1 : (x >>> ((nI k).toInt64 &&& 63)).toBitVec.getLsbD 0 = x.toBitVec.getLsbD k := by
    rw [Int64.toBitVec_shiftRight]
    show (x.toBitVec.sshiftRight _).getLsbD 0 = _
    rw [sh_amt k hk, BitVec.getLsbD_sshiftRight]
    rw [if_pos (by omega)]
    simp
  rw [and1L, h1]
  cases x.toBitVec.getLsbD k
  · rw [decide_eq_true ((cmp_0 _).mpr (by rfl))]
    rfl
  · rw [decide_eq_false (fun z => absurd ((cmp_0 _).mp z) (by decide))]
    rfl
theorem bit1 : ∀ k : Nat, k < 45 → ∀ j : Nat, j < 45 → ((1 : Int64) <<< ((nI k).toInt64 &&& 63)).toBitVec.getLsbD j = decide (j = k) := by decide +kernel
theorem isEx_add (x : Int64) {k j : Nat} (hk : k < 45) (hj : j < 45) : isEx (exAdd x (nI k)) (nI j) = (isEx x (nI j) || decide (j = k)) := by
  rw [isEx_bit _ hj, isEx_bit _ hj]
  unfold exAdd
  rw [Int64.toBitVec_or, BitVec.getLsbD_or, bit1 k hk j hj]
theorem isEx_0 {k : Nat} (hk : k < 45) : isEx 0 (nI k) = false := by
  rw [isEx_bit _ hk]
  exact BitVec.getLsbD_zero (w := 64)
theorem prI_nat : ∀ i : Nat, i < 9 → ∀ j : Nat, j < 9 → prI (nI (i + 1)) (nI (j + 1)) = nI (pzN i j) := by decide
/-! the text -/
theorem tab_cg {f f1 : Nat → Int32} : ∀ q : Nat, (∀ j : Nat, j < 4 * q → f j = f1 j) → tabAt f q = tabAt f1 q
  | 0, _ => rfl
  | q + 1, h => by
    rw [tabAt, tabAt, tab_cg q (fun j hj => h j (by omega)), h (4 * q) (by omega), h (4 * q + 1) (by omega), h (4 * q + 2) (by omega)]
theorem okPl_cg {f f1 : Nat → Int32} {p : Nat} (h : ∀ j : Nat, j ≤ p → f j = f1 j) : okPl f p = okPl f1 p := by
  unfold okPl
  rw [h p (Nat.le_refl _), tab_cg (p / 4) (fun j hj => h j (by omega)), h (p - 1) (by omega)]
theorem wrF_cg {f f1 : Nat → Int32} {n : Nat} (h : ∀ j : Nat, j < n → f j = f1 j) : ∀ k p : Nat, p + k = n → wrF f n k p = wrF f1 n k p
  | 0, _, _ => rfl
  | k + 1, p, hp => by
    rw [wrF, wrF, okPl_cg (fun j hj => h j (by omega)), wrF_cg h k (p + 1) (by omega)]
theorem WR_cg {f f1 : Nat → Int32} {n : Nat} (h : ∀ j : Nat, j < n → f j = f1 j) : WR f n = WR f1 n := wrF_cg h n 0 (by omega)
/-! 45 rows -/
theorem cnt_ne {f : Nat → Int32} {k : Nat} {v : Int32} : ∀ L : List Nat, k ∉ L → L.countP (fun j => decide (upd f k v j ≠ -1)) = L.countP (fun j => decide (f j ≠ -1))
  | [], _ => rfl
  | a :: t, h => by
    rw [List.countP_cons, List.countP_cons, cnt_ne t (fun z => h (List.mem_cons_of_mem _ z)), pk_un (fun e => h (by rw [← e]; exact List.mem_cons_self))]
theorem cnt_up {f : Nat → Int32} {k : Nat} {v : Int32} (h0 : f k = -1) (hv : v ≠ -1) : ∀ L : List Nat, L.Nodup → k ∈ L → L.countP (fun j => decide (upd f k v j ≠ -1)) = L.countP (fun j => decide (f j ≠ -1)) + 1
  | [], _, h => absurd h List.not_mem_nil
  | a :: t, hn, h => by
    rw [List.nodup_cons] at hn
    rw [List.countP_cons, List.countP_cons]
    by_cases ha : a = k
    · subst ha
      rw [cnt_ne t hn.1, pk_us, h0]
      simp [hv]
    · rw [cnt_up h0 hv t hn.2 ((List.mem_cons.mp h).resolve_left (fun z => ha z.symm)), pk_un ha]
      omega
theorem row_q {f : Nat → Int32} {q : Nat} (hok : ∀ t : Nat, t < 4 * (q + 1) → okPl f t = true) : ∃ k v : Nat, k < 45 ∧ v ≤ 4 ∧ tabAt f q k = -1 ∧ tabAt f (q + 1) = upd (tabAt f q) k (nI v) := by
  have h0 := hok (4 * q) (by omega)
  have h1 := hok (4 * q + 1) (by omega)
  have h2 := hok (4 * q + 2) (by omega)
  rw [okPl_0] at h0
  rw [okPl_1, Bool.and_eq_true] at h1
  rw [okPl_2] at h2
  obtain ⟨k, hk, ek⟩ := prI_in h0 h1.1
  obtain ⟨v, hv, ev⟩ := lk5 h2
  have h3 := of_decide_eq_true h1.2
  rw [ek, nI_clamp (by omega)] at h3
  refine ⟨k, v, hk, by omega, h3, ?_⟩
  rw [tabAt, ek, nI_clamp (by omega), ev]
theorem cnt_q {f : Nat → Int32} : ∀ q : Nat, (∀ t : Nat, t < 4 * q → okPl f t = true) → (List.range 45).countP (fun j => decide (tabAt f q j ≠ -1)) = q ∧ ∀ j : Nat, tabAt f q j = -1 ∨ ∃ v : Nat, v ≤ 4 ∧ tabAt f q j = nI v
  | 0, _ => ⟨by
      show (List.range 45).countP (fun _ => decide ((-1 : Int32) ≠ -1)) = 0
      rw [List.countP_eq_zero]
      intro a _
      decide, fun j => Or.inl rfl⟩
  | q + 1, hok => by
    obtain ⟨h1, h2⟩ := cnt_q q (fun t ht => hok t (by omega))
    obtain ⟨k, v, hk, hv, h3, h4⟩ := row_q hok
    refine ⟨?_, fun j => ?_⟩
    · rw [h4, cnt_up h3 (nI_nm1 (by omega)) _ List.nodup_range (List.mem_range.mpr hk), h1]
    · rw [h4]
      by_cases hj : j = k
      · subst hj
        exact Or.inr ⟨v, hv, pk_us⟩
      · rw [pk_un hj]
        exact h2 j
theorem okR_45 {f rf : Nat → Int32} (hok : ∀ t : Nat, t < 180 → okPl f t = true) (hr : ∀ j : Nat, j < 45 → rf j = tabAt f 45 j) : okR rf := by
  obtain ⟨h1, h2⟩ := cnt_q 45 hok
  have h3 : ∀ j : Nat, j < 45 → tabAt f 45 j ≠ -1 := by
    have h4 := List.countP_eq_length.mp (h1.trans List.length_range.symm)
    exact fun j hj => of_decide_eq_true (h4 j (List.mem_range.mpr hj))
  intro j hj
  rw [hr j hj]
  exact (h2 j).resolve_left (h3 j hj)
