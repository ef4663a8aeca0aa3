/-! reading: words and numbers -/
def ltr (x : Nat) : Bool := decide (97 ≤ x ∧ x ≤ 122)
def dgt (x : Nat) : Bool := decide (48 ≤ x ∧ x ≤ 57)
def weF (b : Nat → Nat) (L p : Nat) : Nat := (fstP (fun i => !ltr (b i)) p (L - p)).getD L
def nsP (b : Nat → Nat) (s i : Nat) : Bool := !dgt (b i) || decide (i = s + 5)
def neF (b : Nat → Nat) (L s : Nat) : Nat := (fstP (nsP b s) s (L - s)).getD L
def vlF (b : Nat → Nat) (s : Nat) : Nat → Nat
  | 0 => 0
  | k + 1 => vlF b s k * 10 + b (s + k) - 48
theorem up2_2 {α : Type} {f : Nat → Nat → α} {c j : Nat} {v w : α} : up2 (up2 f c j v) c j w = up2 f c j w := by
  funext x y
  by_cases q : x = c ∧ y = j
  · rw [q.1, q.2, up2_at, up2_at]
  · rw [up2_no (by omega), up2_no (by omega), up2_no (by omega)]
theorem up2_s {α : Type} {f : Nat → Nat → α} {c j : Nat} {v : α} (h : f c j = v) : up2 f c j v = f := by
  funext x y
  by_cases q : x = c ∧ y = j
  · rw [q.1, q.2, up2_at, h]
  · rw [up2_no (by omega)]
theorem we_le {b : Nat → Nat} {L p : Nat} (h : p ≤ L) : p ≤ weF b L p ∧ weF b L p ≤ L := by
  unfold weF
  cases hx : fstP (fun i => !ltr (b i)) p (L - p) with
  | none => exact ⟨h, Nat.le_refl _⟩
  | some e =>
    obtain ⟨h1, h2, _⟩ := fstP_some hx
    show p ≤ e ∧ e ≤ L
    omega
theorem we_in {b : Nat → Nat} {L p i : Nat} (h1 : p ≤ i) (h2 : i < weF b L p) : i < L ∧ ltr (b i) = true := by
  unfold weF at h2
  cases hx : fstP (fun i => !ltr (b i)) p (L - p) with
  | none =>
    rw [hx] at h2
    have h2' : i < L := h2
    have := fstP_none.mp hx i h1 (by omega)
    rw [Bool.not_eq_false'] at this
    exact ⟨h2', this⟩
  | some e =>
    rw [hx] at h2
    have h2' : i < e := h2
    obtain ⟨e1, e2, e3, e4⟩ := fstP_some hx
    have := e4 i h1 h2'
    rw [Bool.not_eq_false'] at this
    exact ⟨by omega, this⟩
theorem vl_lt {b : Nat → Nat} {s : Nat} : ∀ k, (∀ i, s ≤ i → i < s + k → dgt (b i) = true) → vlF b s k < 10 ^ k
  | 0, _ => by show 0 < 1; omega
  | k + 1, h => by
    have ih := vl_lt k (fun i h1 h2 => h i h1 (by omega))
    have hd := of_decide_eq_true (h (s + k) (by omega) (by omega))
    show vlF b s k * 10 + b (s + k) - 48 < 10 ^ (k + 1)
    rw [Nat.pow_succ]
    omega
section
variable {M : Mm} {b : Nat → Nat} {L p s n : Nat}
theorem word_c (hp : p ≤ L) (hL : L ≤ 200) (h6 : M.1 3 6 = nI L) (h7 : M.1 3 7 = nI p) (hb : ∀ i, i < 240 → M.1 2 i = nI (b i)) (hB : ∀ i, b i < 256) (hn : 300 < n) : loop (fun s1 : Mm => Rd_readClause_b5 s1) n M = some (up2 M.1 3 7 (nI (weF b L p)), M.2) := by
  have hlp := loop_fst (body := fun s1 : Mm => Rd_readClause_b5 s1) (fun i => ((up2 M.1 3 7 (nI i), M.2) : Mm)) (fun i => !ltr (b i)) L ((up2 M.1 3 7 (nI L), M.2) : Mm) (fun i => (up2 M.1 3 7 (nI i), M.2)) (fun i hi hP => by
    have hb' := hb i (by omega)
    rw [Bool.not_eq_false'] at hP
    have hl := of_decide_eq_true hP
    show Rd_readClause_b5 (up2 M.1 3 7 (nI i), M.2) = _
    unfold Rd_readClause_b5
    simp (disch := omega) only [l_0, l_1, l_2, l_3, l_4, l_5, l_6, l_7, l_8, l_9, l_10, l_11, l_12, l_13, l_14, l_16, l_20, l_21, l_23, l_24, l_30, l_32, l_40, l_41, l_44, l_48, l_57, l_59, l_60, l_63, l_64, l_80, l_84, l_96, l_97, l_99, l_120, l_122, l_127, l_200, l_240, l_255, l_840, l_999, l_1000, l_1001, l_2400, l_3064, l_9999, l_10000, l_13849, l_16383, l_25173, l_65535, l_65536, l_99999, l_1000000000, neg_nI, pk_mul, nI_add, nI_subL, tn_nI, inb_t, grd_true, bnd_some, elS_l, elS_r, nI_ltI, nI_leI, nI_inj, fa_and, fa_or, m1_eq, eq_m1, m1_lt, m1_le, lt_m1, le_m1, m1_lt0, up2_at, up2_no, ite_true, ite_false, if_true, if_false, Bool.false_eq_true, reduceIte, reduceCtorEq, not_true_eq_false, not_false_eq_true, eq_self, decide_true, decide_false, le_tt, le_ff, lt_tt, lt_ff, eq_ff, and_true, true_and, and_false, false_and, or_true, true_or, or_false, false_or, ne_eq, decide_eq_true_eq, decide_eq_false_iff_not, Bool.not_true, Bool.not_false, Bool.and_true, Bool.true_and, Bool.and_false, Bool.false_and, gs_at, gs_no, oI_n, oI_s, h6, hb', up2_2]) (fun i hi hP => by
    have hb' := hb i (by omega)
    have hB' := hB i
    rw [Bool.not_eq_true'] at hP
    have hl := of_decide_eq_false hP
    show Rd_readClause_b5 (up2 M.1 3 7 (nI i), M.2) = _
    unfold Rd_readClause_b5
    by_cases c : b i < 97
    · simp (disch := omega) only [l_0, l_1, l_2, l_3, l_4, l_5, l_6, l_7, l_8, l_9, l_10, l_11, l_12, l_13, l_14, l_16, l_20, l_21, l_23, l_24, l_30, l_32, l_40, l_41, l_44, l_48, l_57, l_59, l_60, l_63, l_64, l_80, l_84, l_96, l_97, l_99, l_120, l_122, l_127, l_200, l_240, l_255, l_840, l_999, l_1000, l_1001, l_2400, l_3064, l_9999, l_10000, l_13849, l_16383, l_25173, l_65535, l_65536, l_99999, l_1000000000, neg_nI, pk_mul, nI_add, nI_subL, tn_nI, inb_t, grd_true, bnd_some, elS_l, elS_r, nI_ltI, nI_leI, nI_inj, fa_and, fa_or, m1_eq, eq_m1, m1_lt, m1_le, lt_m1, le_m1, m1_lt0, up2_at, up2_no, ite_true, ite_false, if_true, if_false, Bool.false_eq_true, reduceIte, reduceCtorEq, not_true_eq_false, not_false_eq_true, eq_self, decide_true, decide_false, le_tt, le_ff, lt_tt, lt_ff, eq_ff, and_true, true_and, and_false, false_and, or_true, true_or, or_false, false_or, ne_eq, decide_eq_true_eq, decide_eq_false_iff_not, Bool.not_true, Bool.not_false, Bool.and_true, Bool.true_and, Bool.and_false, Bool.false_and, gs_at, gs_no, oI_n, oI_s, h6, hb', c]
    · have : 122 < b i := by omega
      simp (disch := omega) only [l_0, l_1, l_2, l_3, l_4, l_5, l_6, l_7, l_8, l_9, l_10, l_11, l_12, l_13, l_14, l_16, l_20, l_21, l_23, l_24, l_30, l_32, l_40, l_41, l_44, l_48, l_57, l_59, l_60, l_63, l_64, l_80, l_84, l_96, l_97, l_99, l_120, l_122, l_127, l_200, l_240, l_255, l_840, l_999, l_1000, l_1001, l_2400, l_3064, l_9999, l_10000, l_13849, l_16383, l_25173, l_65535, l_65536, l_99999, l_1000000000, neg_nI, pk_mul, nI_add, nI_subL, tn_nI, inb_t, grd_true, bnd_some, elS_l, elS_r, nI_ltI, nI_leI, nI_inj, fa_and, fa_or, m1_eq, eq_m1, m1_lt, m1_le, lt_m1, le_m1, m1_lt0, up2_at, up2_no, ite_true, ite_false, if_true, if_false, Bool.false_eq_true, reduceIte, reduceCtorEq, not_true_eq_false, not_false_eq_true, eq_self, decide_true, decide_false, le_tt, le_ff, lt_tt, lt_ff, eq_ff, and_true, true_and, and_false, false_and, or_true, true_or, or_false, false_or, ne_eq, decide_eq_true_eq, decide_eq_false_iff_not, Bool.not_true, Bool.not_false, Bool.and_true, Bool.true_and, Bool.and_false, Bool.false_and, gs_at, gs_no, oI_n, oI_s, h6, hb', c]) (by
    show Rd_readClause_b5 (up2 M.1 3 7 (nI L), M.2) = _
    unfold Rd_readClause_b5
    simp (disch := omega) only [l_0, l_1, l_2, l_3, l_4, l_5, l_6, l_7, l_8, l_9, l_10, l_11, l_12, l_13, l_14, l_16, l_20, l_21, l_23, l_24, l_30, l_32, l_40, l_41, l_44, l_48, l_57, l_59, l_60, l_63, l_64, l_80, l_84, l_96, l_97, l_99, l_120, l_122, l_127, l_200, l_240, l_255, l_840, l_999, l_1000, l_1001, l_2400, l_3064, l_9999, l_10000, l_13849, l_16383, l_25173, l_65535, l_65536, l_99999, l_1000000000, neg_nI, pk_mul, nI_add, nI_subL, tn_nI, inb_t, grd_true, bnd_some, elS_l, elS_r, nI_ltI, nI_leI, nI_inj, fa_and, fa_or, m1_eq, eq_m1, m1_lt, m1_le, lt_m1, le_m1, m1_lt0, up2_at, up2_no, ite_true, ite_false, if_true, if_false, Bool.false_eq_true, reduceIte, reduceCtorEq, not_true_eq_false, not_false_eq_true, eq_self, decide_true, decide_false, le_tt, le_ff, lt_tt, lt_ff, eq_ff, and_true, true_and, and_false, false_and, or_true, true_or, or_false, false_or, ne_eq, decide_eq_true_eq, decide_eq_false_iff_not, Bool.not_true, Bool.not_false, Bool.and_true, Bool.true_and, Bool.and_false, Bool.false_and, gs_at, gs_no, oI_n, oI_s, h6]) (L - p) p n (by omega) (by omega)
  rw [up2_s h7] at hlp
  refine hlp.trans ?_
  unfold weF
  cases fstP (fun i => !ltr (b i)) p (L - p) with
  | none => rfl
  | some e => rfl
theorem vl_s {k : Nat} : vlF b s (k + 1) = vlF b s k * 10 + b (s + k) - 48 := rfl
theorem ne_le (h : s ≤ L) : s ≤ neF b L s ∧ neF b L s ≤ L ∧ neF b L s ≤ s + 5 := by
  unfold neF
  cases hx : fstP (nsP b s) s (L - s) with
  | none =>
    show s ≤ L ∧ L ≤ L ∧ L ≤ s + 5
    refine ⟨h, Nat.le_refl _, ?_⟩
    rcases Nat.lt_or_ge (s + 5) L with q | q
    · have := fstP_none.mp hx (s + 5) (by omega) (by omega)
      unfold nsP at this
      rw [decide_eq_true rfl, Bool.or_true] at this
      cases this
    · exact q
  | some e =>
    obtain ⟨h1, h2, h3, h4⟩ := fstP_some hx
    show s ≤ e ∧ e ≤ L ∧ e ≤ s + 5
    refine ⟨h1, by omega, ?_⟩
    rcases Nat.lt_or_ge (s + 5) e with q | q
    · have := h4 (s + 5) (by omega) q
      unfold nsP at this
      rw [decide_eq_true rfl, Bool.or_true] at this
      cases this
    · exact q
theorem ne_in {i : Nat} (h1 : s ≤ i) (h2 : i < neF b L s) : i < L ∧ dgt (b i) = true := by
  have key : ∀ q, nsP b s q = false → dgt (b q) = true := fun q h => by
    unfold nsP at h
    rw [Bool.or_eq_false_iff, Bool.not_eq_false'] at h
    exact h.1
  unfold neF at h2
  cases hx : fstP (nsP b s) s (L - s) with
  | none =>
    rw [hx] at h2
    have h2' : i < L := h2
    exact ⟨h2', key i (fstP_none.mp hx i h1 (by omega))⟩
  | some e =>
    rw [hx] at h2
    have h2' : i < e := h2
    obtain ⟨e1, e2, e3, e4⟩ := fstP_some hx
    exact ⟨by omega, key i (e4 i h1 h2')⟩
/-- what a number ends with: a sixth digit, or its value -/
def nuC (M : Mm) (b : Nat → Nat) (s e : Nat) : (Int32 × Mm) ⊕ Mm := if dgt (b e) = true then .inr (up2 (up2 M.1 3 7 (nI e)) 3 8 (((-1000 : Int32) * (2 : Int32)) - nI e), M.2) else .inl (nI (vlF b s (e - s)), (up2 M.1 3 7 (nI e), M.2))
theorem num_c (hp : s ≤ L) (hL : L ≤ 200) (h6 : M.1 3 6 = nI L) (h7 : M.1 3 7 = nI s) (hb : ∀ i, i < 240 → M.1 2 i = nI (b i)) (hB : ∀ i, b i < 256) (hn : 300 < n) : loop (fun s1 : Int32 × Mm => Rd_readNumber_b56 (nI s) s1.1 s1.2) n (nI 0, M) = some (if neF b L s < L then nuC M b s (neF b L s) else .inl (nI (vlF b s (L - s)), (up2 M.1 3 7 (nI L), M.2))) := by
  have hlp : ∃ r, loop (fun s1 : Int32 × Mm => Rd_readNumber_b56 (nI s) s1.1 s1.2) n (nI 0, M) = some r ∧ r = (if neF b L s < L then nuC M b s (neF b L s) else .inl (nI (vlF b s (L - s)), (up2 M.1 3 7 (nI L), M.2))) := by
    have hle := ne_le (b := b) hp
    refine loop_I0 (fun k (st : Int32 × Mm) => k ≤ neF b L s - s ∧ st = (nI (vlF b s k), (up2 M.1 3 7 (nI (s + k)), M.2))) _ (neF b L s - s) ⟨by omega, ?_⟩ (by omega) ?_ ?_
    · rw [Nat.add_zero, up2_s h7]; rfl
    · rintro k st hk ⟨_, rfl⟩
      left
      obtain ⟨w1, w2⟩ := ne_in (b := b) (L := L) (s := s) (i := s + k) (by omega) (by omega)
      have hv := vl_lt (b := b) (s := s) k (fun i h1 h2 => (ne_in (L := L) h1 (by omega)).2)
      have h10 : 10 ^ k ≤ 10 ^ 5 := Nat.pow_le_pow_right (by decide) (by omega)
      have hb' := hb (s + k) (by omega)
      have hd := of_decide_eq_true w2
      refine ⟨_, ?_, by omega, rfl⟩
      show Rd_readNumber_b56 (nI s) (nI (vlF b s k)) (up2 M.1 3 7 (nI (s + k)), M.2) = _
      have h5 : ¬ (s + k - s = 5) := by omega
      rw [vl_s]
      generalize vlF b s k = v at hv ⊢
      unfold Rd_readNumber_b56
      simp (disch := omega) only [l_0, l_1, l_2, l_3, l_4, l_5, l_6, l_7, l_8, l_9, l_10, l_11, l_12, l_13, l_14, l_16, l_20, l_21, l_23, l_24, l_30, l_32, l_40, l_41, l_44, l_48, l_57, l_59, l_60, l_63, l_64, l_80, l_84, l_96, l_97, l_99, l_120, l_122, l_127, l_200, l_240, l_255, l_840, l_999, l_1000, l_1001, l_2400, l_3064, l_9999, l_10000, l_13849, l_16383, l_25173, l_65535, l_65536, l_99999, l_1000000000, neg_nI, pk_mul, nI_add, nI_subL, tn_nI, inb_t, grd_true, bnd_some, elS_l, elS_r, nI_ltI, nI_leI, nI_inj, fa_and, fa_or, m1_eq, eq_m1, m1_lt, m1_le, lt_m1, le_m1, m1_lt0, up2_at, up2_no, ite_true, ite_false, if_true, if_false, Bool.false_eq_true, reduceIte, reduceCtorEq, not_true_eq_false, not_false_eq_true, eq_self, decide_true, decide_false, le_tt, le_ff, lt_tt, lt_ff, eq_ff, and_true, true_and, and_false, false_and, or_true, true_or, or_false, false_or, ne_eq, decide_eq_true_eq, decide_eq_false_iff_not, Bool.not_true, Bool.not_false, Bool.and_true, Bool.true_and, Bool.and_false, Bool.false_and, gs_at, gs_no, oI_n, oI_s, h6, hb', up2_2, h5, Nat.add_assoc]
    · rintro st ⟨_, rfl⟩
      have hes : s + (neF b L s - s) = neF b L s := by omega
      rw [hes]
      by_cases c : neF b L s < L
      · rw [if_pos c]
        have hb' := hb (neF b L s) (by omega)
        have hB' := hB (neF b L s)
        refine ⟨_, ?_, rfl⟩
        show Rd_readNumber_b56 (nI s) (nI (vlF b s (neF b L s - s))) (up2 M.1 3 7 (nI (neF b L s)), M.2) = _
        have hst : dgt (b (neF b L s)) = true → neF b L s - s = 5 := fun hd => by
          have : nsP b s (neF b L s) = true := by
            cases hx : fstP (nsP b s) s (L - s) with
            | none => unfold neF at c; rw [hx] at c; exact absurd c (Nat.lt_irrefl _)
            | some e =>
              have he : neF b L s = e := by unfold neF; rw [hx]; rfl
              rw [he]; exact (fstP_some hx).2.2.1
          unfold nsP at this
          rw [hd, Bool.not_true, Bool.false_or, decide_eq_true_eq] at this
          omega
        unfold nuC
        generalize neF b L s = e at c hb' hB' hst hle ⊢
        generalize vlF b s (e - s) = v
        unfold Rd_readNumber_b56 Rd_blame
        by_cases d1 : dgt (b e) = true
        · have h5 := hst d1
          rw [if_pos d1]
          have hd := of_decide_eq_true d1
          have h7' : nI e - nI s = nI 5 := by rw [nI_subL (by omega), h5]
          simp (disch := omega) only [l_0, l_1, l_2, l_3, l_4, l_5, l_6, l_7, l_8, l_9, l_10, l_11, l_12, l_13, l_14, l_16, l_20, l_21, l_23, l_24, l_30, l_32, l_40, l_41, l_44, l_48, l_57, l_59, l_60, l_63, l_64, l_80, l_84, l_96, l_97, l_99, l_120, l_122, l_127, l_200, l_240, l_255, l_840, l_999, l_1000, l_1001, l_2400, l_3064, l_9999, l_10000, l_13849, l_16383, l_25173, l_65535, l_65536, l_99999, l_1000000000, neg_nI, pk_mul, nI_add, nI_subL, tn_nI, inb_t, grd_true, bnd_some, elS_l, elS_r, nI_ltI, nI_leI, nI_inj, fa_and, fa_or, m1_eq, eq_m1, m1_lt, m1_le, lt_m1, le_m1, m1_lt0, up2_at, up2_no, ite_true, ite_false, if_true, if_false, Bool.false_eq_true, reduceIte, reduceCtorEq, not_true_eq_false, not_false_eq_true, eq_self, decide_true, decide_false, le_tt, le_ff, lt_tt, lt_ff, eq_ff, and_true, true_and, and_false, false_and, or_true, true_or, or_false, false_or, ne_eq, decide_eq_true_eq, decide_eq_false_iff_not, Bool.not_true, Bool.not_false, Bool.and_true, Bool.true_and, Bool.and_false, Bool.false_and, gs_at, gs_no, oI_n, oI_s, h6, hb', h7']
        · rw [if_neg d1]
          have hd := of_decide_eq_false (ts_nt d1)
          by_cases c1 : b e < 48
          · simp (disch := omega) only [l_0, l_1, l_2, l_3, l_4, l_5, l_6, l_7, l_8, l_9, l_10, l_11, l_12, l_13, l_14, l_16, l_20, l_21, l_23, l_24, l_30, l_32, l_40, l_41, l_44, l_48, l_57, l_59, l_60, l_63, l_64, l_80, l_84, l_96, l_97, l_99, l_120, l_122, l_127, l_200, l_240, l_255, l_840, l_999, l_1000, l_1001, l_2400, l_3064, l_9999, l_10000, l_13849, l_16383, l_25173, l_65535, l_65536, l_99999, l_1000000000, neg_nI, pk_mul, nI_add, nI_subL, tn_nI, inb_t, grd_true, bnd_some, elS_l, elS_r, nI_ltI, nI_leI, nI_inj, fa_and, fa_or, m1_eq, eq_m1, m1_lt, m1_le, lt_m1, le_m1, m1_lt0, up2_at, up2_no, ite_true, ite_false, if_true, if_false, Bool.false_eq_true, reduceIte, reduceCtorEq, not_true_eq_false, not_false_eq_true, eq_self, decide_true, decide_false, le_tt, le_ff, lt_tt, lt_ff, eq_ff, and_true, true_and, and_false, false_and, or_true, true_or, or_false, false_or, ne_eq, decide_eq_true_eq, decide_eq_false_iff_not, Bool.not_true, Bool.not_false, Bool.and_true, Bool.true_and, Bool.and_false, Bool.false_and, gs_at, gs_no, oI_n, oI_s, h6, hb', c1]
          · have : 57 < b e := by omega
            simp (disch := omega) only [l_0, l_1, l_2, l_3, l_4, l_5, l_6, l_7, l_8, l_9, l_10, l_11, l_12, l_13, l_14, l_16, l_20, l_21, l_23, l_24, l_30, l_32, l_40, l_41, l_44, l_48, l_57, l_59, l_60, l_63, l_64, l_80, l_84, l_96, l_97, l_99, l_120, l_122, l_127, l_200, l_240, l_255, l_840, l_999, l_1000, l_1001, l_2400, l_3064, l_9999, l_10000, l_13849, l_16383, l_25173, l_65535, l_65536, l_99999, l_1000000000, neg_nI, pk_mul, nI_add, nI_subL, tn_nI, inb_t, grd_true, bnd_some, elS_l, elS_r, nI_ltI, nI_leI, nI_inj, fa_and, fa_or, m1_eq, eq_m1, m1_lt, m1_le, lt_m1, le_m1, m1_lt0, up2_at, up2_no, ite_true, ite_false, if_true, if_false, Bool.false_eq_true, reduceIte, reduceCtorEq, not_true_eq_false, not_false_eq_true, eq_self, decide_true, decide_false, le_tt, le_ff, lt_tt, lt_ff, eq_ff, and_true, true_and, and_false, false_and, or_true, true_or, or_false, false_or, ne_eq, decide_eq_true_eq, decide_eq_false_iff_not, Bool.not_true, Bool.not_false, Bool.and_true, Bool.true_and, Bool.and_false, Bool.false_and, gs_at, gs_no, oI_n, oI_s, h6, hb', c1]
      · rw [if_neg c]
        have hL' : neF b L s = L := by omega
        rw [hL']
        refine ⟨_, ?_, rfl⟩
        show Rd_readNumber_b56 (nI s) (nI (vlF b s (L - s))) (up2 M.1 3 7 (nI L), M.2) = _
        unfold Rd_readNumber_b56
        simp (disch := omega) only [l_0, l_1, l_2, l_3, l_4, l_5, l_6, l_7, l_8, l_9, l_10, l_11, l_12, l_13, l_14, l_16, l_20, l_21, l_23, l_24, l_30, l_32, l_40, l_41, l_44, l_48, l_57, l_59, l_60, l_63, l_64, l_80, l_84, l_96, l_97, l_99, l_120, l_122, l_127, l_200, l_240, l_255, l_840, l_999, l_1000, l_1001, l_2400, l_3064, l_9999, l_10000, l_13849, l_16383, l_25173, l_65535, l_65536, l_99999, l_1000000000, neg_nI, pk_mul, nI_add, nI_subL, tn_nI, inb_t, grd_true, bnd_some, elS_l, elS_r, nI_ltI, nI_leI, nI_inj, fa_and, fa_or, m1_eq, eq_m1, m1_lt, m1_le, lt_m1, le_m1, m1_lt0, up2_at, up2_no, ite_true, ite_false, if_true, if_false, Bool.false_eq_true, reduceIte, reduceCtorEq, not_true_eq_false, not_false_eq_true, eq_self, decide_true, decide_false, le_tt, le_ff, lt_tt, lt_ff, eq_ff, and_true, true_and, and_false, false_and, or_true, true_or, or_false, false_or, ne_eq, decide_eq_true_eq, decide_eq_false_iff_not, Bool.not_true, Bool.not_false, Bool.and_true, Bool.true_and, Bool.and_false, Bool.false_and, gs_at, gs_no, oI_n, oI_s, h6]
  obtain ⟨r, r1, r2⟩ := hlp
  rw [r1, r2]
end
