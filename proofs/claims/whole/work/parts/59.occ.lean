/-! slots that are taken, as bits -/
def OC (g : Nat → Nat) (l : Nat) (but : Option Nat) (i : Nat) : Prop := ∃ d, d < g 7 ∧ some d ≠ but ∧ g (64 + 10 * d + 3) = 0 ∧ g (64 + 10 * d + 6) &&& l ≠ 0 ∧ g (64 + 10 * d + 4) ≤ i ∧ i < g (64 + 10 * d + 4) + g (64 + 10 * d + 5)
/-- lit demands on a common link keep their distance -/
def NOV (g : Nat → Nat) : Prop := ∀ d e, d < g 7 → e < g 7 → d ≠ e → g (64 + 10 * d + 3) = 0 → g (64 + 10 * e + 3) = 0 → g (64 + 10 * d + 6) &&& g (64 + 10 * e + 6) ≠ 0 → g (64 + 10 * d + 4) + g (64 + 10 * d + 5) + g 2 ≤ g (64 + 10 * e + 4) ∨ g (64 + 10 * e + 4) + g (64 + 10 * e + 5) + g 2 ≤ g (64 + 10 * d + 4)
def usN (M : Mm) (s k : Nat) : Nat := (M.2 (s + 16) k).toBitVec.toNat
theorem l64 (x : Int64) : x = lN x.toBitVec.toNat := wb_inj (by rw [wb_tb]; simp)
theorem usN_e (M : Mm) (s k : Nat) : M.2 (s + 16) k = lN (usN M s k) := l64 _
theorem usN_lt (M : Mm) (s k : Nat) : usN M s k < 2 ^ 64 := (M.2 (s + 16) k).toBitVec.isLt
def UB (M : Mm) (s : Nat) (g : Nat → Nat) : Prop := ∀ l, l < g 3 → ∀ i, (usN M s l).testBit i = true ↔ OC g (2 ^ l) none i
/-- one lit demand as the class has it -/
def CL (M : Mm) (s : Nat) (g : Nat → Nat) (d : Nat) : Prop := M.1 (s + 12) d = nI (g (64 + 10 * d + 6)) ∧ M.1 (s + 13) d = nI (g (64 + 10 * d + 4)) ∧ M.1 (s + 14) d = nI (g (64 + 10 * d + 5)) ∧ M.2 (s + 15) d = lN (2 ^ (g (64 + 10 * d + 4) + g (64 + 10 * d + 5)) - 2 ^ g (64 + 10 * d + 4))
theorem OC_and {g : Nat → Nat} {l i : Nat} {but : Option Nat} {m : Nat} (hl : l < 2 ^ m) : OC g l but i ↔ ∃ j, j < m ∧ l.testBit j = true ∧ OC g (2 ^ j) but i := by
  constructor
  · rintro ⟨d, h1, h2, h3, h4, h5⟩
    obtain ⟨j, a1, a2⟩ := and_ne.mp h4
    exact ⟨j, tb_lt hl a2, a2, d, h1, h2, h3, and_bit.mpr a1, h5⟩
  · rintro ⟨j, _, a2, d, h1, h2, h3, h4, h5⟩
    exact ⟨d, h1, h2, h3, and_ne.mpr ⟨j, and_bit.mp h4, a2⟩, h5⟩
theorem lt_of_bits {b m : Nat} (h : ∀ i, b.testBit i = true → i < m) : b < 2 ^ m := by
  rcases Nat.lt_or_ge b (2 ^ m) with q | q
  · exact q
  · obtain ⟨i, h1, h2⟩ := Nat.exists_ge_and_testBit_of_ge_two_pow q
    have := h i h2
    omega
theorem OC_lt {g : Nat → Nat} (hL : LV g) {l i : Nat} {but : Option Nat} (h : OC g l but i) : i < g 1 := by
  obtain ⟨d, h1, h2, h3, h4, h5⟩ := h
  have := hL d h1 h3
  omega
theorem one64 : (0 : Int64) = lN 0 := rfl
section
variable {M : Mm} {g : Nat → Nat} {s n l : Nat}
theorem St_busy_none (hN : NV g) (hL : LV g) (hC : CN M (s + 1) g) (hU : UB M s g) (hl : l < 2 ^ g 3) (hn : 100 < n) : ∃ b, St_busy n s (nI l) (ng 1) M = some (lN b) ∧ b < 2 ^ 60 ∧ ∀ i, b.testBit i = true ↔ OC g l none i := by
  have b1 := hN.1
  have hl14 : l < 16384 := Nat.lt_of_lt_of_le hl (show 2 ^ g 3 ≤ 2 ^ 14 from Nat.pow_le_pow_right (by decide) b1.2.2.2.2.2.1)
  have hlp : ∃ r, loop (fun s1 : Int64 × Int32 => St_busy_b31 s (nI l) (ng 1) (nI 0) M s1.1 s1.2) n (lN 0, nI 0) = some r ∧ (∃ b, r = lN b ∧ ∀ i, b.testBit i = true ↔ ∃ j, j < g 3 ∧ l.testBit j = true ∧ OC g (2 ^ j) none i) := by
    refine loop_I0 (fun k st => ∃ b, st = (lN b, nI k) ∧ ∀ i, b.testBit i = true ↔ ∃ j, j < k ∧ l.testBit j = true ∧ OC g (2 ^ j) none i) _ (g 3) ⟨0, rfl, fun i => ?_⟩ (by omega) ?_ ?_
    · rw [Nat.zero_testBit]
      constructor
      · intro h; cases h
      · rintro ⟨j, hj, _⟩; omega
    · rintro k st hk ⟨b, e1, e2⟩
      subst e1
      left
      have c3 : M.1 (s + 1) 3 = nI (g 3) := hC.1 3 (by omega)
      show ∃ s', St_busy_b31 s (nI l) (ng 1) (nI 0) M (lN b) (nI k) = some (.inl s') ∧ _
      cases ht : l.testBit k with
      | false =>
        refine ⟨(lN b, nI (k + 1)), ?_, b, rfl, fun i => ?_⟩
        · unfold St_busy_b31 St_busy_j115
          simp (disch := omega) only [l_0, l_1, l_2, l_3, l_4, l_5, l_6, l_7, l_8, l_9, l_10, l_11, l_12, l_13, l_14, l_16, l_20, l_21, l_23, l_24, l_30, l_32, l_40, l_41, l_44, l_48, l_57, l_59, l_60, l_63, l_64, l_80, l_84, l_96, l_97, l_99, l_120, l_122, l_127, l_200, l_240, l_255, l_840, l_999, l_1000, l_1001, l_2400, l_3064, l_9999, l_10000, l_13849, l_16383, l_25173, l_65535, l_65536, l_99999, l_1000000000, neg_nI, pk_mul, nI_add, nI_subL, tn_nI, inb_t, grd_true, bnd_some, elS_l, elS_r, nI_ltI, nI_leI, nI_inj, fa_and, fa_or, m1_eq, eq_m1, m1_lt, m1_le, lt_m1, le_m1, m1_lt0, up2_at, up2_no, ite_true, ite_false, if_true, if_false, Bool.false_eq_true, reduceIte, reduceCtorEq, not_true_eq_false, not_false_eq_true, eq_self, decide_true, decide_false, le_tt, le_ff, lt_tt, lt_ff, eq_ff, and_true, true_and, and_false, false_and, or_true, true_or, or_false, false_or, ne_eq, decide_eq_true_eq, decide_eq_false_iff_not, Bool.not_true, Bool.not_false, Bool.and_true, Bool.true_and, Bool.and_false, Bool.false_and, gs_at, gs_no, oI_n, oI_s, c3, bt0, ht]
        · rw [e2]
          constructor
          · rintro ⟨j, h1, h2⟩; exact ⟨j, by omega, h2⟩
          · rintro ⟨j, h1, h2, h3⟩
            by_cases q : j = k
            · rw [q, ht] at h2; cases h2
            · exact ⟨j, by omega, h2, h3⟩
      | true =>
        refine ⟨(lN (b ||| usN M s k), nI (k + 1)), ?_, _, rfl, fun i => ?_⟩
        · unfold St_busy_b31 St_busy_j74 St_busy_j75 St_busy_j112 St_busy_j115
          simp (disch := omega) only [l_0, l_1, l_2, l_3, l_4, l_5, l_6, l_7, l_8, l_9, l_10, l_11, l_12, l_13, l_14, l_16, l_20, l_21, l_23, l_24, l_30, l_32, l_40, l_41, l_44, l_48, l_57, l_59, l_60, l_63, l_64, l_80, l_84, l_96, l_97, l_99, l_120, l_122, l_127, l_200, l_240, l_255, l_840, l_999, l_1000, l_1001, l_2400, l_3064, l_9999, l_10000, l_13849, l_16383, l_25173, l_65535, l_65536, l_99999, l_1000000000, neg_nI, pk_mul, nI_add, nI_subL, tn_nI, inb_t, grd_true, bnd_some, elS_l, elS_r, nI_ltI, nI_leI, nI_inj, fa_and, fa_or, m1_eq, eq_m1, m1_lt, m1_le, lt_m1, le_m1, m1_lt0, up2_at, up2_no, ite_true, ite_false, if_true, if_false, Bool.false_eq_true, reduceIte, reduceCtorEq, not_true_eq_false, not_false_eq_true, eq_self, decide_true, decide_false, le_tt, le_ff, lt_tt, lt_ff, eq_ff, and_true, true_and, and_false, false_and, or_true, true_or, or_false, false_or, ne_eq, decide_eq_true_eq, decide_eq_false_iff_not, Bool.not_true, Bool.not_false, Bool.and_true, Bool.true_and, Bool.and_false, Bool.false_and, gs_at, gs_no, oI_n, oI_s, c3, bt0, ht, usN_e, lor_e]
        · rw [Nat.testBit_or, Bool.or_eq_true, e2, hU k hk]
          constructor
          · rintro (⟨j, h1, h2⟩ | h)
            · exact ⟨j, by omega, h2⟩
            · exact ⟨k, by omega, ht, h⟩
          · rintro ⟨j, h1, h2, h3⟩
            by_cases q : j = k
            · right; rw [← q]; exact h3
            · left; exact ⟨j, by omega, h2, h3⟩
    · rintro st ⟨b, e1, e2⟩
      subst e1
      refine ⟨lN b, ?_, b, rfl, e2⟩
      have c3 : M.1 (s + 1) 3 = nI (g 3) := hC.1 3 (by omega)
      show St_busy_b31 s (nI l) (ng 1) (nI 0) M (lN b) (nI (g 3)) = _
      unfold St_busy_b31
      simp (disch := omega) only [l_0, l_1, l_2, l_3, l_4, l_5, l_6, l_7, l_8, l_9, l_10, l_11, l_12, l_13, l_14, l_16, l_20, l_21, l_23, l_24, l_30, l_32, l_40, l_41, l_44, l_48, l_57, l_59, l_60, l_63, l_64, l_80, l_84, l_96, l_97, l_99, l_120, l_122, l_127, l_200, l_240, l_255, l_840, l_999, l_1000, l_1001, l_2400, l_3064, l_9999, l_10000, l_13849, l_16383, l_25173, l_65535, l_65536, l_99999, l_1000000000, neg_nI, pk_mul, nI_add, nI_subL, tn_nI, inb_t, grd_true, bnd_some, elS_l, elS_r, nI_ltI, nI_leI, nI_inj, fa_and, fa_or, m1_eq, eq_m1, m1_lt, m1_le, lt_m1, le_m1, m1_lt0, up2_at, up2_no, ite_true, ite_false, if_true, if_false, Bool.false_eq_true, reduceIte, reduceCtorEq, not_true_eq_false, not_false_eq_true, eq_self, decide_true, decide_false, le_tt, le_ff, lt_tt, lt_ff, eq_ff, and_true, true_and, and_false, false_and, or_true, true_or, or_false, false_or, ne_eq, decide_eq_true_eq, decide_eq_false_iff_not, Bool.not_true, Bool.not_false, Bool.and_true, Bool.true_and, Bool.and_false, Bool.false_and, gs_at, gs_no, oI_n, oI_s, c3]
  obtain ⟨r, h1, b, h2, h3⟩ := hlp
  subst h2
  have h4 : ∀ i, b.testBit i = true ↔ OC g l none i := fun i => by rw [h3, OC_and hl]
  refine ⟨b, ?_, Nat.lt_of_lt_of_le (lt_of_bits (m := g 1) (fun i hi => OC_lt hL ((h4 i).mp hi))) (Nat.pow_le_pow_right (by decide) (by omega)), h4⟩
  unfold St_busy St_busy_j23 St_busy_j24
  simp (disch := omega) only [l_0, l_1, l_2, l_3, l_4, l_5, l_6, l_7, l_8, l_9, l_10, l_11, l_12, l_13, l_14, l_16, l_20, l_21, l_23, l_24, l_30, l_32, l_40, l_41, l_44, l_48, l_57, l_59, l_60, l_63, l_64, l_80, l_84, l_96, l_97, l_99, l_120, l_122, l_127, l_200, l_240, l_255, l_840, l_999, l_1000, l_1001, l_2400, l_3064, l_9999, l_10000, l_13849, l_16383, l_25173, l_65535, l_65536, l_99999, l_1000000000, neg_nI, pk_mul, nI_add, nI_subL, tn_nI, inb_t, grd_true, bnd_some, elS_l, elS_r, nI_ltI, nI_leI, nI_inj, fa_and, fa_or, m1_eq, eq_m1, m1_lt, m1_le, lt_m1, le_m1, m1_lt0, up2_at, up2_no, ite_true, ite_false, if_true, if_false, Bool.false_eq_true, reduceIte, reduceCtorEq, not_true_eq_false, not_false_eq_true, eq_self, decide_true, decide_false, le_tt, le_ff, lt_tt, lt_ff, eq_ff, and_true, true_and, and_false, false_and, or_true, true_or, or_false, false_or, ne_eq, decide_eq_true_eq, decide_eq_false_iff_not, Bool.not_true, Bool.not_false, Bool.and_true, Bool.true_and, Bool.and_false, Bool.false_and, gs_at, gs_no, oI_n, oI_s, one64]
  exact bnd_e h1
theorem St_busy_some (hN : NV g) (hL : LV g) (hO : NOV g) (hC : CN M (s + 1) g) (hU : UB M s g) {d : Nat} (hd : d < g 7) (h40 : g 7 ≤ 40) (hst : M.1 (s + 10) d = nI 0) (hlit : g (64 + 10 * d + 3) = 0) (hcl : CL M s g d) (hl : l < 2 ^ g 3) (hn : 100 < n) : ∃ b, St_busy n s (nI l) (nI d) M = some (lN b) ∧ b < 2 ^ 60 ∧ ∀ i, b.testBit i = true ↔ OC g l (some d) i := by
  have b1 := hN.1
  obtain ⟨x1, x2, x3, x4⟩ := hcl
  obtain ⟨y1, y2, y3, y4⟩ := hL d hd hlit
  have hl14 : l < 16384 := Nat.lt_of_lt_of_le hl (show 2 ^ g 3 ≤ 2 ^ 14 from Nat.pow_le_pow_right (by decide) b1.2.2.2.2.2.1)
  have hon14 : g (64 + 10 * d + 6) < 16384 := Nat.lt_of_lt_of_le y4 (show 2 ^ g 3 ≤ 2 ^ 14 from Nat.pow_le_pow_right (by decide) b1.2.2.2.2.2.1)
  have hlp : ∃ r, loop (fun s1 : Int64 × Int32 => St_busy_b31 s (nI l) (nI d) (nI 1) M s1.1 s1.2) n (lN 0, nI 0) = some r ∧ (∃ b, r = lN b ∧ ∀ i, b.testBit i = true ↔ ∃ j, j < g 3 ∧ l.testBit j = true ∧ OC g (2 ^ j) (some d) i) := by
    refine loop_I0 (fun k st => ∃ b, st = (lN b, nI k) ∧ ∀ i, b.testBit i = true ↔ ∃ j, j < k ∧ l.testBit j = true ∧ OC g (2 ^ j) (some d) i) _ (g 3) ⟨0, rfl, fun i => ?_⟩ (by omega) ?_ ?_
    · rw [Nat.zero_testBit]
      constructor
      · intro h; cases h
      · rintro ⟨j, hj, _⟩; omega
    · rintro k st hk ⟨b, e1, e2⟩
      subst e1
      left
      have c3 : M.1 (s + 1) 3 = nI (g 3) := hC.1 3 (by omega)
      show ∃ s', St_busy_b31 s (nI l) (nI d) (nI 1) M (lN b) (nI k) = some (.inl s') ∧ _
      cases ht : l.testBit k with
      | false =>
        refine ⟨(lN b, nI (k + 1)), ?_, b, rfl, fun i => ?_⟩
        · unfold St_busy_b31 St_busy_j115
          simp (disch := omega) only [l_0, l_1, l_2, l_3, l_4, l_5, l_6, l_7, l_8, l_9, l_10, l_11, l_12, l_13, l_14, l_16, l_20, l_21, l_23, l_24, l_30, l_32, l_40, l_41, l_44, l_48, l_57, l_59, l_60, l_63, l_64, l_80, l_84, l_96, l_97, l_99, l_120, l_122, l_127, l_200, l_240, l_255, l_840, l_999, l_1000, l_1001, l_2400, l_3064, l_9999, l_10000, l_13849, l_16383, l_25173, l_65535, l_65536, l_99999, l_1000000000, neg_nI, pk_mul, nI_add, nI_subL, tn_nI, inb_t, grd_true, bnd_some, elS_l, elS_r, nI_ltI, nI_leI, nI_inj, fa_and, fa_or, m1_eq, eq_m1, m1_lt, m1_le, lt_m1, le_m1, m1_lt0, up2_at, up2_no, ite_true, ite_false, if_true, if_false, Bool.false_eq_true, reduceIte, reduceCtorEq, not_true_eq_false, not_false_eq_true, eq_self, decide_true, decide_false, le_tt, le_ff, lt_tt, lt_ff, eq_ff, and_true, true_and, and_false, false_and, or_true, true_or, or_false, false_or, ne_eq, decide_eq_true_eq, decide_eq_false_iff_not, Bool.not_true, Bool.not_false, Bool.and_true, Bool.true_and, Bool.and_false, Bool.false_and, gs_at, gs_no, oI_n, oI_s, c3, bt0, ht]
        · rw [e2]
          constructor
          · rintro ⟨j, h1, h2⟩; exact ⟨j, by omega, h2⟩
          · rintro ⟨j, h1, h2, h3⟩
            by_cases q : j = k
            · rw [q, ht] at h2; cases h2
            · exact ⟨j, by omega, h2, h3⟩
      | true =>
        have fin : ∀ (w : Nat), (∀ i, w.testBit i = true ↔ OC g (2 ^ k) (some d) i) → ∀ i, (b ||| w).testBit i = true ↔ ∃ j, j < k + 1 ∧ l.testBit j = true ∧ OC g (2 ^ j) (some d) i := fun w hw i => by
          rw [Nat.testBit_or, Bool.or_eq_true, e2, hw]
          constructor
          · rintro (⟨j, h1, h2⟩ | h)
            · exact ⟨j, by omega, h2⟩
            · exact ⟨k, by omega, ht, h⟩
          · rintro ⟨j, h1, h2, h3⟩
            by_cases q : j = k
            · right; rw [← q]; exact h3
            · left; exact ⟨j, by omega, h2, h3⟩
        cases hdk : (g (64 + 10 * d + 6)).testBit k with
        | false =>
          refine ⟨(lN (b ||| usN M s k), nI (k + 1)), ?_, _, rfl, fin _ (fun i => ?_)⟩
          · unfold St_busy_b31 St_busy_j74 St_busy_j75 St_busy_j112 St_busy_j115
            simp (disch := omega) only [l_0, l_1, l_2, l_3, l_4, l_5, l_6, l_7, l_8, l_9, l_10, l_11, l_12, l_13, l_14, l_16, l_20, l_21, l_23, l_24, l_30, l_32, l_40, l_41, l_44, l_48, l_57, l_59, l_60, l_63, l_64, l_80, l_84, l_96, l_97, l_99, l_120, l_122, l_127, l_200, l_240, l_255, l_840, l_999, l_1000, l_1001, l_2400, l_3064, l_9999, l_10000, l_13849, l_16383, l_25173, l_65535, l_65536, l_99999, l_1000000000, neg_nI, pk_mul, nI_add, nI_subL, tn_nI, inb_t, grd_true, bnd_some, elS_l, elS_r, nI_ltI, nI_leI, nI_inj, fa_and, fa_or, m1_eq, eq_m1, m1_lt, m1_le, lt_m1, le_m1, m1_lt0, up2_at, up2_no, ite_true, ite_false, if_true, if_false, Bool.false_eq_true, reduceIte, reduceCtorEq, not_true_eq_false, not_false_eq_true, eq_self, decide_true, decide_false, le_tt, le_ff, lt_tt, lt_ff, eq_ff, and_true, true_and, and_false, false_and, or_true, true_or, or_false, false_or, ne_eq, decide_eq_true_eq, decide_eq_false_iff_not, Bool.not_true, Bool.not_false, Bool.and_true, Bool.true_and, Bool.and_false, Bool.false_and, gs_at, gs_no, oI_n, oI_s, c3, bt0, ht, usN_e, lor_e, x1, hdk]
          · rw [hU k hk]
            constructor
            · rintro ⟨e, h1, h2, h3, h4, h5⟩
              refine ⟨e, h1, ?_, h3, h4, h5⟩
              intro q
              cases q
              have := and_bit.mp h4
              rw [hdk] at this
              cases this
            · rintro ⟨e, h1, h2, h3⟩; exact ⟨e, h1, by simp, h3⟩
        | true =>
          refine ⟨(lN (b ||| dl (usN M s k) (2 ^ (g (64 + 10 * d + 4) + g (64 + 10 * d + 5)) - 2 ^ g (64 + 10 * d + 4))), nI (k + 1)), ?_, _, rfl, fin _ (fun i => ?_)⟩
          · unfold St_busy_b31 St_busy_j75 St_busy_j112 St_busy_j115
            simp (disch := omega) only [l_0, l_1, l_2, l_3, l_4, l_5, l_6, l_7, l_8, l_9, l_10, l_11, l_12, l_13, l_14, l_16, l_20, l_21, l_23, l_24, l_30, l_32, l_40, l_41, l_44, l_48, l_57, l_59, l_60, l_63, l_64, l_80, l_84, l_96, l_97, l_99, l_120, l_122, l_127, l_200, l_240, l_255, l_840, l_999, l_1000, l_1001, l_2400, l_3064, l_9999, l_10000, l_13849, l_16383, l_25173, l_65535, l_65536, l_99999, l_1000000000, neg_nI, pk_mul, nI_add, nI_subL, tn_nI, inb_t, grd_true, bnd_some, elS_l, elS_r, nI_ltI, nI_leI, nI_inj, fa_and, fa_or, m1_eq, eq_m1, m1_lt, m1_le, lt_m1, le_m1, m1_lt0, up2_at, up2_no, ite_true, ite_false, if_true, if_false, Bool.false_eq_true, reduceIte, reduceCtorEq, not_true_eq_false, not_false_eq_true, eq_self, decide_true, decide_false, le_tt, le_ff, lt_tt, lt_ff, eq_ff, and_true, true_and, and_false, false_and, or_true, true_or, or_false, false_or, ne_eq, decide_eq_true_eq, decide_eq_false_iff_not, Bool.not_true, Bool.not_false, Bool.and_true, Bool.true_and, Bool.and_false, Bool.false_and, gs_at, gs_no, oI_n, oI_s, c3, bt0, ht, usN_e, lor_e, x1, hdk, x4, landnot_e]
          · rw [dl_tb, span_tb (by omega), Bool.and_eq_true, hU k hk, Bool.not_eq_true', decide_eq_false_iff_not]
            constructor
            · rintro ⟨⟨e, h1, h2, h3, h4, h5⟩, h6⟩
              refine ⟨e, h1, ?_, h3, h4, h5⟩
              intro q
              cases q
              exact h6 h5
            · rintro ⟨e, h1, h2, h3, h4, h5⟩
              refine ⟨⟨e, h1, by simp, h3, h4, h5⟩, fun q => ?_⟩
              have hed : e ≠ d := fun w => h2 (by rw [w])
              rcases hO e d h1 hd hed h3 hlit (and_ne.mpr ⟨k, and_bit.mp h4, hdk⟩) with w | w <;> omega
    · rintro st ⟨b, e1, e2⟩
      subst e1
      refine ⟨lN b, ?_, b, rfl, e2⟩
      have c3 : M.1 (s + 1) 3 = nI (g 3) := hC.1 3 (by omega)
      show St_busy_b31 s (nI l) (nI d) (nI 1) M (lN b) (nI (g 3)) = _
      unfold St_busy_b31
      simp (disch := omega) only [l_0, l_1, l_2, l_3, l_4, l_5, l_6, l_7, l_8, l_9, l_10, l_11, l_12, l_13, l_14, l_16, l_20, l_21, l_23, l_24, l_30, l_32, l_40, l_41, l_44, l_48, l_57, l_59, l_60, l_63, l_64, l_80, l_84, l_96, l_97, l_99, l_120, l_122, l_127, l_200, l_240, l_255, l_840, l_999, l_1000, l_1001, l_2400, l_3064, l_9999, l_10000, l_13849, l_16383, l_25173, l_65535, l_65536, l_99999, l_1000000000, neg_nI, pk_mul, nI_add, nI_subL, tn_nI, inb_t, grd_true, bnd_some, elS_l, elS_r, nI_ltI, nI_leI, nI_inj, fa_and, fa_or, m1_eq, eq_m1, m1_lt, m1_le, lt_m1, le_m1, m1_lt0, up2_at, up2_no, ite_true, ite_false, if_true, if_false, Bool.false_eq_true, reduceIte, reduceCtorEq, not_true_eq_false, not_false_eq_true, eq_self, decide_true, decide_false, le_tt, le_ff, lt_tt, lt_ff, eq_ff, and_true, true_and, and_false, false_and, or_true, true_or, or_false, false_or, ne_eq, decide_eq_true_eq, decide_eq_false_iff_not, Bool.not_true, Bool.not_false, Bool.and_true, Bool.true_and, Bool.and_false, Bool.false_and, gs_at, gs_no, oI_n, oI_s, c3]
  obtain ⟨r, h1, b, h2, h3⟩ := hlp
  subst h2
  have h4 : ∀ i, b.testBit i = true ↔ OC g l (some d) i := fun i => by rw [h3, OC_and hl]
  refine ⟨b, ?_, Nat.lt_of_lt_of_le (lt_of_bits (m := g 1) (fun i hi => OC_lt hL ((h4 i).mp hi))) (Nat.pow_le_pow_right (by decide) (by omega)), h4⟩
  unfold St_busy St_busy_j24
  simp (disch := omega) only [l_0, l_1, l_2, l_3, l_4, l_5, l_6, l_7, l_8, l_9, l_10, l_11, l_12, l_13, l_14, l_16, l_20, l_21, l_23, l_24, l_30, l_32, l_40, l_41, l_44, l_48, l_57, l_59, l_60, l_63, l_64, l_80, l_84, l_96, l_97, l_99, l_120, l_122, l_127, l_200, l_240, l_255, l_840, l_999, l_1000, l_1001, l_2400, l_3064, l_9999, l_10000, l_13849, l_16383, l_25173, l_65535, l_65536, l_99999, l_1000000000, neg_nI, pk_mul, nI_add, nI_subL, tn_nI, inb_t, grd_true, bnd_some, elS_l, elS_r, nI_ltI, nI_leI, nI_inj, fa_and, fa_or, m1_eq, eq_m1, m1_lt, m1_le, lt_m1, le_m1, m1_lt0, up2_at, up2_no, ite_true, ite_false, if_true, if_false, Bool.false_eq_true, reduceIte, reduceCtorEq, not_true_eq_false, not_false_eq_true, eq_self, decide_true, decide_false, le_tt, le_ff, lt_tt, lt_ff, eq_ff, and_true, true_and, and_false, false_and, or_true, true_or, or_false, false_or, ne_eq, decide_eq_true_eq, decide_eq_false_iff_not, Bool.not_true, Bool.not_false, Bool.and_true, Bool.true_and, Bool.and_false, Bool.false_and, gs_at, gs_no, oI_n, oI_s, one64, hst]
  exact bnd_e h1
/-- what is near to a slot that is taken -/
def nrN (b : Nat) : Nat → Nat
  | 0 => b
  | i + 1 => nrN b i ||| (b * 2 ^ (i + 1) ||| b / 2 ^ (i + 1))
theorem nrN_tb (b j : Nat) : ∀ k, (nrN b k).testBit j = true ↔ ∃ i, b.testBit i = true ∧ i ≤ j + k ∧ j ≤ i + k
  | 0 => by
    unfold nrN
    constructor
    · intro h; exact ⟨j, h, by omega, by omega⟩
    · rintro ⟨i, h, h1, h2⟩; rw [show j = i by omega]; exact h
  | k + 1 => by
    unfold nrN
    rw [Nat.testBit_or, Nat.testBit_or, Bool.or_eq_true, Bool.or_eq_true, nrN_tb b j k, Nat.mul_comm, Nat.testBit_two_pow_mul, Nat.testBit_div_two_pow, Bool.and_eq_true, decide_eq_true_eq]
    constructor
    · rintro (⟨i, h1, h2, h3⟩ | ⟨h1, h2⟩ | h1)
      · exact ⟨i, h1, by omega, by omega⟩
      · exact ⟨j - (k + 1), h2, by omega, by omega⟩
      · exact ⟨j + (k + 1), h1, by omega, by omega⟩
    · rintro ⟨i, h1, h2, h3⟩
      by_cases q1 : i = j + (k + 1)
      · right; right; rw [← q1]; exact h1
      · by_cases q2 : j = i + (k + 1)
        · right; left; exact ⟨by omega, by rw [show j - (k + 1) = i by omega]; exact h1⟩
        · left; exact ⟨i, h1, by omega, by omega⟩
theorem fit_iff {v : Nat} {but : Option Nat} {f : Nat} : fitB g l f v but = true ↔ f + v ≤ g 1 ∧ ∀ d, d < g 7 → some d ≠ but → g (64 + 10 * d + 3) = 0 → g (64 + 10 * d + 6) &&& l ≠ 0 → g (64 + 10 * d + 4) + g (64 + 10 * d + 5) + g 2 ≤ f ∨ f + v + g 2 ≤ g (64 + 10 * d + 4) := by
  unfold fitB agS
  rw [Bool.and_eq_true, decide_eq_true_eq, Option.isNone_iff_eq_none, fstP_none]
  refine and_congr_right (fun _ => ?_)
  constructor
  · intro h d h1 h2 h3 h4
    have := h d (by omega) (by omega)
    unfold agP kfB at this
    rw [decide_eq_true h2, decide_eq_true h3, Bool.true_and, Bool.true_and, Bool.not_eq_false', decide_eq_true_eq] at this
    rcases this with q | q
    · exact absurd q h4
    · exact q
  · intro h d h1 h2
    unfold agP kfB
    by_cases c1 : some d ≠ but
    · by_cases c2 : g (64 + 10 * d + 3) = 0
      · rw [decide_eq_true c1, decide_eq_true c2, Bool.true_and, Bool.true_and, Bool.not_eq_false', decide_eq_true_eq]
        by_cases c3 : g (64 + 10 * d + 6) &&& l = 0
        · exact .inl c3
        · exact .inr (h d (by omega) c1 c2 c3)
      · rw [decide_eq_false c2, Bool.and_false, Bool.false_and]
    · rw [decide_eq_false c1, Bool.false_and, Bool.false_and]
theorem fit_oc (hL : LV g) {v : Nat} (hv : 1 ≤ v) {but : Option Nat} {f : Nat} : fitB g l f v but = true ↔ ∀ k, k < v → f + k < g 1 ∧ ¬ ∃ i, OC g l but i ∧ i ≤ f + k + g 2 ∧ f + k ≤ i + g 2 := by
  rw [fit_iff]
  constructor
  · rintro ⟨h1, h2⟩ k hk
    refine ⟨by omega, ?_⟩
    rintro ⟨i, ⟨d, a1, a2, a3, a4, a5, a6⟩, h4, h5⟩
    rcases h2 d a1 a2 a3 a4 with q | q <;> omega
  · intro h
    refine ⟨by have := (h (v - 1) (by omega)).1; omega, fun d a1 a2 a3 a4 => ?_⟩
    obtain ⟨y1, y2, _, _⟩ := hL d a1 a3
    rcases Nat.lt_or_ge f (g (64 + 10 * d + 4) + g (64 + 10 * d + 5) + g 2) with q1 | q1
    · rcases Nat.lt_or_ge (g (64 + 10 * d + 4)) (f + v + g 2) with q2 | q2
      · exfalso
        rcases Nat.lt_or_ge f (g (64 + 10 * d + 4)) with c | c
        · rcases Nat.lt_or_ge (g (64 + 10 * d + 4)) (f + v) with c2 | c2
          · exact (h (g (64 + 10 * d + 4) - f) (by omega)).2 ⟨g (64 + 10 * d + 4), ⟨d, a1, a2, a3, a4, by omega, by omega⟩, by omega, by omega⟩
          · exact (h (v - 1) (by omega)).2 ⟨g (64 + 10 * d + 4), ⟨d, a1, a2, a3, a4, by omega, by omega⟩, by omega, by omega⟩
        · rcases Nat.lt_or_ge f (g (64 + 10 * d + 4) + g (64 + 10 * d + 5)) with c2 | c2
          · exact (h 0 (by omega)).2 ⟨f, ⟨d, a1, a2, a3, a4, by omega, by omega⟩, by omega, by omega⟩
          · exact (h 0 (by omega)).2 ⟨g (64 + 10 * d + 4) + g (64 + 10 * d + 5) - 1, ⟨d, a1, a2, a3, a4, by omega, by omega⟩, by omega, by omega⟩
      · exact .inr q2
    · exact .inl q1
theorem St_fitting_of (hN : NV g) (hL : LV g) (hC : CN M (s + 1) g) {but : Option Nat} {v : Nat} (hv : 1 ≤ v) (hv2 : v ≤ 64) (hn : 100 < n) {x : Int32} (hb : ∃ b, St_busy n s (nI l) x M = some (lN b) ∧ b < 2 ^ 60 ∧ ∀ i, b.testBit i = true ↔ OC g l but i) : ∃ F, St_fitting n s (nI l) (nI v) x M = some (lN F) ∧ F < 2 ^ 60 ∧ ∀ f, F.testBit f = fitB g l f v but := by
  obtain ⟨b, h1, h2, h3⟩ := hb
  have b1 := hN.1
  have c1 : M.1 (s + 1) 1 = nI (g 1) := hC.1 1 (by omega)
  have c2 : M.1 (s + 1) 2 = nI (g 2) := hC.1 2 (by omega)
  have hl := loop_zero (body := fun s1 : Int64 × Int32 => St_fitting_b15 s (lN b) M s1.1 s1.2) (fun i => (lN (nrN b i), nI (i + 1))) (g 2) (lN (nrN b (g 2))) (fun i hi => by
    show St_fitting_b15 _ _ _ _ _ = _
    unfold St_fitting_b15
    simp (disch := omega) only [l_0, l_1, l_2, l_3, l_4, l_5, l_6, l_7, l_8, l_9, l_10, l_11, l_12, l_13, l_14, l_16, l_20, l_21, l_23, l_24, l_30, l_32, l_40, l_41, l_44, l_48, l_57, l_59, l_60, l_63, l_64, l_80, l_84, l_96, l_97, l_99, l_120, l_122, l_127, l_200, l_240, l_255, l_840, l_999, l_1000, l_1001, l_2400, l_3064, l_9999, l_10000, l_13849, l_16383, l_25173, l_65535, l_65536, l_99999, l_1000000000, neg_nI, pk_mul, nI_add, nI_subL, tn_nI, inb_t, grd_true, bnd_some, elS_l, elS_r, nI_ltI, nI_leI, nI_inj, fa_and, fa_or, m1_eq, eq_m1, m1_lt, m1_le, lt_m1, le_m1, m1_lt0, up2_at, up2_no, ite_true, ite_false, if_true, if_false, Bool.false_eq_true, reduceIte, reduceCtorEq, not_true_eq_false, not_false_eq_true, eq_self, decide_true, decide_false, le_tt, le_ff, lt_tt, lt_ff, eq_ff, and_true, true_and, and_false, false_and, or_true, true_or, or_false, false_or, ne_eq, decide_eq_true_eq, decide_eq_false_iff_not, Bool.not_true, Bool.not_false, Bool.and_true, Bool.true_and, Bool.and_false, Bool.false_and, gs_at, gs_no, oI_n, oI_s, c2, lshl_e, lushr_e, lor_e]
    rfl) (by
    show St_fitting_b15 _ _ _ _ _ = _
    unfold St_fitting_b15
    simp (disch := omega) only [l_0, l_1, l_2, l_3, l_4, l_5, l_6, l_7, l_8, l_9, l_10, l_11, l_12, l_13, l_14, l_16, l_20, l_21, l_23, l_24, l_30, l_32, l_40, l_41, l_44, l_48, l_57, l_59, l_60, l_63, l_64, l_80, l_84, l_96, l_97, l_99, l_120, l_122, l_127, l_200, l_240, l_255, l_840, l_999, l_1000, l_1001, l_2400, l_3064, l_9999, l_10000, l_13849, l_16383, l_25173, l_65535, l_65536, l_99999, l_1000000000, neg_nI, pk_mul, nI_add, nI_subL, tn_nI, inb_t, grd_true, bnd_some, elS_l, elS_r, nI_ltI, nI_leI, nI_inj, fa_and, fa_or, m1_eq, eq_m1, m1_lt, m1_le, lt_m1, le_m1, m1_lt0, up2_at, up2_no, ite_true, ite_false, if_true, if_false, Bool.false_eq_true, reduceIte, reduceCtorEq, not_true_eq_false, not_false_eq_true, eq_self, decide_true, decide_false, le_tt, le_ff, lt_tt, lt_ff, eq_ff, and_true, true_and, and_false, false_and, or_true, true_or, or_false, false_or, ne_eq, decide_eq_true_eq, decide_eq_false_iff_not, Bool.not_true, Bool.not_false, Bool.and_true, Bool.true_and, Bool.and_false, Bool.false_and, gs_at, gs_no, oI_n, oI_s, c2]) (n := n) (by omega)
  have hl' : loop (fun s1 : Int64 × Int32 => St_fitting_b15 s (lN b) M s1.1 s1.2) n (lN b, nI 1) = some (lN (nrN b (g 2))) := hl
  have ha := Nt_allSlots_e (a := s + 1) (m := g 1) (M := M) c1 (by omega)
  have hd : dl (2 ^ g 1 - 1) (nrN b (g 2)) < 2 ^ 60 := by
    have q1 : 2 ^ g 1 ≤ 2 ^ 60 := Nat.pow_le_pow_right (by decide) (by omega)
    have q2 : 0 < 2 ^ g 1 := Nat.two_pow_pos _
    exact dl_lt (by omega)
  have hr := Fg_rowStarts_e (f := dl (2 ^ g 1 - 1) (nrN b (g 2))) (w := v) (n := n) (M := M) (by omega) hv hv2 (by omega)
  refine ⟨rowM (dl (2 ^ g 1 - 1) (nrN b (g 2))) (v - 1), ?_, Nat.lt_of_le_of_lt (rowM_le _ _) hd, fun f => ?_⟩
  · unfold St_fitting
    simp (disch := omega) only [l_0, l_1, l_2, l_3, l_4, l_5, l_6, l_7, l_8, l_9, l_10, l_11, l_12, l_13, l_14, l_16, l_20, l_21, l_23, l_24, l_30, l_32, l_40, l_41, l_44, l_48, l_57, l_59, l_60, l_63, l_64, l_80, l_84, l_96, l_97, l_99, l_120, l_122, l_127, l_200, l_240, l_255, l_840, l_999, l_1000, l_1001, l_2400, l_3064, l_9999, l_10000, l_13849, l_16383, l_25173, l_65535, l_65536, l_99999, l_1000000000, neg_nI, pk_mul, nI_add, nI_subL, tn_nI, inb_t, grd_true, bnd_some, elS_l, elS_r, nI_ltI, nI_leI, nI_inj, fa_and, fa_or, m1_eq, eq_m1, m1_lt, m1_le, lt_m1, le_m1, m1_lt0, up2_at, up2_no, ite_true, ite_false, if_true, if_false, Bool.false_eq_true, reduceIte, reduceCtorEq, not_true_eq_false, not_false_eq_true, eq_self, decide_true, decide_false, le_tt, le_ff, lt_tt, lt_ff, eq_ff, and_true, true_and, and_false, false_and, or_true, true_or, or_false, false_or, ne_eq, decide_eq_true_eq, decide_eq_false_iff_not, Bool.not_true, Bool.not_false, Bool.and_true, Bool.true_and, Bool.and_false, Bool.false_and, gs_at, gs_no, oI_n, oI_s, h1, hl', ha, landnot_e, hr]
  · rw [Bool.eq_iff_iff, fit_oc hL hv, rowM_tb, decide_eq_true_eq]
    constructor
    · intro h k hk
      have := h k (by omega)
      rw [dl_tb, Bool.and_eq_true, Nat.testBit_two_pow_sub_one, decide_eq_true_eq, Bool.not_eq_true', ← Bool.not_eq_true, nrN_tb] at this
      refine ⟨this.1, ?_⟩
      rintro ⟨i, q1, q2, q3⟩
      exact this.2 ⟨i, (h3 i).mpr q1, q2, q3⟩
    · intro h k hk
      obtain ⟨q1, q2⟩ := h k (by omega)
      rw [dl_tb, Bool.and_eq_true, Nat.testBit_two_pow_sub_one, decide_eq_true_eq, Bool.not_eq_true', ← Bool.not_eq_true, nrN_tb]
      refine ⟨q1, ?_⟩
      rintro ⟨i, w1, w2, w3⟩
      exact q2 ⟨i, (h3 i).mp w1, w2, w3⟩
end
