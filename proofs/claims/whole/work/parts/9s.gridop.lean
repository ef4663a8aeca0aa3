/-! grid -/
def newG (g d : Nat → Nat) (k : Nat) : Nat → Nat := fun j => if j < 64 then (if j = 6 then g 6 else if j = 12 then 2 ^ d 3 - 1 else if j = 4 then k else d j) else g j
section
variable {g d : Nat → Nat} {k : Nat}
theorem ng_o {j : Nat} (h : j < 64) (h1 : j ≠ 6) (h2 : j ≠ 12) (h3 : j ≠ 4) : newG g d k j = d j := by
  unfold newG
  rw [if_pos h, if_neg h1, if_neg h2, if_neg h3]
theorem ng_6 : newG g d k 6 = g 6 := rfl
theorem ng_12 : newG g d k 12 = 2 ^ d 3 - 1 := rfl
theorem ng_4 : newG g d k 4 = k := rfl
theorem ng_h {j : Nat} (h : ¬ j < 64) : newG g d k j = g j := if_neg h
theorem GV_new (hg : GV g) (hd : ND d) (hk : k ≤ 24) : GV (newG g d k) := by
  obtain ⟨⟨hG, hN, hU, hL, hO⟩, hV, h40⟩ := hg
  obtain ⟨⟨a1, a2, a3, a4⟩, b2, b3, b4, b5, b6, b7⟩ := hd
  have e7 : newG g d k 7 = 0 := by rw [ng_o (by omega) (by omega) (by omega) (by omega)]; exact b6
  have e5 : newG g d k 5 = 0 := by rw [ng_o (by omega) (by omega) (by omega) (by omega)]; exact b5
  have e3 : newG g d k 3 = d 3 := ng_o (by omega) (by omega) (by omega) (by omega)
  have e0 : newG g d k 0 = d 0 := ng_o (by omega) (by omega) (by omega) (by omega)
  have h14 := a1.2.2.2.2.2.1
  have hp : 0 < 2 ^ d 3 := Nat.pos_of_ne_zero (by simp)
  have hp2 : 2 ^ d 3 ≤ 2 ^ 14 := Nat.pow_le_pow_right (by decide) h14
  have hp3 : (2 : Nat) ^ 14 = 16384 := by decide
  refine ⟨⟨⟨fun j => ?_, by omega⟩, ⟨?_, fun f hf => ?_, fun l hl => ?_, fun l m hl hm => ?_⟩, fun l m hl hm => ?_, fun e he => by omega, fun e f he => by omega⟩, ⟨⟨by omega, ?_, ?_⟩, fun e he => by omega⟩, by omega⟩
  · by_cases c : j < 64
    · by_cases c6 : j = 6
      · rw [c6, ng_6]; exact hG.1 6
      · by_cases c12 : j = 12
        · rw [c12, ng_12]; omega
        · by_cases c4 : j = 4
          · rw [c4, ng_4]; omega
          · rw [ng_o c c6 c12 c4]
            have := b3 j
            omega
    · rw [ng_h c]; exact hG.1 j
  · rw [e0, e3, ng_12, ng_o (by omega) (by omega) (by omega) (by omega), ng_o (by omega) (by omega) (by omega) (by omega)]
    omega
  · rw [ng_o (by omega) (by omega) (by omega) (by omega)]; exact a2 f hf
  · rw [e3] at hl
    rw [e0, ng_o (by omega) (by omega) (by omega) (by omega), ng_o (by omega) (by omega) (by omega) (by omega), ng_o (by omega) (by omega) (by omega) (by omega)]
    exact a3 l hl
  · rw [e3] at hl hm
    rw [ng_o (j := 16 + l) (by omega) (by omega) (by omega) (by omega), ng_o (j := 30 + l) (by omega) (by omega) (by omega) (by omega), ng_o (j := 16 + m) (by omega) (by omega) (by omega) (by omega), ng_o (j := 30 + m) (by omega) (by omega) (by omega) (by omega)]
    exact a4 l m hl hm
  · rw [e3] at hl hm
    rw [ng_o (j := 16 + l) (by omega) (by omega) (by omega) (by omega), ng_o (j := 30 + l) (by omega) (by omega) (by omega) (by omega), ng_o (j := 16 + m) (by omega) (by omega) (by omega) (by omega), ng_o (j := 30 + m) (by omega) (by omega) (by omega) (by omega)]
    exact b2 l m hl hm
  · rw [ng_6]; exact hV.1.2.1
  · rw [ng_4]; exact hk
end
section
variable {M C N : Mm} {g d : Nat → Nat} {k n : Nat}
theorem Nt_copy_e {a o : Nat} (hs : o + 6 ≤ a ∨ a + 6 ≤ o) (h3 : g 3 ≤ 14) (h : CN M o g) : ∃ M', Nt_copy a o M = some M' ∧ CN M' a g ∧ Fr (fp_Nt_copy a o) M M' := by
  obtain ⟨n1, n2, n3, n4⟩ := h
  have hrun : ∃ M', Nt_copy a o M = some M' ∧ CN M' a g := by
    refine ⟨_, rfl, ⟨fun k hk => ?_, fun f hf => ?_, fun l hl => ⟨?_, ?_, ?_⟩, fun x y hx hy => ?_⟩⟩
    · simp (disch := omega) only [l_0, l_1, l_2, l_3, l_4, l_5, l_6, l_7, l_8, l_9, l_10, l_11, l_12, l_13, l_14, l_16, l_20, l_21, l_23, l_24, l_30, l_32, l_40, l_41, l_44, l_48, l_57, l_59, l_60, l_63, l_64, l_80, l_84, l_96, l_97, l_99, l_120, l_122, l_127, l_200, l_240, l_255, l_840, l_999, l_1000, l_1001, l_2400, l_3064, l_9999, l_10000, l_13849, l_16383, l_25173, l_65535, l_65536, l_99999, l_1000000000, neg_nI, pk_mul, nI_add, nI_subL, tn_nI, inb_t, grd_true, bnd_some, elS_l, elS_r, nI_ltI, nI_leI, nI_inj, fa_and, fa_or, m1_eq, eq_m1, m1_lt, m1_le, lt_m1, le_m1, m1_lt0, up2_at, up2_no, ite_true, ite_false, if_true, if_false, Bool.false_eq_true, reduceIte, reduceCtorEq, not_true_eq_false, not_false_eq_true, eq_self, decide_true, decide_false, le_tt, le_ff, lt_tt, lt_ff, eq_ff, and_true, true_and, and_false, false_and, or_true, true_or, or_false, false_or, ne_eq, decide_eq_true_eq, decide_eq_false_iff_not, Bool.not_true, Bool.not_false, Bool.and_true, Bool.true_and, Bool.and_false, Bool.false_and, gs_at, gs_no, oI_n, oI_s, cpy2_ne]
      match k, hk with
      | 0, _ => simp (disch := omega) only [l_0, l_1, l_2, l_3, l_4, l_5, l_6, l_7, l_8, l_9, l_10, l_11, l_12, l_13, l_14, l_16, l_20, l_21, l_23, l_24, l_30, l_32, l_40, l_41, l_44, l_48, l_57, l_59, l_60, l_63, l_64, l_80, l_84, l_96, l_97, l_99, l_120, l_122, l_127, l_200, l_240, l_255, l_840, l_999, l_1000, l_1001, l_2400, l_3064, l_9999, l_10000, l_13849, l_16383, l_25173, l_65535, l_65536, l_99999, l_1000000000, neg_nI, pk_mul, nI_add, nI_subL, tn_nI, inb_t, grd_true, bnd_some, elS_l, elS_r, nI_ltI, nI_leI, nI_inj, fa_and, fa_or, m1_eq, eq_m1, m1_lt, m1_le, lt_m1, le_m1, m1_lt0, up2_at, up2_no, ite_true, ite_false, if_true, if_false, Bool.false_eq_true, reduceIte, reduceCtorEq, not_true_eq_false, not_false_eq_true, eq_self, decide_true, decide_false, le_tt, le_ff, lt_tt, lt_ff, eq_ff, and_true, true_and, and_false, false_and, or_true, true_or, or_false, false_or, ne_eq, decide_eq_true_eq, decide_eq_false_iff_not, Bool.not_true, Bool.not_false, Bool.and_true, Bool.true_and, Bool.and_false, Bool.false_and, gs_at, gs_no, oI_n, oI_s, n1]
      | 1, _ => simp (disch := omega) only [l_0, l_1, l_2, l_3, l_4, l_5, l_6, l_7, l_8, l_9, l_10, l_11, l_12, l_13, l_14, l_16, l_20, l_21, l_23, l_24, l_30, l_32, l_40, l_41, l_44, l_48, l_57, l_59, l_60, l_63, l_64, l_80, l_84, l_96, l_97, l_99, l_120, l_122, l_127, l_200, l_240, l_255, l_840, l_999, l_1000, l_1001, l_2400, l_3064, l_9999, l_10000, l_13849, l_16383, l_25173, l_65535, l_65536, l_99999, l_1000000000, neg_nI, pk_mul, nI_add, nI_subL, tn_nI, inb_t, grd_true, bnd_some, elS_l, elS_r, nI_ltI, nI_leI, nI_inj, fa_and, fa_or, m1_eq, eq_m1, m1_lt, m1_le, lt_m1, le_m1, m1_lt0, up2_at, up2_no, ite_true, ite_false, if_true, if_false, Bool.false_eq_true, reduceIte, reduceCtorEq, not_true_eq_false, not_false_eq_true, eq_self, decide_true, decide_false, le_tt, le_ff, lt_tt, lt_ff, eq_ff, and_true, true_and, and_false, false_and, or_true, true_or, or_false, false_or, ne_eq, decide_eq_true_eq, decide_eq_false_iff_not, Bool.not_true, Bool.not_false, Bool.and_true, Bool.true_and, Bool.and_false, Bool.false_and, gs_at, gs_no, oI_n, oI_s, n1]
      | 2, _ => simp (disch := omega) only [l_0, l_1, l_2, l_3, l_4, l_5, l_6, l_7, l_8, l_9, l_10, l_11, l_12, l_13, l_14, l_16, l_20, l_21, l_23, l_24, l_30, l_32, l_40, l_41, l_44, l_48, l_57, l_59, l_60, l_63, l_64, l_80, l_84, l_96, l_97, l_99, l_120, l_122, l_127, l_200, l_240, l_255, l_840, l_999, l_1000, l_1001, l_2400, l_3064, l_9999, l_10000, l_13849, l_16383, l_25173, l_65535, l_65536, l_99999, l_1000000000, neg_nI, pk_mul, nI_add, nI_subL, tn_nI, inb_t, grd_true, bnd_some, elS_l, elS_r, nI_ltI, nI_leI, nI_inj, fa_and, fa_or, m1_eq, eq_m1, m1_lt, m1_le, lt_m1, le_m1, m1_lt0, up2_at, up2_no, ite_true, ite_false, if_true, if_false, Bool.false_eq_true, reduceIte, reduceCtorEq, not_true_eq_false, not_false_eq_true, eq_self, decide_true, decide_false, le_tt, le_ff, lt_tt, lt_ff, eq_ff, and_true, true_and, and_false, false_and, or_true, true_or, or_false, false_or, ne_eq, decide_eq_true_eq, decide_eq_false_iff_not, Bool.not_true, Bool.not_false, Bool.and_true, Bool.true_and, Bool.and_false, Bool.false_and, gs_at, gs_no, oI_n, oI_s, n1]
      | 3, _ => simp (disch := omega) only [l_0, l_1, l_2, l_3, l_4, l_5, l_6, l_7, l_8, l_9, l_10, l_11, l_12, l_13, l_14, l_16, l_20, l_21, l_23, l_24, l_30, l_32, l_40, l_41, l_44, l_48, l_57, l_59, l_60, l_63, l_64, l_80, l_84, l_96, l_97, l_99, l_120, l_122, l_127, l_200, l_240, l_255, l_840, l_999, l_1000, l_1001, l_2400, l_3064, l_9999, l_10000, l_13849, l_16383, l_25173, l_65535, l_65536, l_99999, l_1000000000, neg_nI, pk_mul, nI_add, nI_subL, tn_nI, inb_t, grd_true, bnd_some, elS_l, elS_r, nI_ltI, nI_leI, nI_inj, fa_and, fa_or, m1_eq, eq_m1, m1_lt, m1_le, lt_m1, le_m1, m1_lt0, up2_at, up2_no, ite_true, ite_false, if_true, if_false, Bool.false_eq_true, reduceIte, reduceCtorEq, not_true_eq_false, not_false_eq_true, eq_self, decide_true, decide_false, le_tt, le_ff, lt_tt, lt_ff, eq_ff, and_true, true_and, and_false, false_and, or_true, true_or, or_false, false_or, ne_eq, decide_eq_true_eq, decide_eq_false_iff_not, Bool.not_true, Bool.not_false, Bool.and_true, Bool.true_and, Bool.and_false, Bool.false_and, gs_at, gs_no, oI_n, oI_s, n1]
      | 4, _ => simp (disch := omega) only [l_0, l_1, l_2, l_3, l_4, l_5, l_6, l_7, l_8, l_9, l_10, l_11, l_12, l_13, l_14, l_16, l_20, l_21, l_23, l_24, l_30, l_32, l_40, l_41, l_44, l_48, l_57, l_59, l_60, l_63, l_64, l_80, l_84, l_96, l_97, l_99, l_120, l_122, l_127, l_200, l_240, l_255, l_840, l_999, l_1000, l_1001, l_2400, l_3064, l_9999, l_10000, l_13849, l_16383, l_25173, l_65535, l_65536, l_99999, l_1000000000, neg_nI, pk_mul, nI_add, nI_subL, tn_nI, inb_t, grd_true, bnd_some, elS_l, elS_r, nI_ltI, nI_leI, nI_inj, fa_and, fa_or, m1_eq, eq_m1, m1_lt, m1_le, lt_m1, le_m1, m1_lt0, up2_at, up2_no, ite_true, ite_false, if_true, if_false, Bool.false_eq_true, reduceIte, reduceCtorEq, not_true_eq_false, not_false_eq_true, eq_self, decide_true, decide_false, le_tt, le_ff, lt_tt, lt_ff, eq_ff, and_true, true_and, and_false, false_and, or_true, true_or, or_false, false_or, ne_eq, decide_eq_true_eq, decide_eq_false_iff_not, Bool.not_true, Bool.not_false, Bool.and_true, Bool.true_and, Bool.and_false, Bool.false_and, gs_at, gs_no, oI_n, oI_s, n1]
    · simp (disch := omega) only [l_0, l_1, l_2, l_3, l_4, l_5, l_6, l_7, l_8, l_9, l_10, l_11, l_12, l_13, l_14, l_16, l_20, l_21, l_23, l_24, l_30, l_32, l_40, l_41, l_44, l_48, l_57, l_59, l_60, l_63, l_64, l_80, l_84, l_96, l_97, l_99, l_120, l_122, l_127, l_200, l_240, l_255, l_840, l_999, l_1000, l_1001, l_2400, l_3064, l_9999, l_10000, l_13849, l_16383, l_25173, l_65535, l_65536, l_99999, l_1000000000, neg_nI, pk_mul, nI_add, nI_subL, tn_nI, inb_t, grd_true, bnd_some, elS_l, elS_r, nI_ltI, nI_leI, nI_inj, fa_and, fa_or, m1_eq, eq_m1, m1_lt, m1_le, lt_m1, le_m1, m1_lt0, up2_at, up2_no, ite_true, ite_false, if_true, if_false, Bool.false_eq_true, reduceIte, reduceCtorEq, not_true_eq_false, not_false_eq_true, eq_self, decide_true, decide_false, le_tt, le_ff, lt_tt, lt_ff, eq_ff, and_true, true_and, and_false, false_and, or_true, true_or, or_false, false_or, ne_eq, decide_eq_true_eq, decide_eq_false_iff_not, Bool.not_true, Bool.not_false, Bool.and_true, Bool.true_and, Bool.and_false, Bool.false_and, gs_at, gs_no, oI_n, oI_s, cpy2_ne, cpy_in]
      rw [← n2 f hf]
    · simp (disch := omega) only [l_0, l_1, l_2, l_3, l_4, l_5, l_6, l_7, l_8, l_9, l_10, l_11, l_12, l_13, l_14, l_16, l_20, l_21, l_23, l_24, l_30, l_32, l_40, l_41, l_44, l_48, l_57, l_59, l_60, l_63, l_64, l_80, l_84, l_96, l_97, l_99, l_120, l_122, l_127, l_200, l_240, l_255, l_840, l_999, l_1000, l_1001, l_2400, l_3064, l_9999, l_10000, l_13849, l_16383, l_25173, l_65535, l_65536, l_99999, l_1000000000, neg_nI, pk_mul, nI_add, nI_subL, tn_nI, inb_t, grd_true, bnd_some, elS_l, elS_r, nI_ltI, nI_leI, nI_inj, fa_and, fa_or, m1_eq, eq_m1, m1_lt, m1_le, lt_m1, le_m1, m1_lt0, up2_at, up2_no, ite_true, ite_false, if_true, if_false, Bool.false_eq_true, reduceIte, reduceCtorEq, not_true_eq_false, not_false_eq_true, eq_self, decide_true, decide_false, le_tt, le_ff, lt_tt, lt_ff, eq_ff, and_true, true_and, and_false, false_and, or_true, true_or, or_false, false_or, ne_eq, decide_eq_true_eq, decide_eq_false_iff_not, Bool.not_true, Bool.not_false, Bool.and_true, Bool.true_and, Bool.and_false, Bool.false_and, gs_at, gs_no, oI_n, oI_s, cpy2_ne, cpy_in]
      rw [← (n3 l hl).1]
    · simp (disch := omega) only [l_0, l_1, l_2, l_3, l_4, l_5, l_6, l_7, l_8, l_9, l_10, l_11, l_12, l_13, l_14, l_16, l_20, l_21, l_23, l_24, l_30, l_32, l_40, l_41, l_44, l_48, l_57, l_59, l_60, l_63, l_64, l_80, l_84, l_96, l_97, l_99, l_120, l_122, l_127, l_200, l_240, l_255, l_840, l_999, l_1000, l_1001, l_2400, l_3064, l_9999, l_10000, l_13849, l_16383, l_25173, l_65535, l_65536, l_99999, l_1000000000, neg_nI, pk_mul, nI_add, nI_subL, tn_nI, inb_t, grd_true, bnd_some, elS_l, elS_r, nI_ltI, nI_leI, nI_inj, fa_and, fa_or, m1_eq, eq_m1, m1_lt, m1_le, lt_m1, le_m1, m1_lt0, up2_at, up2_no, ite_true, ite_false, if_true, if_false, Bool.false_eq_true, reduceIte, reduceCtorEq, not_true_eq_false, not_false_eq_true, eq_self, decide_true, decide_false, le_tt, le_ff, lt_tt, lt_ff, eq_ff, and_true, true_and, and_false, false_and, or_true, true_or, or_false, false_or, ne_eq, decide_eq_true_eq, decide_eq_false_iff_not, Bool.not_true, Bool.not_false, Bool.and_true, Bool.true_and, Bool.and_false, Bool.false_and, gs_at, gs_no, oI_n, oI_s, cpy2_ne, cpy_in]
      rw [← (n3 l hl).2.1]
    · simp (disch := omega) only [l_0, l_1, l_2, l_3, l_4, l_5, l_6, l_7, l_8, l_9, l_10, l_11, l_12, l_13, l_14, l_16, l_20, l_21, l_23, l_24, l_30, l_32, l_40, l_41, l_44, l_48, l_57, l_59, l_60, l_63, l_64, l_80, l_84, l_96, l_97, l_99, l_120, l_122, l_127, l_200, l_240, l_255, l_840, l_999, l_1000, l_1001, l_2400, l_3064, l_9999, l_10000, l_13849, l_16383, l_25173, l_65535, l_65536, l_99999, l_1000000000, neg_nI, pk_mul, nI_add, nI_subL, tn_nI, inb_t, grd_true, bnd_some, elS_l, elS_r, nI_ltI, nI_leI, nI_inj, fa_and, fa_or, m1_eq, eq_m1, m1_lt, m1_le, lt_m1, le_m1, m1_lt0, up2_at, up2_no, ite_true, ite_false, if_true, if_false, Bool.false_eq_true, reduceIte, reduceCtorEq, not_true_eq_false, not_false_eq_true, eq_self, decide_true, decide_false, le_tt, le_ff, lt_tt, lt_ff, eq_ff, and_true, true_and, and_false, false_and, or_true, true_or, or_false, false_or, ne_eq, decide_eq_true_eq, decide_eq_false_iff_not, Bool.not_true, Bool.not_false, Bool.and_true, Bool.true_and, Bool.and_false, Bool.false_and, gs_at, gs_no, oI_n, oI_s, cpy2_ne, cpy_in]
      rw [← (n3 l hl).2.2]
    · simp (disch := omega) only [l_0, l_1, l_2, l_3, l_4, l_5, l_6, l_7, l_8, l_9, l_10, l_11, l_12, l_13, l_14, l_16, l_20, l_21, l_23, l_24, l_30, l_32, l_40, l_41, l_44, l_48, l_57, l_59, l_60, l_63, l_64, l_80, l_84, l_96, l_97, l_99, l_120, l_122, l_127, l_200, l_240, l_255, l_840, l_999, l_1000, l_1001, l_2400, l_3064, l_9999, l_10000, l_13849, l_16383, l_25173, l_65535, l_65536, l_99999, l_1000000000, neg_nI, pk_mul, nI_add, nI_subL, tn_nI, inb_t, grd_true, bnd_some, elS_l, elS_r, nI_ltI, nI_leI, nI_inj, fa_and, fa_or, m1_eq, eq_m1, m1_lt, m1_le, lt_m1, le_m1, m1_lt0, up2_at, up2_no, ite_true, ite_false, if_true, if_false, Bool.false_eq_true, reduceIte, reduceCtorEq, not_true_eq_false, not_false_eq_true, eq_self, decide_true, decide_false, le_tt, le_ff, lt_tt, lt_ff, eq_ff, and_true, true_and, and_false, false_and, or_true, true_or, or_false, false_or, ne_eq, decide_eq_true_eq, decide_eq_false_iff_not, Bool.not_true, Bool.not_false, Bool.and_true, Bool.true_and, Bool.and_false, Bool.false_and, gs_at, gs_no, oI_n, oI_s, cpy2_ne, cpy_in]
      rw [← n4 x y hx hy]
  obtain ⟨M', r1, r2⟩ := hrun
  exact ⟨M', r1, r2, fr_Nt_copy r1⟩
/-- the class begins anew with a draft -/
theorem begin_c (hd : ND d) (hk : k ≤ 24) (hc : CN C 4 d) (h3 : C.1 18 3 = nI (g 6)) (hn : 100 < n) : ∃ C', bnd (St_beginWith n 18 4 (up2 C.1 4 4 (nI k), C.2)) (fun z => Fi_forgetWays n z) = some C' ∧ SV C' 18 (newG g d k) ∧ CA C' (newG g d k) ∧ Fr (fun c j => c = 15 ∨ c = 4 ∨ (18 ≤ c ∧ c < 36)) C C' := by
  have h14 := hd.1.1.2.2.2.2.2.1
  have e7 : newG g d k 7 = 0 := by rw [ng_o (by omega) (by omega) (by omega) (by omega)]; exact hd.2.2.2.2.2.1
  have e5 : newG g d k 5 = 0 := by rw [ng_o (by omega) (by omega) (by omega) (by omega)]; exact hd.2.2.2.2.1
  have e3 : newG g d k 3 = d 3 := ng_o (by omega) (by omega) (by omega) (by omega)
  have hc1 : CN (up2 C.1 4 4 (nI k), C.2) 4 (newG g d k) := by
    have hq : CN (up2 C.1 4 4 (nI k), C.2) 4 (gs d 4 k) := by
      obtain ⟨q1, q2, q3, q4⟩ := hc
      have x3 : gs d 4 k 3 = d 3 := gs_no (by omega)
      refine ⟨fun j hj => ?_, fun f hf => ?_, fun l hl => ?_, fun a b ha hb => ?_⟩
      · show up2 C.1 4 4 (nI k) 4 j = _
        by_cases c : j = 4
        · rw [c, up2_at, gs_at]
        · rw [up2_no (by omega), gs_no c]; exact q1 j hj
      · show up2 C.1 4 4 (nI k) (4 + 1) f = _
        rw [up2_no (by omega), gs_no (by omega)]; exact q2 f hf
      · rw [x3] at hl
        show up2 C.1 4 4 (nI k) (4 + 2) l = _ ∧ up2 C.1 4 4 (nI k) (4 + 3) l = _ ∧ up2 C.1 4 4 (nI k) (4 + 4) l = _
        rw [up2_no (by omega), up2_no (by omega), up2_no (by omega), gs_no (by omega), gs_no (by omega), gs_no (by omega)]
        exact q3 l hl
      · show up2 C.1 4 4 (nI k) (4 + 5) (a * 8 + b) = _
        rw [up2_no (by omega), lkS_cong x3 (fun l _ => ⟨gs_no (by omega), gs_no (by omega)⟩)]
        exact q4 a b ha hb
    refine hq.cong (by rw [gs_no (by omega)]; exact h14) (fun j j1 j2 j3 => ?_) ?_
    · rw [ng_o j1 (by omega) j3 (by omega), gs_no (by omega)]
    · show up2 C.1 4 4 (nI k) 4 4 = _
      rw [up2_at, ng_4]
  obtain ⟨C1, a1, a2, a3⟩ := Nt_copy_e (a := 19) (o := 4) (.inl (by omega)) (by rw [e3]; exact h14) hc1
  obtain ⟨C2, b1, b2, b3, b4, b5⟩ := clr_e (M := ((up2 (up2 C1.1 18 1 (((1 : Int32) <<< ((C1.1 (18 + 1) 3) &&& 31)) - (1 : Int32))) 18 2 (0 : Int32)), C1.2)) (s := 18) (n := n) hn
  obtain ⟨C3, f1, f2, f3⟩ := Wy_forget_e (M := C2) (n := n) hn
  have c13 : C1.1 (18 + 1) 3 = nI (d 3) := by rw [← e3]; exact a2.1 3 (by omega)
  have hp : 0 < 2 ^ d 3 := Nat.pos_of_ne_zero (by simp)
  have fr2 : Fr (fun c j => (c = 18 ∧ j = 1) ∨ (c = 18 ∧ j = 2)) C1 ((up2 (up2 C1.1 18 1 (((1 : Int32) <<< ((C1.1 (18 + 1) 3) &&& 31)) - (1 : Int32))) 18 2 (0 : Int32)), C1.2) := Fr.I (Fr.I Fr.rf (.inl ⟨rfl, rfl⟩)) (.inr ⟨rfl, rfl⟩)
  refine ⟨C3, ?_, ⟨⟨?_, ?_, ?_, ?_⟩, ?_, fun e he => absurd he (by rw [e7]; omega), fun l hl i => ?_⟩, CA_new (by rw [ng_o (by omega) (by omega) (by omega) (by omega)]; exact hd.1.1.2.1) f2, ?_⟩
  · unfold St_beginWith
    rw [a1, bnd_some, b1, bnd_some, bnd_some, f1]
  · exact ((a2.fr fr2 (fun k j hk => by omega)).fr b5 (fun k j hk => by unfold fp_St_clearDemands; omega)).fr f3 (fun k j hk => by omega)
  · rw [(f3 18 1 (by omega)).1, (b5 18 1 (by unfold fp_St_clearDemands; omega)).1, ng_12, c13, l_1, shl_e (by omega), nI_subL (by omega)]
    simp (disch := omega) only [l_0, l_1, l_2, l_3, l_4, l_5, l_6, l_7, l_8, l_9, l_10, l_11, l_12, l_13, l_14, l_16, l_20, l_21, l_23, l_24, l_30, l_32, l_40, l_41, l_44, l_48, l_57, l_59, l_60, l_63, l_64, l_80, l_84, l_96, l_97, l_99, l_120, l_122, l_127, l_200, l_240, l_255, l_840, l_999, l_1000, l_1001, l_2400, l_3064, l_9999, l_10000, l_13849, l_16383, l_25173, l_65535, l_65536, l_99999, l_1000000000, neg_nI, pk_mul, nI_add, nI_subL, tn_nI, inb_t, grd_true, bnd_some, elS_l, elS_r, nI_ltI, nI_leI, nI_inj, fa_and, fa_or, m1_eq, eq_m1, m1_lt, m1_le, lt_m1, le_m1, m1_lt0, up2_at, up2_no, ite_true, ite_false, if_true, if_false, Bool.false_eq_true, reduceIte, reduceCtorEq, not_true_eq_false, not_false_eq_true, eq_self, decide_true, decide_false, le_tt, le_ff, lt_tt, lt_ff, eq_ff, and_true, true_and, and_false, false_and, or_true, true_or, or_false, false_or, ne_eq, decide_eq_true_eq, decide_eq_false_iff_not, Bool.not_true, Bool.not_false, Bool.and_true, Bool.true_and, Bool.and_false, Bool.false_and, gs_at, gs_no, oI_n, oI_s]
  · rw [(f3 18 2 (by omega)).1, (b5 18 2 (by unfold fp_St_clearDemands; omega)).1, e5]
    simp (disch := omega) only [l_0, l_1, l_2, l_3, l_4, l_5, l_6, l_7, l_8, l_9, l_10, l_11, l_12, l_13, l_14, l_16, l_20, l_21, l_23, l_24, l_30, l_32, l_40, l_41, l_44, l_48, l_57, l_59, l_60, l_63, l_64, l_80, l_84, l_96, l_97, l_99, l_120, l_122, l_127, l_200, l_240, l_255, l_840, l_999, l_1000, l_1001, l_2400, l_3064, l_9999, l_10000, l_13849, l_16383, l_25173, l_65535, l_65536, l_99999, l_1000000000, neg_nI, pk_mul, nI_add, nI_subL, tn_nI, inb_t, grd_true, bnd_some, elS_l, elS_r, nI_ltI, nI_leI, nI_inj, fa_and, fa_or, m1_eq, eq_m1, m1_lt, m1_le, lt_m1, le_m1, m1_lt0, up2_at, up2_no, ite_true, ite_false, if_true, if_false, Bool.false_eq_true, reduceIte, reduceCtorEq, not_true_eq_false, not_false_eq_true, eq_self, decide_true, decide_false, le_tt, le_ff, lt_tt, lt_ff, eq_ff, and_true, true_and, and_false, false_and, or_true, true_or, or_false, false_or, ne_eq, decide_eq_true_eq, decide_eq_false_iff_not, Bool.not_true, Bool.not_false, Bool.and_true, Bool.true_and, Bool.and_false, Bool.false_and, gs_at, gs_no, oI_n, oI_s]
  · rw [(f3 18 3 (by omega)).1, (b5 18 3 (by unfold fp_St_clearDemands; omega)).1, ng_6, ← h3, (fr2 18 3 (by omega)).1, (a3 18 3 (by unfold fp_Nt_copy; omega)).1]
    simp (disch := omega) only [l_0, l_1, l_2, l_3, l_4, l_5, l_6, l_7, l_8, l_9, l_10, l_11, l_12, l_13, l_14, l_16, l_20, l_21, l_23, l_24, l_30, l_32, l_40, l_41, l_44, l_48, l_57, l_59, l_60, l_63, l_64, l_80, l_84, l_96, l_97, l_99, l_120, l_122, l_127, l_200, l_240, l_255, l_840, l_999, l_1000, l_1001, l_2400, l_3064, l_9999, l_10000, l_13849, l_16383, l_25173, l_65535, l_65536, l_99999, l_1000000000, neg_nI, pk_mul, nI_add, nI_subL, tn_nI, inb_t, grd_true, bnd_some, elS_l, elS_r, nI_ltI, nI_leI, nI_inj, fa_and, fa_or, m1_eq, eq_m1, m1_lt, m1_le, lt_m1, le_m1, m1_lt0, up2_at, up2_no, ite_true, ite_false, if_true, if_false, Bool.false_eq_true, reduceIte, reduceCtorEq, not_true_eq_false, not_false_eq_true, eq_self, decide_true, decide_false, le_tt, le_ff, lt_tt, lt_ff, eq_ff, and_true, true_and, and_false, false_and, or_true, true_or, or_false, false_or, ne_eq, decide_eq_true_eq, decide_eq_false_iff_not, Bool.not_true, Bool.not_false, Bool.and_true, Bool.true_and, Bool.and_false, Bool.false_and, gs_at, gs_no, oI_n, oI_s]
  · rw [(f3 18 4 (by omega)).1, e7]; exact b4
  · rw [e3] at hl
    unfold usN
    rw [(f3 (18 + 16) l (by omega)).2, b3 l (by omega), lN_nat (by omega)]
    constructor
    · intro q
      rw [Nat.zero_testBit] at q
      cases q
    · rintro ⟨e, he, _⟩
      rw [e7] at he
      omega
  · refine Fr.tr (Fr.tr (Fr.tr (Fr.tr (Fr.I Fr.rf (.inr (.inl rfl))) (a3.mono (fun c j q => by unfold fp_Nt_copy at q; omega))) (fr2.mono (fun c j q => by omega))) (b5.mono (fun c j q => by unfold fp_St_clearDemands at q; omega))) (f3.mono (fun c j q => by omega))
/-- the model takes its draft -/
theorem takes_m {h : Nat → Int32} (hd : ND d) (hk : k ≤ 24) (hm : MD96 N d) (h11 : N.1 94 11 = nI k) (hF : FK N g h) (hn : 100 < n) : ∃ N', Fm_grid_j59 n (nI 1) N = some (nI k, N') ∧ FK N' (newG g d k) h ∧ Fr (fun c _ => c = 95) N N' := by
  have h14 := hd.1.1.2.2.2.2.2.1
  have hp : 0 < 2 ^ d 3 := Nat.pos_of_ne_zero (by simp)
  have hlp : ∃ r, loop (fun s1 : Int32 × Mm => Fm_takesDraft_b2 s1.1 s1.2) n (nI 0, N) = some r ∧ ((∀ i, i < 64 → i ≠ 6 → r.1 95 i = nI (d i)) ∧ Fr (fun c j => c = 95 ∧ j < 64 ∧ j ≠ 6) N r) := by
    refine loop_I0 (fun i (st : Int32 × Mm) => st.1 = nI i ∧ (∀ j, j < i → j ≠ 6 → st.2.1 95 j = nI (d j)) ∧ Fr (fun c j => c = 95 ∧ j < 64 ∧ j ≠ 6) N st.2) _ 64 ⟨rfl, fun j hj => by omega, Fr.rf⟩ (by omega) ?_ ?_
    · rintro i ⟨s1, M1⟩ hi ⟨e1, e2, e3⟩
      simp only at e1 e2 e3
      subst e1
      left
      by_cases c6 : i = 6
      · refine ⟨(nI (i + 1), M1), ?_, rfl, fun j hj h6 => e2 j (by omega) h6, e3⟩
        show Fm_takesDraft_b2 (nI i) M1 = _
        unfold Fm_takesDraft_b2 Fm_takesDraft_j26
        subst c6
        simp (disch := omega) only [l_0, l_1, l_2, l_3, l_4, l_5, l_6, l_7, l_8, l_9, l_10, l_11, l_12, l_13, l_14, l_16, l_20, l_21, l_23, l_24, l_30, l_32, l_40, l_41, l_44, l_48, l_57, l_59, l_60, l_63, l_64, l_80, l_84, l_96, l_97, l_99, l_120, l_122, l_127, l_200, l_240, l_255, l_840, l_999, l_1000, l_1001, l_2400, l_3064, l_9999, l_10000, l_13849, l_16383, l_25173, l_65535, l_65536, l_99999, l_1000000000, neg_nI, pk_mul, nI_add, nI_subL, tn_nI, inb_t, grd_true, bnd_some, elS_l, elS_r, nI_ltI, nI_leI, nI_inj, fa_and, fa_or, m1_eq, eq_m1, m1_lt, m1_le, lt_m1, le_m1, m1_lt0, up2_at, up2_no, ite_true, ite_false, if_true, if_false, Bool.false_eq_true, reduceIte, reduceCtorEq, not_true_eq_false, not_false_eq_true, eq_self, decide_true, decide_false, le_tt, le_ff, lt_tt, lt_ff, eq_ff, and_true, true_and, and_false, false_and, or_true, true_or, or_false, false_or, ne_eq, decide_eq_true_eq, decide_eq_false_iff_not, Bool.not_true, Bool.not_false, Bool.and_true, Bool.true_and, Bool.and_false, Bool.false_and, gs_at, gs_no, oI_n, oI_s]
      · have hmi : M1.1 96 i = nI (d i) := by rw [(e3 96 i (by omega)).1]; exact hm i hi
        refine ⟨(nI (i + 1), (up2 M1.1 95 i (nI (d i)), M1.2)), ?_, rfl, fun j hj h6 => ?_, Fr.I e3 ⟨rfl, hi, c6⟩⟩
        · show Fm_takesDraft_b2 (nI i) M1 = _
          unfold Fm_takesDraft_b2 Fm_takesDraft_j26
          simp (disch := omega) only [l_0, l_1, l_2, l_3, l_4, l_5, l_6, l_7, l_8, l_9, l_10, l_11, l_12, l_13, l_14, l_16, l_20, l_21, l_23, l_24, l_30, l_32, l_40, l_41, l_44, l_48, l_57, l_59, l_60, l_63, l_64, l_80, l_84, l_96, l_97, l_99, l_120, l_122, l_127, l_200, l_240, l_255, l_840, l_999, l_1000, l_1001, l_2400, l_3064, l_9999, l_10000, l_13849, l_16383, l_25173, l_65535, l_65536, l_99999, l_1000000000, neg_nI, pk_mul, nI_add, nI_subL, tn_nI, inb_t, grd_true, bnd_some, elS_l, elS_r, nI_ltI, nI_leI, nI_inj, fa_and, fa_or, m1_eq, eq_m1, m1_lt, m1_le, lt_m1, le_m1, m1_lt0, up2_at, up2_no, ite_true, ite_false, if_true, if_false, Bool.false_eq_true, reduceIte, reduceCtorEq, not_true_eq_false, not_false_eq_true, eq_self, decide_true, decide_false, le_tt, le_ff, lt_tt, lt_ff, eq_ff, and_true, true_and, and_false, false_and, or_true, true_or, or_false, false_or, ne_eq, decide_eq_true_eq, decide_eq_false_iff_not, Bool.not_true, Bool.not_false, Bool.and_true, Bool.true_and, Bool.and_false, Bool.false_and, gs_at, gs_no, oI_n, oI_s, hmi, c6]
        · show up2 M1.1 95 i (nI (d i)) 95 j = _
          by_cases c : j = i
          · subst c
            rw [up2_at]
          · rw [up2_no (by omega)]
            exact e2 j (by omega) h6
    · rintro ⟨s1, M1⟩ ⟨e1, e2, e3⟩
      simp only at e1 e2 e3
      subst e1
      refine ⟨M1, ?_, e2, e3⟩
      show Fm_takesDraft_b2 (nI 64) M1 = _
      unfold Fm_takesDraft_b2
      simp (disch := omega) only [l_0, l_1, l_2, l_3, l_4, l_5, l_6, l_7, l_8, l_9, l_10, l_11, l_12, l_13, l_14, l_16, l_20, l_21, l_23, l_24, l_30, l_32, l_40, l_41, l_44, l_48, l_57, l_59, l_60, l_63, l_64, l_80, l_84, l_96, l_97, l_99, l_120, l_122, l_127, l_200, l_240, l_255, l_840, l_999, l_1000, l_1001, l_2400, l_3064, l_9999, l_10000, l_13849, l_16383, l_25173, l_65535, l_65536, l_99999, l_1000000000, neg_nI, pk_mul, nI_add, nI_subL, tn_nI, inb_t, grd_true, bnd_some, elS_l, elS_r, nI_ltI, nI_leI, nI_inj, fa_and, fa_or, m1_eq, eq_m1, m1_lt, m1_le, lt_m1, le_m1, m1_lt0, up2_at, up2_no, ite_true, ite_false, if_true, if_false, Bool.false_eq_true, reduceIte, reduceCtorEq, not_true_eq_false, not_false_eq_true, eq_self, decide_true, decide_false, le_tt, le_ff, lt_tt, lt_ff, eq_ff, and_true, true_and, and_false, false_and, or_true, true_or, or_false, false_or, ne_eq, decide_eq_true_eq, decide_eq_false_iff_not, Bool.not_true, Bool.not_false, Bool.and_true, Bool.true_and, Bool.and_false, Bool.false_and, gs_at, gs_no, oI_n, oI_s]
  obtain ⟨r, h1, h2, h3⟩ := hlp
  have m3 : r.1 96 3 = nI (d 3) := by rw [(h3 96 3 (by omega)).1]; exact hm 3 (by omega)
  have m11 : r.1 94 11 = nI k := by rw [(h3 94 11 (by omega)).1]; exact h11
  have hs := shl_e (k := d 3) (by omega)
  have htk : Fm_takesDraft n N = some (up2 r.1 95 12 (nI (2 ^ d 3 - 1)), r.2) := by
    unfold Fm_takesDraft
    refine (bnd_e h1).trans ?_
    rw [grd_t (by decide), grd_t (by decide), show tn (3 : Int32) = 3 from rfl, show tn (12 : Int32) = 12 from rfl, m3, l_1, hs, nI_subL (by omega)]
  refine ⟨(up2 (up2 r.1 95 12 (nI (2 ^ d 3 - 1))) 95 4 (nI k), r.2), ?_, ⟨fun j hj => ?_, fun j j1 j2 => ?_⟩, Fr.I (Fr.I (h3.mono (fun c j q => q.1)) rfl) rfl⟩
  · unfold Fm_grid_j59
    rw [if_neg (by decide), htk, bnd_some, grd_t (by decide)]
    simp (disch := omega) only [l_0, l_1, l_2, l_3, l_4, l_5, l_6, l_7, l_8, l_9, l_10, l_11, l_12, l_13, l_14, l_16, l_20, l_21, l_23, l_24, l_30, l_32, l_40, l_41, l_44, l_48, l_57, l_59, l_60, l_63, l_64, l_80, l_84, l_96, l_97, l_99, l_120, l_122, l_127, l_200, l_240, l_255, l_840, l_999, l_1000, l_1001, l_2400, l_3064, l_9999, l_10000, l_13849, l_16383, l_25173, l_65535, l_65536, l_99999, l_1000000000, neg_nI, pk_mul, nI_add, nI_subL, tn_nI, inb_t, grd_true, bnd_some, elS_l, elS_r, nI_ltI, nI_leI, nI_inj, fa_and, fa_or, m1_eq, eq_m1, m1_lt, m1_le, lt_m1, le_m1, m1_lt0, up2_at, up2_no, ite_true, ite_false, if_true, if_false, Bool.false_eq_true, reduceIte, reduceCtorEq, not_true_eq_false, not_false_eq_true, eq_self, decide_true, decide_false, le_tt, le_ff, lt_tt, lt_ff, eq_ff, and_true, true_and, and_false, false_and, or_true, true_or, or_false, false_or, ne_eq, decide_eq_true_eq, decide_eq_false_iff_not, Bool.not_true, Bool.not_false, Bool.and_true, Bool.true_and, Bool.and_false, Bool.false_and, gs_at, gs_no, oI_n, oI_s, m11]
  · show up2 (up2 r.1 95 12 (nI (2 ^ d 3 - 1))) 95 4 (nI k) 95 j = _
    by_cases c64 : j < 64
    · rw [iv_lo c64]
      by_cases c4 : j = 4
      · rw [c4, up2_at, ng_4]
      · rw [up2_no (by omega)]
        by_cases c12 : j = 12
        · rw [c12, up2_at, ng_12]
        · rw [up2_no (by omega)]
          by_cases c6 : j = 6
          · rw [c6, ng_6, (h3 95 6 (by omega)).1]
            exact hF.lo (by omega)
          · rw [ng_o c64 c6 c12 c4]
            exact h2 j c64 c6
    · rw [up2_no (by omega), up2_no (by omega), (h3 95 j (by omega)).1, hF.1 j hj]
      unfold iv
      rw [ng_h c64]
  · show up2 (up2 r.1 95 12 (nI (2 ^ d 3 - 1))) 95 4 (nI k) 95 j = _
    rw [up2_no (by omega), up2_no (by omega), (h3 95 j (by omega)).1]
    exact hF.2 j j1 j2
end
theorem begin_c2 {C C2 : Mm} {g d : Nat → Nat} {k n : Nat} (hd : ND d) (hk : k ≤ 24) (hcn : CN C2 4 d) (kC : C = (up2 C2.1 4 4 (nI k), C2.2)) (h183 : C.1 18 3 = nI (g 6)) (hn : 100 < n) : ∃ M1, bnd (St_beginWith n 18 4 (up2 C.1 1 1 (nI 0), C.2)) (fun z => Fi_forgetWays n z) = some M1 ∧ SV M1 18 (newG g d k) ∧ CA M1 (newG g d k) ∧ M1.1 1 1 = nI 0 ∧ Fr (fun c j => c = 1 ∨ c = 15 ∨ c = 4 ∨ (18 ≤ c ∧ c < 36)) C M1 := by
  have hC'n : CN (up2 C2.1 1 1 (nI 0), C2.2) 4 d := hcn.fr (P := fun c _ => c = 1) (Fr.I Fr.rf rfl) (fun k j hk => by omega)
  have hC2 : ((up2 C.1 1 1 (nI 0), C.2) : Mm) = (up2 (up2 C2.1 1 1 (nI 0)) 4 4 (nI k), C2.2) := by
    rw [kC]
    dsimp only
    congr 1
    funext c j
    by_cases q1 : c = 1 ∧ j = 1
    · rw [q1.1, q1.2, up2_at, up2_no (by omega), up2_at]
    · rw [up2_no q1]
      by_cases q2 : c = 4 ∧ j = 4
      · rw [q2.1, q2.2, up2_at, up2_at]
      · rw [up2_no q2, up2_no q2, up2_no q1]
  have h183' : C2.1 18 3 = nI (g 6) := by
    rw [kC] at h183
    rw [← h183]
    show _ = up2 C2.1 4 4 (nI k) 18 3
    rw [up2_no (by omega)]
  obtain ⟨M1, a1, a2, a3, a4⟩ := begin_c (g := g) (k := k) (n := n) hd hk hC'n (by simp (disch := omega) only [l_0, l_1, l_2, l_3, l_4, l_5, l_6, l_7, l_8, l_9, l_10, l_11, l_12, l_13, l_14, l_16, l_20, l_21, l_23, l_24, l_30, l_32, l_40, l_41, l_44, l_48, l_57, l_59, l_60, l_63, l_64, l_80, l_84, l_96, l_97, l_99, l_120, l_122, l_127, l_200, l_240, l_255, l_840, l_999, l_1000, l_1001, l_2400, l_3064, l_9999, l_10000, l_13849, l_16383, l_25173, l_65535, l_65536, l_99999, l_1000000000, neg_nI, pk_mul, nI_add, nI_subL, tn_nI, inb_t, grd_true, bnd_some, elS_l, elS_r, nI_ltI, nI_leI, nI_inj, fa_and, fa_or, m1_eq, eq_m1, m1_lt, m1_le, lt_m1, le_m1, m1_lt0, up2_at, up2_no, ite_true, ite_false, if_true, if_false, Bool.false_eq_true, reduceIte, reduceCtorEq, not_true_eq_false, not_false_eq_true, eq_self, decide_true, decide_false, le_tt, le_ff, lt_tt, lt_ff, eq_ff, and_true, true_and, and_false, false_and, or_true, true_or, or_false, false_or, ne_eq, decide_eq_true_eq, decide_eq_false_iff_not, Bool.not_true, Bool.not_false, Bool.and_true, Bool.true_and, Bool.and_false, Bool.false_and, gs_at, gs_no, oI_n, oI_s, h183']) hn
  rw [← hC2] at a1
  refine ⟨M1, a1, a2, a3, ?_, fun c j hcj => ?_⟩
  · rw [(a4 1 1 (by omega)).1]
    exact at1u
  · obtain ⟨z1, z2⟩ := a4 c j (by omega)
    refine ⟨?_, by rw [z2, kC]⟩
    rw [z1, kC]
    show up2 C2.1 1 1 (nI 0) c j = up2 C2.1 4 4 (nI k) c j
    rw [up2_no (by omega), up2_no (by omega)]
theorem op_grid {n : Nat} (hn : 4000 < n) (x : Int32) : OK2 (Fg_grid n x) (Fm_grid n x) := by
  rintro ⟨g, kp, s, b⟩ M hv hc hm
  obtain ⟨hg, hkg, hs, hB⟩ := hv
  dsimp only at hg hkg hs hB
  by_cases hx : ∃ L, 1 ≤ L ∧ L ≤ 200 ∧ L ≤ s ∧ x = nI L
  case neg =>
    obtain ⟨n1, n2⟩ := tx_no hs hx
    refine ⟨-1, M, M, (g, kp, s, b), ?_, ?_, ⟨hg, hkg, hs, hB⟩, hc, hm⟩
    · unfold Fg_grid
      rw [n1 M hc.2.1.1, bnd_some]
      rfl
    · unfold Fm_grid
      rw [n2 M hm.2.1, bnd_some]
      rfl
  obtain ⟨L, hL1, hL2, hL3, rfl⟩ := hx
  obtain ⟨⟨hSV, hCA⟩, ⟨hT, hTb⟩, hK⟩ := hc
  dsimp only at hSV hCA hT hTb hK
  have H : ∀ N : Mm, (∀ i, i < 240 → N.1 97 i &&& nI 255 = nI (b i)) → ∃ r C' y, Rd_readText n (nI L) true M = some (r, C') ∧ (bnd (Fm_begins n ((up2 (up2 (up2 (up2 N.1 94 5 (nI 0)) 94 6 (nI L)) 94 4 (nI 0)) 94 11 (nI 0)), N.2)) (fun z4 => bnd (Fm_readsClause n z4) (fun z6 => loop (fun s1 : Int32 × Mm => Fm_grid_b19 n s1.1 s1.2) n (b2i z6.1, z6.2))) = some y ∧ Fr (fun c j => c = 96 ∨ (c = 94 ∧ 4 ≤ j ∧ j ≤ 12)) N y.2) ∧ XO L DG r C' y := fun N hN => by
    obtain ⟨N1, e1, e2, e3⟩ := Fm_begins_e (N := ((up2 (up2 (up2 (up2 N.1 94 5 (nI 0)) 94 6 (nI L)) 94 4 (nI 0)) 94 11 (nI 0)), N.2)) (n := n) (by omega)
    have hRM : RM b L 0 0 N1 := ⟨⟨by rw [(e3 94 6 (by omega)).1]; simp (disch := omega) only [l_0, l_1, l_2, l_3, l_4, l_5, l_6, l_7, l_8, l_9, l_10, l_11, l_12, l_13, l_14, l_16, l_20, l_21, l_23, l_24, l_30, l_32, l_40, l_41, l_44, l_48, l_57, l_59, l_60, l_63, l_64, l_80, l_84, l_96, l_97, l_99, l_120, l_122, l_127, l_200, l_240, l_255, l_840, l_999, l_1000, l_1001, l_2400, l_3064, l_9999, l_10000, l_13849, l_16383, l_25173, l_65535, l_65536, l_99999, l_1000000000, neg_nI, pk_mul, nI_add, nI_subL, tn_nI, inb_t, grd_true, bnd_some, elS_l, elS_r, nI_ltI, nI_leI, nI_inj, fa_and, fa_or, m1_eq, eq_m1, m1_lt, m1_le, lt_m1, le_m1, m1_lt0, up2_at, up2_no, ite_true, ite_false, if_true, if_false, Bool.false_eq_true, reduceIte, reduceCtorEq, not_true_eq_false, not_false_eq_true, eq_self, decide_true, decide_false, le_tt, le_ff, lt_tt, lt_ff, eq_ff, and_true, true_and, and_false, false_and, or_true, true_or, or_false, false_or, ne_eq, decide_eq_true_eq, decide_eq_false_iff_not, Bool.not_true, Bool.not_false, Bool.and_true, Bool.true_and, Bool.and_false, Bool.false_and, gs_at, gs_no, oI_n, oI_s], by rw [(e3 94 5 (by omega)).1]; simp (disch := omega) only [l_0, l_1, l_2, l_3, l_4, l_5, l_6, l_7, l_8, l_9, l_10, l_11, l_12, l_13, l_14, l_16, l_20, l_21, l_23, l_24, l_30, l_32, l_40, l_41, l_44, l_48, l_57, l_59, l_60, l_63, l_64, l_80, l_84, l_96, l_97, l_99, l_120, l_122, l_127, l_200, l_240, l_255, l_840, l_999, l_1000, l_1001, l_2400, l_3064, l_9999, l_10000, l_13849, l_16383, l_25173, l_65535, l_65536, l_99999, l_1000000000, neg_nI, pk_mul, nI_add, nI_subL, tn_nI, inb_t, grd_true, bnd_some, elS_l, elS_r, nI_ltI, nI_leI, nI_inj, fa_and, fa_or, m1_eq, eq_m1, m1_lt, m1_le, lt_m1, le_m1, m1_lt0, up2_at, up2_no, ite_true, ite_false, if_true, if_false, Bool.false_eq_true, reduceIte, reduceCtorEq, not_true_eq_false, not_false_eq_true, eq_self, decide_true, decide_false, le_tt, le_ff, lt_tt, lt_ff, eq_ff, and_true, true_and, and_false, false_and, or_true, true_or, or_false, false_or, ne_eq, decide_eq_true_eq, decide_eq_false_iff_not, Bool.not_true, Bool.not_false, Bool.and_true, Bool.true_and, Bool.and_false, Bool.false_and, gs_at, gs_no, oI_n, oI_s], by rw [(e3 94 11 (by omega)).1]; simp (disch := omega) only [l_0, l_1, l_2, l_3, l_4, l_5, l_6, l_7, l_8, l_9, l_10, l_11, l_12, l_13, l_14, l_16, l_20, l_21, l_23, l_24, l_30, l_32, l_40, l_41, l_44, l_48, l_57, l_59, l_60, l_63, l_64, l_80, l_84, l_96, l_97, l_99, l_120, l_122, l_127, l_200, l_240, l_255, l_840, l_999, l_1000, l_1001, l_2400, l_3064, l_9999, l_10000, l_13849, l_16383, l_25173, l_65535, l_65536, l_99999, l_1000000000, neg_nI, pk_mul, nI_add, nI_subL, tn_nI, inb_t, grd_true, bnd_some, elS_l, elS_r, nI_ltI, nI_leI, nI_inj, fa_and, fa_or, m1_eq, eq_m1, m1_lt, m1_le, lt_m1, le_m1, m1_lt0, up2_at, up2_no, ite_true, ite_false, if_true, if_false, Bool.false_eq_true, reduceIte, reduceCtorEq, not_true_eq_false, not_false_eq_true, eq_self, decide_true, decide_false, le_tt, le_ff, lt_tt, lt_ff, eq_ff, and_true, true_and, and_false, false_and, or_true, true_or, or_false, false_or, ne_eq, decide_eq_true_eq, decide_eq_false_iff_not, Bool.not_true, Bool.not_false, Bool.and_true, Bool.true_and, Bool.and_false, Bool.false_and, gs_at, gs_no, oI_n, oI_s]⟩, fun i hi => by rw [(e3 97 i (by omega)).1]; simp (disch := omega) only [l_0, l_1, l_2, l_3, l_4, l_5, l_6, l_7, l_8, l_9, l_10, l_11, l_12, l_13, l_14, l_16, l_20, l_21, l_23, l_24, l_30, l_32, l_40, l_41, l_44, l_48, l_57, l_59, l_60, l_63, l_64, l_80, l_84, l_96, l_97, l_99, l_120, l_122, l_127, l_200, l_240, l_255, l_840, l_999, l_1000, l_1001, l_2400, l_3064, l_9999, l_10000, l_13849, l_16383, l_25173, l_65535, l_65536, l_99999, l_1000000000, neg_nI, pk_mul, nI_add, nI_subL, tn_nI, inb_t, grd_true, bnd_some, elS_l, elS_r, nI_ltI, nI_leI, nI_inj, fa_and, fa_or, m1_eq, eq_m1, m1_lt, m1_le, lt_m1, le_m1, m1_lt0, up2_at, up2_no, ite_true, ite_false, if_true, if_false, Bool.false_eq_true, reduceIte, reduceCtorEq, not_true_eq_false, not_false_eq_true, eq_self, decide_true, decide_false, le_tt, le_ff, lt_tt, lt_ff, eq_ff, and_true, true_and, and_false, false_and, or_true, true_or, or_false, false_or, ne_eq, decide_eq_true_eq, decide_eq_false_iff_not, Bool.not_true, Bool.not_false, Bool.and_true, Bool.true_and, Bool.and_false, Bool.false_and, gs_at, gs_no, oI_n, oI_s, hN i hi]⟩
    obtain ⟨r, C', y, a1, a2, a3⟩ := rd_gen (rc := Fm_readsClause n) (Dr := DG) (w := 1) (v := true) (C := M) (N := N1) (n := n) rfl hL1 hL2 (by omega) hB DG.st (fun p N' hp hR => ⟨(up2 N'.1 94 7 (fltI 4 p), N'.2), by
      obtain ⟨⟨t6, t5, t11⟩, _⟩ := hR
      unfold Fm_readsClause Fm_wrongAt
      rw [t11, if_pos (by decide), t5]
      rfl, at1u⟩) (fun k p C N' hk hp hC hN' hD => gclause hL2 hB (by omega) hk hp hC hN' hD) (fun C1 hC1 => ⟨d0F, ND_0, hC1, e2⟩) hTb hRM
    refine ⟨r, C', y, a1, ⟨?_, ?_⟩, a3⟩
    · rw [e1, bnd_some]
      exact a2
    · have f1 := gB_fr (P := fun c j => c = 96 ∨ (c = 94 ∧ 4 ≤ j ∧ j ≤ 12)) (.inr (by omega)) (.inr (by omega)) (fun N z hz => (fr_Fm_readsClause hz).mono (fun c j q => by unfold fp_Fm_readsClause at q; omega)) a2
      exact ((Fr.I (Fr.I (Fr.I (Fr.I Fr.rf (.inr (by omega))) (.inr (by omega))) (.inr (by omega))) (.inr (by omega))).tr (e3.mono (fun c j q => .inl q))).tr f1
  obtain ⟨r, C', y0, e1, _, o0⟩ := H M hm.2.2
  have frC := fr_Rd_readText e1
  dsimp only at frC
  have H2 : ∀ N : Mm, (∀ i, i < 240 → N.1 97 i &&& nI 255 = nI (b i)) → ∃ y, (bnd (Fm_begins n ((up2 (up2 (up2 (up2 N.1 94 5 (nI 0)) 94 6 (nI L)) 94 4 (nI 0)) 94 11 (nI 0)), N.2)) (fun z4 => bnd (Fm_readsClause n z4) (fun z6 => loop (fun s1 : Int32 × Mm => Fm_grid_b19 n s1.1 s1.2) n (b2i z6.1, z6.2))) = some y ∧ Fr (fun c j => c = 96 ∨ (c = 94 ∧ 4 ≤ j ∧ j ≤ 12)) N y.2) ∧ XO L DG r C' y := fun N hN => by
    obtain ⟨r', C'', y, a1, a2, a3⟩ := H N hN
    rw [e1] at a1
    cases a1
    exact ⟨y, a2, a3⟩
  obtain ⟨⟨h, hF, hKH⟩, hM4, hMb⟩ := hm
  dsimp only at hF hKH hM4 hMb
  have hgate := fun (Cx Nx : Mm) => tx_yes (C := Cx) (N := Nx) (s := s) (L := L) hL1 hL2 hL3 hs
  have hmod : ∀ (N : Mm) (y : Int32 × Mm), N.1 94 4 = nI s → bnd (Fm_begins n ((up2 (up2 (up2 (up2 N.1 94 5 (nI 0)) 94 6 (nI L)) 94 4 (nI 0)) 94 11 (nI 0)), N.2)) (fun z4 => bnd (Fm_readsClause n z4) (fun z6 => loop (fun s1 : Int32 × Mm => Fm_grid_b19 n s1.1 s1.2) n (b2i z6.1, z6.2))) = some y → Fm_grid n (nI L) N = Fm_grid_j59 n y.1 y.2 := fun N y hN hy => by
    unfold Fm_grid
    rw [(hgate M N hT hN).2, bnd_some, if_pos rfl]
    have : (fun z4 => bnd (Fm_readsClause n z4) (fun z6 => bnd (loop (fun s1 : Int32 × Mm => Fm_grid_b19 n s1.1 s1.2) n (b2i z6.1, z6.2)) (fun y16 => Fm_grid_j59 n y16.1 y16.2))) = fun z4 => bnd (bnd (Fm_readsClause n z4) (fun z6 => loop (fun s1 : Int32 × Mm => Fm_grid_b19 n s1.1 s1.2) n (b2i z6.1, z6.2))) (fun y16 => Fm_grid_j59 n y16.1 y16.2) := funext fun z4 => bnd_as
    rw [this, bnd_as, hy, bnd_some]
  have hz4 : ∀ (N : Mm) (y : Int32 × Mm), bnd (Fm_begins n ((up2 (up2 (up2 (up2 N.1 94 5 (nI 0)) 94 6 (nI L)) 94 4 (nI 0)) 94 11 (nI 0)), N.2)) (fun z4 => bnd (Fm_readsClause n z4) (fun z6 => loop (fun s1 : Int32 × Mm => Fm_grid_b19 n s1.1 s1.2) n (b2i z6.1, z6.2))) = some y → y.2.1 94 4 = nI 0 := fun N y fz => by
    obtain ⟨N1, e1', e2', e3'⟩ := Fm_begins_e (N := ((up2 (up2 (up2 (up2 N.1 94 5 (nI 0)) 94 6 (nI L)) 94 4 (nI 0)) 94 11 (nI 0)), N.2)) (n := n) (by omega)
    rw [e1', bnd_some] at fz
    have f4' := gB_fr (rc := Fm_readsClause n) (P := fun c j => c = 96 ∨ (c = 94 ∧ 5 ≤ j ∧ j ≤ 12)) (.inr (by omega)) (.inr (by omega)) (fun N z hz => (fr_Fm_readsClause hz).mono (fun c j q => by unfold fp_Fm_readsClause at q; omega)) fz
    rw [(f4' 94 4 (by omega)).1, (e3' 94 4 (by omega)).1]
    simp (disch := omega) only [l_0, l_1, l_2, l_3, l_4, l_5, l_6, l_7, l_8, l_9, l_10, l_11, l_12, l_13, l_14, l_16, l_20, l_21, l_23, l_24, l_30, l_32, l_40, l_41, l_44, l_48, l_57, l_59, l_60, l_63, l_64, l_80, l_84, l_96, l_97, l_99, l_120, l_122, l_127, l_200, l_240, l_255, l_840, l_999, l_1000, l_1001, l_2400, l_3064, l_9999, l_10000, l_13849, l_16383, l_25173, l_65535, l_65536, l_99999, l_1000000000, neg_nI, pk_mul, nI_add, nI_subL, tn_nI, inb_t, grd_true, bnd_some, elS_l, elS_r, nI_ltI, nI_leI, nI_inj, fa_and, fa_or, m1_eq, eq_m1, m1_lt, m1_le, lt_m1, le_m1, m1_lt0, up2_at, up2_no, ite_true, ite_false, if_true, if_false, Bool.false_eq_true, reduceIte, reduceCtorEq, not_true_eq_false, not_false_eq_true, eq_self, decide_true, decide_false, le_tt, le_ff, lt_tt, lt_ff, eq_ff, and_true, true_and, and_false, false_and, or_true, true_or, or_false, false_or, ne_eq, decide_eq_true_eq, decide_eq_false_iff_not, Bool.not_true, Bool.not_false, Bool.and_true, Bool.true_and, Bool.and_false, Bool.false_and, gs_at, gs_no, oI_n, oI_s]
  rcases o0 with ⟨f, q, f1, f2, f3, f4, _, _⟩ | ⟨k, C2, k1, k2, k3, _, _, kD, kC⟩
  · have hng := flt_ng (k := f) (q := q) f2 (by omega)
    obtain ⟨M1, hM1⟩ : ∃ M1 : Mm, M1 = (up2 C'.1 1 1 (nI 0), C'.2) := ⟨_, rfl⟩
    have fr1 : Fr (fun c j => c < 12) M M1 := by
      rw [hM1]
      exact Fr.I (frC.mono (fun c j q => by unfold fp_Rd_readText at q; omega)) (by omega)
    obtain ⟨y, ⟨y1, y2⟩, y3⟩ := H2 M1 (fun i hi => by rw [(fr1 97 i (by omega)).1]; exact hMb i hi)
    have hy : y.1 = nI 0 ∧ y.2.1 94 7 = r := by
      rcases y3 with ⟨f', q', _, _, _, g4, g5, g6⟩ | ⟨k, _, k1, k2, k3, _⟩
      · exact ⟨g5, by rw [g6, g4]⟩
      · rw [f4, hng, m1_eq (by omega) (by omega) (by omega)] at k3
        cases k3
    refine ⟨r, M1, y.2, (g, kp, 0, b), ?_, ?_, ⟨hg, hkg, by show 0 ≤ 240; omega, hB⟩, ?_, ?_⟩
    · unfold Fg_grid
      rw [(hgate M M hT hM4).1, bnd_some, if_pos rfl, e1, bnd_some]
      dsimp only
      rw [if_pos (by rw [f4, hng]; simp (disch := omega) only [l_0, l_1, l_2, l_3, l_4, l_5, l_6, l_7, l_8, l_9, l_10, l_11, l_12, l_13, l_14, l_16, l_20, l_21, l_23, l_24, l_30, l_32, l_40, l_41, l_44, l_48, l_57, l_59, l_60, l_63, l_64, l_80, l_84, l_96, l_97, l_99, l_120, l_122, l_127, l_200, l_240, l_255, l_840, l_999, l_1000, l_1001, l_2400, l_3064, l_9999, l_10000, l_13849, l_16383, l_25173, l_65535, l_65536, l_99999, l_1000000000, neg_nI, pk_mul, nI_add, nI_subL, tn_nI, inb_t, grd_true, bnd_some, elS_l, elS_r, nI_ltI, nI_leI, nI_inj, fa_and, fa_or, m1_eq, eq_m1, m1_lt, m1_le, lt_m1, le_m1, m1_lt0, up2_at, up2_no, ite_true, ite_false, if_true, if_false, Bool.false_eq_true, reduceIte, reduceCtorEq, not_true_eq_false, not_false_eq_true, eq_self, decide_true, decide_false, le_tt, le_ff, lt_tt, lt_ff, eq_ff, and_true, true_and, and_false, false_and, or_true, true_or, or_false, false_or, ne_eq, decide_eq_true_eq, decide_eq_false_iff_not, Bool.not_true, Bool.not_false, Bool.and_true, Bool.true_and, Bool.and_false, Bool.false_and, gs_at, gs_no, oI_n, oI_s]), hM1]
      rfl
    · rw [hmod M1 y ((fr1 94 4 (by omega)).1.trans hM4) y1, hy.1]
      unfold Fm_grid_j59
      rw [if_pos z00, hy.2]
    · have hc1 : KC M1 (g, kp, 0, b) := by
        refine ⟨⟨hSV.fr fr1 (fun k j hk => by omega), hCA.fr fr1 (fun j => by omega)⟩, ⟨by rw [hM1]; exact at1u, fun i hi => ?_⟩, hK.fr (P := fun c j => 1 ≤ c ∧ c < 12) ?_ (fun c j hc => by omega)⟩
        · rw [hM1]
          show up2 C'.1 1 1 (nI 0) 2 i = _
          rw [up2_no (by omega), (frC 2 i (by unfold fp_Rd_readText; omega)).1]
          exact hTb i hi
        · rw [hM1]
          exact Fr.I (frC.mono (fun c j q => by unfold fp_Rd_readText at q; omega)) (by omega)
      exact hc1.fr y2 (fun c j q => by omega)
    · refine ⟨⟨h, (hF.fr fr1 (fun j => by omega)).fr y2 (fun j => by omega), (hKH.fr fr1 (by omega) (fun _ _ => rfl)).fr y2 (by omega) (fun _ _ => rfl)⟩, ?_, fun i hi => ?_⟩
      · exact hz4 M1 y y1
      · rw [(y2 97 i (by omega)).1, (fr1 97 i (by omega)).1]
        exact hMb i hi
  · obtain ⟨d, hd, hcn, _⟩ := kD
    have h183 : C'.1 18 3 = nI (g 6) := by rw [(frC 18 3 (by unfold fp_Rd_readText; omega)).1]; exact hSV.1.2.2.2
    obtain ⟨M1, a1, _, _, _, a5⟩ := begin_c2 (g := g) (n := n) hd k2 hcn kC h183 (by omega)
    have fr1 : Fr (fun c j => 1 ≤ c ∧ c < 36 ∧ ¬ (c = 2)) M M1 := (frC.mono (fun c j q => by unfold fp_Rd_readText at q; omega)).tr (a5.mono (fun c j q => by omega))
    obtain ⟨y, ⟨y1, y2⟩, y3⟩ := H2 M1 (fun i hi => by rw [(fr1 97 i (by omega)).1]; exact hMb i hi)
    rcases y3 with ⟨f', q', g1, g2, g3, g4, g5, g6⟩ | ⟨k', C2', l1, l2, l3, l4, l5, l6, l7⟩
    · rw [k3, flt_ng (k := f') (q := q') g2 (by omega), eq_m1 (by omega) (by omega) (by omega)] at g4
      cases g4
    · rw [k3, nI_inj (by omega) (by omega)] at l3
      subst l3
      obtain ⟨d', x1, x2, x3⟩ := l6
      obtain ⟨M1', b1, b2, b3, b4, _⟩ := begin_c2 (g := g) (n := n) x1 k2 x2 l7 h183 (by omega)
      rw [a1] at b1
      obtain rfl := Option.some.inj b1
      have hF1 := (hF.fr fr1 (fun j => by omega)).fr y2 (fun j => by omega)
      obtain ⟨N', t1, t2, t3⟩ := takes_m (N := y.2) (n := n) x1 k2 x3 l5 hF1 (by omega)
      have hKH1 := ((hKH.fr fr1 (by omega) (fun _ _ => rfl)).fr y2 (by omega) (fun _ _ => rfl)).fr t3 (by omega) (fun _ _ => rfl)
      refine ⟨nI k, M1, N', (newG g d' k, kp, 0, b), ?_, ?_, ⟨GV_new hg x1 k2, hkg, by show 0 ≤ 240; omega, hB⟩, ?_, ⟨h, t2, hKH1⟩, ?_, fun i hi => ?_⟩
      · unfold Fg_grid
        rw [(hgate M M hT hM4).1, bnd_some, if_pos rfl, e1, bnd_some]
        dsimp only
        rw [k3, if_neg (by simp (disch := omega) only [l_0, l_1, l_2, l_3, l_4, l_5, l_6, l_7, l_8, l_9, l_10, l_11, l_12, l_13, l_14, l_16, l_20, l_21, l_23, l_24, l_30, l_32, l_40, l_41, l_44, l_48, l_57, l_59, l_60, l_63, l_64, l_80, l_84, l_96, l_97, l_99, l_120, l_122, l_127, l_200, l_240, l_255, l_840, l_999, l_1000, l_1001, l_2400, l_3064, l_9999, l_10000, l_13849, l_16383, l_25173, l_65535, l_65536, l_99999, l_1000000000, neg_nI, pk_mul, nI_add, nI_subL, tn_nI, inb_t, grd_true, bnd_some, elS_l, elS_r, nI_ltI, nI_leI, nI_inj, fa_and, fa_or, m1_eq, eq_m1, m1_lt, m1_le, lt_m1, le_m1, m1_lt0, up2_at, up2_no, ite_true, ite_false, if_true, if_false, Bool.false_eq_true, reduceIte, reduceCtorEq, not_true_eq_false, not_false_eq_true, eq_self, decide_true, decide_false, le_tt, le_ff, lt_tt, lt_ff, eq_ff, and_true, true_and, and_false, false_and, or_true, true_or, or_false, false_or, ne_eq, decide_eq_true_eq, decide_eq_false_iff_not, Bool.not_true, Bool.not_false, Bool.and_true, Bool.true_and, Bool.and_false, Bool.false_and, gs_at, gs_no, oI_n, oI_s])]
        obtain ⟨z, z1, z2⟩ := bnd_s a1
        rw [l_0, z1, bnd_some, z2, bnd_some]
      · rw [hmod M1 y ((fr1 94 4 (by omega)).1.trans hM4) y1, l4, t1]
      · have hc1 : KC M1 (newG g d' k, kp, 0, b) := ⟨⟨b2, b3⟩, ⟨b4, fun i hi => by rw [(fr1 2 i (by omega)).1]; exact hTb i hi⟩, hK.fr fr1 (fun c j hc => by omega)⟩
        exact (hc1.fr y2 (fun c j q => by omega)).fr t3 (fun c j q => by omega)
      · show N'.1 94 4 = nI 0
        rw [(t3 94 4 (by omega)).1]
        exact hz4 M1 y y1
      · rw [(t3 97 i (by omega)).1, (y2 97 i (by omega)).1, (fr1 97 i (by omega)).1]
        exact hMb i hi
