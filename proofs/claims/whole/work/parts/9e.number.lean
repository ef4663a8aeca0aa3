/-! a number read: one fault for both -/
def fltI (k q : Nat) : Int32 := ((-1000 : Int32) * nI k) - nI q
def numF (b : Nat → Nat) (L p : Nat) : Option (Nat × Nat) := if p < L ∧ b p = 32 then (if neF b L (p + 1) = p + 1 then some (1, p + 1) else if neF b L (p + 1) < L ∧ dgt (b (neF b L (p + 1))) = true then some (2, neF b L (p + 1)) else none) else some (1, p)
section
variable {M : Mm} {b : Nat → Nat} {L p n : Nat}
theorem sign_m {x : Nat} (hL : L ≤ 200) (hp : p ≤ L) (h6 : M.1 94 6 = nI L) (h5 : M.1 94 5 = nI p) (hb : ∀ i, i < 240 → M.1 97 i &&& nI 255 = nI (b i)) (hB : ∀ i, b i < 256) (hx : x < 256) : Fm_takesSign (nI x) M = some (if p < L ∧ b p = x then (true, (up2 M.1 94 5 (nI (p + 1)), M.2)) else (false, (up2 M.1 94 7 (fltI 1 p), M.2))) := by
  have hh := here_e hL hp h6 h5 hb
  have hB' := hB p
  unfold Fm_takesSign
  rw [hh, bnd_some]
  by_cases c : p < L
  · rw [if_pos c]
    by_cases d : b p = x
    · rw [if_pos (show p < L ∧ b p = x from ⟨c, d⟩), d, if_pos rfl, h5, l_1, nI_add]
    · rw [if_neg (show ¬ (p < L ∧ b p = x) from fun q => d q.2), if_neg (by simp (disch := omega) only [l_0, l_1, l_2, l_3, l_4, l_5, l_6, l_7, l_8, l_9, l_10, l_11, l_12, l_13, l_14, l_16, l_20, l_21, l_23, l_24, l_30, l_32, l_40, l_41, l_44, l_48, l_57, l_59, l_60, l_63, l_64, l_80, l_84, l_96, l_97, l_99, l_120, l_122, l_127, l_200, l_240, l_255, l_840, l_999, l_1000, l_1001, l_2400, l_3064, l_9999, l_10000, l_13849, l_16383, l_25173, l_65535, l_65536, l_99999, l_1000000000, neg_nI, pk_mul, nI_add, nI_subL, tn_nI, inb_t, grd_true, bnd_some, elS_l, elS_r, nI_ltI, nI_leI, nI_inj, fa_and, fa_or, m1_eq, eq_m1, m1_lt, m1_le, lt_m1, le_m1, m1_lt0, up2_at, up2_no, ite_true, ite_false, if_true, if_false, Bool.false_eq_true, reduceIte, reduceCtorEq, not_true_eq_false, not_false_eq_true, eq_self, decide_true, decide_false, le_tt, le_ff, lt_tt, lt_ff, eq_ff, and_true, true_and, and_false, false_and, or_true, true_or, or_false, false_or, ne_eq, decide_eq_true_eq, decide_eq_false_iff_not, Bool.not_true, Bool.not_false, Bool.and_true, Bool.true_and, Bool.and_false, Bool.false_and, gs_at, gs_no, oI_n, oI_s, d]), h5]
      rfl
  · rw [if_neg c, if_neg (show ¬ (p < L ∧ b p = x) from fun q => c q.1), if_neg (by simp (disch := omega) only [l_0, l_1, l_2, l_3, l_4, l_5, l_6, l_7, l_8, l_9, l_10, l_11, l_12, l_13, l_14, l_16, l_20, l_21, l_23, l_24, l_30, l_32, l_40, l_41, l_44, l_48, l_57, l_59, l_60, l_63, l_64, l_80, l_84, l_96, l_97, l_99, l_120, l_122, l_127, l_200, l_240, l_255, l_840, l_999, l_1000, l_1001, l_2400, l_3064, l_9999, l_10000, l_13849, l_16383, l_25173, l_65535, l_65536, l_99999, l_1000000000, neg_nI, pk_mul, nI_add, nI_subL, tn_nI, inb_t, grd_true, bnd_some, elS_l, elS_r, nI_ltI, nI_leI, nI_inj, fa_and, fa_or, m1_eq, eq_m1, m1_lt, m1_le, lt_m1, le_m1, m1_lt0, up2_at, up2_no, ite_true, ite_false, if_true, if_false, Bool.false_eq_true, reduceIte, reduceCtorEq, not_true_eq_false, not_false_eq_true, eq_self, decide_true, decide_false, le_tt, le_ff, lt_tt, lt_ff, eq_ff, and_true, true_and, and_false, false_and, or_true, true_or, or_false, false_or, ne_eq, decide_eq_true_eq, decide_eq_false_iff_not, Bool.not_true, Bool.not_false, Bool.and_true, Bool.true_and, Bool.and_false, Bool.false_and, gs_at, gs_no, oI_n, oI_s]), h5]
    rfl
end
