/-! calls: seed, lasts, mend, drop, keep, undo -/
def ldB (g : Nat → Nat) (x : Int32) : Bool := inb x (g 7) && decide (g (64 + 10 * tn x + 3) = 0 ∨ g (64 + 10 * tn x + 3) = 2)
def ltB (g : Nat → Nat) (x : Int32) : Bool := inb x (g 7) && decide (g (64 + 10 * tn x + 3) = 0)
section
variable {M : Mm} {g : Nat → Nat} {n s : Nat}
theorem ld_iff {x : Int32} (h40 : g 7 ≤ 40) : ldB g x = true ↔ ∃ d, d < g 7 ∧ x = nI d ∧ (g (64 + 10 * d + 3) = 0 ∨ g (64 + 10 * d + 3) = 2) := by
  unfold ldB
  rw [Bool.and_eq_true, inb_iff (by omega), decide_eq_true_eq]
  constructor
  · rintro ⟨⟨d, h1, rfl⟩, h3⟩
    rw [tn_nI (by omega)] at h3
    exact ⟨d, h1, rfl, h3⟩
  · rintro ⟨d, h1, rfl, h3⟩
    rw [tn_nI (by omega)]
    exact ⟨⟨d, h1, rfl⟩, h3⟩
theorem lt_iff {x : Int32} (h40 : g 7 ≤ 40) : ltB g x = true ↔ ∃ d, d < g 7 ∧ x = nI d ∧ g (64 + 10 * d + 3) = 0 := by
  unfold ltB
  rw [Bool.and_eq_true, inb_iff (by omega), decide_eq_true_eq]
  constructor
  · rintro ⟨⟨d, h1, rfl⟩, h3⟩
    rw [tn_nI (by omega)] at h3
    exact ⟨d, h1, rfl, h3⟩
  · rintro ⟨d, h1, rfl, h3⟩
    rw [tn_nI (by omega)]
    exact ⟨⟨d, h1, rfl⟩, h3⟩
theorem St_isLitOrDark_e {x : Int32} (hG : GB g) (h40 : g 7 ≤ 40) (h : SV M s g) : St_isLitOrDark s x M = some (ldB g x) := by
  have h4 := h.2.1
  unfold St_isLitOrDark ldB
  rw [St_has_e h4 (by omega), bnd_some]
  cases hi : inb x (g 7) with
  | false => rfl
  | true =>
    obtain ⟨d, h1, rfl⟩ := (inb_iff (by omega)).mp hi
    have g3 := hG.1 (64 + 10 * d + 3)
    have c := (h.2.2.1 d h1).2.2.2.1
    unfold St_isLitOrDark_j27
    simp (disch := omega) only [l_0, l_1, l_2, l_3, l_4, l_5, l_6, l_7, l_8, l_9, l_10, l_11, l_12, l_13, l_14, l_16, l_20, l_21, l_23, l_24, l_30, l_32, l_40, l_41, l_44, l_48, l_57, l_59, l_60, l_63, l_64, l_80, l_84, l_96, l_97, l_99, l_120, l_122, l_127, l_200, l_240, l_255, l_840, l_999, l_1000, l_1001, l_2400, l_3064, l_9999, l_10000, l_13849, l_16383, l_25173, l_65535, l_65536, l_99999, l_1000000000, neg_nI, pk_mul, nI_add, nI_subL, tn_nI, inb_t, grd_true, bnd_some, elS_l, elS_r, nI_ltI, nI_leI, nI_inj, fa_and, fa_or, m1_eq, eq_m1, m1_lt, m1_le, lt_m1, le_m1, m1_lt0, up2_at, up2_no, ite_true, ite_false, if_true, if_false, Bool.false_eq_true, reduceIte, reduceCtorEq, not_true_eq_false, not_false_eq_true, eq_self, decide_true, decide_false, le_tt, le_ff, lt_tt, lt_ff, eq_ff, and_true, true_and, and_false, false_and, or_true, true_or, or_false, false_or, ne_eq, decide_eq_true_eq, decide_eq_false_iff_not, Bool.not_true, Bool.not_false, Bool.and_true, Bool.true_and, Bool.and_false, Bool.false_and, gs_at, gs_no, oI_n, oI_s, c]
    by_cases q : g (64 + 10 * d + 3) = 0
    · simp (disch := omega) only [l_0, l_1, l_2, l_3, l_4, l_5, l_6, l_7, l_8, l_9, l_10, l_11, l_12, l_13, l_14, l_16, l_20, l_21, l_23, l_24, l_30, l_32, l_40, l_41, l_44, l_48, l_57, l_59, l_60, l_63, l_64, l_80, l_84, l_96, l_97, l_99, l_120, l_122, l_127, l_200, l_240, l_255, l_840, l_999, l_1000, l_1001, l_2400, l_3064, l_9999, l_10000, l_13849, l_16383, l_25173, l_65535, l_65536, l_99999, l_1000000000, neg_nI, pk_mul, nI_add, nI_subL, tn_nI, inb_t, grd_true, bnd_some, elS_l, elS_r, nI_ltI, nI_leI, nI_inj, fa_and, fa_or, m1_eq, eq_m1, m1_lt, m1_le, lt_m1, le_m1, m1_lt0, up2_at, up2_no, ite_true, ite_false, if_true, if_false, Bool.false_eq_true, reduceIte, reduceCtorEq, not_true_eq_false, not_false_eq_true, eq_self, decide_true, decide_false, le_tt, le_ff, lt_tt, lt_ff, eq_ff, and_true, true_and, and_false, false_and, or_true, true_or, or_false, false_or, ne_eq, decide_eq_true_eq, decide_eq_false_iff_not, Bool.not_true, Bool.not_false, Bool.and_true, Bool.true_and, Bool.and_false, Bool.false_and, gs_at, gs_no, oI_n, oI_s, q]
    · by_cases q2 : g (64 + 10 * d + 3) = 2
      · simp (disch := omega) only [l_0, l_1, l_2, l_3, l_4, l_5, l_6, l_7, l_8, l_9, l_10, l_11, l_12, l_13, l_14, l_16, l_20, l_21, l_23, l_24, l_30, l_32, l_40, l_41, l_44, l_48, l_57, l_59, l_60, l_63, l_64, l_80, l_84, l_96, l_97, l_99, l_120, l_122, l_127, l_200, l_240, l_255, l_840, l_999, l_1000, l_1001, l_2400, l_3064, l_9999, l_10000, l_13849, l_16383, l_25173, l_65535, l_65536, l_99999, l_1000000000, neg_nI, pk_mul, nI_add, nI_subL, tn_nI, inb_t, grd_true, bnd_some, elS_l, elS_r, nI_ltI, nI_leI, nI_inj, fa_and, fa_or, m1_eq, eq_m1, m1_lt, m1_le, lt_m1, le_m1, m1_lt0, up2_at, up2_no, ite_true, ite_false, if_true, if_false, Bool.false_eq_true, reduceIte, reduceCtorEq, not_true_eq_false, not_false_eq_true, eq_self, decide_true, decide_false, le_tt, le_ff, lt_tt, lt_ff, eq_ff, and_true, true_and, and_false, false_and, or_true, true_or, or_false, false_or, ne_eq, decide_eq_true_eq, decide_eq_false_iff_not, Bool.not_true, Bool.not_false, Bool.and_true, Bool.true_and, Bool.and_false, Bool.false_and, gs_at, gs_no, oI_n, oI_s, q2]
      · simp (disch := omega) only [l_0, l_1, l_2, l_3, l_4, l_5, l_6, l_7, l_8, l_9, l_10, l_11, l_12, l_13, l_14, l_16, l_20, l_21, l_23, l_24, l_30, l_32, l_40, l_41, l_44, l_48, l_57, l_59, l_60, l_63, l_64, l_80, l_84, l_96, l_97, l_99, l_120, l_122, l_127, l_200, l_240, l_255, l_840, l_999, l_1000, l_1001, l_2400, l_3064, l_9999, l_10000, l_13849, l_16383, l_25173, l_65535, l_65536, l_99999, l_1000000000, neg_nI, pk_mul, nI_add, nI_subL, tn_nI, inb_t, grd_true, bnd_some, elS_l, elS_r, nI_ltI, nI_leI, nI_inj, fa_and, fa_or, m1_eq, eq_m1, m1_lt, m1_le, lt_m1, le_m1, m1_lt0, up2_at, up2_no, ite_true, ite_false, if_true, if_false, Bool.false_eq_true, reduceIte, reduceCtorEq, not_true_eq_false, not_false_eq_true, eq_self, decide_true, decide_false, le_tt, le_ff, lt_tt, lt_ff, eq_ff, and_true, true_and, and_false, false_and, or_true, true_or, or_false, false_or, ne_eq, decide_eq_true_eq, decide_eq_false_iff_not, Bool.not_true, Bool.not_false, Bool.and_true, Bool.true_and, Bool.and_false, Bool.false_and, gs_at, gs_no, oI_n, oI_s, q, q2]
theorem St_isLit_e {x : Int32} (hG : GB g) (h40 : g 7 ≤ 40) (h : SV M s g) : St_isLit s x M = some (ltB g x) := by
  have h4 := h.2.1
  unfold St_isLit ltB
  rw [St_has_e h4 (by omega), bnd_some]
  cases hi : inb x (g 7) with
  | false => rfl
  | true =>
    obtain ⟨d, h1, rfl⟩ := (inb_iff (by omega)).mp hi
    have g3 := hG.1 (64 + 10 * d + 3)
    have c := (h.2.2.1 d h1).2.2.2.1
    simp (disch := omega) only [l_0, l_1, l_2, l_3, l_4, l_5, l_6, l_7, l_8, l_9, l_10, l_11, l_12, l_13, l_14, l_16, l_20, l_21, l_23, l_24, l_30, l_32, l_40, l_41, l_44, l_48, l_57, l_59, l_60, l_63, l_64, l_80, l_84, l_96, l_97, l_99, l_120, l_122, l_127, l_200, l_240, l_255, l_840, l_999, l_1000, l_1001, l_2400, l_3064, l_9999, l_10000, l_13849, l_16383, l_25173, l_65535, l_65536, l_99999, l_1000000000, neg_nI, pk_mul, nI_add, nI_subL, tn_nI, inb_t, grd_true, bnd_some, elS_l, elS_r, nI_ltI, nI_leI, nI_inj, fa_and, fa_or, m1_eq, eq_m1, m1_lt, m1_le, lt_m1, le_m1, m1_lt0, up2_at, up2_no, ite_true, ite_false, if_true, if_false, Bool.false_eq_true, reduceIte, reduceCtorEq, not_true_eq_false, not_false_eq_true, eq_self, decide_true, decide_false, le_tt, le_ff, lt_tt, lt_ff, eq_ff, and_true, true_and, and_false, false_and, or_true, true_or, or_false, false_or, ne_eq, decide_eq_true_eq, decide_eq_false_iff_not, Bool.not_true, Bool.not_false, Bool.and_true, Bool.true_and, Bool.and_false, Bool.false_and, gs_at, gs_no, oI_n, oI_s, c]
    by_cases q : g (64 + 10 * d + 3) = 0
    · simp (disch := omega) only [l_0, l_1, l_2, l_3, l_4, l_5, l_6, l_7, l_8, l_9, l_10, l_11, l_12, l_13, l_14, l_16, l_20, l_21, l_23, l_24, l_30, l_32, l_40, l_41, l_44, l_48, l_57, l_59, l_60, l_63, l_64, l_80, l_84, l_96, l_97, l_99, l_120, l_122, l_127, l_200, l_240, l_255, l_840, l_999, l_1000, l_1001, l_2400, l_3064, l_9999, l_10000, l_13849, l_16383, l_25173, l_65535, l_65536, l_99999, l_1000000000, neg_nI, pk_mul, nI_add, nI_subL, tn_nI, inb_t, grd_true, bnd_some, elS_l, elS_r, nI_ltI, nI_leI, nI_inj, fa_and, fa_or, m1_eq, eq_m1, m1_lt, m1_le, lt_m1, le_m1, m1_lt0, up2_at, up2_no, ite_true, ite_false, if_true, if_false, Bool.false_eq_true, reduceIte, reduceCtorEq, not_true_eq_false, not_false_eq_true, eq_self, decide_true, decide_false, le_tt, le_ff, lt_tt, lt_ff, eq_ff, and_true, true_and, and_false, false_and, or_true, true_or, or_false, false_or, ne_eq, decide_eq_true_eq, decide_eq_false_iff_not, Bool.not_true, Bool.not_false, Bool.and_true, Bool.true_and, Bool.and_false, Bool.false_and, gs_at, gs_no, oI_n, oI_s, q]
    · simp (disch := omega) only [l_0, l_1, l_2, l_3, l_4, l_5, l_6, l_7, l_8, l_9, l_10, l_11, l_12, l_13, l_14, l_16, l_20, l_21, l_23, l_24, l_30, l_32, l_40, l_41, l_44, l_48, l_57, l_59, l_60, l_63, l_64, l_80, l_84, l_96, l_97, l_99, l_120, l_122, l_127, l_200, l_240, l_255, l_840, l_999, l_1000, l_1001, l_2400, l_3064, l_9999, l_10000, l_13849, l_16383, l_25173, l_65535, l_65536, l_99999, l_1000000000, neg_nI, pk_mul, nI_add, nI_subL, tn_nI, inb_t, grd_true, bnd_some, elS_l, elS_r, nI_ltI, nI_leI, nI_inj, fa_and, fa_or, m1_eq, eq_m1, m1_lt, m1_le, lt_m1, le_m1, m1_lt0, up2_at, up2_no, ite_true, ite_false, if_true, if_false, Bool.false_eq_true, reduceIte, reduceCtorEq, not_true_eq_false, not_false_eq_true, eq_self, decide_true, decide_false, le_tt, le_ff, lt_tt, lt_ff, eq_ff, and_true, true_and, and_false, false_and, or_true, true_or, or_false, false_or, ne_eq, decide_eq_true_eq, decide_eq_false_iff_not, Bool.not_true, Bool.not_false, Bool.and_true, Bool.true_and, Bool.and_false, Bool.false_and, gs_at, gs_no, oI_n, oI_s, q]
end
theorem GV_seed {g : Nat → Nat} (h : GV g) {k : Nat} (hk : k ≤ 65535) : GV (gs g 6 k) := by
  obtain ⟨h1, h2, h3⟩ := h
  have b := h1.2.1.1
  refine ⟨GW_cong h1 (GB_gs h1.1 (by omega) (by omega)) (fun j _ _ _ q _ => gs_no q) (by rw [gs_no (by omega)]; exact b.2.2.2.2.2.2) (fun d _ w _ _ => gs_no (by omega)), ?_, by rw [gs_no (by omega)]; exact h3⟩
  unfold DV
  simp (disch := omega) only [gs_no, gs_at]
  exact ⟨⟨h2.1.1, hk, h2.1.2.2⟩, h2.2⟩
theorem op_seed (x : Int32) : T2 (Fg_seed x) (Fm_seed x) := by
  intro g hg
  by_cases hx : rg x 0 65535 = true
  · obtain ⟨k, _, hk, rfl⟩ := (rg_iff (by decide)).mp hx
    refine ⟨true, gs g 6 k, GV_seed hg hk, fun M hS hA => ?_, fun M h hF => ?_⟩
    · have hf : Fr (fun c j => c = 18 ∧ j = 3) M (up2 M.1 18 3 (nI k), M.2) := Fr.I Fr.rf ⟨rfl, rfl⟩
      refine TC.mk (M1 := (up2 M.1 18 3 (nI k), M.2)) hg hA ?_ (hS.cong hf (fun a j h1 h2 => by omega) hg.1.2.1.1.2.2.2.2.2.1 (fun j _ _ _ q => gs_no q) ?_ ?_ ?_ (fun d _ w _ => gs_no (by omega)) (fun d hd => ?_)) hf (fun c j q => by unfold PC; omega) (fun j h1 h2 h3 => gs_no (by omega))
      · unfold Fg_seed; simp (disch := omega) only [l_0, l_1, l_2, l_3, l_4, l_5, l_6, l_7, l_8, l_9, l_10, l_11, l_12, l_13, l_14, l_16, l_20, l_21, l_23, l_24, l_30, l_32, l_40, l_41, l_44, l_48, l_57, l_59, l_60, l_63, l_64, l_80, l_84, l_96, l_97, l_99, l_120, l_122, l_127, l_200, l_240, l_255, l_840, l_999, l_1000, l_1001, l_2400, l_3064, l_9999, l_10000, l_13849, l_16383, l_25173, l_65535, l_65536, l_99999, l_1000000000, neg_nI, pk_mul, nI_add, nI_subL, tn_nI, inb_t, grd_true, bnd_some, elS_l, elS_r, nI_ltI, nI_leI, nI_inj, fa_and, fa_or, m1_eq, eq_m1, m1_lt, m1_le, lt_m1, le_m1, m1_lt0, up2_at, up2_no, ite_true, ite_false, if_true, if_false, Bool.false_eq_true, reduceIte, reduceCtorEq, not_true_eq_false, not_false_eq_true, eq_self, decide_true, decide_false, le_tt, le_ff, lt_tt, lt_ff, eq_ff, and_true, true_and, and_false, false_and, or_true, true_or, or_false, false_or, ne_eq, decide_eq_true_eq, decide_eq_false_iff_not, Bool.not_true, Bool.not_false, Bool.and_true, Bool.true_and, Bool.and_false, Bool.false_and, gs_at, gs_no, oI_n, oI_s]
      · rw [gs_no (by omega), ← hS.1.2.1]; exact (hf 18 1 (by omega)).1
      · rw [gs_no (by omega), ← hS.1.2.2.1]; exact (hf 18 2 (by omega)).1
      · rw [gs_at]; show up2 M.1 18 3 (nI k) 18 3 = _; exact up2_at
      · rw [gs_no (by omega), ← (hS.2.2.1 d hd).2.2.2.2.1]; exact (hf _ _ (by omega)).1
    · refine TM.mk (M2 := (up2 M.1 95 6 (nI k), M.2)) (P := fun c _ => c = 95) ?_ (hF.set (by omega) ?_) (Fr.I Fr.rf rfl) (fun c j q => .inl q)
      · unfold Fm_seed
        rw [l_0, l_65535, Fm_in_x (by decide) (by decide), hx]
        simp (disch := omega) only [l_0, l_1, l_2, l_3, l_4, l_5, l_6, l_7, l_8, l_9, l_10, l_11, l_12, l_13, l_14, l_16, l_20, l_21, l_23, l_24, l_30, l_32, l_40, l_41, l_44, l_48, l_57, l_59, l_60, l_63, l_64, l_80, l_84, l_96, l_97, l_99, l_120, l_122, l_127, l_200, l_240, l_255, l_840, l_999, l_1000, l_1001, l_2400, l_3064, l_9999, l_10000, l_13849, l_16383, l_25173, l_65535, l_65536, l_99999, l_1000000000, neg_nI, pk_mul, nI_add, nI_subL, tn_nI, inb_t, grd_true, bnd_some, elS_l, elS_r, nI_ltI, nI_leI, nI_inj, fa_and, fa_or, m1_eq, eq_m1, m1_lt, m1_le, lt_m1, le_m1, m1_lt0, up2_at, up2_no, ite_true, ite_false, if_true, if_false, Bool.false_eq_true, reduceIte, reduceCtorEq, not_true_eq_false, not_false_eq_true, eq_self, decide_true, decide_false, le_tt, le_ff, lt_tt, lt_ff, eq_ff, and_true, true_and, and_false, false_and, or_true, true_or, or_false, false_or, ne_eq, decide_eq_true_eq, decide_eq_false_iff_not, Bool.not_true, Bool.not_false, Bool.and_true, Bool.true_and, Bool.and_false, Bool.false_and, gs_at, gs_no, oI_n, oI_s]
      · rw [iv_lo (by omega), gs_at]
  · refine ⟨false, g, hg, fun M hS hA => TC.id hS hA ?_, fun M h hF => TM.id hF ?_⟩
    · unfold Fg_seed
      rcases i32c x with ⟨k, hk, rfl⟩ | h
      · rw [rg_n hk, decide_eq_true_eq] at hx
        have : 65535 < k := by omega
        simp (disch := omega) only [l_0, l_1, l_2, l_3, l_4, l_5, l_6, l_7, l_8, l_9, l_10, l_11, l_12, l_13, l_14, l_16, l_20, l_21, l_23, l_24, l_30, l_32, l_40, l_41, l_44, l_48, l_57, l_59, l_60, l_63, l_64, l_80, l_84, l_96, l_97, l_99, l_120, l_122, l_127, l_200, l_240, l_255, l_840, l_999, l_1000, l_1001, l_2400, l_3064, l_9999, l_10000, l_13849, l_16383, l_25173, l_65535, l_65536, l_99999, l_1000000000, neg_nI, pk_mul, nI_add, nI_subL, tn_nI, inb_t, grd_true, bnd_some, elS_l, elS_r, nI_ltI, nI_leI, nI_inj, fa_and, fa_or, m1_eq, eq_m1, m1_lt, m1_le, lt_m1, le_m1, m1_lt0, up2_at, up2_no, ite_true, ite_false, if_true, if_false, Bool.false_eq_true, reduceIte, reduceCtorEq, not_true_eq_false, not_false_eq_true, eq_self, decide_true, decide_false, le_tt, le_ff, lt_tt, lt_ff, eq_ff, and_true, true_and, and_false, false_and, or_true, true_or, or_false, false_or, ne_eq, decide_eq_true_eq, decide_eq_false_iff_not, Bool.not_true, Bool.not_false, Bool.and_true, Bool.true_and, Bool.and_false, Bool.false_and, gs_at, gs_no, oI_n, oI_s]
      · simp (disch := omega) only [l_0, l_1, l_2, l_3, l_4, l_5, l_6, l_7, l_8, l_9, l_10, l_11, l_12, l_13, l_14, l_16, l_20, l_21, l_23, l_24, l_30, l_32, l_40, l_41, l_44, l_48, l_57, l_59, l_60, l_63, l_64, l_80, l_84, l_96, l_97, l_99, l_120, l_122, l_127, l_200, l_240, l_255, l_840, l_999, l_1000, l_1001, l_2400, l_3064, l_9999, l_10000, l_13849, l_16383, l_25173, l_65535, l_65536, l_99999, l_1000000000, neg_nI, pk_mul, nI_add, nI_subL, tn_nI, inb_t, grd_true, bnd_some, elS_l, elS_r, nI_ltI, nI_leI, nI_inj, fa_and, fa_or, m1_eq, eq_m1, m1_lt, m1_le, lt_m1, le_m1, m1_lt0, up2_at, up2_no, ite_true, ite_false, if_true, if_false, Bool.false_eq_true, reduceIte, reduceCtorEq, not_true_eq_false, not_false_eq_true, eq_self, decide_true, decide_false, le_tt, le_ff, lt_tt, lt_ff, eq_ff, and_true, true_and, and_false, false_and, or_true, true_or, or_false, false_or, ne_eq, decide_eq_true_eq, decide_eq_false_iff_not, Bool.not_true, Bool.not_false, Bool.and_true, Bool.true_and, Bool.and_false, Bool.false_and, gs_at, gs_no, oI_n, oI_s, xlt h]
    · unfold Fm_seed
      rw [l_0, l_65535, Fm_in_x (by decide) (by decide), ts_nt hx]
      simp (disch := omega) only [l_0, l_1, l_2, l_3, l_4, l_5, l_6, l_7, l_8, l_9, l_10, l_11, l_12, l_13, l_14, l_16, l_20, l_21, l_23, l_24, l_30, l_32, l_40, l_41, l_44, l_48, l_57, l_59, l_60, l_63, l_64, l_80, l_84, l_96, l_97, l_99, l_120, l_122, l_127, l_200, l_240, l_255, l_840, l_999, l_1000, l_1001, l_2400, l_3064, l_9999, l_10000, l_13849, l_16383, l_25173, l_65535, l_65536, l_99999, l_1000000000, neg_nI, pk_mul, nI_add, nI_subL, tn_nI, inb_t, grd_true, bnd_some, elS_l, elS_r, nI_ltI, nI_leI, nI_inj, fa_and, fa_or, m1_eq, eq_m1, m1_lt, m1_le, lt_m1, le_m1, m1_lt0, up2_at, up2_no, ite_true, ite_false, if_true, if_false, Bool.false_eq_true, reduceIte, reduceCtorEq, not_true_eq_false, not_false_eq_true, eq_self, decide_true, decide_false, le_tt, le_ff, lt_tt, lt_ff, eq_ff, and_true, true_and, and_false, false_and, or_true, true_or, or_false, false_or, ne_eq, decide_eq_true_eq, decide_eq_false_iff_not, Bool.not_true, Bool.not_false, Bool.and_true, Bool.true_and, Bool.and_false, Bool.false_and, gs_at, gs_no, oI_n, oI_s]
theorem GV_last {g : Nat → Nat} (h : GV g) {d m : Nat} (hd : d < g 7) (h1 : 1 ≤ m) (hm : m ≤ 9999) : GV (gs g (64 + 10 * d + 7) (g 5 + m + 1)) := by
  obtain ⟨w1, h2, h3⟩ := h
  have b := w1.2.1.1
  refine ⟨GW_cong w1 (GB_gs w1.1 (by have := h2.1.1; omega) (by omega)) (fun j hj _ _ q _ => gs_no (by omega)) (by rw [gs_no (by omega)]; exact b.2.2.2.2.2.2) (fun d _ w _ _ => gs_no (by omega)), ?_, by rw [gs_no (by omega)]; exact h3⟩
  have q1 := h2.1
  refine ⟨?_, fun e he => ?_⟩
  · rw [gs_no (by omega), gs_no (by omega), gs_no (by omega)]; exact q1
  · rw [gs_no (by omega)] at he
    obtain ⟨a1, a2, a3, a4, a5, a6, a7, a8⟩ := h2.2 e he
    by_cases c : e = d
    · subst c
      simp (disch := omega) only [gs_no, gs_at]
      exact ⟨a1, a2, a3, a4, a5, a6, by omega, fun _ => .inr (by omega)⟩
    · simp (disch := omega) only [gs_no]
      exact ⟨a1, a2, a3, a4, a5, a6, a7, a8⟩
theorem op_lasts (x y : Int32) : T2 (Fg_lasts x y) (Fm_lasts x y) := by
  intro g hg
  have h40 := hg.2.2
  have hG := hg.1.1
  have q1 := hg.2.1.1
  by_cases hx : (ldB g x && rg y 1 9999) = true
  · rw [Bool.and_eq_true] at hx
    obtain ⟨d, hd, rfl, hl⟩ := (ld_iff h40).mp hx.1
    obtain ⟨m, m1, m2, rfl⟩ := (rg_iff (by decide)).mp hx.2
    have g3 := hG.1 (64 + 10 * d + 3)
    refine ⟨nI (g 5 + m), gs g (64 + 10 * d + 7) (g 5 + m + 1), GV_last hg hd m1 m2, fun M hS hA => ?_, fun M h hF => ?_⟩
    · have hf : Fr (fun c j => c = 29 ∧ j = d) M (up2 M.1 29 d (nI (g 5 + m)), M.2) := Fr.I Fr.rf ⟨rfl, rfl⟩
      refine TC.mk (M1 := (up2 M.1 29 d (nI (g 5 + m)), M.2)) hg hA ?_ (hS.cong hf (fun a j h1 h2 => by omega) hg.1.2.1.1.2.2.2.2.2.1 (fun j _ _ _ q => gs_no (by omega)) ?_ ?_ ?_ (fun e _ w _ => gs_no (by omega)) (fun e he => ?_)) hf (fun c j q => by unfold PC; omega) (fun j h1 h2 h3 => gs_no (by omega))
      · unfold Fg_lasts
        rw [St_isLitOrDark_e hG h40 hS, hx.1]
        simp (disch := omega) only [l_0, l_1, l_2, l_3, l_4, l_5, l_6, l_7, l_8, l_9, l_10, l_11, l_12, l_13, l_14, l_16, l_20, l_21, l_23, l_24, l_30, l_32, l_40, l_41, l_44, l_48, l_57, l_59, l_60, l_63, l_64, l_80, l_84, l_96, l_97, l_99, l_120, l_122, l_127, l_200, l_240, l_255, l_840, l_999, l_1000, l_1001, l_2400, l_3064, l_9999, l_10000, l_13849, l_16383, l_25173, l_65535, l_65536, l_99999, l_1000000000, neg_nI, pk_mul, nI_add, nI_subL, tn_nI, inb_t, grd_true, bnd_some, elS_l, elS_r, nI_ltI, nI_leI, nI_inj, fa_and, fa_or, m1_eq, eq_m1, m1_lt, m1_le, lt_m1, le_m1, m1_lt0, up2_at, up2_no, ite_true, ite_false, if_true, if_false, Bool.false_eq_true, reduceIte, reduceCtorEq, not_true_eq_false, not_false_eq_true, eq_self, decide_true, decide_false, le_tt, le_ff, lt_tt, lt_ff, eq_ff, and_true, true_and, and_false, false_and, or_true, true_or, or_false, false_or, ne_eq, decide_eq_true_eq, decide_eq_false_iff_not, Bool.not_true, Bool.not_false, Bool.and_true, Bool.true_and, Bool.and_false, Bool.false_and, gs_at, gs_no, oI_n, oI_s, hS.1.2.2.1]
      · rw [gs_no (by omega), ← hS.1.2.1]; exact (hf 18 1 (by omega)).1
      · rw [gs_no (by omega), ← hS.1.2.2.1]; exact (hf 18 2 (by omega)).1
      · rw [gs_no (by omega), ← hS.1.2.2.2]; exact (hf 18 3 (by omega)).1
      · by_cases c : e = d
        · subst c
          rw [gs_at, end_e (by omega)]
          show up2 M.1 29 e (nI (g 5 + m)) 29 e = _
          exact up2_at
        · rw [gs_no (by omega), ← (hS.2.2.1 e he).2.2.2.2.1]; exact (hf _ _ (by omega)).1
    · obtain ⟨M', a1, a2, a3⟩ := hF.setE (d := d) (v := g 5 + m + 1) (x := nI (g 5 + m)) (by omega) (by rw [end_e (by omega)]; rfl)
      refine TM.mk ?_ a2 a3 (fun c j q => .inl q)
      have e5 : M'.1 95 5 = nI (g 5) := by rw [a2.lo (by omega), gs_no (by omega)]
      have hj : Fm_lasts_j27 (nI d) (nI m) M = some (nI (g 5 + m), M') := by
        unfold Fm_lasts_j27
        simp (disch := omega) only [l_0, l_1, l_2, l_3, l_4, l_5, l_6, l_7, l_8, l_9, l_10, l_11, l_12, l_13, l_14, l_16, l_20, l_21, l_23, l_24, l_30, l_32, l_40, l_41, l_44, l_48, l_57, l_59, l_60, l_63, l_64, l_80, l_84, l_96, l_97, l_99, l_120, l_122, l_127, l_200, l_240, l_255, l_840, l_999, l_1000, l_1001, l_2400, l_3064, l_9999, l_10000, l_13849, l_16383, l_25173, l_65535, l_65536, l_99999, l_1000000000, neg_nI, pk_mul, nI_add, nI_subL, tn_nI, inb_t, grd_true, bnd_some, elS_l, elS_r, nI_ltI, nI_leI, nI_inj, fa_and, fa_or, m1_eq, eq_m1, m1_lt, m1_le, lt_m1, le_m1, m1_lt0, up2_at, up2_no, ite_true, ite_false, if_true, if_false, Bool.false_eq_true, reduceIte, reduceCtorEq, not_true_eq_false, not_false_eq_true, eq_self, decide_true, decide_false, le_tt, le_ff, lt_tt, lt_ff, eq_ff, and_true, true_and, and_false, false_and, or_true, true_or, or_false, false_or, ne_eq, decide_eq_true_eq, decide_eq_false_iff_not, Bool.not_true, Bool.not_false, Bool.and_true, Bool.true_and, Bool.and_false, Bool.false_and, gs_at, gs_no, oI_n, oI_s, Fm_in_x, rg_n, hF.lo, a1, e5]
      unfold Fm_lasts
      simp (disch := omega) only [l_0, l_1, l_2, l_3, l_4, l_5, l_6, l_7, l_8, l_9, l_10, l_11, l_12, l_13, l_14, l_16, l_20, l_21, l_23, l_24, l_30, l_32, l_40, l_41, l_44, l_48, l_57, l_59, l_60, l_63, l_64, l_80, l_84, l_96, l_97, l_99, l_120, l_122, l_127, l_200, l_240, l_255, l_840, l_999, l_1000, l_1001, l_2400, l_3064, l_9999, l_10000, l_13849, l_16383, l_25173, l_65535, l_65536, l_99999, l_1000000000, neg_nI, pk_mul, nI_add, nI_subL, tn_nI, inb_t, grd_true, bnd_some, elS_l, elS_r, nI_ltI, nI_leI, nI_inj, fa_and, fa_or, m1_eq, eq_m1, m1_lt, m1_le, lt_m1, le_m1, m1_lt0, up2_at, up2_no, ite_true, ite_false, if_true, if_false, Bool.false_eq_true, reduceIte, reduceCtorEq, not_true_eq_false, not_false_eq_true, eq_self, decide_true, decide_false, le_tt, le_ff, lt_tt, lt_ff, eq_ff, and_true, true_and, and_false, false_and, or_true, true_or, or_false, false_or, ne_eq, decide_eq_true_eq, decide_eq_false_iff_not, Bool.not_true, Bool.not_false, Bool.and_true, Bool.true_and, Bool.and_false, Bool.false_and, gs_at, gs_no, oI_n, oI_s, Fm_isDemand_e (hF.lo (show 7 < 64 by omega)), hF.of, hj]
      rcases hl with q | q
      · simp (disch := omega) only [l_0, l_1, l_2, l_3, l_4, l_5, l_6, l_7, l_8, l_9, l_10, l_11, l_12, l_13, l_14, l_16, l_20, l_21, l_23, l_24, l_30, l_32, l_40, l_41, l_44, l_48, l_57, l_59, l_60, l_63, l_64, l_80, l_84, l_96, l_97, l_99, l_120, l_122, l_127, l_200, l_240, l_255, l_840, l_999, l_1000, l_1001, l_2400, l_3064, l_9999, l_10000, l_13849, l_16383, l_25173, l_65535, l_65536, l_99999, l_1000000000, neg_nI, pk_mul, nI_add, nI_subL, tn_nI, inb_t, grd_true, bnd_some, elS_l, elS_r, nI_ltI, nI_leI, nI_inj, fa_and, fa_or, m1_eq, eq_m1, m1_lt, m1_le, lt_m1, le_m1, m1_lt0, up2_at, up2_no, ite_true, ite_false, if_true, if_false, Bool.false_eq_true, reduceIte, reduceCtorEq, not_true_eq_false, not_false_eq_true, eq_self, decide_true, decide_false, le_tt, le_ff, lt_tt, lt_ff, eq_ff, and_true, true_and, and_false, false_and, or_true, true_or, or_false, false_or, ne_eq, decide_eq_true_eq, decide_eq_false_iff_not, Bool.not_true, Bool.not_false, Bool.and_true, Bool.true_and, Bool.and_false, Bool.false_and, gs_at, gs_no, oI_n, oI_s, q]
      · simp (disch := omega) only [l_0, l_1, l_2, l_3, l_4, l_5, l_6, l_7, l_8, l_9, l_10, l_11, l_12, l_13, l_14, l_16, l_20, l_21, l_23, l_24, l_30, l_32, l_40, l_41, l_44, l_48, l_57, l_59, l_60, l_63, l_64, l_80, l_84, l_96, l_97, l_99, l_120, l_122, l_127, l_200, l_240, l_255, l_840, l_999, l_1000, l_1001, l_2400, l_3064, l_9999, l_10000, l_13849, l_16383, l_25173, l_65535, l_65536, l_99999, l_1000000000, neg_nI, pk_mul, nI_add, nI_subL, tn_nI, inb_t, grd_true, bnd_some, elS_l, elS_r, nI_ltI, nI_leI, nI_inj, fa_and, fa_or, m1_eq, eq_m1, m1_lt, m1_le, lt_m1, le_m1, m1_lt0, up2_at, up2_no, ite_true, ite_false, if_true, if_false, Bool.false_eq_true, reduceIte, reduceCtorEq, not_true_eq_false, not_false_eq_true, eq_self, decide_true, decide_false, le_tt, le_ff, lt_tt, lt_ff, eq_ff, and_true, true_and, and_false, false_and, or_true, true_or, or_false, false_or, ne_eq, decide_eq_true_eq, decide_eq_false_iff_not, Bool.not_true, Bool.not_false, Bool.and_true, Bool.true_and, Bool.and_false, Bool.false_and, gs_at, gs_no, oI_n, oI_s, q]
  · refine ⟨ng 1, g, hg, fun M hS hA => TC.id hS hA ?_, fun M h hF => TM.id hF ?_⟩
    · unfold Fg_lasts
      rw [St_isLitOrDark_e hG h40 hS]
      cases h1 : ldB g x with
      | false => simp (disch := omega) only [l_0, l_1, l_2, l_3, l_4, l_5, l_6, l_7, l_8, l_9, l_10, l_11, l_12, l_13, l_14, l_16, l_20, l_21, l_23, l_24, l_30, l_32, l_40, l_41, l_44, l_48, l_57, l_59, l_60, l_63, l_64, l_80, l_84, l_96, l_97, l_99, l_120, l_122, l_127, l_200, l_240, l_255, l_840, l_999, l_1000, l_1001, l_2400, l_3064, l_9999, l_10000, l_13849, l_16383, l_25173, l_65535, l_65536, l_99999, l_1000000000, neg_nI, pk_mul, nI_add, nI_subL, tn_nI, inb_t, grd_true, bnd_some, elS_l, elS_r, nI_ltI, nI_leI, nI_inj, fa_and, fa_or, m1_eq, eq_m1, m1_lt, m1_le, lt_m1, le_m1, m1_lt0, up2_at, up2_no, ite_true, ite_false, if_true, if_false, Bool.false_eq_true, reduceIte, reduceCtorEq, not_true_eq_false, not_false_eq_true, eq_self, decide_true, decide_false, le_tt, le_ff, lt_tt, lt_ff, eq_ff, and_true, true_and, and_false, false_and, or_true, true_or, or_false, false_or, ne_eq, decide_eq_true_eq, decide_eq_false_iff_not, Bool.not_true, Bool.not_false, Bool.and_true, Bool.true_and, Bool.and_false, Bool.false_and, gs_at, gs_no, oI_n, oI_s, ite_self]
      | true =>
        rw [h1, Bool.true_and] at hx
        rcases i32c y with ⟨k, hk, rfl⟩ | h
        · rw [rg_n hk, decide_eq_true_eq] at hx
          by_cases c : k < 1
          · simp (disch := omega) only [l_0, l_1, l_2, l_3, l_4, l_5, l_6, l_7, l_8, l_9, l_10, l_11, l_12, l_13, l_14, l_16, l_20, l_21, l_23, l_24, l_30, l_32, l_40, l_41, l_44, l_48, l_57, l_59, l_60, l_63, l_64, l_80, l_84, l_96, l_97, l_99, l_120, l_122, l_127, l_200, l_240, l_255, l_840, l_999, l_1000, l_1001, l_2400, l_3064, l_9999, l_10000, l_13849, l_16383, l_25173, l_65535, l_65536, l_99999, l_1000000000, neg_nI, pk_mul, nI_add, nI_subL, tn_nI, inb_t, grd_true, bnd_some, elS_l, elS_r, nI_ltI, nI_leI, nI_inj, fa_and, fa_or, m1_eq, eq_m1, m1_lt, m1_le, lt_m1, le_m1, m1_lt0, up2_at, up2_no, ite_true, ite_false, if_true, if_false, Bool.false_eq_true, reduceIte, reduceCtorEq, not_true_eq_false, not_false_eq_true, eq_self, decide_true, decide_false, le_tt, le_ff, lt_tt, lt_ff, eq_ff, and_true, true_and, and_false, false_and, or_true, true_or, or_false, false_or, ne_eq, decide_eq_true_eq, decide_eq_false_iff_not, Bool.not_true, Bool.not_false, Bool.and_true, Bool.true_and, Bool.and_false, Bool.false_and, gs_at, gs_no, oI_n, oI_s]
          · have : 9999 < k := by omega
            simp (disch := omega) only [l_0, l_1, l_2, l_3, l_4, l_5, l_6, l_7, l_8, l_9, l_10, l_11, l_12, l_13, l_14, l_16, l_20, l_21, l_23, l_24, l_30, l_32, l_40, l_41, l_44, l_48, l_57, l_59, l_60, l_63, l_64, l_80, l_84, l_96, l_97, l_99, l_120, l_122, l_127, l_200, l_240, l_255, l_840, l_999, l_1000, l_1001, l_2400, l_3064, l_9999, l_10000, l_13849, l_16383, l_25173, l_65535, l_65536, l_99999, l_1000000000, neg_nI, pk_mul, nI_add, nI_subL, tn_nI, inb_t, grd_true, bnd_some, elS_l, elS_r, nI_ltI, nI_leI, nI_inj, fa_and, fa_or, m1_eq, eq_m1, m1_lt, m1_le, lt_m1, le_m1, m1_lt0, up2_at, up2_no, ite_true, ite_false, if_true, if_false, Bool.false_eq_true, reduceIte, reduceCtorEq, not_true_eq_false, not_false_eq_true, eq_self, decide_true, decide_false, le_tt, le_ff, lt_tt, lt_ff, eq_ff, and_true, true_and, and_false, false_and, or_true, true_or, or_false, false_or, ne_eq, decide_eq_true_eq, decide_eq_false_iff_not, Bool.not_true, Bool.not_false, Bool.and_true, Bool.true_and, Bool.and_false, Bool.false_and, gs_at, gs_no, oI_n, oI_s]
        · simp (disch := omega) only [l_0, l_1, l_2, l_3, l_4, l_5, l_6, l_7, l_8, l_9, l_10, l_11, l_12, l_13, l_14, l_16, l_20, l_21, l_23, l_24, l_30, l_32, l_40, l_41, l_44, l_48, l_57, l_59, l_60, l_63, l_64, l_80, l_84, l_96, l_97, l_99, l_120, l_122, l_127, l_200, l_240, l_255, l_840, l_999, l_1000, l_1001, l_2400, l_3064, l_9999, l_10000, l_13849, l_16383, l_25173, l_65535, l_65536, l_99999, l_1000000000, neg_nI, pk_mul, nI_add, nI_subL, tn_nI, inb_t, grd_true, bnd_some, elS_l, elS_r, nI_ltI, nI_leI, nI_inj, fa_and, fa_or, m1_eq, eq_m1, m1_lt, m1_le, lt_m1, le_m1, m1_lt0, up2_at, up2_no, ite_true, ite_false, if_true, if_false, Bool.false_eq_true, reduceIte, reduceCtorEq, not_true_eq_false, not_false_eq_true, eq_self, decide_true, decide_false, le_tt, le_ff, lt_tt, lt_ff, eq_ff, and_true, true_and, and_false, false_and, or_true, true_or, or_false, false_or, ne_eq, decide_eq_true_eq, decide_eq_false_iff_not, Bool.not_true, Bool.not_false, Bool.and_true, Bool.true_and, Bool.and_false, Bool.false_and, gs_at, gs_no, oI_n, oI_s, xlt h]
    · unfold Fm_lasts
      rw [Fm_isDemand_e (hF.lo (show 7 < 64 by omega)) (by omega), bnd_some]
      cases hi : inb x (g 7) with
      | false => rfl
      | true =>
        obtain ⟨d, hd, rfl⟩ := (inb_iff (by omega)).mp hi
        have g3 := hG.1 (64 + 10 * d + 3)
        simp (disch := omega) only [l_0, l_1, l_2, l_3, l_4, l_5, l_6, l_7, l_8, l_9, l_10, l_11, l_12, l_13, l_14, l_16, l_20, l_21, l_23, l_24, l_30, l_32, l_40, l_41, l_44, l_48, l_57, l_59, l_60, l_63, l_64, l_80, l_84, l_96, l_97, l_99, l_120, l_122, l_127, l_200, l_240, l_255, l_840, l_999, l_1000, l_1001, l_2400, l_3064, l_9999, l_10000, l_13849, l_16383, l_25173, l_65535, l_65536, l_99999, l_1000000000, neg_nI, pk_mul, nI_add, nI_subL, tn_nI, inb_t, grd_true, bnd_some, elS_l, elS_r, nI_ltI, nI_leI, nI_inj, fa_and, fa_or, m1_eq, eq_m1, m1_lt, m1_le, lt_m1, le_m1, m1_lt0, up2_at, up2_no, ite_true, ite_false, if_true, if_false, Bool.false_eq_true, reduceIte, reduceCtorEq, not_true_eq_false, not_false_eq_true, eq_self, decide_true, decide_false, le_tt, le_ff, lt_tt, lt_ff, eq_ff, and_true, true_and, and_false, false_and, or_true, true_or, or_false, false_or, ne_eq, decide_eq_true_eq, decide_eq_false_iff_not, Bool.not_true, Bool.not_false, Bool.and_true, Bool.true_and, Bool.and_false, Bool.false_and, gs_at, gs_no, oI_n, oI_s, hF.of]
        have hj : (g (64 + 10 * d + 3) = 0 ∨ g (64 + 10 * d + 3) = 2) → Fm_lasts_j27 (nI d) y M = some (ng 1, M) := fun q => by
          have : ldB g (nI d) = true := (ld_iff h40).mpr ⟨d, hd, rfl, q⟩
          rw [this, Bool.true_and] at hx
          unfold Fm_lasts_j27
          rw [l_1, l_9999, Fm_in_x (by decide) (by decide), ts_nt hx]
          rfl
        by_cases q : g (64 + 10 * d + 3) = 0
        · simp (disch := omega) only [l_0, l_1, l_2, l_3, l_4, l_5, l_6, l_7, l_8, l_9, l_10, l_11, l_12, l_13, l_14, l_16, l_20, l_21, l_23, l_24, l_30, l_32, l_40, l_41, l_44, l_48, l_57, l_59, l_60, l_63, l_64, l_80, l_84, l_96, l_97, l_99, l_120, l_122, l_127, l_200, l_240, l_255, l_840, l_999, l_1000, l_1001, l_2400, l_3064, l_9999, l_10000, l_13849, l_16383, l_25173, l_65535, l_65536, l_99999, l_1000000000, neg_nI, pk_mul, nI_add, nI_subL, tn_nI, inb_t, grd_true, bnd_some, elS_l, elS_r, nI_ltI, nI_leI, nI_inj, fa_and, fa_or, m1_eq, eq_m1, m1_lt, m1_le, lt_m1, le_m1, m1_lt0, up2_at, up2_no, ite_true, ite_false, if_true, if_false, Bool.false_eq_true, reduceIte, reduceCtorEq, not_true_eq_false, not_false_eq_true, eq_self, decide_true, decide_false, le_tt, le_ff, lt_tt, lt_ff, eq_ff, and_true, true_and, and_false, false_and, or_true, true_or, or_false, false_or, ne_eq, decide_eq_true_eq, decide_eq_false_iff_not, Bool.not_true, Bool.not_false, Bool.and_true, Bool.true_and, Bool.and_false, Bool.false_and, gs_at, gs_no, oI_n, oI_s, q, hj (.inl q)]
        · by_cases q2 : g (64 + 10 * d + 3) = 2
          · simp (disch := omega) only [l_0, l_1, l_2, l_3, l_4, l_5, l_6, l_7, l_8, l_9, l_10, l_11, l_12, l_13, l_14, l_16, l_20, l_21, l_23, l_24, l_30, l_32, l_40, l_41, l_44, l_48, l_57, l_59, l_60, l_63, l_64, l_80, l_84, l_96, l_97, l_99, l_120, l_122, l_127, l_200, l_240, l_255, l_840, l_999, l_1000, l_1001, l_2400, l_3064, l_9999, l_10000, l_13849, l_16383, l_25173, l_65535, l_65536, l_99999, l_1000000000, neg_nI, pk_mul, nI_add, nI_subL, tn_nI, inb_t, grd_true, bnd_some, elS_l, elS_r, nI_ltI, nI_leI, nI_inj, fa_and, fa_or, m1_eq, eq_m1, m1_lt, m1_le, lt_m1, le_m1, m1_lt0, up2_at, up2_no, ite_true, ite_false, if_true, if_false, Bool.false_eq_true, reduceIte, reduceCtorEq, not_true_eq_false, not_false_eq_true, eq_self, decide_true, decide_false, le_tt, le_ff, lt_tt, lt_ff, eq_ff, and_true, true_and, and_false, false_and, or_true, true_or, or_false, false_or, ne_eq, decide_eq_true_eq, decide_eq_false_iff_not, Bool.not_true, Bool.not_false, Bool.and_true, Bool.true_and, Bool.and_false, Bool.false_and, gs_at, gs_no, oI_n, oI_s, q2, hj (.inr q2)]
          · simp (disch := omega) only [l_0, l_1, l_2, l_3, l_4, l_5, l_6, l_7, l_8, l_9, l_10, l_11, l_12, l_13, l_14, l_16, l_20, l_21, l_23, l_24, l_30, l_32, l_40, l_41, l_44, l_48, l_57, l_59, l_60, l_63, l_64, l_80, l_84, l_96, l_97, l_99, l_120, l_122, l_127, l_200, l_240, l_255, l_840, l_999, l_1000, l_1001, l_2400, l_3064, l_9999, l_10000, l_13849, l_16383, l_25173, l_65535, l_65536, l_99999, l_1000000000, neg_nI, pk_mul, nI_add, nI_subL, tn_nI, inb_t, grd_true, bnd_some, elS_l, elS_r, nI_ltI, nI_leI, nI_inj, fa_and, fa_or, m1_eq, eq_m1, m1_lt, m1_le, lt_m1, le_m1, m1_lt0, up2_at, up2_no, ite_true, ite_false, if_true, if_false, Bool.false_eq_true, reduceIte, reduceCtorEq, not_true_eq_false, not_false_eq_true, eq_self, decide_true, decide_false, le_tt, le_ff, lt_tt, lt_ff, eq_ff, and_true, true_and, and_false, false_and, or_true, true_or, or_false, false_or, ne_eq, decide_eq_true_eq, decide_eq_false_iff_not, Bool.not_true, Bool.not_false, Bool.and_true, Bool.true_and, Bool.and_false, Bool.false_and, gs_at, gs_no, oI_n, oI_s, q, q2]
theorem GV_up {g : Nat → Nat} (h : GV g) {u : Nat} (hu : u < 2 ^ g 3) : GV (gs g 12 u) := by
  obtain ⟨h1, h2, h3⟩ := h
  have b := h1.2.1.1
  have : 2 ^ g 3 ≤ 2 ^ 14 := Nat.pow_le_pow_right (by decide) b.2.2.2.2.2.1
  refine ⟨GW_cong h1 (GB_gs h1.1 (by omega) (by omega)) (fun j _ _ _ _ q => gs_no q) (by rw [gs_at]; exact hu) (fun d _ w _ _ => gs_no (by omega)), ?_, by rw [gs_no (by omega)]; exact h3⟩
  unfold DV
  simp (disch := omega) only [gs_no, gs_at]
  exact h2
theorem SV_up {M : Mm} {g : Nat → Nat} {s u : Nat} (hg : GV g) (hS : SV M s g) : SV (up2 M.1 s 1 (nI u), M.2) s (gs g 12 u) := by
  have hf : Fr (fun c j => c = s ∧ j = 1) M (up2 M.1 s 1 (nI u), M.2) := Fr.I Fr.rf ⟨rfl, rfl⟩
  refine hS.cong hf (fun a j h1 h2 => by omega) hg.1.2.1.1.2.2.2.2.2.1 (fun j _ q _ _ => gs_no q) ?_ ?_ ?_ (fun d _ w _ => gs_no (by omega)) (fun d hd => ?_)
  · rw [gs_at]; show up2 M.1 s 1 (nI u) s 1 = _; exact up2_at
  · rw [gs_no (by omega), ← hS.1.2.2.1]; exact (hf s 2 (by omega)).1
  · rw [gs_no (by omega), ← hS.1.2.2.2]; exact (hf s 3 (by omega)).1
  · rw [gs_no (by omega), ← (hS.2.2.1 d hd).2.2.2.2.1]; exact (hf _ _ (by omega)).1
theorem Fm_isUp_e {M : Mm} {g : Nat → Nat} {h : Nat → Int32} (hG : GB g) (hF : FK M g h) {l : Nat} (hl : l < 32) : Fm_isUp (nI l) M = some ((g 12).testBit l) := by
  have := hG.1 12
  unfold Fm_isUp
  simp (disch := omega) only [l_0, l_1, l_2, l_3, l_4, l_5, l_6, l_7, l_8, l_9, l_10, l_11, l_12, l_13, l_14, l_16, l_20, l_21, l_23, l_24, l_30, l_32, l_40, l_41, l_44, l_48, l_57, l_59, l_60, l_63, l_64, l_80, l_84, l_96, l_97, l_99, l_120, l_122, l_127, l_200, l_240, l_255, l_840, l_999, l_1000, l_1001, l_2400, l_3064, l_9999, l_10000, l_13849, l_16383, l_25173, l_65535, l_65536, l_99999, l_1000000000, neg_nI, pk_mul, nI_add, nI_subL, tn_nI, inb_t, grd_true, bnd_some, elS_l, elS_r, nI_ltI, nI_leI, nI_inj, fa_and, fa_or, m1_eq, eq_m1, m1_lt, m1_le, lt_m1, le_m1, m1_lt0, up2_at, up2_no, ite_true, ite_false, if_true, if_false, Bool.false_eq_true, reduceIte, reduceCtorEq, not_true_eq_false, not_false_eq_true, eq_self, decide_true, decide_false, le_tt, le_ff, lt_tt, lt_ff, eq_ff, and_true, true_and, and_false, false_and, or_true, true_or, or_false, false_or, ne_eq, decide_eq_true_eq, decide_eq_false_iff_not, Bool.not_true, Bool.not_false, Bool.and_true, Bool.true_and, Bool.and_false, Bool.false_and, gs_at, gs_no, oI_n, oI_s, hF.lo, has_e]
theorem op_mend (x : Int32) : T2 (Fg_mend x) (Fm_mend x) := by
  intro g hg
  have hG := hg.1.1
  have b := hg.1.2.1.1
  have g12 := hG.1 12
  by_cases hx : inb x (g 3) = true
  · obtain ⟨l, hl, rfl⟩ := (inb_iff (by omega)).mp hx
    cases hu : (g 12).testBit l with
    | true =>
      refine ⟨false, g, hg, fun M hS hA => TC.id hS hA ?_, fun M h hF => TM.id hF ?_⟩
      · unfold Fg_mend
        rw [St_hasLink_e (hS.1.1.1 3 (by omega)) (by omega), hx, bnd_some, St_isUp_e hS.1.2.1 (by omega) (by omega), hu]
        rfl
      · unfold Fm_mend
        rw [Fm_isLink_e (hF.lo (by omega)) (by omega), hx, bnd_some, Fm_isUp_e hG hF (by omega), hu]
        rfl
    | false =>
      have hlt : g 12 ||| 2 ^ l < 2 ^ g 3 := or_bit_lt b.2.2.2.2.2.2 hl
      refine ⟨true, gs g 12 (g 12 ||| 2 ^ l), GV_up hg hlt, fun M hS hA => ?_, fun M h hF => ?_⟩
      · refine TC.mk (M1 := (up2 M.1 18 1 (nI (g 12 ||| 2 ^ l)), M.2)) (P := fun c j => c = 18 ∧ j = 1) hg hA ?_ (SV_up hg hS) (Fr.I Fr.rf ⟨rfl, rfl⟩) (fun c j q => by unfold PC; omega) (fun j h1 h2 h3 => gs_no h3)
        unfold Fg_mend
        rw [St_hasLink_e (hS.1.1.1 3 (by omega)) (by omega), hx, bnd_some, St_isUp_e hS.1.2.1 (by omega) (by omega), hu]
        simp (disch := omega) only [l_0, l_1, l_2, l_3, l_4, l_5, l_6, l_7, l_8, l_9, l_10, l_11, l_12, l_13, l_14, l_16, l_20, l_21, l_23, l_24, l_30, l_32, l_40, l_41, l_44, l_48, l_57, l_59, l_60, l_63, l_64, l_80, l_84, l_96, l_97, l_99, l_120, l_122, l_127, l_200, l_240, l_255, l_840, l_999, l_1000, l_1001, l_2400, l_3064, l_9999, l_10000, l_13849, l_16383, l_25173, l_65535, l_65536, l_99999, l_1000000000, neg_nI, pk_mul, nI_add, nI_subL, tn_nI, inb_t, grd_true, bnd_some, elS_l, elS_r, nI_ltI, nI_leI, nI_inj, fa_and, fa_or, m1_eq, eq_m1, m1_lt, m1_le, lt_m1, le_m1, m1_lt0, up2_at, up2_no, ite_true, ite_false, if_true, if_false, Bool.false_eq_true, reduceIte, reduceCtorEq, not_true_eq_false, not_false_eq_true, eq_self, decide_true, decide_false, le_tt, le_ff, lt_tt, lt_ff, eq_ff, and_true, true_and, and_false, false_and, or_true, true_or, or_false, false_or, ne_eq, decide_eq_true_eq, decide_eq_false_iff_not, Bool.not_true, Bool.not_false, Bool.and_true, Bool.true_and, Bool.and_false, Bool.false_and, gs_at, gs_no, oI_n, oI_s, hS.1.2.1, shl_e]
      · refine TM.mk (M2 := (up2 M.1 95 12 (nI (g 12 ||| 2 ^ l)), M.2)) (P := fun c _ => c = 95) ?_ (hF.set (by omega) ?_) (Fr.I Fr.rf rfl) (fun c j q => .inl q)
        · unfold Fm_mend
          rw [Fm_isLink_e (hF.lo (by omega)) (by omega), hx, bnd_some, Fm_isUp_e hG hF (by omega), hu]
          simp (disch := omega) only [l_0, l_1, l_2, l_3, l_4, l_5, l_6, l_7, l_8, l_9, l_10, l_11, l_12, l_13, l_14, l_16, l_20, l_21, l_23, l_24, l_30, l_32, l_40, l_41, l_44, l_48, l_57, l_59, l_60, l_63, l_64, l_80, l_84, l_96, l_97, l_99, l_120, l_122, l_127, l_200, l_240, l_255, l_840, l_999, l_1000, l_1001, l_2400, l_3064, l_9999, l_10000, l_13849, l_16383, l_25173, l_65535, l_65536, l_99999, l_1000000000, neg_nI, pk_mul, nI_add, nI_subL, tn_nI, inb_t, grd_true, bnd_some, elS_l, elS_r, nI_ltI, nI_leI, nI_inj, fa_and, fa_or, m1_eq, eq_m1, m1_lt, m1_le, lt_m1, le_m1, m1_lt0, up2_at, up2_no, ite_true, ite_false, if_true, if_false, Bool.false_eq_true, reduceIte, reduceCtorEq, not_true_eq_false, not_false_eq_true, eq_self, decide_true, decide_false, le_tt, le_ff, lt_tt, lt_ff, eq_ff, and_true, true_and, and_false, false_and, or_true, true_or, or_false, false_or, ne_eq, decide_eq_true_eq, decide_eq_false_iff_not, Bool.not_true, Bool.not_false, Bool.and_true, Bool.true_and, Bool.and_false, Bool.false_and, gs_at, gs_no, oI_n, oI_s, hF.lo, shl_e]
        · rw [iv_lo (by omega), gs_at]
  · have hx' := ts_nt hx
    refine ⟨false, g, hg, fun M hS hA => TC.id hS hA ?_, fun M h hF => TM.id hF ?_⟩
    · unfold Fg_mend
      rw [St_hasLink_e (hS.1.1.1 3 (by omega)) (by omega), hx']
      rfl
    · unfold Fm_mend
      rw [Fm_isLink_e (hF.lo (by omega)) (by omega), hx']
      rfl
theorem op_drop {n : Nat} (hn : 100 < n) (x : Int32) : T2 (Fg_drop n x) (Fm_drop x) := by
  intro g hg
  have hG := hg.1.1
  have h40 := hg.2.2
  by_cases hx : inb x (g 7) = true
  · obtain ⟨d, hd, rfl⟩ := (inb_iff (by omega)).mp hx
    have g3 := hG.1 (64 + 10 * d + 3)
    by_cases h3 : g (64 + 10 * d + 3) = 3
    · refine ⟨false, g, hg, fun M hS hA => TC.id hS hA ?_, fun M h hF => TM.id hF ?_⟩
      · have c := (hS.2.2.1 d hd).2.2.2.1
        unfold Fg_drop
        simp (disch := omega) only [l_0, l_1, l_2, l_3, l_4, l_5, l_6, l_7, l_8, l_9, l_10, l_11, l_12, l_13, l_14, l_16, l_20, l_21, l_23, l_24, l_30, l_32, l_40, l_41, l_44, l_48, l_57, l_59, l_60, l_63, l_64, l_80, l_84, l_96, l_97, l_99, l_120, l_122, l_127, l_200, l_240, l_255, l_840, l_999, l_1000, l_1001, l_2400, l_3064, l_9999, l_10000, l_13849, l_16383, l_25173, l_65535, l_65536, l_99999, l_1000000000, neg_nI, pk_mul, nI_add, nI_subL, tn_nI, inb_t, grd_true, bnd_some, elS_l, elS_r, nI_ltI, nI_leI, nI_inj, fa_and, fa_or, m1_eq, eq_m1, m1_lt, m1_le, lt_m1, le_m1, m1_lt0, up2_at, up2_no, ite_true, ite_false, if_true, if_false, Bool.false_eq_true, reduceIte, reduceCtorEq, not_true_eq_false, not_false_eq_true, eq_self, decide_true, decide_false, le_tt, le_ff, lt_tt, lt_ff, eq_ff, and_true, true_and, and_false, false_and, or_true, true_or, or_false, false_or, ne_eq, decide_eq_true_eq, decide_eq_false_iff_not, Bool.not_true, Bool.not_false, Bool.and_true, Bool.true_and, Bool.and_false, Bool.false_and, gs_at, gs_no, oI_n, oI_s, St_has_e hS.2.1, c, h3]
      · unfold Fm_drop
        simp (disch := omega) only [l_0, l_1, l_2, l_3, l_4, l_5, l_6, l_7, l_8, l_9, l_10, l_11, l_12, l_13, l_14, l_16, l_20, l_21, l_23, l_24, l_30, l_32, l_40, l_41, l_44, l_48, l_57, l_59, l_60, l_63, l_64, l_80, l_84, l_96, l_97, l_99, l_120, l_122, l_127, l_200, l_240, l_255, l_840, l_999, l_1000, l_1001, l_2400, l_3064, l_9999, l_10000, l_13849, l_16383, l_25173, l_65535, l_65536, l_99999, l_1000000000, neg_nI, pk_mul, nI_add, nI_subL, tn_nI, inb_t, grd_true, bnd_some, elS_l, elS_r, nI_ltI, nI_leI, nI_inj, fa_and, fa_or, m1_eq, eq_m1, m1_lt, m1_le, lt_m1, le_m1, m1_lt0, up2_at, up2_no, ite_true, ite_false, if_true, if_false, Bool.false_eq_true, reduceIte, reduceCtorEq, not_true_eq_false, not_false_eq_true, eq_self, decide_true, decide_false, le_tt, le_ff, lt_tt, lt_ff, eq_ff, and_true, true_and, and_false, false_and, or_true, true_or, or_false, false_or, ne_eq, decide_eq_true_eq, decide_eq_false_iff_not, Bool.not_true, Bool.not_false, Bool.and_true, Bool.true_and, Bool.and_false, Bool.false_and, gs_at, gs_no, oI_n, oI_s, Fm_isDemand_e (hF.lo (show 7 < 64 by omega)), hF.of, h3]
    · refine ⟨true, offG g d 3, GV_off hg (by omega) (by omega) (by omega), fun M hS hA => ?_, fun M h hF => ?_⟩
      · obtain ⟨M', a1, a2, a3⟩ := SV_takeOff hg.1 h40 hS hd (st := 3) (by omega) (by omega) hn
        have c := (hS.2.2.1 d hd).2.2.2.1
        refine TC.mk hg hA ?_ a2 a3 (fun c j q => by unfold fp_St_takeOff at q; unfold PC; omega) (fun j h1 h2 h3 => off_lo h1)
        unfold Fg_drop
        simp (disch := omega) only [l_0, l_1, l_2, l_3, l_4, l_5, l_6, l_7, l_8, l_9, l_10, l_11, l_12, l_13, l_14, l_16, l_20, l_21, l_23, l_24, l_30, l_32, l_40, l_41, l_44, l_48, l_57, l_59, l_60, l_63, l_64, l_80, l_84, l_96, l_97, l_99, l_120, l_122, l_127, l_200, l_240, l_255, l_840, l_999, l_1000, l_1001, l_2400, l_3064, l_9999, l_10000, l_13849, l_16383, l_25173, l_65535, l_65536, l_99999, l_1000000000, neg_nI, pk_mul, nI_add, nI_subL, tn_nI, inb_t, grd_true, bnd_some, elS_l, elS_r, nI_ltI, nI_leI, nI_inj, fa_and, fa_or, m1_eq, eq_m1, m1_lt, m1_le, lt_m1, le_m1, m1_lt0, up2_at, up2_no, ite_true, ite_false, if_true, if_false, Bool.false_eq_true, reduceIte, reduceCtorEq, not_true_eq_false, not_false_eq_true, eq_self, decide_true, decide_false, le_tt, le_ff, lt_tt, lt_ff, eq_ff, and_true, true_and, and_false, false_and, or_true, true_or, or_false, false_or, ne_eq, decide_eq_true_eq, decide_eq_false_iff_not, Bool.not_true, Bool.not_false, Bool.and_true, Bool.true_and, Bool.and_false, Bool.false_and, gs_at, gs_no, oI_n, oI_s, St_has_e hS.2.1, c, h3, a1]
      · obtain ⟨M', a1, a2, a3⟩ := hF.sets (d := d) (w := 3) (v := 3) (by omega) (by omega) (by omega)
        refine TM.mk ?_ a2 a3 (fun c j q => .inl q)
        unfold Fm_drop
        simp (disch := omega) only [l_0, l_1, l_2, l_3, l_4, l_5, l_6, l_7, l_8, l_9, l_10, l_11, l_12, l_13, l_14, l_16, l_20, l_21, l_23, l_24, l_30, l_32, l_40, l_41, l_44, l_48, l_57, l_59, l_60, l_63, l_64, l_80, l_84, l_96, l_97, l_99, l_120, l_122, l_127, l_200, l_240, l_255, l_840, l_999, l_1000, l_1001, l_2400, l_3064, l_9999, l_10000, l_13849, l_16383, l_25173, l_65535, l_65536, l_99999, l_1000000000, neg_nI, pk_mul, nI_add, nI_subL, tn_nI, inb_t, grd_true, bnd_some, elS_l, elS_r, nI_ltI, nI_leI, nI_inj, fa_and, fa_or, m1_eq, eq_m1, m1_lt, m1_le, lt_m1, le_m1, m1_lt0, up2_at, up2_no, ite_true, ite_false, if_true, if_false, Bool.false_eq_true, reduceIte, reduceCtorEq, not_true_eq_false, not_false_eq_true, eq_self, decide_true, decide_false, le_tt, le_ff, lt_tt, lt_ff, eq_ff, and_true, true_and, and_false, false_and, or_true, true_or, or_false, false_or, ne_eq, decide_eq_true_eq, decide_eq_false_iff_not, Bool.not_true, Bool.not_false, Bool.and_true, Bool.true_and, Bool.and_false, Bool.false_and, gs_at, gs_no, oI_n, oI_s, Fm_isDemand_e (hF.lo (show 7 < 64 by omega)), hF.of, h3, a1]
  · have hx' := ts_nt hx
    refine ⟨false, g, hg, fun M hS hA => TC.id hS hA ?_, fun M h hF => TM.id hF ?_⟩
    · unfold Fg_drop
      rw [St_has_e hS.2.1 (by omega), hx']
      rfl
    · unfold Fm_drop
      rw [Fm_isDemand_e (hF.lo (show 7 < 64 by omega)) (by omega), hx']
      rfl
theorem op_keep {n : Nat} (hn : 4000 < n) : OK2 Fg_keep (Fm_keep n) := by
  intro A M hv hc hm
  obtain ⟨hg, hk, ht, hb⟩ := hv
  obtain ⟨⟨c1, c2⟩, ⟨c3, c4⟩, c5⟩ := hc
  have b := hg.1.2.1.1
  obtain ⟨M1, a1, a2, a3, a4⟩ := St_copy_e (s := 36) (o := 18) (by omega) b.2.2.2.2.2.1 hg.2.2 c1
  have hr : Fg_keep M = some (nI (A.1 7), (up2 M1.1 0 8 (nI 1), M1.2)) := by
    unfold Fg_keep
    simp (disch := omega) only [l_0, l_1, l_2, l_3, l_4, l_5, l_6, l_7, l_8, l_9, l_10, l_11, l_12, l_13, l_14, l_16, l_20, l_21, l_23, l_24, l_30, l_32, l_40, l_41, l_44, l_48, l_57, l_59, l_60, l_63, l_64, l_80, l_84, l_96, l_97, l_99, l_120, l_122, l_127, l_200, l_240, l_255, l_840, l_999, l_1000, l_1001, l_2400, l_3064, l_9999, l_10000, l_13849, l_16383, l_25173, l_65535, l_65536, l_99999, l_1000000000, neg_nI, pk_mul, nI_add, nI_subL, tn_nI, inb_t, grd_true, bnd_some, elS_l, elS_r, nI_ltI, nI_leI, nI_inj, fa_and, fa_or, m1_eq, eq_m1, m1_lt, m1_le, lt_m1, le_m1, m1_lt0, up2_at, up2_no, ite_true, ite_false, if_true, if_false, Bool.false_eq_true, reduceIte, reduceCtorEq, not_true_eq_false, not_false_eq_true, eq_self, decide_true, decide_false, le_tt, le_ff, lt_tt, lt_ff, eq_ff, and_true, true_and, and_false, false_and, or_true, true_or, or_false, false_or, ne_eq, decide_eq_true_eq, decide_eq_false_iff_not, Bool.not_true, Bool.not_false, Bool.and_true, Bool.true_and, Bool.and_false, Bool.false_and, gs_at, gs_no, oI_n, oI_s, a1, a2.2.1]
  have hf := fr_Fg_keep hr
  obtain ⟨⟨h0, m1, m2⟩, m3, m4⟩ := hm.fr hf (fun c j q => by unfold fp_Fg_keep at q; omega)
  have m1' : FK (up2 (up2 M1.1 0 8 (nI 1)) 94 2 (nI 1), M1.2) A.1 h0 := m1.fr (P := fun c j => c = 94) (Fr.I Fr.rf rfl) (by omega)
  obtain ⟨M2, h', o1, o2, o3, o4, o5⟩ := m1'.out (b := 1) (n := n) (by omega) (by omega) hn
  refine ⟨nI (A.1 7), _, M2, (A.1, some A.1, A.2.2), hr, ?_, ⟨hg, fun kg q => by cases q; exact hg, ht, hb⟩, ?_, ?_⟩
  · unfold Fm_keep
    simp (disch := omega) only [l_0, l_1, l_2, l_3, l_4, l_5, l_6, l_7, l_8, l_9, l_10, l_11, l_12, l_13, l_14, l_16, l_20, l_21, l_23, l_24, l_30, l_32, l_40, l_41, l_44, l_48, l_57, l_59, l_60, l_63, l_64, l_80, l_84, l_96, l_97, l_99, l_120, l_122, l_127, l_200, l_240, l_255, l_840, l_999, l_1000, l_1001, l_2400, l_3064, l_9999, l_10000, l_13849, l_16383, l_25173, l_65535, l_65536, l_99999, l_1000000000, neg_nI, pk_mul, nI_add, nI_subL, tn_nI, inb_t, grd_true, bnd_some, elS_l, elS_r, nI_ltI, nI_leI, nI_inj, fa_and, fa_or, m1_eq, eq_m1, m1_lt, m1_le, lt_m1, le_m1, m1_lt0, up2_at, up2_no, ite_true, ite_false, if_true, if_false, Bool.false_eq_true, reduceIte, reduceCtorEq, not_true_eq_false, not_false_eq_true, eq_self, decide_true, decide_false, le_tt, le_ff, lt_tt, lt_ff, eq_ff, and_true, true_and, and_false, false_and, or_true, true_or, or_false, false_or, ne_eq, decide_eq_true_eq, decide_eq_false_iff_not, Bool.not_true, Bool.not_false, Bool.and_true, Bool.true_and, Bool.and_false, Bool.false_and, gs_at, gs_no, oI_n, oI_s, o1, o2.lo]
  · have f0 : Fr (fun c j => c = 0 ∧ j = 8 ∨ 94 ≤ c ∧ c ≠ 115) M1 M2 := Fr.tr (M1 := (up2 (up2 M1.1 0 8 (nI 1)) 94 2 (nI 1), M1.2)) (Fr.I (Fr.I Fr.rf (.inl ⟨rfl, rfl⟩)) (.inr (by omega))) (o5.mono (fun c j q => .inr (by omega)))
    have f1 := f0
    refine ⟨⟨a3.fr f0 (fun k j hk => by omega), ?_⟩, ⟨?_, fun i hi => ?_⟩, ?_, a2.fr f0 (fun k j hk => by omega)⟩
    · exact (c2.fr a4 (fun j => by unfold fp_St_copy; omega)).fr f0 (fun j => by omega)
    · rw [(f0 1 1 (by omega)).1, (a4 1 1 (by unfold fp_St_copy; omega)).1]; exact c3
    · rw [(f0 2 i (by omega)).1, (a4 2 i (by unfold fp_St_copy; omega)).1]; exact c4 i hi
    · rw [(o5 0 8 (by omega)).1]; simp (disch := omega) only [l_0, l_1, l_2, l_3, l_4, l_5, l_6, l_7, l_8, l_9, l_10, l_11, l_12, l_13, l_14, l_16, l_20, l_21, l_23, l_24, l_30, l_32, l_40, l_41, l_44, l_48, l_57, l_59, l_60, l_63, l_64, l_80, l_84, l_96, l_97, l_99, l_120, l_122, l_127, l_200, l_240, l_255, l_840, l_999, l_1000, l_1001, l_2400, l_3064, l_9999, l_10000, l_13849, l_16383, l_25173, l_65535, l_65536, l_99999, l_1000000000, neg_nI, pk_mul, nI_add, nI_subL, tn_nI, inb_t, grd_true, bnd_some, elS_l, elS_r, nI_ltI, nI_leI, nI_inj, fa_and, fa_or, m1_eq, eq_m1, m1_lt, m1_le, lt_m1, le_m1, m1_lt0, up2_at, up2_no, ite_true, ite_false, if_true, if_false, Bool.false_eq_true, reduceIte, reduceCtorEq, not_true_eq_false, not_false_eq_true, eq_self, decide_true, decide_false, le_tt, le_ff, lt_tt, lt_ff, eq_ff, and_true, true_and, and_false, false_and, or_true, true_or, or_false, false_or, ne_eq, decide_eq_true_eq, decide_eq_false_iff_not, Bool.not_true, Bool.not_false, Bool.and_true, Bool.true_and, Bool.and_false, Bool.false_and, gs_at, gs_no, oI_n, oI_s]
  · refine ⟨⟨h', o2, ?_, fun j hj => o3 j hj⟩, ?_, fun i hi => ?_⟩
    · rw [(o5 94 2 (by omega)).1]; show up2 (up2 M1.1 0 8 (nI 1)) 94 2 (nI 1) 94 2 = _; exact up2_at
    · rw [(o5 94 4 (by omega)).1]
      rw [← m3]; show up2 (up2 M1.1 0 8 (nI 1)) 94 2 (nI 1) 94 4 = _; exact up2_no (by omega)
    · rw [(o5 97 i (by omega)).1, ← m4 i hi]
      rfl
theorem Wy_forget_e {n : Nat} {M : Mm} (hn : 100 < n) : ∃ M', Fi_forgetWays n M = some M' ∧ (∀ i, i < 64 → M'.1 15 i = ng 1) ∧ Fr (fun c _ => c = 15) M M' := by
  have hlp : ∃ r, loop (fun s1 : Int32 × Mm => Wy_forget_b2 s1.1 s1.2) n (nI 0, M) = some r ∧ ((∀ i, i < 64 → r.1 15 i = ng 1) ∧ Fr (fun c _ => c = 15) M r) := by
    refine loop_I0 (fun i (st : Int32 × Mm) => st.1 = nI i ∧ (∀ j, j < i → st.2.1 15 j = ng 1) ∧ Fr (fun c _ => c = 15) M st.2) _ 64 ⟨rfl, fun j hj => by omega, Fr.rf⟩ (by omega) ?_ ?_
    · rintro i ⟨s1, M1⟩ hi ⟨e1, e2, e3⟩
      simp only at e1 e2 e3
      subst e1
      left
      refine ⟨(nI (i + 1), (up2 M1.1 15 i (ng 1), M1.2)), ?_, rfl, fun j hj => ?_, Fr.I e3 rfl⟩
      · show Wy_forget_b2 (nI i) M1 = _
        unfold Wy_forget_b2
        simp (disch := omega) only [l_0, l_1, l_2, l_3, l_4, l_5, l_6, l_7, l_8, l_9, l_10, l_11, l_12, l_13, l_14, l_16, l_20, l_21, l_23, l_24, l_30, l_32, l_40, l_41, l_44, l_48, l_57, l_59, l_60, l_63, l_64, l_80, l_84, l_96, l_97, l_99, l_120, l_122, l_127, l_200, l_240, l_255, l_840, l_999, l_1000, l_1001, l_2400, l_3064, l_9999, l_10000, l_13849, l_16383, l_25173, l_65535, l_65536, l_99999, l_1000000000, neg_nI, pk_mul, nI_add, nI_subL, tn_nI, inb_t, grd_true, bnd_some, elS_l, elS_r, nI_ltI, nI_leI, nI_inj, fa_and, fa_or, m1_eq, eq_m1, m1_lt, m1_le, lt_m1, le_m1, m1_lt0, up2_at, up2_no, ite_true, ite_false, if_true, if_false, Bool.false_eq_true, reduceIte, reduceCtorEq, not_true_eq_false, not_false_eq_true, eq_self, decide_true, decide_false, le_tt, le_ff, lt_tt, lt_ff, eq_ff, and_true, true_and, and_false, false_and, or_true, true_or, or_false, false_or, ne_eq, decide_eq_true_eq, decide_eq_false_iff_not, Bool.not_true, Bool.not_false, Bool.and_true, Bool.true_and, Bool.and_false, Bool.false_and, gs_at, gs_no, oI_n, oI_s]
      · show up2 M1.1 15 i (ng 1) 15 j = _
        by_cases c : j = i
        · subst c; exact up2_at
        · rw [up2_no (by omega)]; exact e2 j (by omega)
    · rintro ⟨s1, M1⟩ ⟨e1, e2, e3⟩
      simp only at e1 e2 e3
      subst e1
      refine ⟨M1, ?_, e2, e3⟩
      show Wy_forget_b2 (nI 64) M1 = _
      unfold Wy_forget_b2
      simp (disch := omega) only [l_0, l_1, l_2, l_3, l_4, l_5, l_6, l_7, l_8, l_9, l_10, l_11, l_12, l_13, l_14, l_16, l_20, l_21, l_23, l_24, l_30, l_32, l_40, l_41, l_44, l_48, l_57, l_59, l_60, l_63, l_64, l_80, l_84, l_96, l_97, l_99, l_120, l_122, l_127, l_200, l_240, l_255, l_840, l_999, l_1000, l_1001, l_2400, l_3064, l_9999, l_10000, l_13849, l_16383, l_25173, l_65535, l_65536, l_99999, l_1000000000, neg_nI, pk_mul, nI_add, nI_subL, tn_nI, inb_t, grd_true, bnd_some, elS_l, elS_r, nI_ltI, nI_leI, nI_inj, fa_and, fa_or, m1_eq, eq_m1, m1_lt, m1_le, lt_m1, le_m1, m1_lt0, up2_at, up2_no, ite_true, ite_false, if_true, if_false, Bool.false_eq_true, reduceIte, reduceCtorEq, not_true_eq_false, not_false_eq_true, eq_self, decide_true, decide_false, le_tt, le_ff, lt_tt, lt_ff, eq_ff, and_true, true_and, and_false, false_and, or_true, true_or, or_false, false_or, ne_eq, decide_eq_true_eq, decide_eq_false_iff_not, Bool.not_true, Bool.not_false, Bool.and_true, Bool.true_and, Bool.and_false, Bool.false_and, gs_at, gs_no, oI_n, oI_s]
  obtain ⟨r, h1, h2, h3⟩ := hlp
  refine ⟨r, ?_, h2, h3⟩
  unfold Fi_forgetWays Wy_forget
  simp (disch := omega) only [l_0, l_1, l_2, l_3, l_4, l_5, l_6, l_7, l_8, l_9, l_10, l_11, l_12, l_13, l_14, l_16, l_20, l_21, l_23, l_24, l_30, l_32, l_40, l_41, l_44, l_48, l_57, l_59, l_60, l_63, l_64, l_80, l_84, l_96, l_97, l_99, l_120, l_122, l_127, l_200, l_240, l_255, l_840, l_999, l_1000, l_1001, l_2400, l_3064, l_9999, l_10000, l_13849, l_16383, l_25173, l_65535, l_65536, l_99999, l_1000000000, neg_nI, pk_mul, nI_add, nI_subL, tn_nI, inb_t, grd_true, bnd_some, elS_l, elS_r, nI_ltI, nI_leI, nI_inj, fa_and, fa_or, m1_eq, eq_m1, m1_lt, m1_le, lt_m1, le_m1, m1_lt0, up2_at, up2_no, ite_true, ite_false, if_true, if_false, Bool.false_eq_true, reduceIte, reduceCtorEq, not_true_eq_false, not_false_eq_true, eq_self, decide_true, decide_false, le_tt, le_ff, lt_tt, lt_ff, eq_ff, and_true, true_and, and_false, false_and, or_true, true_or, or_false, false_or, ne_eq, decide_eq_true_eq, decide_eq_false_iff_not, Bool.not_true, Bool.not_false, Bool.and_true, Bool.true_and, Bool.and_false, Bool.false_and, gs_at, gs_no, oI_n, oI_s, h1]
theorem CA_new {M : Mm} {g : Nat → Nat} (h0 : g 0 ≤ 8) (h : ∀ i, i < 64 → M.1 15 i = ng 1) : CA M g := fun a b ha hb _ => .inl (h _ (by omega))
theorem op_undo {n : Nat} (hn : 4000 < n) : OK2 (Fg_undo n) (Fm_undo n) := by
  intro A M hv hc hm
  have hv' := hv
  obtain ⟨hg, hk, ht, hb⟩ := hv
  obtain ⟨g, k, t, b⟩ := A
  cases k with
  | none =>
    refine ⟨false, M, M, (g, none, t, b), ?_, ?_, hv', hc, hm⟩
    · unfold Fg_undo
      simp (disch := omega) only [l_0, l_1, l_2, l_3, l_4, l_5, l_6, l_7, l_8, l_9, l_10, l_11, l_12, l_13, l_14, l_16, l_20, l_21, l_23, l_24, l_30, l_32, l_40, l_41, l_44, l_48, l_57, l_59, l_60, l_63, l_64, l_80, l_84, l_96, l_97, l_99, l_120, l_122, l_127, l_200, l_240, l_255, l_840, l_999, l_1000, l_1001, l_2400, l_3064, l_9999, l_10000, l_13849, l_16383, l_25173, l_65535, l_65536, l_99999, l_1000000000, neg_nI, pk_mul, nI_add, nI_subL, tn_nI, inb_t, grd_true, bnd_some, elS_l, elS_r, nI_ltI, nI_leI, nI_inj, fa_and, fa_or, m1_eq, eq_m1, m1_lt, m1_le, lt_m1, le_m1, m1_lt0, up2_at, up2_no, ite_true, ite_false, if_true, if_false, Bool.false_eq_true, reduceIte, reduceCtorEq, not_true_eq_false, not_false_eq_true, eq_self, decide_true, decide_false, le_tt, le_ff, lt_tt, lt_ff, eq_ff, and_true, true_and, and_false, false_and, or_true, true_or, or_false, false_or, ne_eq, decide_eq_true_eq, decide_eq_false_iff_not, Bool.not_true, Bool.not_false, Bool.and_true, Bool.true_and, Bool.and_false, Bool.false_and, gs_at, gs_no, oI_n, oI_s, show M.1 0 8 = nI 0 from hc.2.2]
    · obtain ⟨⟨h0, m1, m2⟩, m3⟩ := hm
      unfold Fm_undo
      simp (disch := omega) only [l_0, l_1, l_2, l_3, l_4, l_5, l_6, l_7, l_8, l_9, l_10, l_11, l_12, l_13, l_14, l_16, l_20, l_21, l_23, l_24, l_30, l_32, l_40, l_41, l_44, l_48, l_57, l_59, l_60, l_63, l_64, l_80, l_84, l_96, l_97, l_99, l_120, l_122, l_127, l_200, l_240, l_255, l_840, l_999, l_1000, l_1001, l_2400, l_3064, l_9999, l_10000, l_13849, l_16383, l_25173, l_65535, l_65536, l_99999, l_1000000000, neg_nI, pk_mul, nI_add, nI_subL, tn_nI, inb_t, grd_true, bnd_some, elS_l, elS_r, nI_ltI, nI_leI, nI_inj, fa_and, fa_or, m1_eq, eq_m1, m1_lt, m1_le, lt_m1, le_m1, m1_lt0, up2_at, up2_no, ite_true, ite_false, if_true, if_false, Bool.false_eq_true, reduceIte, reduceCtorEq, not_true_eq_false, not_false_eq_true, eq_self, decide_true, decide_false, le_tt, le_ff, lt_tt, lt_ff, eq_ff, and_true, true_and, and_false, false_and, or_true, true_or, or_false, false_or, ne_eq, decide_eq_true_eq, decide_eq_false_iff_not, Bool.not_true, Bool.not_false, Bool.and_true, Bool.true_and, Bool.and_false, Bool.false_and, gs_at, gs_no, oI_n, oI_s, show M.1 94 2 = nI 0 from m2]
  | some kg =>
    have hkg := hk kg rfl
    obtain ⟨⟨c1, c2⟩, ⟨c3, c4⟩, c5, c6⟩ := hc
    have b3 := hkg.1.2.1.1
    obtain ⟨M1, a1, a2, a3, a4⟩ := St_copy_e (s := 18) (o := 36) (by omega) b3.2.2.2.2.2.1 hkg.2.2 c6
    obtain ⟨M1', f1, f2, f3⟩ := Wy_forget_e (M := M1) (n := n) (by omega)
    have hr : Fg_undo n M = some (true, M1') := by
      unfold Fg_undo
      simp (disch := omega) only [l_0, l_1, l_2, l_3, l_4, l_5, l_6, l_7, l_8, l_9, l_10, l_11, l_12, l_13, l_14, l_16, l_20, l_21, l_23, l_24, l_30, l_32, l_40, l_41, l_44, l_48, l_57, l_59, l_60, l_63, l_64, l_80, l_84, l_96, l_97, l_99, l_120, l_122, l_127, l_200, l_240, l_255, l_840, l_999, l_1000, l_1001, l_2400, l_3064, l_9999, l_10000, l_13849, l_16383, l_25173, l_65535, l_65536, l_99999, l_1000000000, neg_nI, pk_mul, nI_add, nI_subL, tn_nI, inb_t, grd_true, bnd_some, elS_l, elS_r, nI_ltI, nI_leI, nI_inj, fa_and, fa_or, m1_eq, eq_m1, m1_lt, m1_le, lt_m1, le_m1, m1_lt0, up2_at, up2_no, ite_true, ite_false, if_true, if_false, Bool.false_eq_true, reduceIte, reduceCtorEq, not_true_eq_false, not_false_eq_true, eq_self, decide_true, decide_false, le_tt, le_ff, lt_tt, lt_ff, eq_ff, and_true, true_and, and_false, false_and, or_true, true_or, or_false, false_or, ne_eq, decide_eq_true_eq, decide_eq_false_iff_not, Bool.not_true, Bool.not_false, Bool.and_true, Bool.true_and, Bool.and_false, Bool.false_and, gs_at, gs_no, oI_n, oI_s, c5, a1, f1]
    have hf := fr_Fg_undo hr
    obtain ⟨⟨h0, m1, m2, m5⟩, m3, m4⟩ := hm.fr hf (fun c j q => by unfold fp_Fg_undo at q; omega)
    obtain ⟨M2, o1, o2, o3⟩ := m1.back (b := 1) (n := n) (g' := kg) (by omega) (by omega) m5 hn
    refine ⟨true, M1', M2, (kg, some kg, t, b), hr, ?_, ⟨hkg, hk, ht, hb⟩, ?_, ?_⟩
    · unfold Fm_undo
      simp (disch := omega) only [l_0, l_1, l_2, l_3, l_4, l_5, l_6, l_7, l_8, l_9, l_10, l_11, l_12, l_13, l_14, l_16, l_20, l_21, l_23, l_24, l_30, l_32, l_40, l_41, l_44, l_48, l_57, l_59, l_60, l_63, l_64, l_80, l_84, l_96, l_97, l_99, l_120, l_122, l_127, l_200, l_240, l_255, l_840, l_999, l_1000, l_1001, l_2400, l_3064, l_9999, l_10000, l_13849, l_16383, l_25173, l_65535, l_65536, l_99999, l_1000000000, neg_nI, pk_mul, nI_add, nI_subL, tn_nI, inb_t, grd_true, bnd_some, elS_l, elS_r, nI_ltI, nI_leI, nI_inj, fa_and, fa_or, m1_eq, eq_m1, m1_lt, m1_le, lt_m1, le_m1, m1_lt0, up2_at, up2_no, ite_true, ite_false, if_true, if_false, Bool.false_eq_true, reduceIte, reduceCtorEq, not_true_eq_false, not_false_eq_true, eq_self, decide_true, decide_false, le_tt, le_ff, lt_tt, lt_ff, eq_ff, and_true, true_and, and_false, false_and, or_true, true_or, or_false, false_or, ne_eq, decide_eq_true_eq, decide_eq_false_iff_not, Bool.not_true, Bool.not_false, Bool.and_true, Bool.true_and, Bool.and_false, Bool.false_and, gs_at, gs_no, oI_n, oI_s, show M1'.1 94 2 = nI 1 from m2, o1]
    · refine KC.fr (M := M1') ⟨⟨a2.fr f3 (fun k j hk => by omega), CA_new b3.2.1 f2⟩, ⟨?_, fun i hi => ?_⟩, ?_, a3.fr f3 (fun k j hk => by omega)⟩ o3 (fun c j q => by omega)
      · rw [(hf 1 1 (by unfold fp_Fg_undo; omega)).1]; exact c3
      · rw [(hf 2 i (by unfold fp_Fg_undo; omega)).1]; exact c4 i hi
      · rw [(hf 0 8 (by unfold fp_Fg_undo; omega)).1]; exact c5
    · refine ⟨⟨h0, o2, ?_, m5⟩, ?_, fun i hi => ?_⟩
      · rw [(o3 94 2 (by omega)).1]; exact m2
      · rw [(o3 94 4 (by omega)).1]; exact m3
      · rw [(o3 97 i (by omega)).1]; exact m4 i hi
