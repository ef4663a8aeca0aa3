/-! repacking: the model's aims, all -/
def PLm (M : Mm) (g gT : Nat → Nat) (lf pk : Nat → Bool) (dn : Nat) : Prop := (∀ d, d < g 7 → g (64 + 10 * d + 3) = 0 → M.1 105 d = nI (gT (64 + 10 * d + 4)) ∧ M.1 106 d = nI (gT (64 + 10 * d + 5)) ∧ M.1 107 d = nI (gT (64 + 10 * d + 6))) ∧ (∀ d, d < g 7 → M.1 109 d = b2i (mvB g gT d)) ∧ (∀ d, d < g 7 → M.1 110 d = b2i (mvB g gT d && !lf d)) ∧ (∀ d, d < g 7 → M.1 111 d = b2i (pk d)) ∧ M.1 94 33 = nI dn ∧ M.1 94 34 = nI (fb_ct pk (g 7)) ∧ M.1 94 32 = nI (fb_ct (mvB g gT) (g 7))
theorem PLm.fr {P : Nat → Nat → Prop} {M M' : Mm} {g gT : Nat → Nat} {lf pk : Nat → Bool} {dn : Nat} (h : PLm M g gT lf pk dn) (hf : Fr P M M') (hp : ∀ c j, (c = 105 ∨ c = 106 ∨ c = 107 ∨ c = 109 ∨ c = 110 ∨ c = 111) → ¬ P c j) (h3 : ¬ P 94 33 ∧ ¬ P 94 34 ∧ ¬ P 94 32) : PLm M' g gT lf pk dn := by
  obtain ⟨h1, h2, h4, h5, h6, h7, h8⟩ := h
  refine ⟨fun d q1 q2 => ?_, fun d hd => ?_, fun d hd => ?_, fun d hd => ?_, ?_, ?_, ?_⟩
  · rw [(hf 105 d (hp _ _ (by omega))).1, (hf 106 d (hp _ _ (by omega))).1, (hf 107 d (hp _ _ (by omega))).1]; exact h1 d q1 q2
  · rw [(hf 109 d (hp _ _ (by omega))).1]; exact h2 d hd
  · rw [(hf 110 d (hp _ _ (by omega))).1]; exact h4 d hd
  · rw [(hf 111 d (hp _ _ (by omega))).1]; exact h5 d hd
  · rw [(hf 94 33 h3.1).1]; exact h6
  · rw [(hf 94 34 h3.2.1).1]; exact h7
  · rw [(hf 94 32 h3.2.2).1]; exact h8
theorem tp_cong {g g' : Nat → Nat} {l : Nat} : ∀ k, (∀ d, d < k → (g' (64 + 10 * d + 3) = 0 ↔ g (64 + 10 * d + 3) = 0) ∧ g' (64 + 10 * d + 4) = g (64 + 10 * d + 4) ∧ g' (64 + 10 * d + 5) = g (64 + 10 * d + 5) ∧ g' (64 + 10 * d + 6) = g (64 + 10 * d + 6)) → tpF g' l k = tpF g l k
  | 0, _ => rfl
  | k + 1, h => by
    obtain ⟨h1, h2, h3, h4⟩ := h k (by omega)
    rw [tp_s, tp_s, tp_cong k (fun d hd => h d (by omega)), h2, h3, h4]
    by_cases c : g (64 + 10 * k + 3) = 0 ∧ g (64 + 10 * k + 6) &&& l ≠ 0
    · rw [if_pos c, if_pos ⟨h1.mpr c.1, c.2⟩]
    · rw [if_neg c, if_neg (fun q => c ⟨h1.mp q.1, q.2⟩)]
section
variable {M : Mm} {g : Nat → Nat} {n u : Nat} {h : Nat → Int32}
theorem aims_0 (hg : GV g) (hF : FK M g h) (hn : 100 < n) : ∃ M', loop (fun s1 : Int32 × Mm => Fm_aims_b15 s1.1 s1.2) n (nI 0, M) = some M' ∧ FK M' (liG g (g 7)) h ∧ (∀ d, d < g 7 → M'.1 109 d = nI 0 ∧ M'.1 110 d = nI 0 ∧ M'.1 111 d = nI 0) ∧ Fr (fun c _ => c = 95 ∨ c = 109 ∨ c = 110 ∨ c = 111) M M' := by
  have h40 := hg.2.2
  have hG := hg.1.1
  have hlp : ∃ r, loop (fun s1 : Int32 × Mm => Fm_aims_b15 s1.1 s1.2) n (nI 0, M) = some r ∧ (FK r (liG g (g 7)) h ∧ (∀ d, d < g 7 → r.1 109 d = nI 0 ∧ r.1 110 d = nI 0 ∧ r.1 111 d = nI 0) ∧ Fr (fun c _ => c = 95 ∨ c = 109 ∨ c = 110 ∨ c = 111) M r) := by
    refine loop_I0 (fun i (st : Int32 × Mm) => st.1 = nI i ∧ FK st.2 (liG g i) h ∧ (∀ d, d < i → st.2.1 109 d = nI 0 ∧ st.2.1 110 d = nI 0 ∧ st.2.1 111 d = nI 0) ∧ Fr (fun c _ => c = 95 ∨ c = 109 ∨ c = 110 ∨ c = 111) M st.2) _ (g 7) ⟨rfl, ?_, fun d hd => by omega, Fr.rf⟩ (by omega) ?_ ?_
    · have : liG g 0 = g := funext fun j => if_neg (by omega)
      rw [this]
      exact hF
    · rintro i ⟨s1, N1⟩ hi ⟨e1, e2, e3, e4⟩
      simp only at e1 e2 e3 e4
      subst e1
      left
      have h7 : N1.1 95 7 = nI (g 7) := by rw [e2.lo (by omega), li_lo (by omega)]
      have nz0 : vp_nar .boolean (nI 0) = nI 0 := rfl
      have f1 : Fr (fun c j => (c = 109 ∨ c = 110 ∨ c = 111) ∧ j = i) N1 (up2 (up2 (up2 N1.1 109 i (nI 0)) 110 i (nI 0)) 111 i (nI 0), N1.2) := Fr.I (Fr.I (Fr.I Fr.rf ⟨.inl rfl, rfl⟩) ⟨.inr (.inl rfl), rfl⟩) ⟨.inr (.inr rfl), rfl⟩
      have hF1 := e2.fr f1 (fun j => by omega)
      have e7 : liG g i 7 = g 7 := li_lo (by omega)
      have hil := Fm_isLit_e (hF1.FR (GB_li hG)) (GB_li hG) (d := i) (by rw [e7]; exact hi)
      rw [li_3 (Nat.le_refl _)] at hil
      have arr : ∀ M' : Mm, (∀ c j, c = 109 ∨ c = 110 ∨ c = 111 → M'.1 c j = up2 (up2 (up2 N1.1 109 i (nI 0)) 110 i (nI 0)) 111 i (nI 0) c j) → ∀ d, d < i + 1 → M'.1 109 d = nI 0 ∧ M'.1 110 d = nI 0 ∧ M'.1 111 d = nI 0 := fun M' hM' d hd => by
        rw [hM' 109 d (by omega), hM' 110 d (by omega), hM' 111 d (by omega)]
        by_cases c : d = i
        · subst c
          refine ⟨?_, ?_, ?_⟩
          · simp (disch := omega) only [l_0, l_1, l_2, l_3, l_4, l_5, l_6, l_7, l_8, l_9, l_10, l_11, l_12, l_13, l_14, l_16, l_20, l_21, l_23, l_24, l_30, l_32, l_40, l_41, l_44, l_48, l_57, l_59, l_60, l_63, l_64, l_80, l_84, l_96, l_97, l_99, l_120, l_122, l_127, l_200, l_240, l_255, l_840, l_999, l_1000, l_1001, l_2400, l_3064, l_9999, l_10000, l_13849, l_16383, l_25173, l_65535, l_65536, l_99999, l_1000000000, neg_nI, pk_mul, nI_add, nI_subL, tn_nI, inb_t, grd_true, bnd_some, elS_l, elS_r, nI_ltI, nI_leI, nI_inj, fa_and, fa_or, m1_eq, eq_m1, m1_lt, m1_le, lt_m1, le_m1, m1_lt0, up2_at, up2_no, ite_true, ite_false, if_true, if_false, Bool.false_eq_true, reduceIte, reduceCtorEq, not_true_eq_false, not_false_eq_true, eq_self, decide_true, decide_false, le_tt, le_ff, lt_tt, lt_ff, eq_ff, and_true, true_and, and_false, false_and, or_true, true_or, or_false, false_or, ne_eq, decide_eq_true_eq, decide_eq_false_iff_not, Bool.not_true, Bool.not_false, Bool.and_true, Bool.true_and, Bool.and_false, Bool.false_and, gs_at, gs_no, oI_n, oI_s]
          · simp (disch := omega) only [l_0, l_1, l_2, l_3, l_4, l_5, l_6, l_7, l_8, l_9, l_10, l_11, l_12, l_13, l_14, l_16, l_20, l_21, l_23, l_24, l_30, l_32, l_40, l_41, l_44, l_48, l_57, l_59, l_60, l_63, l_64, l_80, l_84, l_96, l_97, l_99, l_120, l_122, l_127, l_200, l_240, l_255, l_840, l_999, l_1000, l_1001, l_2400, l_3064, l_9999, l_10000, l_13849, l_16383, l_25173, l_65535, l_65536, l_99999, l_1000000000, neg_nI, pk_mul, nI_add, nI_subL, tn_nI, inb_t, grd_true, bnd_some, elS_l, elS_r, nI_ltI, nI_leI, nI_inj, fa_and, fa_or, m1_eq, eq_m1, m1_lt, m1_le, lt_m1, le_m1, m1_lt0, up2_at, up2_no, ite_true, ite_false, if_true, if_false, Bool.false_eq_true, reduceIte, reduceCtorEq, not_true_eq_false, not_false_eq_true, eq_self, decide_true, decide_false, le_tt, le_ff, lt_tt, lt_ff, eq_ff, and_true, true_and, and_false, false_and, or_true, true_or, or_false, false_or, ne_eq, decide_eq_true_eq, decide_eq_false_iff_not, Bool.not_true, Bool.not_false, Bool.and_true, Bool.true_and, Bool.and_false, Bool.false_and, gs_at, gs_no, oI_n, oI_s]
          · simp (disch := omega) only [l_0, l_1, l_2, l_3, l_4, l_5, l_6, l_7, l_8, l_9, l_10, l_11, l_12, l_13, l_14, l_16, l_20, l_21, l_23, l_24, l_30, l_32, l_40, l_41, l_44, l_48, l_57, l_59, l_60, l_63, l_64, l_80, l_84, l_96, l_97, l_99, l_120, l_122, l_127, l_200, l_240, l_255, l_840, l_999, l_1000, l_1001, l_2400, l_3064, l_9999, l_10000, l_13849, l_16383, l_25173, l_65535, l_65536, l_99999, l_1000000000, neg_nI, pk_mul, nI_add, nI_subL, tn_nI, inb_t, grd_true, bnd_some, elS_l, elS_r, nI_ltI, nI_leI, nI_inj, fa_and, fa_or, m1_eq, eq_m1, m1_lt, m1_le, lt_m1, le_m1, m1_lt0, up2_at, up2_no, ite_true, ite_false, if_true, if_false, Bool.false_eq_true, reduceIte, reduceCtorEq, not_true_eq_false, not_false_eq_true, eq_self, decide_true, decide_false, le_tt, le_ff, lt_tt, lt_ff, eq_ff, and_true, true_and, and_false, false_and, or_true, true_or, or_false, false_or, ne_eq, decide_eq_true_eq, decide_eq_false_iff_not, Bool.not_true, Bool.not_false, Bool.and_true, Bool.true_and, Bool.and_false, Bool.false_and, gs_at, gs_no, oI_n, oI_s]
        · obtain ⟨w1, w2, w3⟩ := e3 d (by omega)
          refine ⟨?_, ?_, ?_⟩
          · simp (disch := omega) only [l_0, l_1, l_2, l_3, l_4, l_5, l_6, l_7, l_8, l_9, l_10, l_11, l_12, l_13, l_14, l_16, l_20, l_21, l_23, l_24, l_30, l_32, l_40, l_41, l_44, l_48, l_57, l_59, l_60, l_63, l_64, l_80, l_84, l_96, l_97, l_99, l_120, l_122, l_127, l_200, l_240, l_255, l_840, l_999, l_1000, l_1001, l_2400, l_3064, l_9999, l_10000, l_13849, l_16383, l_25173, l_65535, l_65536, l_99999, l_1000000000, neg_nI, pk_mul, nI_add, nI_subL, tn_nI, inb_t, grd_true, bnd_some, elS_l, elS_r, nI_ltI, nI_leI, nI_inj, fa_and, fa_or, m1_eq, eq_m1, m1_lt, m1_le, lt_m1, le_m1, m1_lt0, up2_at, up2_no, ite_true, ite_false, if_true, if_false, Bool.false_eq_true, reduceIte, reduceCtorEq, not_true_eq_false, not_false_eq_true, eq_self, decide_true, decide_false, le_tt, le_ff, lt_tt, lt_ff, eq_ff, and_true, true_and, and_false, false_and, or_true, true_or, or_false, false_or, ne_eq, decide_eq_true_eq, decide_eq_false_iff_not, Bool.not_true, Bool.not_false, Bool.and_true, Bool.true_and, Bool.and_false, Bool.false_and, gs_at, gs_no, oI_n, oI_s, w1]
          · simp (disch := omega) only [l_0, l_1, l_2, l_3, l_4, l_5, l_6, l_7, l_8, l_9, l_10, l_11, l_12, l_13, l_14, l_16, l_20, l_21, l_23, l_24, l_30, l_32, l_40, l_41, l_44, l_48, l_57, l_59, l_60, l_63, l_64, l_80, l_84, l_96, l_97, l_99, l_120, l_122, l_127, l_200, l_240, l_255, l_840, l_999, l_1000, l_1001, l_2400, l_3064, l_9999, l_10000, l_13849, l_16383, l_25173, l_65535, l_65536, l_99999, l_1000000000, neg_nI, pk_mul, nI_add, nI_subL, tn_nI, inb_t, grd_true, bnd_some, elS_l, elS_r, nI_ltI, nI_leI, nI_inj, fa_and, fa_or, m1_eq, eq_m1, m1_lt, m1_le, lt_m1, le_m1, m1_lt0, up2_at, up2_no, ite_true, ite_false, if_true, if_false, Bool.false_eq_true, reduceIte, reduceCtorEq, not_true_eq_false, not_false_eq_true, eq_self, decide_true, decide_false, le_tt, le_ff, lt_tt, lt_ff, eq_ff, and_true, true_and, and_false, false_and, or_true, true_or, or_false, false_or, ne_eq, decide_eq_true_eq, decide_eq_false_iff_not, Bool.not_true, Bool.not_false, Bool.and_true, Bool.true_and, Bool.and_false, Bool.false_and, gs_at, gs_no, oI_n, oI_s, w2]
          · simp (disch := omega) only [l_0, l_1, l_2, l_3, l_4, l_5, l_6, l_7, l_8, l_9, l_10, l_11, l_12, l_13, l_14, l_16, l_20, l_21, l_23, l_24, l_30, l_32, l_40, l_41, l_44, l_48, l_57, l_59, l_60, l_63, l_64, l_80, l_84, l_96, l_97, l_99, l_120, l_122, l_127, l_200, l_240, l_255, l_840, l_999, l_1000, l_1001, l_2400, l_3064, l_9999, l_10000, l_13849, l_16383, l_25173, l_65535, l_65536, l_99999, l_1000000000, neg_nI, pk_mul, nI_add, nI_subL, tn_nI, inb_t, grd_true, bnd_some, elS_l, elS_r, nI_ltI, nI_leI, nI_inj, fa_and, fa_or, m1_eq, eq_m1, m1_lt, m1_le, lt_m1, le_m1, m1_lt0, up2_at, up2_no, ite_true, ite_false, if_true, if_false, Bool.false_eq_true, reduceIte, reduceCtorEq, not_true_eq_false, not_false_eq_true, eq_self, decide_true, decide_false, le_tt, le_ff, lt_tt, lt_ff, eq_ff, and_true, true_and, and_false, false_and, or_true, true_or, or_false, false_or, ne_eq, decide_eq_true_eq, decide_eq_false_iff_not, Bool.not_true, Bool.not_false, Bool.and_true, Bool.true_and, Bool.and_false, Bool.false_and, gs_at, gs_no, oI_n, oI_s, w3]
      show ∃ s', Fm_aims_b15 (nI i) N1 = some (.inl s') ∧ _
      by_cases z : g (64 + 10 * i + 3) = 0
      · obtain ⟨N2, t1, t2, t3⟩ := hF1.sets (d := i) (w := 3) (v := 4) (by omega) (by omega) (by omega)
        refine ⟨(nI (i + 1), N2), ?_, rfl, by rw [li_s, if_pos z]; exact t2, arr N2 (fun c j hc => (t3 c j (by omega)).1), (e4.tr (f1.mono (fun c j q => by omega))).tr (t3.mono (fun c j q => by omega))⟩
        unfold Fm_aims_b15 Fm_aims_j62
        simp (disch := omega) only [l_0, l_1, l_2, l_3, l_4, l_5, l_6, l_7, l_8, l_9, l_10, l_11, l_12, l_13, l_14, l_16, l_20, l_21, l_23, l_24, l_30, l_32, l_40, l_41, l_44, l_48, l_57, l_59, l_60, l_63, l_64, l_80, l_84, l_96, l_97, l_99, l_120, l_122, l_127, l_200, l_240, l_255, l_840, l_999, l_1000, l_1001, l_2400, l_3064, l_9999, l_10000, l_13849, l_16383, l_25173, l_65535, l_65536, l_99999, l_1000000000, neg_nI, pk_mul, nI_add, nI_subL, tn_nI, inb_t, grd_true, bnd_some, elS_l, elS_r, nI_ltI, nI_leI, nI_inj, fa_and, fa_or, m1_eq, eq_m1, m1_lt, m1_le, lt_m1, le_m1, m1_lt0, up2_at, up2_no, ite_true, ite_false, if_true, if_false, Bool.false_eq_true, reduceIte, reduceCtorEq, not_true_eq_false, not_false_eq_true, eq_self, decide_true, decide_false, le_tt, le_ff, lt_tt, lt_ff, eq_ff, and_true, true_and, and_false, false_and, or_true, true_or, or_false, false_or, ne_eq, decide_eq_true_eq, decide_eq_false_iff_not, Bool.not_true, Bool.not_false, Bool.and_true, Bool.true_and, Bool.and_false, Bool.false_and, gs_at, gs_no, oI_n, oI_s, h7, nz0, hil, z, t1]
      · refine ⟨(nI (i + 1), _), ?_, rfl, by rw [li_s, if_neg z]; exact hF1, arr _ (fun c j hc => rfl), e4.tr (f1.mono (fun c j q => by omega))⟩
        unfold Fm_aims_b15 Fm_aims_j62
        simp (disch := omega) only [l_0, l_1, l_2, l_3, l_4, l_5, l_6, l_7, l_8, l_9, l_10, l_11, l_12, l_13, l_14, l_16, l_20, l_21, l_23, l_24, l_30, l_32, l_40, l_41, l_44, l_48, l_57, l_59, l_60, l_63, l_64, l_80, l_84, l_96, l_97, l_99, l_120, l_122, l_127, l_200, l_240, l_255, l_840, l_999, l_1000, l_1001, l_2400, l_3064, l_9999, l_10000, l_13849, l_16383, l_25173, l_65535, l_65536, l_99999, l_1000000000, neg_nI, pk_mul, nI_add, nI_subL, tn_nI, inb_t, grd_true, bnd_some, elS_l, elS_r, nI_ltI, nI_leI, nI_inj, fa_and, fa_or, m1_eq, eq_m1, m1_lt, m1_le, lt_m1, le_m1, m1_lt0, up2_at, up2_no, ite_true, ite_false, if_true, if_false, Bool.false_eq_true, reduceIte, reduceCtorEq, not_true_eq_false, not_false_eq_true, eq_self, decide_true, decide_false, le_tt, le_ff, lt_tt, lt_ff, eq_ff, and_true, true_and, and_false, false_and, or_true, true_or, or_false, false_or, ne_eq, decide_eq_true_eq, decide_eq_false_iff_not, Bool.not_true, Bool.not_false, Bool.and_true, Bool.true_and, Bool.and_false, Bool.false_and, gs_at, gs_no, oI_n, oI_s, h7, nz0, hil, z]
    · rintro ⟨s1, N1⟩ ⟨e1, e2, e3, e4⟩
      simp only at e1 e2 e3 e4
      subst e1
      have h7 : N1.1 95 7 = nI (g 7) := by rw [e2.lo (by omega), li_lo (by omega)]
      refine ⟨N1, ?_, e2, e3, e4⟩
      show Fm_aims_b15 (nI (g 7)) N1 = _
      unfold Fm_aims_b15
      simp (disch := omega) only [l_0, l_1, l_2, l_3, l_4, l_5, l_6, l_7, l_8, l_9, l_10, l_11, l_12, l_13, l_14, l_16, l_20, l_21, l_23, l_24, l_30, l_32, l_40, l_41, l_44, l_48, l_57, l_59, l_60, l_63, l_64, l_80, l_84, l_96, l_97, l_99, l_120, l_122, l_127, l_200, l_240, l_255, l_840, l_999, l_1000, l_1001, l_2400, l_3064, l_9999, l_10000, l_13849, l_16383, l_25173, l_65535, l_65536, l_99999, l_1000000000, neg_nI, pk_mul, nI_add, nI_subL, tn_nI, inb_t, grd_true, bnd_some, elS_l, elS_r, nI_ltI, nI_leI, nI_inj, fa_and, fa_or, m1_eq, eq_m1, m1_lt, m1_le, lt_m1, le_m1, m1_lt0, up2_at, up2_no, ite_true, ite_false, if_true, if_false, Bool.false_eq_true, reduceIte, reduceCtorEq, not_true_eq_false, not_false_eq_true, eq_self, decide_true, decide_false, le_tt, le_ff, lt_tt, lt_ff, eq_ff, and_true, true_and, and_false, false_and, or_true, true_or, or_false, false_or, ne_eq, decide_eq_true_eq, decide_eq_false_iff_not, Bool.not_true, Bool.not_false, Bool.and_true, Bool.true_and, Bool.and_false, Bool.false_and, gs_at, gs_no, oI_n, oI_s, h7]
  obtain ⟨r, r1, r2, r3, r4⟩ := hlp
  exact ⟨r, r1, r2, r3, r4⟩
theorem aims_m (hg : GV g) (hu : u < 4) (hF : FK M g h) (hn : 1099511627776 < n) : (laF g u (g 7) = none ∧ ∃ M' h', Fm_aims n (nI u) M = some (false, M') ∧ FK M' g h' ∧ (∀ j, j < 3064 → h' (3064 + j) = h (3064 + j)) ∧ Fr PM M M') ∨ ∃ gT, laF g u (g 7) = some gT ∧ ∃ M' h', Fm_aims n (nI u) M = some (true, M') ∧ FK M' g h' ∧ (∀ j, j < 3064 → h' (3064 + j) = h (3064 + j)) ∧ PLm M' g gT (fun d => decide (d < g 7) && mvB g gT d) (fun _ => false) 0 ∧ M'.1 94 31 = oI (tpF gT 16383 (g 7)) ∧ Fr PM M M' := by
  have h40 := hg.2.2
  obtain ⟨M1, h', a1, a2, a3, a4, a5⟩ := hF.out (b := 2) (n := n) (by omega) (by omega) (by omega)
  have f2 : Fr (fun c j => c = 94 ∧ j = 32) M1 (up2 M1.1 94 32 (nI 0), M1.2) := Fr.I Fr.rf ⟨rfl, rfl⟩
  obtain ⟨M2, b1, b2, b3, b4⟩ := aims_0 (n := n) hg (a2.fr f2 (fun j => by omega)) (by omega)
  rw [li_ag] at b2
  have A0 : AR M2 g (ofS g (fun _ => true) (g 7)) 0 := by
    refine ⟨fun d q => by omega, fun d hd => ?_, fun d hd => (b3 d hd).2.1, fun d hd => (b3 d hd).2.2, ?_⟩
    · rw [(b3 d hd).1, decide_eq_false (by omega), Bool.false_and]; rfl
    · rw [(b4 94 32 (by omega)).1]; show up2 M1.1 94 32 (nI 0) 94 32 = _; exact up2_at
  have hlp : ∃ y, loop (fun s1 : Int32 × Int32 × Mm => Fm_aims_b70 n (nI u) s1.1 s1.2.1 s1.2.2) n (nI 1, nI 0, M2) = some y ∧ ((laF g u (g 7) = none ∧ y.1 = nI 0 ∧ ∃ gF, FK y.2 gF h' ∧ GB gF ∧ NV gF ∧ LV gF) ∨ ∃ gT, laF g u (g 7) = some gT ∧ y.1 = nI 1 ∧ FK y.2 (agG g gT (g 7)) h' ∧ AR y.2 g gT (g 7)) := by
    refine loop_I0 (fun i (st : Int32 × Int32 × Mm) => st.2.1 = nI i ∧ ((laF g u i = none ∧ st.1 = nI 0 ∧ ∃ gF, FK st.2.2 gF h' ∧ GB gF ∧ NV gF ∧ LV gF ∧ gF 7 = g 7) ∨ ∃ gT, laF g u i = some gT ∧ st.1 = nI 1 ∧ FK st.2.2 (agG g gT i) h' ∧ AR st.2.2 g gT i)) _ (g 7) ⟨rfl, .inr ⟨_, rfl, rfl, b2, A0⟩⟩ (by omega) ?_ ?_
    · rintro i ⟨s1, s2, N1⟩ hi ⟨e1, e2⟩
      simp only at e1 e2
      subst e1
      rcases e2 with ⟨q1, q2, gF, q3, q4, q5, q6, q7⟩ | ⟨gT, q1, q2, q3, q4⟩
      · right
        subst q2
        refine ⟨(nI 0, N1), ?_, .inl ⟨?_, rfl, gF, q3, q4, q5, q6⟩⟩
        · show Fm_aims_b70 n (nI u) (nI 0) (nI i) N1 = _
          have h7 : N1.1 95 7 = nI (g 7) := by rw [q3.lo (by omega), q7]
          unfold Fm_aims_b70
          simp (disch := omega) only [l_0, l_1, l_2, l_3, l_4, l_5, l_6, l_7, l_8, l_9, l_10, l_11, l_12, l_13, l_14, l_16, l_20, l_21, l_23, l_24, l_30, l_32, l_40, l_41, l_44, l_48, l_57, l_59, l_60, l_63, l_64, l_80, l_84, l_96, l_97, l_99, l_120, l_122, l_127, l_200, l_240, l_255, l_840, l_999, l_1000, l_1001, l_2400, l_3064, l_9999, l_10000, l_13849, l_16383, l_25173, l_65535, l_65536, l_99999, l_1000000000, neg_nI, pk_mul, nI_add, nI_subL, tn_nI, inb_t, grd_true, bnd_some, elS_l, elS_r, nI_ltI, nI_leI, nI_inj, fa_and, fa_or, m1_eq, eq_m1, m1_lt, m1_le, lt_m1, le_m1, m1_lt0, up2_at, up2_no, ite_true, ite_false, if_true, if_false, Bool.false_eq_true, reduceIte, reduceCtorEq, not_true_eq_false, not_false_eq_true, eq_self, decide_true, decide_false, le_tt, le_ff, lt_tt, lt_ff, eq_ff, and_true, true_and, and_false, false_and, or_true, true_or, or_false, false_or, ne_eq, decide_eq_true_eq, decide_eq_false_iff_not, Bool.not_true, Bool.not_false, Bool.and_true, Bool.true_and, Bool.and_false, Bool.false_and, gs_at, gs_no, oI_n, oI_s, h7]
        · have := la_none (k := g 7 - i) q1
          rw [show i + (g 7 - i) = g 7 by omega] at this
          exact this
      · left
        subst q2
        rcases aim_b (n := n) hg hu hi q1 q3 q4 hn with ⟨gT', M', w1, w2, w3, w4⟩ | ⟨w1, gF, M', w2, w3, w4, w5, w6, w7⟩
        · exact ⟨_, w2, rfl, .inr ⟨gT', w1, rfl, w3, w4⟩⟩
        · exact ⟨_, w2, rfl, .inl ⟨w1, rfl, gF, w3, w4, w5, w6, w7⟩⟩
    · rintro ⟨s1, s2, N1⟩ ⟨e1, e2⟩
      simp only at e1 e2
      subst e1
      rcases e2 with ⟨q1, q2, gF, q3, q4, q5, q6, q7⟩ | ⟨gT, q1, q2, q3, q4⟩
      · subst q2
        refine ⟨(nI 0, N1), ?_, .inl ⟨q1, rfl, gF, q3, q4, q5, q6⟩⟩
        show Fm_aims_b70 n (nI u) (nI 0) (nI (g 7)) N1 = _
        have h7 : N1.1 95 7 = nI (g 7) := by rw [q3.lo (by omega), q7]
        unfold Fm_aims_b70
        simp (disch := omega) only [l_0, l_1, l_2, l_3, l_4, l_5, l_6, l_7, l_8, l_9, l_10, l_11, l_12, l_13, l_14, l_16, l_20, l_21, l_23, l_24, l_30, l_32, l_40, l_41, l_44, l_48, l_57, l_59, l_60, l_63, l_64, l_80, l_84, l_96, l_97, l_99, l_120, l_122, l_127, l_200, l_240, l_255, l_840, l_999, l_1000, l_1001, l_2400, l_3064, l_9999, l_10000, l_13849, l_16383, l_25173, l_65535, l_65536, l_99999, l_1000000000, neg_nI, pk_mul, nI_add, nI_subL, tn_nI, inb_t, grd_true, bnd_some, elS_l, elS_r, nI_ltI, nI_leI, nI_inj, fa_and, fa_or, m1_eq, eq_m1, m1_lt, m1_le, lt_m1, le_m1, m1_lt0, up2_at, up2_no, ite_true, ite_false, if_true, if_false, Bool.false_eq_true, reduceIte, reduceCtorEq, not_true_eq_false, not_false_eq_true, eq_self, decide_true, decide_false, le_tt, le_ff, lt_tt, lt_ff, eq_ff, and_true, true_and, and_false, false_and, or_true, true_or, or_false, false_or, ne_eq, decide_eq_true_eq, decide_eq_false_iff_not, Bool.not_true, Bool.not_false, Bool.and_true, Bool.true_and, Bool.and_false, Bool.false_and, gs_at, gs_no, oI_n, oI_s, h7]
      · subst q2
        have hT := la_LT hg (g 7) (Nat.le_refl _) gT q1
        refine ⟨(nI 1, N1), ?_, .inr ⟨gT, q1, rfl, q3, q4⟩⟩
        show Fm_aims_b70 n (nI u) (nI 1) (nI (g 7)) N1 = _
        have h7 : N1.1 95 7 = nI (g 7) := by rw [q3.lo (by omega), ag_lo (by omega), hT.2.1 7 (by omega)]
        unfold Fm_aims_b70
        simp (disch := omega) only [l_0, l_1, l_2, l_3, l_4, l_5, l_6, l_7, l_8, l_9, l_10, l_11, l_12, l_13, l_14, l_16, l_20, l_21, l_23, l_24, l_30, l_32, l_40, l_41, l_44, l_48, l_57, l_59, l_60, l_63, l_64, l_80, l_84, l_96, l_97, l_99, l_120, l_122, l_127, l_200, l_240, l_255, l_840, l_999, l_1000, l_1001, l_2400, l_3064, l_9999, l_10000, l_13849, l_16383, l_25173, l_65535, l_65536, l_99999, l_1000000000, neg_nI, pk_mul, nI_add, nI_subL, tn_nI, inb_t, grd_true, bnd_some, elS_l, elS_r, nI_ltI, nI_leI, nI_inj, fa_and, fa_or, m1_eq, eq_m1, m1_lt, m1_le, lt_m1, le_m1, m1_lt0, up2_at, up2_no, ite_true, ite_false, if_true, if_false, Bool.false_eq_true, reduceIte, reduceCtorEq, not_true_eq_false, not_false_eq_true, eq_self, decide_true, decide_false, le_tt, le_ff, lt_tt, lt_ff, eq_ff, and_true, true_and, and_false, false_and, or_true, true_or, or_false, false_or, ne_eq, decide_eq_true_eq, decide_eq_false_iff_not, Bool.not_true, Bool.not_false, Bool.and_true, Bool.true_and, Bool.and_false, Bool.false_and, gs_at, gs_no, oI_n, oI_s, h7]
  obtain ⟨y, l1, l2⟩ := hlp
  have hrun0 : Fm_aims n (nI u) M = Fm_aims_j282 n y.1 y.2 := by
    unfold Fm_aims
    simp (disch := omega) only [l_0, l_1, l_2, l_3, l_4, l_5, l_6, l_7, l_8, l_9, l_10, l_11, l_12, l_13, l_14, l_16, l_20, l_21, l_23, l_24, l_30, l_32, l_40, l_41, l_44, l_48, l_57, l_59, l_60, l_63, l_64, l_80, l_84, l_96, l_97, l_99, l_120, l_122, l_127, l_200, l_240, l_255, l_840, l_999, l_1000, l_1001, l_2400, l_3064, l_9999, l_10000, l_13849, l_16383, l_25173, l_65535, l_65536, l_99999, l_1000000000, neg_nI, pk_mul, nI_add, nI_subL, tn_nI, inb_t, grd_true, bnd_some, elS_l, elS_r, nI_ltI, nI_leI, nI_inj, fa_and, fa_or, m1_eq, eq_m1, m1_lt, m1_le, lt_m1, le_m1, m1_lt0, up2_at, up2_no, ite_true, ite_false, if_true, if_false, Bool.false_eq_true, reduceIte, reduceCtorEq, not_true_eq_false, not_false_eq_true, eq_self, decide_true, decide_false, le_tt, le_ff, lt_tt, lt_ff, eq_ff, and_true, true_and, and_false, false_and, or_true, true_or, or_false, false_or, ne_eq, decide_eq_true_eq, decide_eq_false_iff_not, Bool.not_true, Bool.not_false, Bool.and_true, Bool.true_and, Bool.and_false, Bool.false_and, gs_at, gs_no, oI_n, oI_s, a1, b1, l1]
  have fin : ∀ (gX : Nat → Nat) (T : Int32), FK y.2 gX h' → Fm_top n y.2 = some T → ∃ M3, Fm_copies n (nI 2) (nI 0) (up2 y.2.1 94 31 T, y.2.2) = some M3 ∧ FK M3 g h' ∧ Fr (fun c j => c = 95 ∨ c = 94 ∧ j = 31) y.2 M3 ∧ M3.1 94 31 = T := fun gX T hX hT => by
    have fX : Fr (fun c j => c = 94 ∧ j = 31) y.2 (up2 y.2.1 94 31 T, y.2.2) := Fr.I Fr.rf ⟨rfl, rfl⟩
    obtain ⟨M3, c1, c2, c3⟩ := (hX.fr fX (fun j => by omega)).back (b := 2) (n := n) (g' := g) (by omega) (by omega) a3 (by omega)
    refine ⟨M3, c1, c2, (fX.mono (fun c j q => by omega)).tr (c3.mono (fun c j q => by omega)), ?_⟩
    rw [(c3 94 31 (by omega)).1]
    show up2 y.2.1 94 31 T 94 31 = _
    exact up2_at
  rcases l2 with ⟨q1, q2, gF, q3, q4, q5, q6⟩ | ⟨gT, q1, q2, q3, q4⟩
  · left
    have htop := Fm_top_e (n := n) q4 q5 q6 q3 (by omega)
    obtain ⟨M3, c1, c2, c3, c4⟩ := fin gF _ q3 htop
    have f4 : Fr (fun c j => c = 94 ∧ (j = 33 ∨ j = 34)) M3 (up2 (up2 M3.1 94 33 (nI 0)) 94 34 (nI 0), M3.2) := Fr.I (Fr.I Fr.rf ⟨rfl, .inl rfl⟩) ⟨rfl, .inr rfl⟩
    have hrun : Fm_aims n (nI u) M = some (false, (up2 (up2 M3.1 94 33 (nI 0)) 94 34 (nI 0), M3.2)) := by
      rw [hrun0, q2]
      unfold Fm_aims_j282
      simp (disch := omega) only [l_0, l_1, l_2, l_3, l_4, l_5, l_6, l_7, l_8, l_9, l_10, l_11, l_12, l_13, l_14, l_16, l_20, l_21, l_23, l_24, l_30, l_32, l_40, l_41, l_44, l_48, l_57, l_59, l_60, l_63, l_64, l_80, l_84, l_96, l_97, l_99, l_120, l_122, l_127, l_200, l_240, l_255, l_840, l_999, l_1000, l_1001, l_2400, l_3064, l_9999, l_10000, l_13849, l_16383, l_25173, l_65535, l_65536, l_99999, l_1000000000, neg_nI, pk_mul, nI_add, nI_subL, tn_nI, inb_t, grd_true, bnd_some, elS_l, elS_r, nI_ltI, nI_leI, nI_inj, fa_and, fa_or, m1_eq, eq_m1, m1_lt, m1_le, lt_m1, le_m1, m1_lt0, up2_at, up2_no, ite_true, ite_false, if_true, if_false, Bool.false_eq_true, reduceIte, reduceCtorEq, not_true_eq_false, not_false_eq_true, eq_self, decide_true, decide_false, le_tt, le_ff, lt_tt, lt_ff, eq_ff, and_true, true_and, and_false, false_and, or_true, true_or, or_false, false_or, ne_eq, decide_eq_true_eq, decide_eq_false_iff_not, Bool.not_true, Bool.not_false, Bool.and_true, Bool.true_and, Bool.and_false, Bool.false_and, gs_at, gs_no, oI_n, oI_s, htop, c1]
    have hfr := fr_Fm_aims hrun
    exact ⟨q1, _, h', hrun, c2.fr f4 (fun j => by omega), fun j hj => a4 _ (by omega) (by omega), hfr.mono (fun c j q => by unfold fp_Fm_aims at q; unfold PM; omega)⟩
  · right
    have hT := la_LT hg (g 7) (Nat.le_refl _) gT q1
    have hWa := GW_ag hg hT
    have htop := Fm_top_e (n := n) hWa.1 hWa.2.1 hWa.2.2.2.1 q3 (by omega)
    rw [ag_lo (by omega), hT.2.1 7 (by omega)] at htop
    have htc : tpF (agG g gT (g 7)) 16383 (g 7) = tpF gT 16383 (g 7) := tp_cong (g 7) (fun d hd => ⟨by rw [ag_lit hd, T_lit hT hd], ag_w (by omega) (by omega), ag_w (by omega) (by omega), ag_w (by omega) (by omega)⟩)
    rw [htc] at htop
    obtain ⟨M3, c1, c2, c3, c4⟩ := fin _ _ q3 htop
    have f4 : Fr (fun c j => c = 94 ∧ (j = 33 ∨ j = 34)) M3 (up2 (up2 M3.1 94 33 (nI 0)) 94 34 (nI 0), M3.2) := Fr.I (Fr.I Fr.rf ⟨rfl, .inl rfl⟩) ⟨rfl, .inr rfl⟩
    have hrun : Fm_aims n (nI u) M = some (true, (up2 (up2 M3.1 94 33 (nI 0)) 94 34 (nI 0), M3.2)) := by
      rw [hrun0, q2]
      unfold Fm_aims_j282
      simp (disch := omega) only [l_0, l_1, l_2, l_3, l_4, l_5, l_6, l_7, l_8, l_9, l_10, l_11, l_12, l_13, l_14, l_16, l_20, l_21, l_23, l_24, l_30, l_32, l_40, l_41, l_44, l_48, l_57, l_59, l_60, l_63, l_64, l_80, l_84, l_96, l_97, l_99, l_120, l_122, l_127, l_200, l_240, l_255, l_840, l_999, l_1000, l_1001, l_2400, l_3064, l_9999, l_10000, l_13849, l_16383, l_25173, l_65535, l_65536, l_99999, l_1000000000, neg_nI, pk_mul, nI_add, nI_subL, tn_nI, inb_t, grd_true, bnd_some, elS_l, elS_r, nI_ltI, nI_leI, nI_inj, fa_and, fa_or, m1_eq, eq_m1, m1_lt, m1_le, lt_m1, le_m1, m1_lt0, up2_at, up2_no, ite_true, ite_false, if_true, if_false, Bool.false_eq_true, reduceIte, reduceCtorEq, not_true_eq_false, not_false_eq_true, eq_self, decide_true, decide_false, le_tt, le_ff, lt_tt, lt_ff, eq_ff, and_true, true_and, and_false, false_and, or_true, true_or, or_false, false_or, ne_eq, decide_eq_true_eq, decide_eq_false_iff_not, Bool.not_true, Bool.not_false, Bool.and_true, Bool.true_and, Bool.and_false, Bool.false_and, gs_at, gs_no, oI_n, oI_s, htop, c1]
    have hfr := fr_Fm_aims hrun
    obtain ⟨A1, A2, A3, A4, A5⟩ := (q4.fr c3 (fun c j hc => by omega) (by omega)).fr f4 (fun c j hc => by omega) (by omega)
    refine ⟨gT, q1, _, h', hrun, c2.fr f4 (fun j => by omega), fun j hj => a4 _ (by omega) (by omega), ⟨fun d q1 q2 => A1 d q1 q1 q2, fun d hd => ?_, fun d hd => ?_, fun d hd => ?_, ?_, ?_, A5⟩, ?_, hfr.mono (fun c j q => by unfold fp_Fm_aims at q; unfold PM; omega)⟩
    · rw [A2 d hd, decide_eq_true hd, Bool.true_and]
    · rw [A3 d hd]
      show nI 0 = b2i (mvB g gT d && !(decide (d < g 7) && mvB g gT d))
      rw [decide_eq_true hd, Bool.true_and]
      cases mvB g gT d <;> rfl
    · rw [A4 d hd]; rfl
    · simp (disch := omega) only [l_0, l_1, l_2, l_3, l_4, l_5, l_6, l_7, l_8, l_9, l_10, l_11, l_12, l_13, l_14, l_16, l_20, l_21, l_23, l_24, l_30, l_32, l_40, l_41, l_44, l_48, l_57, l_59, l_60, l_63, l_64, l_80, l_84, l_96, l_97, l_99, l_120, l_122, l_127, l_200, l_240, l_255, l_840, l_999, l_1000, l_1001, l_2400, l_3064, l_9999, l_10000, l_13849, l_16383, l_25173, l_65535, l_65536, l_99999, l_1000000000, neg_nI, pk_mul, nI_add, nI_subL, tn_nI, inb_t, grd_true, bnd_some, elS_l, elS_r, nI_ltI, nI_leI, nI_inj, fa_and, fa_or, m1_eq, eq_m1, m1_lt, m1_le, lt_m1, le_m1, m1_lt0, up2_at, up2_no, ite_true, ite_false, if_true, if_false, Bool.false_eq_true, reduceIte, reduceCtorEq, not_true_eq_false, not_false_eq_true, eq_self, decide_true, decide_false, le_tt, le_ff, lt_tt, lt_ff, eq_ff, and_true, true_and, and_false, false_and, or_true, true_or, or_false, false_or, ne_eq, decide_eq_true_eq, decide_eq_false_iff_not, Bool.not_true, Bool.not_false, Bool.and_true, Bool.true_and, Bool.and_false, Bool.false_and, gs_at, gs_no, oI_n, oI_s]
    · rw [fb_ct_zero.mpr (fun _ _ => rfl)]; simp (disch := omega) only [l_0, l_1, l_2, l_3, l_4, l_5, l_6, l_7, l_8, l_9, l_10, l_11, l_12, l_13, l_14, l_16, l_20, l_21, l_23, l_24, l_30, l_32, l_40, l_41, l_44, l_48, l_57, l_59, l_60, l_63, l_64, l_80, l_84, l_96, l_97, l_99, l_120, l_122, l_127, l_200, l_240, l_255, l_840, l_999, l_1000, l_1001, l_2400, l_3064, l_9999, l_10000, l_13849, l_16383, l_25173, l_65535, l_65536, l_99999, l_1000000000, neg_nI, pk_mul, nI_add, nI_subL, tn_nI, inb_t, grd_true, bnd_some, elS_l, elS_r, nI_ltI, nI_leI, nI_inj, fa_and, fa_or, m1_eq, eq_m1, m1_lt, m1_le, lt_m1, le_m1, m1_lt0, up2_at, up2_no, ite_true, ite_false, if_true, if_false, Bool.false_eq_true, reduceIte, reduceCtorEq, not_true_eq_false, not_false_eq_true, eq_self, decide_true, decide_false, le_tt, le_ff, lt_tt, lt_ff, eq_ff, and_true, true_and, and_false, false_and, or_true, true_or, or_false, false_or, ne_eq, decide_eq_true_eq, decide_eq_false_iff_not, Bool.not_true, Bool.not_false, Bool.and_true, Bool.true_and, Bool.and_false, Bool.false_and, gs_at, gs_no, oI_n, oI_s]
    · rw [(f4 94 31 (by omega)).1]; exact c4
end
