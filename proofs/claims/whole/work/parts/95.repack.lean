/-! the model's rounds -/
def MX (M : Mm) (P : Nat → Nat → Prop) (Q : Nat → Nat → Bool) : Prop := ∀ a b, P a b → M.1 112 (40 * a + b) = b2i (Q a b)
section
variable {R : Nat → Nat → Bool} {k N n : Nat} {M : Mm}
theorem mx_up {f : Nat → Nat → Int32} {a b i j : Nat} {v : Int32} (hb : b < 40) (hj : j < 40) : up2 f 112 (40 * i + j) v 112 (40 * a + b) = if a = i ∧ b = j then v else f 112 (40 * a + b) := by
  by_cases c : a = i ∧ b = j
  · rw [if_pos c, c.1, c.2, up2_at]
  · rw [if_neg c, up2_no (by omega)]
theorem nar1 : vp_nar .boolean (nI 1) = nI 1 := rfl
theorem nar0 : vp_nar .boolean (nI 0) = nI 0 := rfl
theorem rd_k (hN : N ≤ 40) (hk : k < N) (hM : MX M (fun a b => a < N ∧ b < N) (WW R k)) (hn : 100 < n) : ∃ M', loop (fun s1 : Int32 × Mm => Fm_rounds_b84 n (nI N) (nI k) s1.1 s1.2) n (nI 0, M) = some M' ∧ MX M' (fun a b => a < N ∧ b < N) (WW R (k + 1)) := by
  refine loop_I0 (fun i (st : Int32 × Mm) => st.1 = nI i ∧ MX st.2 (fun a b => a < N ∧ b < N) (fun a b => if a < i then WW R (k + 1) a b else WW R k a b)) _ N ⟨rfl, fun a b q => by dsimp only; rw [if_neg (by omega)]; exact hM a b q⟩ (by omega) ?_ ?_
  · rintro i ⟨s1, M1⟩ hi ⟨e1, e2⟩
    simp only at e1 e2
    subst e1
    left
    have hin : ∃ r, loop (fun s1 : Int32 × Mm => Fm_rounds_b92 (nI N) (nI k) (nI i) s1.1 s1.2) n (nI 0, M1) = some r ∧ MX r (fun a b => a < N ∧ b < N) (fun a b => if a < i + 1 then WW R (k + 1) a b else WW R k a b) := by
      refine loop_I0 (fun j (st : Int32 × Mm) => st.1 = nI j ∧ MX st.2 (fun a b => a < N ∧ b < N) (fun a b => if a < i ∨ (a = i ∧ b < j) then WW R (k + 1) a b else WW R k a b)) _ N ⟨rfl, fun a b q => ?_⟩ (by omega) ?_ ?_
      · have := e2 a b q
        dsimp only at this ⊢
        by_cases c : a < i
        · rw [if_pos (.inl c)]; rw [if_pos c] at this; exact this
        · rw [if_neg (by omega)]; rw [if_neg c] at this; exact this
      · rintro j ⟨s1, M2⟩ hj ⟨f1, f2⟩
        simp only at f1 f2
        subst f1
        left
        have x1 : M2.1 112 (40 * i + k) = b2i (WW R k i k) := by
          rw [f2 i k ⟨hi, hk⟩]
          dsimp only
          by_cases c : i < i ∨ (i = i ∧ k < j)
          · rw [if_pos c, ww_l]
          · rw [if_neg c]
        have x2 : M2.1 112 (40 * k + j) = b2i (WW R k k j) := by
          rw [f2 k j ⟨hk, hj⟩]
          dsimp only
          by_cases c : k < i ∨ (k = i ∧ j < j)
          · rw [if_pos c, ww_r]
          · rw [if_neg c]
        have no : (WW R k i k && WW R k k j) = false → MX M2 (fun a b => a < N ∧ b < N) (fun a b => if a < i ∨ (a = i ∧ b < j + 1) then WW R (k + 1) a b else WW R k a b) := fun hz a b q => by
          rw [f2 a b q]
          dsimp only
          by_cases c : a = i ∧ b = j
          · obtain ⟨rfl, rfl⟩ := c
            rw [if_neg (by omega), if_pos (by omega)]
            show _ = b2i (WW R k a b || (WW R k a k && WW R k k b))
            rw [hz, Bool.or_false]
          · by_cases c2 : a < i ∨ (a = i ∧ b < j)
            · rw [if_pos c2, if_pos (by omega)]
            · rw [if_neg c2, if_neg (by omega)]
        show ∃ s', Fm_rounds_b92 (nI N) (nI k) (nI i) (nI j) M2 = some (.inl s') ∧ _
        cases h1 : WW R k i k with
        | false =>
          rw [h1] at x1
          refine ⟨(nI (j + 1), M2), ?_, rfl, no (by rw [h1]; rfl)⟩
          unfold Fm_rounds_b92 Fm_rounds_j140
          simp (disch := omega) only [l_0, l_1, l_2, l_3, l_4, l_5, l_6, l_7, l_8, l_9, l_10, l_11, l_12, l_13, l_14, l_16, l_20, l_21, l_23, l_24, l_30, l_32, l_40, l_41, l_44, l_48, l_57, l_59, l_60, l_63, l_64, l_80, l_84, l_96, l_97, l_99, l_120, l_122, l_127, l_200, l_240, l_255, l_840, l_999, l_1000, l_1001, l_2400, l_3064, l_9999, l_10000, l_13849, l_16383, l_25173, l_65535, l_65536, l_99999, l_1000000000, neg_nI, pk_mul, nI_add, nI_subL, tn_nI, inb_t, grd_true, bnd_some, elS_l, elS_r, nI_ltI, nI_leI, nI_inj, fa_and, fa_or, m1_eq, eq_m1, m1_lt, m1_le, lt_m1, le_m1, m1_lt0, up2_at, up2_no, ite_true, ite_false, if_true, if_false, Bool.false_eq_true, reduceIte, reduceCtorEq, not_true_eq_false, not_false_eq_true, eq_self, decide_true, decide_false, le_tt, le_ff, lt_tt, lt_ff, eq_ff, and_true, true_and, and_false, false_and, or_true, true_or, or_false, false_or, ne_eq, decide_eq_true_eq, decide_eq_false_iff_not, Bool.not_true, Bool.not_false, Bool.and_true, Bool.true_and, Bool.and_false, Bool.false_and, gs_at, gs_no, oI_n, oI_s, show M2.1 112 (40 * i + k) = nI 0 from x1]
        | true =>
          rw [h1] at x1
          cases h2 : WW R k k j with
          | false =>
            rw [h2] at x2
            refine ⟨(nI (j + 1), M2), ?_, rfl, no (by rw [h1, h2]; rfl)⟩
            unfold Fm_rounds_b92 Fm_rounds_j140
            simp (disch := omega) only [l_0, l_1, l_2, l_3, l_4, l_5, l_6, l_7, l_8, l_9, l_10, l_11, l_12, l_13, l_14, l_16, l_20, l_21, l_23, l_24, l_30, l_32, l_40, l_41, l_44, l_48, l_57, l_59, l_60, l_63, l_64, l_80, l_84, l_96, l_97, l_99, l_120, l_122, l_127, l_200, l_240, l_255, l_840, l_999, l_1000, l_1001, l_2400, l_3064, l_9999, l_10000, l_13849, l_16383, l_25173, l_65535, l_65536, l_99999, l_1000000000, neg_nI, pk_mul, nI_add, nI_subL, tn_nI, inb_t, grd_true, bnd_some, elS_l, elS_r, nI_ltI, nI_leI, nI_inj, fa_and, fa_or, m1_eq, eq_m1, m1_lt, m1_le, lt_m1, le_m1, m1_lt0, up2_at, up2_no, ite_true, ite_false, if_true, if_false, Bool.false_eq_true, reduceIte, reduceCtorEq, not_true_eq_false, not_false_eq_true, eq_self, decide_true, decide_false, le_tt, le_ff, lt_tt, lt_ff, eq_ff, and_true, true_and, and_false, false_and, or_true, true_or, or_false, false_or, ne_eq, decide_eq_true_eq, decide_eq_false_iff_not, Bool.not_true, Bool.not_false, Bool.and_true, Bool.true_and, Bool.and_false, Bool.false_and, gs_at, gs_no, oI_n, oI_s, show M2.1 112 (40 * i + k) = nI 1 from x1, show M2.1 112 (40 * k + j) = nI 0 from x2]
          | true =>
            rw [h2] at x2
            refine ⟨(nI (j + 1), (up2 M2.1 112 (40 * i + j) (nI 1), M2.2)), ?_, rfl, fun a b q => ?_⟩
            · unfold Fm_rounds_b92 Fm_rounds_j140
              simp (disch := omega) only [l_0, l_1, l_2, l_3, l_4, l_5, l_6, l_7, l_8, l_9, l_10, l_11, l_12, l_13, l_14, l_16, l_20, l_21, l_23, l_24, l_30, l_32, l_40, l_41, l_44, l_48, l_57, l_59, l_60, l_63, l_64, l_80, l_84, l_96, l_97, l_99, l_120, l_122, l_127, l_200, l_240, l_255, l_840, l_999, l_1000, l_1001, l_2400, l_3064, l_9999, l_10000, l_13849, l_16383, l_25173, l_65535, l_65536, l_99999, l_1000000000, neg_nI, pk_mul, nI_add, nI_subL, tn_nI, inb_t, grd_true, bnd_some, elS_l, elS_r, nI_ltI, nI_leI, nI_inj, fa_and, fa_or, m1_eq, eq_m1, m1_lt, m1_le, lt_m1, le_m1, m1_lt0, up2_at, up2_no, ite_true, ite_false, if_true, if_false, Bool.false_eq_true, reduceIte, reduceCtorEq, not_true_eq_false, not_false_eq_true, eq_self, decide_true, decide_false, le_tt, le_ff, lt_tt, lt_ff, eq_ff, and_true, true_and, and_false, false_and, or_true, true_or, or_false, false_or, ne_eq, decide_eq_true_eq, decide_eq_false_iff_not, Bool.not_true, Bool.not_false, Bool.and_true, Bool.true_and, Bool.and_false, Bool.false_and, gs_at, gs_no, oI_n, oI_s, show M2.1 112 (40 * i + k) = nI 1 from x1, show M2.1 112 (40 * k + j) = nI 1 from x2, nar1]
            · show up2 M2.1 112 (40 * i + j) (nI 1) 112 (40 * a + b) = _
              rw [mx_up (by omega) (by omega)]
              dsimp only
              by_cases c : a = i ∧ b = j
              · obtain ⟨rfl, rfl⟩ := c
                rw [if_pos ⟨rfl, rfl⟩, if_pos (by omega)]
                show _ = b2i (WW R k a b || (WW R k a k && WW R k k b))
                rw [h1, h2, Bool.and_true, Bool.or_true]
                rfl
              · rw [if_neg c, f2 a b q]
                dsimp only
                by_cases c2 : a < i ∨ (a = i ∧ b < j)
                · rw [if_pos c2, if_pos (by omega)]
                · rw [if_neg c2, if_neg (by omega)]
      · rintro ⟨s1, M2⟩ ⟨f1, f2⟩
        simp only at f1 f2
        subst f1
        refine ⟨M2, ?_, fun a b q => ?_⟩
        · show Fm_rounds_b92 (nI N) (nI k) (nI i) (nI N) M2 = _
          unfold Fm_rounds_b92
          simp (disch := omega) only [l_0, l_1, l_2, l_3, l_4, l_5, l_6, l_7, l_8, l_9, l_10, l_11, l_12, l_13, l_14, l_16, l_20, l_21, l_23, l_24, l_30, l_32, l_40, l_41, l_44, l_48, l_57, l_59, l_60, l_63, l_64, l_80, l_84, l_96, l_97, l_99, l_120, l_122, l_127, l_200, l_240, l_255, l_840, l_999, l_1000, l_1001, l_2400, l_3064, l_9999, l_10000, l_13849, l_16383, l_25173, l_65535, l_65536, l_99999, l_1000000000, neg_nI, pk_mul, nI_add, nI_subL, tn_nI, inb_t, grd_true, bnd_some, elS_l, elS_r, nI_ltI, nI_leI, nI_inj, fa_and, fa_or, m1_eq, eq_m1, m1_lt, m1_le, lt_m1, le_m1, m1_lt0, up2_at, up2_no, ite_true, ite_false, if_true, if_false, Bool.false_eq_true, reduceIte, reduceCtorEq, not_true_eq_false, not_false_eq_true, eq_self, decide_true, decide_false, le_tt, le_ff, lt_tt, lt_ff, eq_ff, and_true, true_and, and_false, false_and, or_true, true_or, or_false, false_or, ne_eq, decide_eq_true_eq, decide_eq_false_iff_not, Bool.not_true, Bool.not_false, Bool.and_true, Bool.true_and, Bool.and_false, Bool.false_and, gs_at, gs_no, oI_n, oI_s]
        · rw [f2 a b q]
          dsimp only
          by_cases c2 : a < i + 1
          · rw [if_pos c2, if_pos (by omega)]
          · rw [if_neg c2, if_neg (by omega)]
    obtain ⟨r, r1, r2⟩ := hin
    refine ⟨(nI (i + 1), r), ?_, rfl, r2⟩
    show Fm_rounds_b84 n (nI N) (nI k) (nI i) M1 = _
    unfold Fm_rounds_b84
    simp (disch := omega) only [l_0, l_1, l_2, l_3, l_4, l_5, l_6, l_7, l_8, l_9, l_10, l_11, l_12, l_13, l_14, l_16, l_20, l_21, l_23, l_24, l_30, l_32, l_40, l_41, l_44, l_48, l_57, l_59, l_60, l_63, l_64, l_80, l_84, l_96, l_97, l_99, l_120, l_122, l_127, l_200, l_240, l_255, l_840, l_999, l_1000, l_1001, l_2400, l_3064, l_9999, l_10000, l_13849, l_16383, l_25173, l_65535, l_65536, l_99999, l_1000000000, neg_nI, pk_mul, nI_add, nI_subL, tn_nI, inb_t, grd_true, bnd_some, elS_l, elS_r, nI_ltI, nI_leI, nI_inj, fa_and, fa_or, m1_eq, eq_m1, m1_lt, m1_le, lt_m1, le_m1, m1_lt0, up2_at, up2_no, ite_true, ite_false, if_true, if_false, Bool.false_eq_true, reduceIte, reduceCtorEq, not_true_eq_false, not_false_eq_true, eq_self, decide_true, decide_false, le_tt, le_ff, lt_tt, lt_ff, eq_ff, and_true, true_and, and_false, false_and, or_true, true_or, or_false, false_or, ne_eq, decide_eq_true_eq, decide_eq_false_iff_not, Bool.not_true, Bool.not_false, Bool.and_true, Bool.true_and, Bool.and_false, Bool.false_and, gs_at, gs_no, oI_n, oI_s, r1]
  · rintro ⟨s1, M1⟩ ⟨e1, e2⟩
    simp only at e1 e2
    subst e1
    refine ⟨M1, ?_, fun a b q => by rw [e2 a b q]; dsimp only; rw [if_pos q.1]⟩
    show Fm_rounds_b84 n (nI N) (nI k) (nI N) M1 = _
    unfold Fm_rounds_b84
    simp (disch := omega) only [l_0, l_1, l_2, l_3, l_4, l_5, l_6, l_7, l_8, l_9, l_10, l_11, l_12, l_13, l_14, l_16, l_20, l_21, l_23, l_24, l_30, l_32, l_40, l_41, l_44, l_48, l_57, l_59, l_60, l_63, l_64, l_80, l_84, l_96, l_97, l_99, l_120, l_122, l_127, l_200, l_240, l_255, l_840, l_999, l_1000, l_1001, l_2400, l_3064, l_9999, l_10000, l_13849, l_16383, l_25173, l_65535, l_65536, l_99999, l_1000000000, neg_nI, pk_mul, nI_add, nI_subL, tn_nI, inb_t, grd_true, bnd_some, elS_l, elS_r, nI_ltI, nI_leI, nI_inj, fa_and, fa_or, m1_eq, eq_m1, m1_lt, m1_le, lt_m1, le_m1, m1_lt0, up2_at, up2_no, ite_true, ite_false, if_true, if_false, Bool.false_eq_true, reduceIte, reduceCtorEq, not_true_eq_false, not_false_eq_true, eq_self, decide_true, decide_false, le_tt, le_ff, lt_tt, lt_ff, eq_ff, and_true, true_and, and_false, false_and, or_true, true_or, or_false, false_or, ne_eq, decide_eq_true_eq, decide_eq_false_iff_not, Bool.not_true, Bool.not_false, Bool.and_true, Bool.true_and, Bool.and_false, Bool.false_and, gs_at, gs_no, oI_n, oI_s]
theorem rd_0 {lf : Nat → Bool} {cl : Nat → Nat → Bool} (hN : N ≤ 40) (hl : ∀ M' d, Fr (fun c _ => c = 112) M M' → d < N → Fm_isLeft (nI d) M' = some (lf d)) (hw : ∀ M' a b, Fr (fun c _ => c = 112) M M' → a < N → b < N → lf a = true → Fm_waitsFor (nI a) (nI b) M' = some (cl a b)) (hn : 100 < n) : ∃ M', loop (fun s1 : Int32 × Mm => Fm_rounds_b10 n (nI N) s1.1 s1.2) n (nI 0, M) = some M' ∧ MX M' (fun a b => a < N ∧ b < N) (fun a b => lf a && (lf b && cl a b)) := by
  refine loop_I0 (fun i (st : Int32 × Mm) => st.1 = nI i ∧ Fr (fun c _ => c = 112) M st.2 ∧ MX st.2 (fun a b => a < i ∧ b < N) (fun a b => lf a && (lf b && cl a b))) _ N ⟨rfl, Fr.rf, fun a b q => by omega⟩ (by omega) ?_ ?_
  · rintro i ⟨s1, M1⟩ hi ⟨e1, e2, e3⟩
    simp only at e1 e2 e3
    subst e1
    left
    have hin : ∃ r, loop (fun s1 : Int32 × Mm => Fm_rounds_b17 (nI N) (nI i) s1.1 s1.2) n (nI 0, M1) = some r ∧ (Fr (fun c _ => c = 112) M r ∧ MX r (fun a b => a < i + 1 ∧ b < N) (fun a b => lf a && (lf b && cl a b))) := by
      refine loop_I0 (fun j (st : Int32 × Mm) => st.1 = nI j ∧ Fr (fun c _ => c = 112) M st.2 ∧ MX st.2 (fun a b => (a < i ∨ (a = i ∧ b < j)) ∧ b < N) (fun a b => lf a && (lf b && cl a b))) _ N ⟨rfl, e2, fun a b q => e3 a b (by omega)⟩ (by omega) ?_ ?_
      · rintro j ⟨s1, M2⟩ hj ⟨f1, f2, f3⟩
        simp only at f1 f2 f3
        subst f1
        left
        refine ⟨(nI (j + 1), (up2 M2.1 112 (40 * i + j) (b2i (lf i && (lf j && cl i j))), M2.2)), ?_, rfl, f2.tr (Fr.I Fr.rf rfl), fun a b q => ?_⟩
        · show Fm_rounds_b17 (nI N) (nI i) (nI j) M2 = _
          have y1 := hl M2 i f2 hi
          have y2 := hl M2 j f2 hj
          unfold Fm_rounds_b17 Fm_rounds_j61 Fm_rounds_j62
          cases c1 : lf i with
          | false =>
            rw [c1] at y1
            simp (disch := omega) only [l_0, l_1, l_2, l_3, l_4, l_5, l_6, l_7, l_8, l_9, l_10, l_11, l_12, l_13, l_14, l_16, l_20, l_21, l_23, l_24, l_30, l_32, l_40, l_41, l_44, l_48, l_57, l_59, l_60, l_63, l_64, l_80, l_84, l_96, l_97, l_99, l_120, l_122, l_127, l_200, l_240, l_255, l_840, l_999, l_1000, l_1001, l_2400, l_3064, l_9999, l_10000, l_13849, l_16383, l_25173, l_65535, l_65536, l_99999, l_1000000000, neg_nI, pk_mul, nI_add, nI_subL, tn_nI, inb_t, grd_true, bnd_some, elS_l, elS_r, nI_ltI, nI_leI, nI_inj, fa_and, fa_or, m1_eq, eq_m1, m1_lt, m1_le, lt_m1, le_m1, m1_lt0, up2_at, up2_no, ite_true, ite_false, if_true, if_false, Bool.false_eq_true, reduceIte, reduceCtorEq, not_true_eq_false, not_false_eq_true, eq_self, decide_true, decide_false, le_tt, le_ff, lt_tt, lt_ff, eq_ff, and_true, true_and, and_false, false_and, or_true, true_or, or_false, false_or, ne_eq, decide_eq_true_eq, decide_eq_false_iff_not, Bool.not_true, Bool.not_false, Bool.and_true, Bool.true_and, Bool.and_false, Bool.false_and, gs_at, gs_no, oI_n, oI_s, y1, nar0, show b2i false = nI 0 from rfl]
          | true =>
            have y3 := hw M2 i j f2 hi hj c1
            rw [c1] at y1
            cases c2 : lf j with
            | false =>
              rw [c2] at y2
              simp (disch := omega) only [l_0, l_1, l_2, l_3, l_4, l_5, l_6, l_7, l_8, l_9, l_10, l_11, l_12, l_13, l_14, l_16, l_20, l_21, l_23, l_24, l_30, l_32, l_40, l_41, l_44, l_48, l_57, l_59, l_60, l_63, l_64, l_80, l_84, l_96, l_97, l_99, l_120, l_122, l_127, l_200, l_240, l_255, l_840, l_999, l_1000, l_1001, l_2400, l_3064, l_9999, l_10000, l_13849, l_16383, l_25173, l_65535, l_65536, l_99999, l_1000000000, neg_nI, pk_mul, nI_add, nI_subL, tn_nI, inb_t, grd_true, bnd_some, elS_l, elS_r, nI_ltI, nI_leI, nI_inj, fa_and, fa_or, m1_eq, eq_m1, m1_lt, m1_le, lt_m1, le_m1, m1_lt0, up2_at, up2_no, ite_true, ite_false, if_true, if_false, Bool.false_eq_true, reduceIte, reduceCtorEq, not_true_eq_false, not_false_eq_true, eq_self, decide_true, decide_false, le_tt, le_ff, lt_tt, lt_ff, eq_ff, and_true, true_and, and_false, false_and, or_true, true_or, or_false, false_or, ne_eq, decide_eq_true_eq, decide_eq_false_iff_not, Bool.not_true, Bool.not_false, Bool.and_true, Bool.true_and, Bool.and_false, Bool.false_and, gs_at, gs_no, oI_n, oI_s, y1, y2, nar0, show b2i false = nI 0 from rfl]
            | true =>
              rw [c2] at y2
              cases c3 : cl i j with
              | false =>
                rw [c3] at y3
                simp (disch := omega) only [l_0, l_1, l_2, l_3, l_4, l_5, l_6, l_7, l_8, l_9, l_10, l_11, l_12, l_13, l_14, l_16, l_20, l_21, l_23, l_24, l_30, l_32, l_40, l_41, l_44, l_48, l_57, l_59, l_60, l_63, l_64, l_80, l_84, l_96, l_97, l_99, l_120, l_122, l_127, l_200, l_240, l_255, l_840, l_999, l_1000, l_1001, l_2400, l_3064, l_9999, l_10000, l_13849, l_16383, l_25173, l_65535, l_65536, l_99999, l_1000000000, neg_nI, pk_mul, nI_add, nI_subL, tn_nI, inb_t, grd_true, bnd_some, elS_l, elS_r, nI_ltI, nI_leI, nI_inj, fa_and, fa_or, m1_eq, eq_m1, m1_lt, m1_le, lt_m1, le_m1, m1_lt0, up2_at, up2_no, ite_true, ite_false, if_true, if_false, Bool.false_eq_true, reduceIte, reduceCtorEq, not_true_eq_false, not_false_eq_true, eq_self, decide_true, decide_false, le_tt, le_ff, lt_tt, lt_ff, eq_ff, and_true, true_and, and_false, false_and, or_true, true_or, or_false, false_or, ne_eq, decide_eq_true_eq, decide_eq_false_iff_not, Bool.not_true, Bool.not_false, Bool.and_true, Bool.true_and, Bool.and_false, Bool.false_and, gs_at, gs_no, oI_n, oI_s, y1, y2, y3, nar0, show b2i false = nI 0 from rfl]
              | true =>
                rw [c3] at y3
                simp (disch := omega) only [l_0, l_1, l_2, l_3, l_4, l_5, l_6, l_7, l_8, l_9, l_10, l_11, l_12, l_13, l_14, l_16, l_20, l_21, l_23, l_24, l_30, l_32, l_40, l_41, l_44, l_48, l_57, l_59, l_60, l_63, l_64, l_80, l_84, l_96, l_97, l_99, l_120, l_122, l_127, l_200, l_240, l_255, l_840, l_999, l_1000, l_1001, l_2400, l_3064, l_9999, l_10000, l_13849, l_16383, l_25173, l_65535, l_65536, l_99999, l_1000000000, neg_nI, pk_mul, nI_add, nI_subL, tn_nI, inb_t, grd_true, bnd_some, elS_l, elS_r, nI_ltI, nI_leI, nI_inj, fa_and, fa_or, m1_eq, eq_m1, m1_lt, m1_le, lt_m1, le_m1, m1_lt0, up2_at, up2_no, ite_true, ite_false, if_true, if_false, Bool.false_eq_true, reduceIte, reduceCtorEq, not_true_eq_false, not_false_eq_true, eq_self, decide_true, decide_false, le_tt, le_ff, lt_tt, lt_ff, eq_ff, and_true, true_and, and_false, false_and, or_true, true_or, or_false, false_or, ne_eq, decide_eq_true_eq, decide_eq_false_iff_not, Bool.not_true, Bool.not_false, Bool.and_true, Bool.true_and, Bool.and_false, Bool.false_and, gs_at, gs_no, oI_n, oI_s, y1, y2, y3, nar1, show b2i true = nI 1 from rfl]
        · show up2 M2.1 112 (40 * i + j) (b2i (lf i && (lf j && cl i j))) 112 (40 * a + b) = _
          rw [mx_up (by omega) (by omega)]
          by_cases c : a = i ∧ b = j
          · rw [if_pos c, c.1, c.2]
          · rw [if_neg c]
            exact f3 a b (by omega)
      · rintro ⟨s1, M2⟩ ⟨f1, f2, f3⟩
        simp only at f1 f2 f3
        subst f1
        refine ⟨M2, ?_, f2, fun a b q => f3 a b (by omega)⟩
        show Fm_rounds_b17 (nI N) (nI i) (nI N) M2 = _
        unfold Fm_rounds_b17
        simp (disch := omega) only [l_0, l_1, l_2, l_3, l_4, l_5, l_6, l_7, l_8, l_9, l_10, l_11, l_12, l_13, l_14, l_16, l_20, l_21, l_23, l_24, l_30, l_32, l_40, l_41, l_44, l_48, l_57, l_59, l_60, l_63, l_64, l_80, l_84, l_96, l_97, l_99, l_120, l_122, l_127, l_200, l_240, l_255, l_840, l_999, l_1000, l_1001, l_2400, l_3064, l_9999, l_10000, l_13849, l_16383, l_25173, l_65535, l_65536, l_99999, l_1000000000, neg_nI, pk_mul, nI_add, nI_subL, tn_nI, inb_t, grd_true, bnd_some, elS_l, elS_r, nI_ltI, nI_leI, nI_inj, fa_and, fa_or, m1_eq, eq_m1, m1_lt, m1_le, lt_m1, le_m1, m1_lt0, up2_at, up2_no, ite_true, ite_false, if_true, if_false, Bool.false_eq_true, reduceIte, reduceCtorEq, not_true_eq_false, not_false_eq_true, eq_self, decide_true, decide_false, le_tt, le_ff, lt_tt, lt_ff, eq_ff, and_true, true_and, and_false, false_and, or_true, true_or, or_false, false_or, ne_eq, decide_eq_true_eq, decide_eq_false_iff_not, Bool.not_true, Bool.not_false, Bool.and_true, Bool.true_and, Bool.and_false, Bool.false_and, gs_at, gs_no, oI_n, oI_s]
    obtain ⟨r, r1, r2, r3⟩ := hin
    refine ⟨(nI (i + 1), r), ?_, rfl, r2, r3⟩
    show Fm_rounds_b10 n (nI N) (nI i) M1 = _
    unfold Fm_rounds_b10
    simp (disch := omega) only [l_0, l_1, l_2, l_3, l_4, l_5, l_6, l_7, l_8, l_9, l_10, l_11, l_12, l_13, l_14, l_16, l_20, l_21, l_23, l_24, l_30, l_32, l_40, l_41, l_44, l_48, l_57, l_59, l_60, l_63, l_64, l_80, l_84, l_96, l_97, l_99, l_120, l_122, l_127, l_200, l_240, l_255, l_840, l_999, l_1000, l_1001, l_2400, l_3064, l_9999, l_10000, l_13849, l_16383, l_25173, l_65535, l_65536, l_99999, l_1000000000, neg_nI, pk_mul, nI_add, nI_subL, tn_nI, inb_t, grd_true, bnd_some, elS_l, elS_r, nI_ltI, nI_leI, nI_inj, fa_and, fa_or, m1_eq, eq_m1, m1_lt, m1_le, lt_m1, le_m1, m1_lt0, up2_at, up2_no, ite_true, ite_false, if_true, if_false, Bool.false_eq_true, reduceIte, reduceCtorEq, not_true_eq_false, not_false_eq_true, eq_self, decide_true, decide_false, le_tt, le_ff, lt_tt, lt_ff, eq_ff, and_true, true_and, and_false, false_and, or_true, true_or, or_false, false_or, ne_eq, decide_eq_true_eq, decide_eq_false_iff_not, Bool.not_true, Bool.not_false, Bool.and_true, Bool.true_and, Bool.and_false, Bool.false_and, gs_at, gs_no, oI_n, oI_s, r1]
  · rintro ⟨s1, M1⟩ ⟨e1, e2, e3⟩
    simp only at e1 e2 e3
    subst e1
    refine ⟨M1, ?_, e3⟩
    show Fm_rounds_b10 n (nI N) (nI N) M1 = _
    unfold Fm_rounds_b10
    simp (disch := omega) only [l_0, l_1, l_2, l_3, l_4, l_5, l_6, l_7, l_8, l_9, l_10, l_11, l_12, l_13, l_14, l_16, l_20, l_21, l_23, l_24, l_30, l_32, l_40, l_41, l_44, l_48, l_57, l_59, l_60, l_63, l_64, l_80, l_84, l_96, l_97, l_99, l_120, l_122, l_127, l_200, l_240, l_255, l_840, l_999, l_1000, l_1001, l_2400, l_3064, l_9999, l_10000, l_13849, l_16383, l_25173, l_65535, l_65536, l_99999, l_1000000000, neg_nI, pk_mul, nI_add, nI_subL, tn_nI, inb_t, grd_true, bnd_some, elS_l, elS_r, nI_ltI, nI_leI, nI_inj, fa_and, fa_or, m1_eq, eq_m1, m1_lt, m1_le, lt_m1, le_m1, m1_lt0, up2_at, up2_no, ite_true, ite_false, if_true, if_false, Bool.false_eq_true, reduceIte, reduceCtorEq, not_true_eq_false, not_false_eq_true, eq_self, decide_true, decide_false, le_tt, le_ff, lt_tt, lt_ff, eq_ff, and_true, true_and, and_false, false_and, or_true, true_or, or_false, false_or, ne_eq, decide_eq_true_eq, decide_eq_false_iff_not, Bool.not_true, Bool.not_false, Bool.and_true, Bool.true_and, Bool.and_false, Bool.false_and, gs_at, gs_no, oI_n, oI_s]
theorem rounds_m {lf : Nat → Bool} {cl : Nat → Nat → Bool} (hN : N ≤ 40) (h7 : M.1 95 7 = nI N) (hl : ∀ M' d, Fr (fun c _ => c = 112) M M' → d < N → Fm_isLeft (nI d) M' = some (lf d)) (hw : ∀ M' a b, Fr (fun c _ => c = 112) M M' → a < N → b < N → lf a = true → Fm_waitsFor (nI a) (nI b) M' = some (cl a b)) (hn : 100 < n) : ∃ M', Fm_rounds n M = some (nI (fb_ct (fun d => WW (fun a b => lf a && (lf b && cl a b)) N d d) N), M') ∧ Fr fp_Fm_rounds M M' := by
  obtain ⟨M1, a1, a2⟩ := rd_0 (n := n) hN hl hw hn
  obtain ⟨R, hR⟩ : ∃ R : Nat → Nat → Bool, R = fun a b => lf a && (lf b && cl a b) := ⟨_, rfl⟩
  rw [← hR] at a2 ⊢
  clear hR
  have hlp : ∃ q, loop (fun s1 : Int32 × Mm => Fm_rounds_b77 n (nI N) s1.1 s1.2) n (nI 0, M1) = some q ∧ MX q (fun a b => a < N ∧ b < N) (WW R N) := by
    refine loop_I0 (fun i (st : Int32 × Mm) => st.1 = nI i ∧ MX st.2 (fun a b => a < N ∧ b < N) (WW R i)) _ N ⟨rfl, a2⟩ (by omega) ?_ ?_
    · rintro i ⟨s1, M2⟩ hi ⟨e1, e2⟩
      simp only at e1 e2
      subst e1
      left
      obtain ⟨M3, q1, q2⟩ := rd_k (n := n) hN hi e2 hn
      refine ⟨(nI (i + 1), M3), ?_, rfl, q2⟩
      show Fm_rounds_b77 n (nI N) (nI i) M2 = _
      unfold Fm_rounds_b77
      simp (disch := omega) only [l_0, l_1, l_2, l_3, l_4, l_5, l_6, l_7, l_8, l_9, l_10, l_11, l_12, l_13, l_14, l_16, l_20, l_21, l_23, l_24, l_30, l_32, l_40, l_41, l_44, l_48, l_57, l_59, l_60, l_63, l_64, l_80, l_84, l_96, l_97, l_99, l_120, l_122, l_127, l_200, l_240, l_255, l_840, l_999, l_1000, l_1001, l_2400, l_3064, l_9999, l_10000, l_13849, l_16383, l_25173, l_65535, l_65536, l_99999, l_1000000000, neg_nI, pk_mul, nI_add, nI_subL, tn_nI, inb_t, grd_true, bnd_some, elS_l, elS_r, nI_ltI, nI_leI, nI_inj, fa_and, fa_or, m1_eq, eq_m1, m1_lt, m1_le, lt_m1, le_m1, m1_lt0, up2_at, up2_no, ite_true, ite_false, if_true, if_false, Bool.false_eq_true, reduceIte, reduceCtorEq, not_true_eq_false, not_false_eq_true, eq_self, decide_true, decide_false, le_tt, le_ff, lt_tt, lt_ff, eq_ff, and_true, true_and, and_false, false_and, or_true, true_or, or_false, false_or, ne_eq, decide_eq_true_eq, decide_eq_false_iff_not, Bool.not_true, Bool.not_false, Bool.and_true, Bool.true_and, Bool.and_false, Bool.false_and, gs_at, gs_no, oI_n, oI_s, q1]
    · rintro ⟨s1, M2⟩ ⟨e1, e2⟩
      simp only at e1 e2
      subst e1
      refine ⟨M2, ?_, e2⟩
      show Fm_rounds_b77 n (nI N) (nI N) M2 = _
      unfold Fm_rounds_b77
      simp (disch := omega) only [l_0, l_1, l_2, l_3, l_4, l_5, l_6, l_7, l_8, l_9, l_10, l_11, l_12, l_13, l_14, l_16, l_20, l_21, l_23, l_24, l_30, l_32, l_40, l_41, l_44, l_48, l_57, l_59, l_60, l_63, l_64, l_80, l_84, l_96, l_97, l_99, l_120, l_122, l_127, l_200, l_240, l_255, l_840, l_999, l_1000, l_1001, l_2400, l_3064, l_9999, l_10000, l_13849, l_16383, l_25173, l_65535, l_65536, l_99999, l_1000000000, neg_nI, pk_mul, nI_add, nI_subL, tn_nI, inb_t, grd_true, bnd_some, elS_l, elS_r, nI_ltI, nI_leI, nI_inj, fa_and, fa_or, m1_eq, eq_m1, m1_lt, m1_le, lt_m1, le_m1, m1_lt0, up2_at, up2_no, ite_true, ite_false, if_true, if_false, Bool.false_eq_true, reduceIte, reduceCtorEq, not_true_eq_false, not_false_eq_true, eq_self, decide_true, decide_false, le_tt, le_ff, lt_tt, lt_ff, eq_ff, and_true, true_and, and_false, false_and, or_true, true_or, or_false, false_or, ne_eq, decide_eq_true_eq, decide_eq_false_iff_not, Bool.not_true, Bool.not_false, Bool.and_true, Bool.true_and, Bool.and_false, Bool.false_and, gs_at, gs_no, oI_n, oI_s]
  obtain ⟨q, q1, q2⟩ := hlp
  have hl2 := loop_zero (body := fun s1 : Int32 × Int32 => Fm_rounds_b162 (nI N) q s1.1 s1.2) (fun i => (nI (fb_ct (fun d => WW R N d d) i), nI i)) N (nI (fb_ct (fun d => WW R N d d) N)) (fun i hi => by
      have hb := q2 i i ⟨hi, hi⟩
      rw [show 40 * i + i = 41 * i by omega] at hb
      have hct := fb_ct_le (fun d => WW R N d d) i
      rw [fb_ct_succ]
      show Fm_rounds_b162 (nI N) q (nI (fb_ct (fun d => WW R N d d) i)) (nI i) = _
      generalize fb_ct (fun d => WW R N d d) i = z at hct ⊢
      unfold Fm_rounds_b162 Fm_rounds_j183
      cases hc : WW R N i i with
      | true => rw [hc] at hb; simp (disch := omega) only [l_0, l_1, l_2, l_3, l_4, l_5, l_6, l_7, l_8, l_9, l_10, l_11, l_12, l_13, l_14, l_16, l_20, l_21, l_23, l_24, l_30, l_32, l_40, l_41, l_44, l_48, l_57, l_59, l_60, l_63, l_64, l_80, l_84, l_96, l_97, l_99, l_120, l_122, l_127, l_200, l_240, l_255, l_840, l_999, l_1000, l_1001, l_2400, l_3064, l_9999, l_10000, l_13849, l_16383, l_25173, l_65535, l_65536, l_99999, l_1000000000, neg_nI, pk_mul, nI_add, nI_subL, tn_nI, inb_t, grd_true, bnd_some, elS_l, elS_r, nI_ltI, nI_leI, nI_inj, fa_and, fa_or, m1_eq, eq_m1, m1_lt, m1_le, lt_m1, le_m1, m1_lt0, up2_at, up2_no, ite_true, ite_false, if_true, if_false, Bool.false_eq_true, reduceIte, reduceCtorEq, not_true_eq_false, not_false_eq_true, eq_self, decide_true, decide_false, le_tt, le_ff, lt_tt, lt_ff, eq_ff, and_true, true_and, and_false, false_and, or_true, true_or, or_false, false_or, ne_eq, decide_eq_true_eq, decide_eq_false_iff_not, Bool.not_true, Bool.not_false, Bool.and_true, Bool.true_and, Bool.and_false, Bool.false_and, gs_at, gs_no, oI_n, oI_s, show q.1 112 (41 * i) = nI 1 from hb]
      | false => rw [hc] at hb; simp (disch := omega) only [l_0, l_1, l_2, l_3, l_4, l_5, l_6, l_7, l_8, l_9, l_10, l_11, l_12, l_13, l_14, l_16, l_20, l_21, l_23, l_24, l_30, l_32, l_40, l_41, l_44, l_48, l_57, l_59, l_60, l_63, l_64, l_80, l_84, l_96, l_97, l_99, l_120, l_122, l_127, l_200, l_240, l_255, l_840, l_999, l_1000, l_1001, l_2400, l_3064, l_9999, l_10000, l_13849, l_16383, l_25173, l_65535, l_65536, l_99999, l_1000000000, neg_nI, pk_mul, nI_add, nI_subL, tn_nI, inb_t, grd_true, bnd_some, elS_l, elS_r, nI_ltI, nI_leI, nI_inj, fa_and, fa_or, m1_eq, eq_m1, m1_lt, m1_le, lt_m1, le_m1, m1_lt0, up2_at, up2_no, ite_true, ite_false, if_true, if_false, Bool.false_eq_true, reduceIte, reduceCtorEq, not_true_eq_false, not_false_eq_true, eq_self, decide_true, decide_false, le_tt, le_ff, lt_tt, lt_ff, eq_ff, and_true, true_and, and_false, false_and, or_true, true_or, or_false, false_or, ne_eq, decide_eq_true_eq, decide_eq_false_iff_not, Bool.not_true, Bool.not_false, Bool.and_true, Bool.true_and, Bool.and_false, Bool.false_and, gs_at, gs_no, oI_n, oI_s, show q.1 112 (41 * i) = nI 0 from hb, Nat.add_zero]) (by
      show Fm_rounds_b162 (nI N) q _ (nI N) = _
      unfold Fm_rounds_b162
      simp (disch := omega) only [l_0, l_1, l_2, l_3, l_4, l_5, l_6, l_7, l_8, l_9, l_10, l_11, l_12, l_13, l_14, l_16, l_20, l_21, l_23, l_24, l_30, l_32, l_40, l_41, l_44, l_48, l_57, l_59, l_60, l_63, l_64, l_80, l_84, l_96, l_97, l_99, l_120, l_122, l_127, l_200, l_240, l_255, l_840, l_999, l_1000, l_1001, l_2400, l_3064, l_9999, l_10000, l_13849, l_16383, l_25173, l_65535, l_65536, l_99999, l_1000000000, neg_nI, pk_mul, nI_add, nI_subL, tn_nI, inb_t, grd_true, bnd_some, elS_l, elS_r, nI_ltI, nI_leI, nI_inj, fa_and, fa_or, m1_eq, eq_m1, m1_lt, m1_le, lt_m1, le_m1, m1_lt0, up2_at, up2_no, ite_true, ite_false, if_true, if_false, Bool.false_eq_true, reduceIte, reduceCtorEq, not_true_eq_false, not_false_eq_true, eq_self, decide_true, decide_false, le_tt, le_ff, lt_tt, lt_ff, eq_ff, and_true, true_and, and_false, false_and, or_true, true_or, or_false, false_or, ne_eq, decide_eq_true_eq, decide_eq_false_iff_not, Bool.not_true, Bool.not_false, Bool.and_true, Bool.true_and, Bool.and_false, Bool.false_and, gs_at, gs_no, oI_n, oI_s]) (n := n) (by omega)
  have hl2' : loop (fun s1 : Int32 × Int32 => Fm_rounds_b162 (nI N) q s1.1 s1.2) n (nI 0, nI 0) = some (nI (fb_ct (fun d => WW R N d d) N)) := hl2
  have hrun : Fm_rounds n M = some (nI (fb_ct (fun d => WW R N d d) N), q) := by
    unfold Fm_rounds
    simp (disch := omega) only [l_0, l_1, l_2, l_3, l_4, l_5, l_6, l_7, l_8, l_9, l_10, l_11, l_12, l_13, l_14, l_16, l_20, l_21, l_23, l_24, l_30, l_32, l_40, l_41, l_44, l_48, l_57, l_59, l_60, l_63, l_64, l_80, l_84, l_96, l_97, l_99, l_120, l_122, l_127, l_200, l_240, l_255, l_840, l_999, l_1000, l_1001, l_2400, l_3064, l_9999, l_10000, l_13849, l_16383, l_25173, l_65535, l_65536, l_99999, l_1000000000, neg_nI, pk_mul, nI_add, nI_subL, tn_nI, inb_t, grd_true, bnd_some, elS_l, elS_r, nI_ltI, nI_leI, nI_inj, fa_and, fa_or, m1_eq, eq_m1, m1_lt, m1_le, lt_m1, le_m1, m1_lt0, up2_at, up2_no, ite_true, ite_false, if_true, if_false, Bool.false_eq_true, reduceIte, reduceCtorEq, not_true_eq_false, not_false_eq_true, eq_self, decide_true, decide_false, le_tt, le_ff, lt_tt, lt_ff, eq_ff, and_true, true_and, and_false, false_and, or_true, true_or, or_false, false_or, ne_eq, decide_eq_true_eq, decide_eq_false_iff_not, Bool.not_true, Bool.not_false, Bool.and_true, Bool.true_and, Bool.and_false, Bool.false_and, gs_at, gs_no, oI_n, oI_s, h7, a1, q1, hl2']
  exact ⟨q, hrun, fr_Fm_rounds hrun⟩
end
