/-! trials: places, draws -/
section
variable {M : Mm} {g : Nat → Nat} {n s : Nat}
theorem takeOff_x (hW : GW g) (h3c : M.1 (s + 1) 3 = nI (g 3)) (hU : UB M s g) {p d st : Nat} (hp : p < 40) (hd : d < g 7) (hl : g (64 + 10 * d + 3) = 0) (d4 : M.1 (s + 10) p = nI 0) (x1 : M.1 (s + 12) p = nI (g (64 + 10 * d + 6))) (x4 : M.2 (s + 15) p = lN (2 ^ (g (64 + 10 * d + 4) + g (64 + 10 * d + 5)) - 2 ^ g (64 + 10 * d + 4))) (hst : 0 < st) (hn : 100 < n) : ∃ M', St_takeOff n s (nI p) (nI st) M = some M' ∧ M'.1 = up2 M.1 (s + 10) p (nI st) ∧ (∀ c j, c ≠ s + 16 → M'.2 c j = M.2 c j) ∧ UB M' s (offG g d st) := by
  obtain ⟨hG, hN, hNU, hL, hO⟩ := hW
  have b1 := hN.1
  have hcore : ∃ M1 : Mm, St_takeOff n s (nI p) (nI st) M = St_takeOff_j60 s (nI p) (nI st) M1 ∧ M1.1 = M.1 ∧ (∀ c j, c ≠ s + 16 → M1.2 c j = M.2 c j) ∧ ∀ k, k < g 3 → ∀ i, (usN M1 s k).testBit i = true ↔ OC g (2 ^ k) (some d) i := by
    obtain ⟨y1, y2, y3, y4⟩ := hL d hd hl
    have hon14 : g (64 + 10 * d + 6) < 16384 := Nat.lt_of_lt_of_le y4 (show 2 ^ g 3 ≤ 2 ^ 14 from Nat.pow_le_pow_right (by decide) b1.2.2.2.2.2.1)
    have hlp : ∃ r, loop (fun s1 : Int32 × Mm => St_takeOff_b11 s (nI p) s1.1 s1.2) n (nI 0, M) = some r ∧ (r.1 = M.1 ∧ (∀ c j, c ≠ s + 16 → r.2 c j = M.2 c j) ∧ ∀ k, k < g 3 → ∀ i, (usN r s k).testBit i = true ↔ OC g (2 ^ k) (some d) i) := by
      refine loop_I0 (fun m (st : Int32 × Mm) => st.1 = nI m ∧ st.2.1 = M.1 ∧ (∀ c j, c ≠ s + 16 → st.2.2 c j = M.2 c j) ∧ (∀ k, k < g 3 → m ≤ k → usN st.2 s k = usN M s k) ∧ ∀ k, k < m → ∀ i, (usN st.2 s k).testBit i = true ↔ OC g (2 ^ k) (some d) i) _ (g 3) ⟨rfl, rfl, fun _ _ _ => rfl, fun _ _ _ => rfl, fun k hk => by omega⟩ (by omega) ?_ ?_
      · rintro m ⟨s1, M1⟩ hm ⟨e1, e2, e3, e4, e5⟩
        simp only at e1 e2 e3 e4 e5
        subst e1
        left
        have c3 : M1.1 (s + 1) 3 = nI (g 3) := by rw [e2]; exact h3c
        have c12 : M1.1 (s + 12) p = nI (g (64 + 10 * d + 6)) := by rw [e2]; exact x1
        have c15 : M1.2 (s + 15) p = lN (2 ^ (g (64 + 10 * d + 4) + g (64 + 10 * d + 5)) - 2 ^ g (64 + 10 * d + 4)) := by rw [e3 _ _ (by omega)]; exact x4
        show ∃ s', St_takeOff_b11 s (nI p) (nI m) M1 = some (.inl s') ∧ _
        cases ht : (g (64 + 10 * d + 6)).testBit m with
        | false =>
          refine ⟨(nI (m + 1), M1), ?_, rfl, e2, e3, fun k hk hmk => e4 k hk (by omega), fun k hk i => ?_⟩
          · unfold St_takeOff_b11 St_takeOff_j54
            simp (disch := omega) only [l_0, l_1, l_2, l_3, l_4, l_5, l_6, l_7, l_8, l_9, l_10, l_11, l_12, l_13, l_14, l_16, l_20, l_21, l_23, l_24, l_30, l_32, l_40, l_41, l_44, l_48, l_57, l_59, l_60, l_63, l_64, l_80, l_84, l_96, l_97, l_99, l_120, l_122, l_127, l_200, l_240, l_255, l_840, l_999, l_1000, l_1001, l_2400, l_3064, l_9999, l_10000, l_13849, l_16383, l_25173, l_65535, l_65536, l_99999, l_1000000000, neg_nI, pk_mul, nI_add, nI_subL, tn_nI, inb_t, grd_true, bnd_some, elS_l, elS_r, nI_ltI, nI_leI, nI_inj, fa_and, fa_or, m1_eq, eq_m1, m1_lt, m1_le, lt_m1, le_m1, m1_lt0, up2_at, up2_no, ite_true, ite_false, if_true, if_false, Bool.false_eq_true, reduceIte, reduceCtorEq, not_true_eq_false, not_false_eq_true, eq_self, decide_true, decide_false, le_tt, le_ff, lt_tt, lt_ff, eq_ff, and_true, true_and, and_false, false_and, or_true, true_or, or_false, false_or, ne_eq, decide_eq_true_eq, decide_eq_false_iff_not, Bool.not_true, Bool.not_false, Bool.and_true, Bool.true_and, Bool.and_false, Bool.false_and, gs_at, gs_no, oI_n, oI_s, c3, c12, bt0, ht]
          · by_cases c : k = m
            · subst c
              rw [e4 k hm (Nat.le_refl _), hU k hm]
              constructor
              · rintro ⟨e, h1, h2, h3, h4, h5⟩
                refine ⟨e, h1, fun q => ?_, h3, h4, h5⟩
                cases q
                have := and_bit.mp h4
                rw [ht] at this
                cases this
              · rintro ⟨e, h1, h2, h3⟩; exact ⟨e, h1, by simp, h3⟩
            · exact e5 k (by omega) i
        | true =>
          refine ⟨(nI (m + 1), (M1.1, up2 M1.2 (s + 16) m (lN (dl (usN M1 s m) (2 ^ (g (64 + 10 * d + 4) + g (64 + 10 * d + 5)) - 2 ^ g (64 + 10 * d + 4)))))), ?_, rfl, e2, fun c j hc => ?_, fun k hk hmk => ?_, fun k hk i => ?_⟩
          · unfold St_takeOff_b11 St_takeOff_j54
            simp (disch := omega) only [l_0, l_1, l_2, l_3, l_4, l_5, l_6, l_7, l_8, l_9, l_10, l_11, l_12, l_13, l_14, l_16, l_20, l_21, l_23, l_24, l_30, l_32, l_40, l_41, l_44, l_48, l_57, l_59, l_60, l_63, l_64, l_80, l_84, l_96, l_97, l_99, l_120, l_122, l_127, l_200, l_240, l_255, l_840, l_999, l_1000, l_1001, l_2400, l_3064, l_9999, l_10000, l_13849, l_16383, l_25173, l_65535, l_65536, l_99999, l_1000000000, neg_nI, pk_mul, nI_add, nI_subL, tn_nI, inb_t, grd_true, bnd_some, elS_l, elS_r, nI_ltI, nI_leI, nI_inj, fa_and, fa_or, m1_eq, eq_m1, m1_lt, m1_le, lt_m1, le_m1, m1_lt0, up2_at, up2_no, ite_true, ite_false, if_true, if_false, Bool.false_eq_true, reduceIte, reduceCtorEq, not_true_eq_false, not_false_eq_true, eq_self, decide_true, decide_false, le_tt, le_ff, lt_tt, lt_ff, eq_ff, and_true, true_and, and_false, false_and, or_true, true_or, or_false, false_or, ne_eq, decide_eq_true_eq, decide_eq_false_iff_not, Bool.not_true, Bool.not_false, Bool.and_true, Bool.true_and, Bool.and_false, Bool.false_and, gs_at, gs_no, oI_n, oI_s, c3, c12, bt0, ht, usN_e, c15, landnot_e]
          · show up2 M1.2 (s + 16) m _ c j = _
            rw [up2_no (fun q => hc q.1)]
            exact e3 c j hc
          · unfold usN
            show (up2 M1.2 (s + 16) m _ (s + 16) k).toBitVec.toNat = _
            rw [up2_no (by omega)]
            exact e4 k hk (by omega)
          · by_cases c : k = m
            · subst c
              rw [usN_at (x := dl (usN M1 s k) (2 ^ (g (64 + 10 * d + 4) + g (64 + 10 * d + 5)) - 2 ^ g (64 + 10 * d + 4))) up2_at (dl_lt (usN_lt _ _ _)), dl_tb, span_tb (by omega), Bool.and_eq_true, e4 k hm (Nat.le_refl _), hU k hm, Bool.not_eq_true', decide_eq_false_iff_not]
              constructor
              · rintro ⟨⟨e, h1, h2, h3, h4, h5⟩, h6⟩
                refine ⟨e, h1, fun q => ?_, h3, h4, h5⟩
                cases q
                exact h6 h5
              · rintro ⟨e, h1, h2, h3, h4, h5⟩
                refine ⟨⟨e, h1, by simp, h3, h4, h5⟩, fun q => ?_⟩
                have hed : e ≠ d := fun w => h2 (by rw [w])
                rcases hO e d h1 hd hed h3 hl (and_ne.mpr ⟨k, and_bit.mp h4, ht⟩) with w | w <;> omega
            · have : usN (M1.1, up2 M1.2 (s + 16) m (lN (dl (usN M1 s m) (2 ^ (g (64 + 10 * d + 4) + g (64 + 10 * d + 5)) - 2 ^ g (64 + 10 * d + 4))))) s k = usN M1 s k := by
                unfold usN
                show (up2 M1.2 (s + 16) m _ (s + 16) k).toBitVec.toNat = _
                rw [up2_no (fun q => c q.2)]
              rw [this]
              exact e5 k (by omega) i
      · rintro ⟨s1, M1⟩ ⟨e1, e2, e3, e4, e5⟩
        simp only at e1 e2 e3 e4 e5
        subst e1
        have c3 : M1.1 (s + 1) 3 = nI (g 3) := by rw [e2]; exact h3c
        refine ⟨M1, ?_, e2, e3, e5⟩
        show St_takeOff_b11 s (nI p) (nI (g 3)) M1 = _
        unfold St_takeOff_b11
        simp (disch := omega) only [l_0, l_1, l_2, l_3, l_4, l_5, l_6, l_7, l_8, l_9, l_10, l_11, l_12, l_13, l_14, l_16, l_20, l_21, l_23, l_24, l_30, l_32, l_40, l_41, l_44, l_48, l_57, l_59, l_60, l_63, l_64, l_80, l_84, l_96, l_97, l_99, l_120, l_122, l_127, l_200, l_240, l_255, l_840, l_999, l_1000, l_1001, l_2400, l_3064, l_9999, l_10000, l_13849, l_16383, l_25173, l_65535, l_65536, l_99999, l_1000000000, neg_nI, pk_mul, nI_add, nI_subL, tn_nI, inb_t, grd_true, bnd_some, elS_l, elS_r, nI_ltI, nI_leI, nI_inj, fa_and, fa_or, m1_eq, eq_m1, m1_lt, m1_le, lt_m1, le_m1, m1_lt0, up2_at, up2_no, ite_true, ite_false, if_true, if_false, Bool.false_eq_true, reduceIte, reduceCtorEq, not_true_eq_false, not_false_eq_true, eq_self, decide_true, decide_false, le_tt, le_ff, lt_tt, lt_ff, eq_ff, and_true, true_and, and_false, false_and, or_true, true_or, or_false, false_or, ne_eq, decide_eq_true_eq, decide_eq_false_iff_not, Bool.not_true, Bool.not_false, Bool.and_true, Bool.true_and, Bool.and_false, Bool.false_and, gs_at, gs_no, oI_n, oI_s, c3]
    obtain ⟨r, r1, r2, r3, r4⟩ := hlp
    refine ⟨r, ?_, r2, r3, r4⟩
    unfold St_takeOff
    simp (disch := omega) only [l_0, l_1, l_2, l_3, l_4, l_5, l_6, l_7, l_8, l_9, l_10, l_11, l_12, l_13, l_14, l_16, l_20, l_21, l_23, l_24, l_30, l_32, l_40, l_41, l_44, l_48, l_57, l_59, l_60, l_63, l_64, l_80, l_84, l_96, l_97, l_99, l_120, l_122, l_127, l_200, l_240, l_255, l_840, l_999, l_1000, l_1001, l_2400, l_3064, l_9999, l_10000, l_13849, l_16383, l_25173, l_65535, l_65536, l_99999, l_1000000000, neg_nI, pk_mul, nI_add, nI_subL, tn_nI, inb_t, grd_true, bnd_some, elS_l, elS_r, nI_ltI, nI_leI, nI_inj, fa_and, fa_or, m1_eq, eq_m1, m1_lt, m1_le, lt_m1, le_m1, m1_lt0, up2_at, up2_no, ite_true, ite_false, if_true, if_false, Bool.false_eq_true, reduceIte, reduceCtorEq, not_true_eq_false, not_false_eq_true, eq_self, decide_true, decide_false, le_tt, le_ff, lt_tt, lt_ff, eq_ff, and_true, true_and, and_false, false_and, or_true, true_or, or_false, false_or, ne_eq, decide_eq_true_eq, decide_eq_false_iff_not, Bool.not_true, Bool.not_false, Bool.and_true, Bool.true_and, Bool.and_false, Bool.false_and, gs_at, gs_no, oI_n, oI_s, d4, r1]
  obtain ⟨M1, q1, q2, q3, q4⟩ := hcore
  have hrun : St_takeOff n s (nI p) (nI st) M = some (up2 M1.1 (s + 10) p (nI st), M1.2) := by
    rw [q1]
    unfold St_takeOff_j60
    simp (disch := omega) only [l_0, l_1, l_2, l_3, l_4, l_5, l_6, l_7, l_8, l_9, l_10, l_11, l_12, l_13, l_14, l_16, l_20, l_21, l_23, l_24, l_30, l_32, l_40, l_41, l_44, l_48, l_57, l_59, l_60, l_63, l_64, l_80, l_84, l_96, l_97, l_99, l_120, l_122, l_127, l_200, l_240, l_255, l_840, l_999, l_1000, l_1001, l_2400, l_3064, l_9999, l_10000, l_13849, l_16383, l_25173, l_65535, l_65536, l_99999, l_1000000000, neg_nI, pk_mul, nI_add, nI_subL, tn_nI, inb_t, grd_true, bnd_some, elS_l, elS_r, nI_ltI, nI_leI, nI_inj, fa_and, fa_or, m1_eq, eq_m1, m1_lt, m1_le, lt_m1, le_m1, m1_lt0, up2_at, up2_no, ite_true, ite_false, if_true, if_false, Bool.false_eq_true, reduceIte, reduceCtorEq, not_true_eq_false, not_false_eq_true, eq_self, decide_true, decide_false, le_tt, le_ff, lt_tt, lt_ff, eq_ff, and_true, true_and, and_false, false_and, or_true, true_or, or_false, false_or, ne_eq, decide_eq_true_eq, decide_eq_false_iff_not, Bool.not_true, Bool.not_false, Bool.and_true, Bool.true_and, Bool.and_false, Bool.false_and, gs_at, gs_no, oI_n, oI_s]
  refine ⟨_, hrun, by rw [q2], q3, fun l hl i => ?_⟩
  have e3 : offG g d st 3 = g 3 := off_lo (by omega)
  rw [e3] at hl
  rw [OC_off hst]
  exact q4 l hl i
theorem put_x (hW : GW g) (h3c : M.1 (s + 1) 3 = nI (g 3)) (hU : UB M s g) {p d on f w : Nat} (hp : p < 40) (hd : d < g 7) (hnl : g (64 + 10 * d + 3) ≠ 0) (hon : on < 2 ^ g 3) (hfw : f + w ≤ 60) (hn : 100 < n) : ∃ M', St_put n s (nI p) (nI on) (nI f) (nI w) M = some M' ∧ M'.1 = up2 (up2 (up2 (up2 M.1 (s + 10) p (nI 0)) (s + 12) p (nI on)) (s + 13) p (nI f)) (s + 14) p (nI w) ∧ M'.2 (s + 15) p = lN (2 ^ (f + w) - 2 ^ f) ∧ (∀ c j, c ≠ s + 16 → ¬ (c = s + 15 ∧ j = p) → M'.2 c j = M.2 c j) ∧ UB M' s (litG g d on f w) := by
  obtain ⟨hG, hN, hNU, hL, hO⟩ := hW
  have b1 := hN.1
  have hon14 : on < 16384 := Nat.lt_of_lt_of_le hon (show 2 ^ g 3 ≤ 2 ^ 14 from Nat.pow_le_pow_right (by decide) b1.2.2.2.2.2.1)
  have hsp := Fg_span_e (a := f) (b := f + w) (M := (up2 (up2 (up2 (up2 M.1 (s + 10) p (nI 0)) (s + 12) p (nI on)) (s + 13) p (nI f)) (s + 14) p (nI w), M.2)) (by omega) (by omega)
  obtain ⟨M', q1, q2, q3, q4⟩ := St_fill_e (g := g) (n := n) (s := s) (l := on) (m := 2 ^ (f + w) - 2 ^ f) (M := (up2 (up2 (up2 (up2 M.1 (s + 10) p (nI 0)) (s + 12) p (nI on)) (s + 13) p (nI f)) (s + 14) p (nI w), up2 M.2 (s + 15) p (lN (2 ^ (f + w) - 2 ^ f)))) (by
    show up2 (up2 (up2 (up2 M.1 (s + 10) p (nI 0)) (s + 12) p (nI on)) (s + 13) p (nI f)) (s + 14) p (nI w) (s + 1) 3 = _
    simp (disch := omega) only [l_0, l_1, l_2, l_3, l_4, l_5, l_6, l_7, l_8, l_9, l_10, l_11, l_12, l_13, l_14, l_16, l_20, l_21, l_23, l_24, l_30, l_32, l_40, l_41, l_44, l_48, l_57, l_59, l_60, l_63, l_64, l_80, l_84, l_96, l_97, l_99, l_120, l_122, l_127, l_200, l_240, l_255, l_840, l_999, l_1000, l_1001, l_2400, l_3064, l_9999, l_10000, l_13849, l_16383, l_25173, l_65535, l_65536, l_99999, l_1000000000, neg_nI, pk_mul, nI_add, nI_subL, tn_nI, inb_t, grd_true, bnd_some, elS_l, elS_r, nI_ltI, nI_leI, nI_inj, fa_and, fa_or, m1_eq, eq_m1, m1_lt, m1_le, lt_m1, le_m1, m1_lt0, up2_at, up2_no, ite_true, ite_false, if_true, if_false, Bool.false_eq_true, reduceIte, reduceCtorEq, not_true_eq_false, not_false_eq_true, eq_self, decide_true, decide_false, le_tt, le_ff, lt_tt, lt_ff, eq_ff, and_true, true_and, and_false, false_and, or_true, true_or, or_false, false_or, ne_eq, decide_eq_true_eq, decide_eq_false_iff_not, Bool.not_true, Bool.not_false, Bool.and_true, Bool.true_and, Bool.and_false, Bool.false_and, gs_at, gs_no, oI_n, oI_s, h3c]) (by omega) hon14 (span_lt (by omega)) hn
  have hput : St_put n s (nI p) (nI on) (nI f) (nI w) M = some M' := by
    unfold St_put
    simp (disch := omega) only [l_0, l_1, l_2, l_3, l_4, l_5, l_6, l_7, l_8, l_9, l_10, l_11, l_12, l_13, l_14, l_16, l_20, l_21, l_23, l_24, l_30, l_32, l_40, l_41, l_44, l_48, l_57, l_59, l_60, l_63, l_64, l_80, l_84, l_96, l_97, l_99, l_120, l_122, l_127, l_200, l_240, l_255, l_840, l_999, l_1000, l_1001, l_2400, l_3064, l_9999, l_10000, l_13849, l_16383, l_25173, l_65535, l_65536, l_99999, l_1000000000, neg_nI, pk_mul, nI_add, nI_subL, tn_nI, inb_t, grd_true, bnd_some, elS_l, elS_r, nI_ltI, nI_leI, nI_inj, fa_and, fa_or, m1_eq, eq_m1, m1_lt, m1_le, lt_m1, le_m1, m1_lt0, up2_at, up2_no, ite_true, ite_false, if_true, if_false, Bool.false_eq_true, reduceIte, reduceCtorEq, not_true_eq_false, not_false_eq_true, eq_self, decide_true, decide_false, le_tt, le_ff, lt_tt, lt_ff, eq_ff, and_true, true_and, and_false, false_and, or_true, true_or, or_false, false_or, ne_eq, decide_eq_true_eq, decide_eq_false_iff_not, Bool.not_true, Bool.not_false, Bool.and_true, Bool.true_and, Bool.and_false, Bool.false_and, gs_at, gs_no, oI_n, oI_s, hsp, q1]
  have hu : ∀ k, usN (up2 (up2 (up2 (up2 M.1 (s + 10) p (nI 0)) (s + 12) p (nI on)) (s + 13) p (nI f)) (s + 14) p (nI w), up2 M.2 (s + 15) p (lN (2 ^ (f + w) - 2 ^ f))) s k = usN M s k := fun k => by
    unfold usN
    show (up2 M.2 (s + 15) p (lN (2 ^ (f + w) - 2 ^ f)) (s + 16) k).toBitVec.toNat = _
    rw [up2_no (by omega)]
  refine ⟨M', hput, q2, ?_, fun c j h1 h2 => ?_, fun l hl i => ?_⟩
  · rw [q3 _ _ (by omega)]; exact up2_at
  · rw [q3 _ _ h1]; exact up2_no h2
  · have e3 : litG g d on f w 3 = g 3 := lit_lo (by omega)
    rw [e3] at hl
    rw [q4 l hl, hu, OC_lit hd hnl]
    by_cases c : on.testBit l = true
    · rw [if_pos c, Nat.testBit_or, Bool.or_eq_true, hU l hl, span_tb (by omega), decide_eq_true_eq]
      constructor
      · rintro (h | h)
        · exact .inr h
        · exact .inl ⟨and_bit.mpr c, h⟩
      · rintro (h | h)
        · exact .inr h.2
        · exact .inl h
    · rw [if_neg c, hU l hl]
      constructor
      · exact .inr
      · rintro (h | h)
        · exact absurd (and_bit.mp h.1) c
        · exact h
end
theorem irm_e {a b : Nat} (ha : a < 2 ^ 31) (hb : 0 < b) (hb2 : b < 2 ^ 31) : irm (nI a) (nI b) = nI (a % b) := pk_rem ha hb hb2
def drN (x : Nat) : Nat := (25173 * x + 13849) % 65536
theorem dr_lt (x : Nat) : drN x < 65536 := Nat.mod_lt _ (by decide)
theorem Tr_draw_e {M : Mm} {x m : Nat} (h : M.1 93 2 = nI x) (hx : x < 65536) (hm : 0 < m) (hm2 : m < 2 ^ 31) : Tr_draw (nI m) M = some (nI (drN x % m), (up2 M.1 93 2 (nI (drN x)), M.2)) := by
  have := dr_lt x
  unfold Tr_draw
  simp (disch := omega) only [l_0, l_1, l_2, l_3, l_4, l_5, l_6, l_7, l_8, l_9, l_10, l_11, l_12, l_13, l_14, l_16, l_20, l_21, l_23, l_24, l_30, l_32, l_40, l_41, l_44, l_48, l_57, l_59, l_60, l_63, l_64, l_80, l_84, l_96, l_97, l_99, l_120, l_122, l_127, l_200, l_240, l_255, l_840, l_999, l_1000, l_1001, l_2400, l_3064, l_9999, l_10000, l_13849, l_16383, l_25173, l_65535, l_65536, l_99999, l_1000000000, neg_nI, pk_mul, nI_add, nI_subL, tn_nI, inb_t, grd_true, bnd_some, elS_l, elS_r, nI_ltI, nI_leI, nI_inj, fa_and, fa_or, m1_eq, eq_m1, m1_lt, m1_le, lt_m1, le_m1, m1_lt0, up2_at, up2_no, ite_true, ite_false, if_true, if_false, Bool.false_eq_true, reduceIte, reduceCtorEq, not_true_eq_false, not_false_eq_true, eq_self, decide_true, decide_false, le_tt, le_ff, lt_tt, lt_ff, eq_ff, and_true, true_and, and_false, false_and, or_true, true_or, or_false, false_or, ne_eq, decide_eq_true_eq, decide_eq_false_iff_not, Bool.not_true, Bool.not_false, Bool.and_true, Bool.true_and, Bool.and_false, Bool.false_and, gs_at, gs_no, oI_n, oI_s, h, irm_e, show (25173 * x + 13849) % 65536 = drN x from rfl, nz_e]
theorem gs_gs {g : Nat → Nat} {k u v : Nat} : gs (gs g k u) k v = gs g k v := by
  funext i
  unfold gs
  by_cases c : i = k
  · rw [if_pos c, if_pos c]
  · rw [if_neg c, if_neg c, if_neg c]
theorem Fm_drawn_e {M : Mm} {g : Nat → Nat} {h : Nat → Int32} {m : Nat} (hF : FK M g h) (hx : g 6 < 65536) (hm : 0 < m) (hm2 : m < 2 ^ 31) : ∃ M', Fm_drawn (nI m) M = some (nI (drN (g 6) % m), M') ∧ FK M' (gs g 6 (drN (g 6))) h ∧ Fr (fun c _ => c = 95) M M' := by
  have := dr_lt (g 6)
  have h6 : M.1 95 6 = nI (g 6) := hF.lo (by omega)
  refine ⟨(up2 M.1 95 6 (nI (drN (g 6))), M.2), ?_, hF.set (by omega) (by rw [iv_lo (by omega), gs_at]), Fr.I Fr.rf rfl⟩
  unfold Fm_drawn
  simp (disch := omega) only [l_0, l_1, l_2, l_3, l_4, l_5, l_6, l_7, l_8, l_9, l_10, l_11, l_12, l_13, l_14, l_16, l_20, l_21, l_23, l_24, l_30, l_32, l_40, l_41, l_44, l_48, l_57, l_59, l_60, l_63, l_64, l_80, l_84, l_96, l_97, l_99, l_120, l_122, l_127, l_200, l_240, l_255, l_840, l_999, l_1000, l_1001, l_2400, l_3064, l_9999, l_10000, l_13849, l_16383, l_25173, l_65535, l_65536, l_99999, l_1000000000, neg_nI, pk_mul, nI_add, nI_subL, tn_nI, inb_t, grd_true, bnd_some, elS_l, elS_r, nI_ltI, nI_leI, nI_inj, fa_and, fa_or, m1_eq, eq_m1, m1_lt, m1_le, lt_m1, le_m1, m1_lt0, up2_at, up2_no, ite_true, ite_false, if_true, if_false, Bool.false_eq_true, reduceIte, reduceCtorEq, not_true_eq_false, not_false_eq_true, eq_self, decide_true, decide_false, le_tt, le_ff, lt_tt, lt_ff, eq_ff, and_true, true_and, and_false, false_and, or_true, true_or, or_false, false_or, ne_eq, decide_eq_true_eq, decide_eq_false_iff_not, Bool.not_true, Bool.not_false, Bool.and_true, Bool.true_and, Bool.and_false, Bool.false_and, gs_at, gs_no, oI_n, oI_s, h6, irm_e, show (25173 * g 6 + 13849) % 65536 = drN (g 6) from rfl, nz_e]
theorem to_ne {N a k : Nat} (ha : a < N) (hk : k < N - 1) : (a + 1 + k) % N < N ∧ a ≠ (a + 1 + k) % N := by
  refine ⟨Nat.mod_lt _ (by omega), ?_⟩
  by_cases c : a + 1 + k < N
  · rw [Nat.mod_eq_of_lt c]; omega
  · rw [Nat.mod_eq_sub_mod (by omega), Nat.mod_eq_of_lt (by omega)]; omega
theorem of_one {g : Nat → Nat} {P P' : Nat → Bool} {k d : Nat} (hd : d < k) (h : ∀ e, e < k → P' e = (P e || decide (e = d))) : ofS g P' k = offG (ofS g P k) d 3 := by
  funext j
  unfold offG gs
  by_cases e : j = 64 + 10 * d + 3
  · rw [if_pos e, e, of_3, if_pos ⟨hd, by rw [h d hd, decide_eq_true rfl, Bool.or_true]⟩]
  · rw [if_neg e]
    unfold ofS
    by_cases q : 64 ≤ j ∧ (j - 64) % 10 = 3 ∧ (j - 64) / 10 < k
    · rw [h _ q.2.2, decide_eq_false (show ¬ (j - 64) / 10 = d by omega), Bool.or_false]
    · rw [if_neg (fun w => q ⟨w.1, w.2.1, w.2.2.1⟩), if_neg (fun w => q ⟨w.1, w.2.1, w.2.2.1⟩)]
/-- the grid of a trial -/
def TG (g : Nat → Nat) (t e : Nat) : Prop := GW g ∧ g 7 = t ∧ g 6 ≤ 65535 ∧ ∀ d, d < t → g (64 + 10 * d + 3) ≠ 2 ∧ (g (64 + 10 * d + 3) = 0 → e ≤ g (64 + 10 * d + 7) ∧ g (64 + 10 * d + 7) ≤ d + 21)
/-- the class's places -/
def PLc (M : Mm) (g : Nat → Nat) : Prop := (∀ p, p < 40 → (∀ d, d < g 7 → d % 40 = p → g (64 + 10 * d + 3) ≠ 0) → M.1 64 p = nI 3) ∧ ∀ d, d < g 7 → g (64 + 10 * d + 3) = 0 → M.1 64 (d % 40) = nI 0 ∧ M.1 66 (d % 40) = nI (g (64 + 10 * d + 6)) ∧ M.2 69 (d % 40) = lN (2 ^ (g (64 + 10 * d + 4) + g (64 + 10 * d + 5)) - 2 ^ g (64 + 10 * d + 4)) ∧ M.1 65 (d % 40) = nI (g (64 + 10 * d + 7) - 1)
def ltS (g : Nat → Nat) (d : Nat) : Bool := decide (g (64 + 10 * d + 3) = 0)
/-- what the class holds in a trial -/
def TRc (M : Mm) (g : Nat → Nat) (B R : Nat) (T : Option Nat) : Prop := (CN M 55 g ∧ M.1 54 1 = nI (g 12) ∧ UB M 54 g ∧ CA M g) ∧ PLc M g ∧ M.1 93 2 = nI (g 6) ∧ M.1 93 3 = nI B ∧ M.1 93 4 = nI R ∧ M.1 93 5 = oI T ∧ M.1 93 6 = nI (fb_ct (ltS g) (g 7))
def TRm (M : Mm) (B R : Nat) (T : Option Nat) : Prop := M.1 94 36 = nI B ∧ M.1 94 37 = nI R ∧ M.1 94 38 = oI T
theorem tg_uni {g : Nat → Nat} {t e : Nat} (hT : TG g t e) (he : t ≤ e) {d d' : Nat} (h1 : d < t) (h2 : d' < t) (l1 : g (64 + 10 * d + 3) = 0) (l2 : g (64 + 10 * d' + 3) = 0) (h : d % 40 = d' % 40) : d = d' := by
  have a1 := (hT.2.2.2 d h1).2 l1
  have a2 := (hT.2.2.2 d' h2).2 l2
  omega
theorem end_c {M : Mm} {g : Nat → Nat} {n t B R : Nat} {T : Option Nat} (ht : t ≤ 200) (hT : TG g t (t + 1)) (hR : TRc M g B R T) (hn : 100 < n) : ∃ M', Tr_endThoseOf n (nI t) M = some M' ∧ TRc M' (ofS g (enB g t) (g 7)) B R T := by
  obtain ⟨hW, h7, h6, hd⟩ := hT
  have hlp : ∃ r, loop (fun s1 : Int32 × Mm => Tr_endThoseOf_b2 n (nI t) s1.1 s1.2) n (nI 0, M) = some r ∧ TRc r (ofS g (fun d => enB g t d && decide (d % 40 < 40)) (g 7)) B R T := by
    refine loop_I0 (fun i (st : Int32 × Mm) => st.1 = nI i ∧ TRc st.2 (ofS g (fun d => enB g t d && decide (d % 40 < i)) (g 7)) B R T) _ 40 ⟨rfl, ?_⟩ (by omega) ?_ ?_
    · have : ofS g (fun d => enB g t d && decide (d % 40 < 0)) (g 7) = g := by
        rw [of_cong (Q := fun _ => false) (fun d _ => by rw [decide_eq_false (by omega), Bool.and_false])]
        exact funext fun i => if_neg (by simp)
      rw [this]
      exact hR
    · rintro i ⟨s1, M1⟩ hi ⟨e1, e2⟩
      simp only at e1 e2
      subst e1
      left
      obtain ⟨⟨c1, c2, c3, c4⟩, ⟨pl1, pl2⟩, x2, x3, x4, x5, x6⟩ := e2
      have hWi := of_W (P := fun d => enB g t d && decide (d % 40 < i)) hW (g 7)
      have st3 : ∀ d, d < g 7 → d % 40 = i → ofS g (fun d => enB g t d && decide (d % 40 < i)) (g 7) (64 + 10 * d + 3) = g (64 + 10 * d + 3) := fun d h1 h2 => by
        rw [of_3, if_neg (fun q => ?_)]
        have := q.2
        rw [Bool.and_eq_true, decide_eq_true_eq] at this
        omega
      have e7 : ofS g (fun d => enB g t d && decide (d % 40 < i)) (g 7) 7 = g 7 := of_lo (by omega)
      show ∃ s', Tr_endThoseOf_b2 n (nI t) (nI i) M1 = some (.inl s') ∧ _
      by_cases hex : ∃ d, d < g 7 ∧ d % 40 = i ∧ g (64 + 10 * d + 3) = 0
      · obtain ⟨d, d1, d2, d3⟩ := hex
        have hdd := (hd d (by omega)).2 d3
        obtain ⟨y1, y2, y3, y4⟩ := pl2 d (by rw [e7]; exact d1) (by rw [st3 d d1 d2]; exact d3)
        rw [d2] at y1 y2 y3 y4
        rw [of_w (by omega) (by omega)] at y2 y4
        rw [of_w (w := 4) (by omega) (by omega), of_w (w := 5) (by omega) (by omega)] at y3
        by_cases he : g (64 + 10 * d + 7) = t + 1
        · have hone : ofS g (fun d => enB g t d && decide (d % 40 < i + 1)) (g 7) = offG (ofS g (fun d => enB g t d && decide (d % 40 < i)) (g 7)) d 3 := of_one d1 (fun e he' => by
            rw [Bool.eq_iff_iff, Bool.and_eq_true, Bool.or_eq_true, Bool.and_eq_true, decide_eq_true_eq, decide_eq_true_eq, decide_eq_true_eq]
            constructor
            · rintro ⟨q1, q2⟩
              by_cases c : e % 40 = i
              · right
                have q1' := of_decide_eq_true q1
                have := (hd e (by omega)).1
                exact tg_uni ⟨hW, h7, h6, hd⟩ (by omega) (by omega) (by omega) (by omega) d3 (by omega)
              · exact .inl ⟨q1, by omega⟩
            · rintro (⟨q1, q2⟩ | q)
              · exact ⟨q1, by omega⟩
              · rw [q]
                exact ⟨decide_eq_true ⟨.inl d3, he⟩, by omega⟩)
          have h4' : ofS g (fun d => enB g t d && decide (d % 40 < i)) (g 7) (64 + 10 * d + 4) = g (64 + 10 * d + 4) := of_w (by omega) (by omega)
          have h5' : ofS g (fun d => enB g t d && decide (d % 40 < i)) (g 7) (64 + 10 * d + 5) = g (64 + 10 * d + 5) := of_w (by omega) (by omega)
          have h6' : ofS g (fun d => enB g t d && decide (d % 40 < i)) (g 7) (64 + 10 * d + 6) = g (64 + 10 * d + 6) := of_w (by omega) (by omega)
          obtain ⟨M2, a1, a2, a3, a4⟩ := takeOff_x (n := n) (s := 54) (p := i) (d := d) (st := 3) hWi (c1.1 3 (by omega)) c3 hi (by rw [e7]; exact d1) (by rw [st3 d d1 d2]; exact d3) y1 (by rw [h6']; exact y2) (by rw [h4', h5']; exact y3) (by omega) hn
          have hfr := fr_St_takeOff a1
          have hct : fb_ct (ltS (ofS g (fun d => enB g t d && decide (d % 40 < i)) (g 7))) (g 7) = fb_ct (ltS (ofS g (fun d => enB g t d && decide (d % 40 < i + 1)) (g 7))) (g 7) + 1 := by
            have hu := fb_ct_upd (ltS (ofS g (fun d => enB g t d && decide (d % 40 < i)) (g 7))) false (i := d) (n := g 7) d1
            have hl1 : ltS (ofS g (fun d => enB g t d && decide (d % 40 < i)) (g 7)) d = true := decide_eq_true (by rw [st3 d d1 d2]; exact d3)
            rw [hl1, if_pos rfl, if_neg (show ¬ false = true by simp)] at hu
            have key : fb_ct (fun k => if k = d then false else ltS (ofS g (fun d => enB g t d && decide (d % 40 < i)) (g 7)) k) (g 7) = fb_ct (ltS (ofS g (fun d => enB g t d && decide (d % 40 < i + 1)) (g 7))) (g 7) := by
              refine fb_ct_cong (fun e he' => ?_)
              rw [hone]
              unfold ltS
              by_cases c : e = d
              · rw [if_pos c, c, off_3]; rfl
              · rw [if_neg c, off_ne c (by omega)]
            rw [key] at hu
            omega
          obtain ⟨cv, hcv⟩ : ∃ cv, cv = fb_ct (ltS (ofS g (fun d => enB g t d && decide (d % 40 < i + 1)) (g 7))) (g 7) := ⟨_, rfl⟩
          refine ⟨(nI (i + 1), (up2 M2.1 93 6 (nI (cv)), M2.2)), ?_, rfl, ?_⟩
          · have x6' : M2.1 93 6 = nI (cv + 1) := by
              rw [(hfr 93 6 (by unfold fp_St_takeOff; omega)).1, x6, e7, hct, ← hcv]
            unfold Tr_endThoseOf_b2 Tr_endThoseOf_j52
            simp (disch := omega) only [l_0, l_1, l_2, l_3, l_4, l_5, l_6, l_7, l_8, l_9, l_10, l_11, l_12, l_13, l_14, l_16, l_20, l_21, l_23, l_24, l_30, l_32, l_40, l_41, l_44, l_48, l_57, l_59, l_60, l_63, l_64, l_80, l_84, l_96, l_97, l_99, l_120, l_122, l_127, l_200, l_240, l_255, l_840, l_999, l_1000, l_1001, l_2400, l_3064, l_9999, l_10000, l_13849, l_16383, l_25173, l_65535, l_65536, l_99999, l_1000000000, neg_nI, pk_mul, nI_add, nI_subL, tn_nI, inb_t, grd_true, bnd_some, elS_l, elS_r, nI_ltI, nI_leI, nI_inj, fa_and, fa_or, m1_eq, eq_m1, m1_lt, m1_le, lt_m1, le_m1, m1_lt0, up2_at, up2_no, ite_true, ite_false, if_true, if_false, Bool.false_eq_true, reduceIte, reduceCtorEq, not_true_eq_false, not_false_eq_true, eq_self, decide_true, decide_false, le_tt, le_ff, lt_tt, lt_ff, eq_ff, and_true, true_and, and_false, false_and, or_true, true_or, or_false, false_or, ne_eq, decide_eq_true_eq, decide_eq_false_iff_not, Bool.not_true, Bool.not_false, Bool.and_true, Bool.true_and, Bool.and_false, Bool.false_and, gs_at, gs_no, oI_n, oI_s, show M1.1 64 i = nI 0 from y1, show M1.1 65 i = nI (g (64 + 10 * d + 7) - 1) from y4, he, Nat.add_sub_cancel, a1, x6']
          · have hf2 : Fr (fun c j => fp_St_takeOff 54 c j ∨ c = 93) M1 (up2 M2.1 93 6 (nI (cv)), M2.2) := Fr.I (hfr.mono (fun c j q => .inl q)) (.inr rfl)
            have hf3 : Fr (fun c j => c = 93 ∧ j = 6) M2 (up2 M2.1 93 6 (nI (cv)), M2.2) := Fr.I Fr.rf ⟨rfl, rfl⟩
            have hb3 := hWi.2.1.1
            have f93 : ∀ j, j ≠ 6 → (up2 M2.1 93 6 (nI (cv)), M2.2).1 93 j = M1.1 93 j := fun j hj => by rw [(hf3 93 j (by omega)).1, (hfr 93 j (by unfold fp_St_takeOff; omega)).1]
            rw [hone]
            refine ⟨⟨(c1.fr hf2 (fun k j hk q => by unfold fp_St_takeOff at q; omega)).cong hb3.2.2.2.2.2.1 (fun k h1 _ _ => off_lo h1) ?_, ?_, a4.fr hf3 (fun j => by omega), (c4.fr hf2 (fun j => by unfold fp_St_takeOff; omega)).cong hb3.2.2.2.2.2.1 (fun k h1 _ _ => off_lo h1)⟩, ⟨fun p hp hall => ?_, fun e he1 he2 => ?_⟩, ?_, ?_, ?_, ?_, ?_⟩
            · rw [off_lo (by omega)]; exact (c1.fr hf2 (fun k j hk q => by unfold fp_St_takeOff at q; omega)).1 4 (by omega)
            · rw [off_lo (by omega), (hf2 54 1 (by unfold fp_St_takeOff; omega)).1]; exact c2
            · rw [(hf3 64 p (by omega)).1, a2]
              by_cases cp : p = i
              · rw [cp]; exact up2_at
              · rw [up2_no (by omega)]
                refine pl1 p hp (fun e h1 h2 => ?_)
                have := hall e (by rw [off_lo (by omega)]; exact h1) h2
                rw [off_ne (fun q => by rw [q] at h2; omega) (by omega)] at this
                exact this
            · rw [off_lo (by omega)] at he1
              have hne : e ≠ d := fun q => by rw [q, off_3] at he2; omega
              rw [off_ne hne (by omega)] at he2
              obtain ⟨z1, z2, z3, z4⟩ := pl2 e he1 he2
              rw [e7] at he1
              have he2' : g (64 + 10 * e + 3) = 0 := by
                rw [of_3] at he2
                split at he2
                · omega
                · exact he2
              have hpe : e % 40 ≠ i := fun q => hne (tg_uni ⟨hW, h7, h6, hd⟩ (by omega) (by omega) (by omega) he2' d3 (by omega))
              rw [off_6 (k := 4) (by omega) (by omega), off_6 (k := 5) (by omega) (by omega), off_6 (k := 6) (by omega) (by omega), off_6 (k := 7) (by omega) (by omega)]
              refine ⟨?_, ?_, ?_, ?_⟩
              · rw [(hf3 64 _ (by omega)).1, a2, up2_no (by omega)]; exact z1
              · rw [(hf3 66 _ (by omega)).1, (hfr 66 _ (by unfold fp_St_takeOff; omega)).1]; exact z2
              · rw [(hf3 69 _ (by omega)).2, (hfr 69 _ (by unfold fp_St_takeOff; omega)).2]; exact z3
              · rw [(hf3 65 _ (by omega)).1, (hfr 65 _ (by unfold fp_St_takeOff; omega)).1]; exact z4
            · rw [f93 2 (by omega), off_lo (by omega)]; exact x2
            · rw [f93 3 (by omega)]; exact x3
            · rw [f93 4 (by omega)]; exact x4
            · rw [f93 5 (by omega)]; exact x5
            · rw [← hone, of_lo (by omega), ← hcv]
              show up2 M2.1 93 6 (nI cv) 93 6 = _
              exact up2_at
        · have hsame : ofS g (fun d => enB g t d && decide (d % 40 < i + 1)) (g 7) = ofS g (fun d => enB g t d && decide (d % 40 < i)) (g 7) := of_cong (fun e he' => by
            rw [Bool.eq_iff_iff, Bool.and_eq_true, Bool.and_eq_true, decide_eq_true_eq, decide_eq_true_eq]
            constructor
            · rintro ⟨q1, q2⟩
              refine ⟨q1, ?_⟩
              by_cases c : e % 40 = i
              · exfalso
                have q1' := of_decide_eq_true q1
                have := (hd e (by omega)).1
                have := tg_uni ⟨hW, h7, h6, hd⟩ (by omega) (show e < t by omega) (show d < t by omega) (by omega) d3 (by omega)
                subst this
                exact he q1'.2
              · omega
            · rintro ⟨q1, q2⟩
              exact ⟨q1, by omega⟩)
          refine ⟨(nI (i + 1), M1), ?_, rfl, by rw [hsame]; exact ⟨⟨c1, c2, c3, c4⟩, ⟨pl1, pl2⟩, x2, x3, x4, x5, x6⟩⟩
          unfold Tr_endThoseOf_b2 Tr_endThoseOf_j52
          simp (disch := omega) only [l_0, l_1, l_2, l_3, l_4, l_5, l_6, l_7, l_8, l_9, l_10, l_11, l_12, l_13, l_14, l_16, l_20, l_21, l_23, l_24, l_30, l_32, l_40, l_41, l_44, l_48, l_57, l_59, l_60, l_63, l_64, l_80, l_84, l_96, l_97, l_99, l_120, l_122, l_127, l_200, l_240, l_255, l_840, l_999, l_1000, l_1001, l_2400, l_3064, l_9999, l_10000, l_13849, l_16383, l_25173, l_65535, l_65536, l_99999, l_1000000000, neg_nI, pk_mul, nI_add, nI_subL, tn_nI, inb_t, grd_true, bnd_some, elS_l, elS_r, nI_ltI, nI_leI, nI_inj, fa_and, fa_or, m1_eq, eq_m1, m1_lt, m1_le, lt_m1, le_m1, m1_lt0, up2_at, up2_no, ite_true, ite_false, if_true, if_false, Bool.false_eq_true, reduceIte, reduceCtorEq, not_true_eq_false, not_false_eq_true, eq_self, decide_true, decide_false, le_tt, le_ff, lt_tt, lt_ff, eq_ff, and_true, true_and, and_false, false_and, or_true, true_or, or_false, false_or, ne_eq, decide_eq_true_eq, decide_eq_false_iff_not, Bool.not_true, Bool.not_false, Bool.and_true, Bool.true_and, Bool.and_false, Bool.false_and, gs_at, gs_no, oI_n, oI_s, show M1.1 64 i = nI 0 from y1, show M1.1 65 i = nI (g (64 + 10 * d + 7) - 1) from y4, show (g (64 + 10 * d + 7) - 1 = t) = False from eq_false (by omega)]
      · have y1 := pl1 i hi (fun d h1 h2 => by
          rw [e7] at h1
          rw [st3 d h1 h2]
          exact fun q => hex ⟨d, h1, h2, q⟩)
        have hsame : ofS g (fun d => enB g t d && decide (d % 40 < i + 1)) (g 7) = ofS g (fun d => enB g t d && decide (d % 40 < i)) (g 7) := of_cong (fun e he' => by
          rw [Bool.eq_iff_iff, Bool.and_eq_true, Bool.and_eq_true, decide_eq_true_eq, decide_eq_true_eq]
          constructor
          · rintro ⟨q1, q2⟩
            refine ⟨q1, ?_⟩
            by_cases c : e % 40 = i
            · exfalso
              have q1' := of_decide_eq_true q1
              have := (hd e (by omega)).1
              exact hex ⟨e, he', c, by omega⟩
            · omega
          · rintro ⟨q1, q2⟩
            exact ⟨q1, by omega⟩)
        refine ⟨(nI (i + 1), M1), ?_, rfl, by rw [hsame]; exact ⟨⟨c1, c2, c3, c4⟩, ⟨pl1, pl2⟩, x2, x3, x4, x5, x6⟩⟩
        unfold Tr_endThoseOf_b2 Tr_endThoseOf_j52
        simp (disch := omega) only [l_0, l_1, l_2, l_3, l_4, l_5, l_6, l_7, l_8, l_9, l_10, l_11, l_12, l_13, l_14, l_16, l_20, l_21, l_23, l_24, l_30, l_32, l_40, l_41, l_44, l_48, l_57, l_59, l_60, l_63, l_64, l_80, l_84, l_96, l_97, l_99, l_120, l_122, l_127, l_200, l_240, l_255, l_840, l_999, l_1000, l_1001, l_2400, l_3064, l_9999, l_10000, l_13849, l_16383, l_25173, l_65535, l_65536, l_99999, l_1000000000, neg_nI, pk_mul, nI_add, nI_subL, tn_nI, inb_t, grd_true, bnd_some, elS_l, elS_r, nI_ltI, nI_leI, nI_inj, fa_and, fa_or, m1_eq, eq_m1, m1_lt, m1_le, lt_m1, le_m1, m1_lt0, up2_at, up2_no, ite_true, ite_false, if_true, if_false, Bool.false_eq_true, reduceIte, reduceCtorEq, not_true_eq_false, not_false_eq_true, eq_self, decide_true, decide_false, le_tt, le_ff, lt_tt, lt_ff, eq_ff, and_true, true_and, and_false, false_and, or_true, true_or, or_false, false_or, ne_eq, decide_eq_true_eq, decide_eq_false_iff_not, Bool.not_true, Bool.not_false, Bool.and_true, Bool.true_and, Bool.and_false, Bool.false_and, gs_at, gs_no, oI_n, oI_s, show M1.1 64 i = nI 3 from y1]
    · rintro ⟨s1, M1⟩ ⟨e1, e2⟩
      simp only at e1 e2
      subst e1
      refine ⟨M1, ?_, e2⟩
      show Tr_endThoseOf_b2 n (nI t) (nI 40) M1 = _
      unfold Tr_endThoseOf_b2
      simp (disch := omega) only [l_0, l_1, l_2, l_3, l_4, l_5, l_6, l_7, l_8, l_9, l_10, l_11, l_12, l_13, l_14, l_16, l_20, l_21, l_23, l_24, l_30, l_32, l_40, l_41, l_44, l_48, l_57, l_59, l_60, l_63, l_64, l_80, l_84, l_96, l_97, l_99, l_120, l_122, l_127, l_200, l_240, l_255, l_840, l_999, l_1000, l_1001, l_2400, l_3064, l_9999, l_10000, l_13849, l_16383, l_25173, l_65535, l_65536, l_99999, l_1000000000, neg_nI, pk_mul, nI_add, nI_subL, tn_nI, inb_t, grd_true, bnd_some, elS_l, elS_r, nI_ltI, nI_leI, nI_inj, fa_and, fa_or, m1_eq, eq_m1, m1_lt, m1_le, lt_m1, le_m1, m1_lt0, up2_at, up2_no, ite_true, ite_false, if_true, if_false, Bool.false_eq_true, reduceIte, reduceCtorEq, not_true_eq_false, not_false_eq_true, eq_self, decide_true, decide_false, le_tt, le_ff, lt_tt, lt_ff, eq_ff, and_true, true_and, and_false, false_and, or_true, true_or, or_false, false_or, ne_eq, decide_eq_true_eq, decide_eq_false_iff_not, Bool.not_true, Bool.not_false, Bool.and_true, Bool.true_and, Bool.and_false, Bool.false_and, gs_at, gs_no, oI_n, oI_s]
  obtain ⟨r, r1, r2⟩ := hlp
  rw [of_cong (Q := enB g t) (fun d _ => by rw [decide_eq_true (Nat.mod_lt _ (by decide)), Bool.and_true])] at r2
  refine ⟨r, ?_, r2⟩
  unfold Tr_endThoseOf
  simp (disch := omega) only [l_0, l_1, l_2, l_3, l_4, l_5, l_6, l_7, l_8, l_9, l_10, l_11, l_12, l_13, l_14, l_16, l_20, l_21, l_23, l_24, l_30, l_32, l_40, l_41, l_44, l_48, l_57, l_59, l_60, l_63, l_64, l_80, l_84, l_96, l_97, l_99, l_120, l_122, l_127, l_200, l_240, l_255, l_840, l_999, l_1000, l_1001, l_2400, l_3064, l_9999, l_10000, l_13849, l_16383, l_25173, l_65535, l_65536, l_99999, l_1000000000, neg_nI, pk_mul, nI_add, nI_subL, tn_nI, inb_t, grd_true, bnd_some, elS_l, elS_r, nI_ltI, nI_leI, nI_inj, fa_and, fa_or, m1_eq, eq_m1, m1_lt, m1_le, lt_m1, le_m1, m1_lt0, up2_at, up2_no, ite_true, ite_false, if_true, if_false, Bool.false_eq_true, reduceIte, reduceCtorEq, not_true_eq_false, not_false_eq_true, eq_self, decide_true, decide_false, le_tt, le_ff, lt_tt, lt_ff, eq_ff, and_true, true_and, and_false, false_and, or_true, true_or, or_false, false_or, ne_eq, decide_eq_true_eq, decide_eq_false_iff_not, Bool.not_true, Bool.not_false, Bool.and_true, Bool.true_and, Bool.and_false, Bool.false_and, gs_at, gs_no, oI_n, oI_s, r1]
