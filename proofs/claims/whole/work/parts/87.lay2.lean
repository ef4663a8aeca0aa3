/-! repacking: the class lays -/
def LAYc (M : Mm) (g gT : Nat → Nat) (i : Nat) : Prop := SV M 18 g ∧ SV M 54 g ∧ SV M 73 gT ∧ CA M g ∧ LB (M.2 72 3) (fun d => decide (d < i) && mvB g gT d)
section
variable {M : Mm} {g gT : Nat → Nat} {n u i : Nat}
theorem mv_cong {gT' : Nat → Nat} {d : Nat} (h4 : gT' (64 + 10 * d + 4) = gT (64 + 10 * d + 4)) (h5 : gT' (64 + 10 * d + 5) = gT (64 + 10 * d + 5)) (h6 : gT' (64 + 10 * d + 6) = gT (64 + 10 * d + 6)) : mvB g gT' d = mvB g gT d := by
  unfold mvB
  rw [h4, h5, h6]
theorem CA_T (h : CA M g) (hg : GV g) (hT : LT g gT i) : CA M gT := h.cong hg.1.2.1.1.2.2.2.2.2.1 (fun k h1 _ _ => hT.2.1 k h1)
theorem T_CA (h : CA M gT) (hg : GV g) (hT : LT g gT i) : CA M g := h.cong (by rw [hT.2.1 3 (by omega)]; exact hg.1.2.1.1.2.2.2.2.2.1) (fun k h1 _ _ => (hT.2.1 k h1).symm)
theorem lay_b (hg : GV g) (hu : u < 4) (hi : i < g 7) (hla : laF g u i = some gT) (hC : LAYc M g gT i) (hn : 100 < n) : (∃ gT' M', laF g u (i + 1) = some gT' ∧ Rp_lay_b59 n (nI u) (nI i) M = some (.inl (nI (i + 1), M')) ∧ LAYc M' g gT' (i + 1)) ∨ (laF g u (i + 1) = none ∧ ∃ M', Rp_lay_b59 n (nI u) (nI i) M = some (.inr (.inr (false, M'))) ∧ SV M' 18 g ∧ CA M' g) := by
  obtain ⟨s18, s54, s73, hA, hLf⟩ := hC
  have hT := la_LT hg i (by omega) gT hla
  have hgT := LT_V hg hT
  have h40 := hg.2.2
  have b1 := hg.1.2.1.1
  have e7 : gT 7 = g 7 := hT.2.1 7 (by omega)
  have e0 : gT 0 = g 0 := hT.2.1 0 (by omega)
  have e1 : gT 1 = g 1 := hT.2.1 1 (by omega)
  have e3 : gT 3 = g 3 := hT.2.1 3 (by omega)
  have h4 : M.1 54 4 = nI (g 7) := s54.2.1
  obtain ⟨c1, c2, c3, c4, c5, c6⟩ := s54.2.2.1 i hi
  have c1' : M.1 61 i = nI (g (64 + 10 * i + 0)) := c1
  have c2' : M.1 62 i = nI (g (64 + 10 * i + 1)) := c2
  have c3' : M.1 63 i = nI (g (64 + 10 * i + 2)) := c3
  have c4' : M.1 64 i = nI (g (64 + 10 * i + 3)) := c4
  obtain ⟨a1, a2, a3, a4, a5, a6, a7, a8⟩ := hg.2.1.2 i hi
  rw [la_s, hla]
  simp only
  by_cases hl : g (64 + 10 * i + 3) = 0
  · rw [if_pos hl]
    obtain ⟨x1, x2, x3, x4⟩ := c6 hl
    obtain ⟨y1, y2, y3, y4⟩ := hg.1.2.2.2.1 i hi hl
    have g6 := hg.1.1.1 (64 + 10 * i + 6)
    have hsT : gT (64 + 10 * i + 3) = 3 := by rw [hT.2.2.2.1 i hi, if_neg (by omega)]
    obtain ⟨M1, f1, f2, f3, f4⟩ := find_c hgT.1 s73.1 s73.2.2.2 (CA_T hA hg hT) (by omega) (n := n) hn (a := g (64 + 10 * i + 0)) (b := g (64 + 10 * i + 1)) (rate := g (64 + 10 * i + 2)) (rule := u) (by rw [e0]; exact a1) (by rw [e0]; exact a2) a3 a4 a5 hu
    have s18' : SV M1 18 g := s18.fr f4 (fun k j hk => by unfold fp_Fi_find; omega)
    have s54' : SV M1 54 g := s54.fr f4 (fun k j hk => by unfold fp_Fi_find; omega)
    have s73' : SV M1 73 gT := s73.fr f4 (fun k j hk => by unfold fp_Fi_find; omega)
    have hA1 : CA M1 g := T_CA f3 hg hT
    have hLf1 : LB (M1.2 72 3) (fun d => decide (d < i) && mvB g gT d) := by rw [(f4 72 3 (by unfold fp_Fi_find; omega)).2]; exact hLf
    obtain ⟨z1, z2, z3, z4⟩ := (s54'.2.2.1 i hi).2.2.2.2.2 hl
    have z1' : M1.1 66 i = nI (g (64 + 10 * i + 6)) := z1
    have z2' : M1.1 67 i = nI (g (64 + 10 * i + 4)) := z2
    have z3' : M1.1 68 i = nI (g (64 + 10 * i + 5)) := z3
    have hput : ∀ on f w, 1 ≤ w → 0 < on → on < 2 ^ g 3 → fitB gT on f w none = true → ∃ M2, St_put n 73 (nI i) (nI on) (nI f) (nI w) M1 = some M2 ∧ SV M2 73 (litG gT i on f w) ∧ SV M2 18 g ∧ SV M2 54 g ∧ CA M2 g ∧ Fr (fp_St_put 73) M1 M2 := fun on f w q1 q2 q3 q4 => by
      have q5 := (fit_iff.mp q4).1
      obtain ⟨M2, d1, d2, d3⟩ := SV_put hgT.1 hgT.2.2 s73' (n := n) (d := i) (on := on) (f := f) (w := w) (by rw [e7]; exact hi) (by rw [hsT]; omega) (by rw [e3]; exact q3) (by omega) hn
      exact ⟨M2, d1, d2, s18'.fr d3 (fun k j hk => by unfold fp_St_put; omega), s54'.fr d3 (fun k j hk => by unfold fp_St_put; omega), hA1.fr d3 (fun j => by unfold fp_St_put; omega), d3⟩
    have mvd : ∀ on f w d, d ≠ i → mvB g (litG gT i on f w) d = mvB g gT d := fun on f w d hd => mv_cong (lit_ne hd (by omega)) (lit_ne hd (by omega)) (lit_ne hd (by omega))
    have mvi : ∀ on f w, mvB g (litG gT i on f w) i = decide (on ≠ g (64 + 10 * i + 6) ∨ f ≠ g (64 + 10 * i + 4) ∨ w ≠ g (64 + 10 * i + 5)) := fun on f w => by
      unfold mvB
      rw [lit_4, lit_5, lit_6]
      exact decide_eq_decide.mpr ⟨fun q => q.2, fun q => ⟨hl, q⟩⟩
    cases hf : fdW gT (g (64 + 10 * i + 0)) (g (64 + 10 * i + 1)) (g (64 + 10 * i + 2)) u with
    | some p =>
      rw [hf] at f1
      obtain ⟨k1, k2, k3, k4⟩ := f2 p hf
      obtain ⟨p1, p2, p3, p4, p5⟩ := fdW_ok hgT.1.2.1 (by rw [e0]; exact a1) a3 a4 a5 hf
      rw [e3] at p2
      have hon14 : wkO (waysG gT (g (64 + 10 * i + 0)) (g (64 + 10 * i + 1))) p.1 < 16384 := Nat.lt_of_lt_of_le p2.2 (show 2 ^ g 3 ≤ 2 ^ 14 from Nat.pow_le_pow_right (by decide) b1.2.2.2.2.2.1)
      generalize hon : wkO (waysG gT (g (64 + 10 * i + 0)) (g (64 + 10 * i + 1))) p.1 = on at *
      obtain ⟨M2, d1, d2, d3, d4, d5, d6⟩ := hput on p.2.1 p.2.2.1 p3.1 p2.1 p2.2 p5
      have hLf2 : LB (M2.2 72 3) (fun d => decide (d < i) && mvB g gT d) := by rw [(d6 72 3 (by unfold fp_St_put; omega)).2]; exact hLf1
      have w2 : M2.1 12 2 = nI on := by rw [(d6 12 2 (by unfold fp_St_put; omega)).1]; exact k2
      have w3 : M2.1 12 3 = nI p.2.1 := by rw [(d6 12 3 (by unfold fp_St_put; omega)).1]; exact k3
      have w4 : M2.1 12 4 = nI p.2.2.1 := by rw [(d6 12 4 (by unfold fp_St_put; omega)).1]; exact k4
      have v1 : M2.1 66 i = nI (g (64 + 10 * i + 6)) := by rw [(d6 66 i (by unfold fp_St_put; omega)).1]; exact z1'
      have v2 : M2.1 67 i = nI (g (64 + 10 * i + 4)) := by rw [(d6 67 i (by unfold fp_St_put; omega)).1]; exact z2'
      have v3 : M2.1 68 i = nI (g (64 + 10 * i + 5)) := by rw [(d6 68 i (by unfold fp_St_put; omega)).1]; exact z3'
      left
      have haim : ∃ M3, Rp_aim n (nI i) M1 = some M3 ∧ LAYc M3 g (litG gT i on p.2.1 p.2.2.1) (i + 1) := by
        by_cases hm : mvB g (litG gT i on p.2.1 p.2.2.1) i = true
        · have hm' := hm
          rw [mvi, decide_eq_true_eq] at hm'
          refine ⟨(M2.1, up2 M2.2 72 3 (M2.2 72 3 ||| lshl (1 : Int64) (nI i))), ?_, ?_⟩
          · unfold Rp_aim Rp_aim_j86
            simp (disch := omega) only [l_0, l_1, l_2, l_3, l_4, l_5, l_6, l_7, l_8, l_9, l_10, l_11, l_12, l_13, l_14, l_16, l_20, l_21, l_23, l_24, l_30, l_32, l_40, l_41, l_44, l_48, l_57, l_59, l_60, l_63, l_64, l_80, l_84, l_96, l_97, l_99, l_120, l_122, l_127, l_200, l_240, l_255, l_840, l_999, l_1000, l_1001, l_2400, l_3064, l_9999, l_10000, l_13849, l_16383, l_25173, l_65535, l_65536, l_99999, l_1000000000, neg_nI, pk_mul, nI_add, nI_subL, tn_nI, inb_t, grd_true, bnd_some, elS_l, elS_r, nI_ltI, nI_leI, nI_inj, fa_and, fa_or, m1_eq, eq_m1, m1_lt, m1_le, lt_m1, le_m1, m1_lt0, up2_at, up2_no, ite_true, ite_false, if_true, if_false, Bool.false_eq_true, reduceIte, reduceCtorEq, not_true_eq_false, not_false_eq_true, eq_self, decide_true, decide_false, le_tt, le_ff, lt_tt, lt_ff, eq_ff, and_true, true_and, and_false, false_and, or_true, true_or, or_false, false_or, ne_eq, decide_eq_true_eq, decide_eq_false_iff_not, Bool.not_true, Bool.not_false, Bool.and_true, Bool.true_and, Bool.and_false, Bool.false_and, gs_at, gs_no, oI_n, oI_s, k2, k3, k4, d1, w2, w3, w4, v1, v2, v3]
            by_cases q1 : on = g (64 + 10 * i + 6)
            · by_cases q2 : p.2.1 = g (64 + 10 * i + 4)
              · have q3 : p.2.2.1 ≠ g (64 + 10 * i + 5) := by omega
                simp (disch := omega) only [l_0, l_1, l_2, l_3, l_4, l_5, l_6, l_7, l_8, l_9, l_10, l_11, l_12, l_13, l_14, l_16, l_20, l_21, l_23, l_24, l_30, l_32, l_40, l_41, l_44, l_48, l_57, l_59, l_60, l_63, l_64, l_80, l_84, l_96, l_97, l_99, l_120, l_122, l_127, l_200, l_240, l_255, l_840, l_999, l_1000, l_1001, l_2400, l_3064, l_9999, l_10000, l_13849, l_16383, l_25173, l_65535, l_65536, l_99999, l_1000000000, neg_nI, pk_mul, nI_add, nI_subL, tn_nI, inb_t, grd_true, bnd_some, elS_l, elS_r, nI_ltI, nI_leI, nI_inj, fa_and, fa_or, m1_eq, eq_m1, m1_lt, m1_le, lt_m1, le_m1, m1_lt0, up2_at, up2_no, ite_true, ite_false, if_true, if_false, Bool.false_eq_true, reduceIte, reduceCtorEq, not_true_eq_false, not_false_eq_true, eq_self, decide_true, decide_false, le_tt, le_ff, lt_tt, lt_ff, eq_ff, and_true, true_and, and_false, false_and, or_true, true_or, or_false, false_or, ne_eq, decide_eq_true_eq, decide_eq_false_iff_not, Bool.not_true, Bool.not_false, Bool.and_true, Bool.true_and, Bool.and_false, Bool.false_and, gs_at, gs_no, oI_n, oI_s, q1, q2, q3]
              · simp (disch := omega) only [l_0, l_1, l_2, l_3, l_4, l_5, l_6, l_7, l_8, l_9, l_10, l_11, l_12, l_13, l_14, l_16, l_20, l_21, l_23, l_24, l_30, l_32, l_40, l_41, l_44, l_48, l_57, l_59, l_60, l_63, l_64, l_80, l_84, l_96, l_97, l_99, l_120, l_122, l_127, l_200, l_240, l_255, l_840, l_999, l_1000, l_1001, l_2400, l_3064, l_9999, l_10000, l_13849, l_16383, l_25173, l_65535, l_65536, l_99999, l_1000000000, neg_nI, pk_mul, nI_add, nI_subL, tn_nI, inb_t, grd_true, bnd_some, elS_l, elS_r, nI_ltI, nI_leI, nI_inj, fa_and, fa_or, m1_eq, eq_m1, m1_lt, m1_le, lt_m1, le_m1, m1_lt0, up2_at, up2_no, ite_true, ite_false, if_true, if_false, Bool.false_eq_true, reduceIte, reduceCtorEq, not_true_eq_false, not_false_eq_true, eq_self, decide_true, decide_false, le_tt, le_ff, lt_tt, lt_ff, eq_ff, and_true, true_and, and_false, false_and, or_true, true_or, or_false, false_or, ne_eq, decide_eq_true_eq, decide_eq_false_iff_not, Bool.not_true, Bool.not_false, Bool.and_true, Bool.true_and, Bool.and_false, Bool.false_and, gs_at, gs_no, oI_n, oI_s, q1, q2]
            · simp (disch := omega) only [l_0, l_1, l_2, l_3, l_4, l_5, l_6, l_7, l_8, l_9, l_10, l_11, l_12, l_13, l_14, l_16, l_20, l_21, l_23, l_24, l_30, l_32, l_40, l_41, l_44, l_48, l_57, l_59, l_60, l_63, l_64, l_80, l_84, l_96, l_97, l_99, l_120, l_122, l_127, l_200, l_240, l_255, l_840, l_999, l_1000, l_1001, l_2400, l_3064, l_9999, l_10000, l_13849, l_16383, l_25173, l_65535, l_65536, l_99999, l_1000000000, neg_nI, pk_mul, nI_add, nI_subL, tn_nI, inb_t, grd_true, bnd_some, elS_l, elS_r, nI_ltI, nI_leI, nI_inj, fa_and, fa_or, m1_eq, eq_m1, m1_lt, m1_le, lt_m1, le_m1, m1_lt0, up2_at, up2_no, ite_true, ite_false, if_true, if_false, Bool.false_eq_true, reduceIte, reduceCtorEq, not_true_eq_false, not_false_eq_true, eq_self, decide_true, decide_false, le_tt, le_ff, lt_tt, lt_ff, eq_ff, and_true, true_and, and_false, false_and, or_true, true_or, or_false, false_or, ne_eq, decide_eq_true_eq, decide_eq_false_iff_not, Bool.not_true, Bool.not_false, Bool.and_true, Bool.true_and, Bool.and_false, Bool.false_and, gs_at, gs_no, oI_n, oI_s, q1]
          · have f3' : Fr (fun c _ => c = 72) M2 (M2.1, up2 M2.2 72 3 (M2.2 72 3 ||| lshl (1 : Int64) (nI i))) := Fr.L Fr.rf rfl
            refine ⟨d3.fr f3' (fun k j hk => by omega), d4.fr f3' (fun k j hk => by omega), d2.fr f3' (fun k j hk => by omega), d5.fr f3' (fun j => by omega), ?_⟩
            show LB (up2 M2.2 72 3 (M2.2 72 3 ||| lshl (1 : Int64) (nI i)) 72 3) _
            rw [up2_at]
            refine LB_cong (LB_or hLf2 (by omega)) (fun d => ?_)
            by_cases c : d = i
            · subst c
              rw [hm, decide_eq_true rfl, Bool.or_true, decide_eq_true (show d < d + 1 by omega)]; rfl
            · rw [mvd _ _ _ d c, decide_eq_false c, Bool.or_false]
              congr 1
              exact decide_eq_decide.mpr (by omega)
        · have hm' := hm
          rw [mvi, decide_eq_true_eq] at hm'
          have q1 : on = g (64 + 10 * i + 6) := by omega
          have q2 : p.2.1 = g (64 + 10 * i + 4) := by omega
          have q3 : p.2.2.1 = g (64 + 10 * i + 5) := by omega
          refine ⟨M2, ?_, d3, d4, d2, d5, ?_⟩
          · unfold Rp_aim
            simp (disch := omega) only [l_0, l_1, l_2, l_3, l_4, l_5, l_6, l_7, l_8, l_9, l_10, l_11, l_12, l_13, l_14, l_16, l_20, l_21, l_23, l_24, l_30, l_32, l_40, l_41, l_44, l_48, l_57, l_59, l_60, l_63, l_64, l_80, l_84, l_96, l_97, l_99, l_120, l_122, l_127, l_200, l_240, l_255, l_840, l_999, l_1000, l_1001, l_2400, l_3064, l_9999, l_10000, l_13849, l_16383, l_25173, l_65535, l_65536, l_99999, l_1000000000, neg_nI, pk_mul, nI_add, nI_subL, tn_nI, inb_t, grd_true, bnd_some, elS_l, elS_r, nI_ltI, nI_leI, nI_inj, fa_and, fa_or, m1_eq, eq_m1, m1_lt, m1_le, lt_m1, le_m1, m1_lt0, up2_at, up2_no, ite_true, ite_false, if_true, if_false, Bool.false_eq_true, reduceIte, reduceCtorEq, not_true_eq_false, not_false_eq_true, eq_self, decide_true, decide_false, le_tt, le_ff, lt_tt, lt_ff, eq_ff, and_true, true_and, and_false, false_and, or_true, true_or, or_false, false_or, ne_eq, decide_eq_true_eq, decide_eq_false_iff_not, Bool.not_true, Bool.not_false, Bool.and_true, Bool.true_and, Bool.and_false, Bool.false_and, gs_at, gs_no, oI_n, oI_s, k2, k3, k4, d1, w2, w3, w4, v1, v2, v3]
            rw [q1, q2, q3]
            simp (disch := omega) only [l_0, l_1, l_2, l_3, l_4, l_5, l_6, l_7, l_8, l_9, l_10, l_11, l_12, l_13, l_14, l_16, l_20, l_21, l_23, l_24, l_30, l_32, l_40, l_41, l_44, l_48, l_57, l_59, l_60, l_63, l_64, l_80, l_84, l_96, l_97, l_99, l_120, l_122, l_127, l_200, l_240, l_255, l_840, l_999, l_1000, l_1001, l_2400, l_3064, l_9999, l_10000, l_13849, l_16383, l_25173, l_65535, l_65536, l_99999, l_1000000000, neg_nI, pk_mul, nI_add, nI_subL, tn_nI, inb_t, grd_true, bnd_some, elS_l, elS_r, nI_ltI, nI_leI, nI_inj, fa_and, fa_or, m1_eq, eq_m1, m1_lt, m1_le, lt_m1, le_m1, m1_lt0, up2_at, up2_no, ite_true, ite_false, if_true, if_false, Bool.false_eq_true, reduceIte, reduceCtorEq, not_true_eq_false, not_false_eq_true, eq_self, decide_true, decide_false, le_tt, le_ff, lt_tt, lt_ff, eq_ff, and_true, true_and, and_false, false_and, or_true, true_or, or_false, false_or, ne_eq, decide_eq_true_eq, decide_eq_false_iff_not, Bool.not_true, Bool.not_false, Bool.and_true, Bool.true_and, Bool.and_false, Bool.false_and, gs_at, gs_no, oI_n, oI_s]
          · refine LB_cong hLf2 (fun d => ?_)
            by_cases c : d = i
            · subst c
              rw [ts_nt hm, Bool.and_false, decide_eq_false (Nat.lt_irrefl _), Bool.false_and]
            · rw [mvd _ _ _ d c]
              congr 1
              exact decide_eq_decide.mpr (by omega)
      obtain ⟨M3, r1, r2⟩ := haim
      simp only
      rw [hon]
      refine ⟨_, M3, rfl, ?_, r2⟩
      unfold Rp_lay_b59 Rp_lay_j142
      simp (disch := omega) only [l_0, l_1, l_2, l_3, l_4, l_5, l_6, l_7, l_8, l_9, l_10, l_11, l_12, l_13, l_14, l_16, l_20, l_21, l_23, l_24, l_30, l_32, l_40, l_41, l_44, l_48, l_57, l_59, l_60, l_63, l_64, l_80, l_84, l_96, l_97, l_99, l_120, l_122, l_127, l_200, l_240, l_255, l_840, l_999, l_1000, l_1001, l_2400, l_3064, l_9999, l_10000, l_13849, l_16383, l_25173, l_65535, l_65536, l_99999, l_1000000000, neg_nI, pk_mul, nI_add, nI_subL, tn_nI, inb_t, grd_true, bnd_some, elS_l, elS_r, nI_ltI, nI_leI, nI_inj, fa_and, fa_or, m1_eq, eq_m1, m1_lt, m1_le, lt_m1, le_m1, m1_lt0, up2_at, up2_no, ite_true, ite_false, if_true, if_false, Bool.false_eq_true, reduceIte, reduceCtorEq, not_true_eq_false, not_false_eq_true, eq_self, decide_true, decide_false, le_tt, le_ff, lt_tt, lt_ff, eq_ff, and_true, true_and, and_false, false_and, or_true, true_or, or_false, false_or, ne_eq, decide_eq_true_eq, decide_eq_false_iff_not, Bool.not_true, Bool.not_false, Bool.and_true, Bool.true_and, Bool.and_false, Bool.false_and, gs_at, gs_no, oI_n, oI_s, h4, c4', hl, c1', c2', c3', f1, Option.isSome_some, r1]
    | none =>
      rw [hf] at f1
      simp only
      have hit := St_inTheWay_e hgT s73' (l := g (64 + 10 * i + 6)) (f := g (64 + 10 * i + 4)) (v := g (64 + 10 * i + 5)) (by omega) (by omega) hn
      have hfit : fitB gT (g (64 + 10 * i + 6)) (g (64 + 10 * i + 4)) (g (64 + 10 * i + 5)) none = (agS gT (g (64 + 10 * i + 6)) (g (64 + 10 * i + 4)) (g (64 + 10 * i + 5)) none).isNone := by
        unfold fitB
        rw [decide_eq_true (by omega), Bool.true_and]
      cases hag : agS gT (g (64 + 10 * i + 6)) (g (64 + 10 * i + 4)) (g (64 + 10 * i + 5)) none with
      | none =>
        rw [hag] at hit hfit
        have hft : fitB gT (g (64 + 10 * i + 6)) (g (64 + 10 * i + 4)) (g (64 + 10 * i + 5)) none = true := hfit
        rw [if_pos hft]
        left
        obtain ⟨M2, d1, d2, d3, d4, d5, d6⟩ := hput _ _ _ y1 y3 y4 hft
        refine ⟨_, M2, rfl, ?_, d3, d4, d2, d5, ?_⟩
        · unfold Rp_lay_b59 Rp_lay_j142 Rp_canStay
          simp (disch := omega) only [l_0, l_1, l_2, l_3, l_4, l_5, l_6, l_7, l_8, l_9, l_10, l_11, l_12, l_13, l_14, l_16, l_20, l_21, l_23, l_24, l_30, l_32, l_40, l_41, l_44, l_48, l_57, l_59, l_60, l_63, l_64, l_80, l_84, l_96, l_97, l_99, l_120, l_122, l_127, l_200, l_240, l_255, l_840, l_999, l_1000, l_1001, l_2400, l_3064, l_9999, l_10000, l_13849, l_16383, l_25173, l_65535, l_65536, l_99999, l_1000000000, neg_nI, pk_mul, nI_add, nI_subL, tn_nI, inb_t, grd_true, bnd_some, elS_l, elS_r, nI_ltI, nI_leI, nI_inj, fa_and, fa_or, m1_eq, eq_m1, m1_lt, m1_le, lt_m1, le_m1, m1_lt0, up2_at, up2_no, ite_true, ite_false, if_true, if_false, Bool.false_eq_true, reduceIte, reduceCtorEq, not_true_eq_false, not_false_eq_true, eq_self, decide_true, decide_false, le_tt, le_ff, lt_tt, lt_ff, eq_ff, and_true, true_and, and_false, false_and, or_true, true_or, or_false, false_or, ne_eq, decide_eq_true_eq, decide_eq_false_iff_not, Bool.not_true, Bool.not_false, Bool.and_true, Bool.true_and, Bool.and_false, Bool.false_and, gs_at, gs_no, oI_n, oI_s, h4, c4', hl, c1', c2', c3', f1, Option.isSome_none, z1', z2', z3', hit, d1]
        · rw [(d6 72 3 (by unfold fp_St_put; omega)).2]
          refine LB_cong hLf1 (fun d => ?_)
          by_cases c : d = i
          · subst c
            rw [mvi, decide_eq_false (Nat.lt_irrefl _), Bool.false_and, decide_eq_false (show ¬ (g (64 + 10 * d + 6) ≠ g (64 + 10 * d + 6) ∨ g (64 + 10 * d + 4) ≠ g (64 + 10 * d + 4) ∨ g (64 + 10 * d + 5) ≠ g (64 + 10 * d + 5)) by omega), Bool.and_false]
          · rw [mvd _ _ _ d c]
            congr 1
            exact decide_eq_decide.mpr (by omega)
      | some e =>
        rw [hag] at hit hfit
        have hft : ¬ fitB gT (g (64 + 10 * i + 6)) (g (64 + 10 * i + 4)) (g (64 + 10 * i + 5)) none = true := by rw [hfit]; simp
        have := ag_lt hag
        rw [if_neg hft]
        right
        refine ⟨rfl, M1, ?_, s18', hA1⟩
        unfold Rp_lay_b59 Rp_canStay
        simp (disch := omega) only [l_0, l_1, l_2, l_3, l_4, l_5, l_6, l_7, l_8, l_9, l_10, l_11, l_12, l_13, l_14, l_16, l_20, l_21, l_23, l_24, l_30, l_32, l_40, l_41, l_44, l_48, l_57, l_59, l_60, l_63, l_64, l_80, l_84, l_96, l_97, l_99, l_120, l_122, l_127, l_200, l_240, l_255, l_840, l_999, l_1000, l_1001, l_2400, l_3064, l_9999, l_10000, l_13849, l_16383, l_25173, l_65535, l_65536, l_99999, l_1000000000, neg_nI, pk_mul, nI_add, nI_subL, tn_nI, inb_t, grd_true, bnd_some, elS_l, elS_r, nI_ltI, nI_leI, nI_inj, fa_and, fa_or, m1_eq, eq_m1, m1_lt, m1_le, lt_m1, le_m1, m1_lt0, up2_at, up2_no, ite_true, ite_false, if_true, if_false, Bool.false_eq_true, reduceIte, reduceCtorEq, not_true_eq_false, not_false_eq_true, eq_self, decide_true, decide_false, le_tt, le_ff, lt_tt, lt_ff, eq_ff, and_true, true_and, and_false, false_and, or_true, true_or, or_false, false_or, ne_eq, decide_eq_true_eq, decide_eq_false_iff_not, Bool.not_true, Bool.not_false, Bool.and_true, Bool.true_and, Bool.and_false, Bool.false_and, gs_at, gs_no, oI_n, oI_s, h4, c4', hl, c1', c2', c3', f1, Option.isSome_none, z1', z2', z3', hit]
  · rw [if_neg hl]
    left
    refine ⟨gT, M, rfl, ?_, s18, s54, s73, hA, LB_cong hLf (fun d => ?_)⟩
    · unfold Rp_lay_b59 Rp_lay_j142
      simp (disch := omega) only [l_0, l_1, l_2, l_3, l_4, l_5, l_6, l_7, l_8, l_9, l_10, l_11, l_12, l_13, l_14, l_16, l_20, l_21, l_23, l_24, l_30, l_32, l_40, l_41, l_44, l_48, l_57, l_59, l_60, l_63, l_64, l_80, l_84, l_96, l_97, l_99, l_120, l_122, l_127, l_200, l_240, l_255, l_840, l_999, l_1000, l_1001, l_2400, l_3064, l_9999, l_10000, l_13849, l_16383, l_25173, l_65535, l_65536, l_99999, l_1000000000, neg_nI, pk_mul, nI_add, nI_subL, tn_nI, inb_t, grd_true, bnd_some, elS_l, elS_r, nI_ltI, nI_leI, nI_inj, fa_and, fa_or, m1_eq, eq_m1, m1_lt, m1_le, lt_m1, le_m1, m1_lt0, up2_at, up2_no, ite_true, ite_false, if_true, if_false, Bool.false_eq_true, reduceIte, reduceCtorEq, not_true_eq_false, not_false_eq_true, eq_self, decide_true, decide_false, le_tt, le_ff, lt_tt, lt_ff, eq_ff, and_true, true_and, and_false, false_and, or_true, true_or, or_false, false_or, ne_eq, decide_eq_true_eq, decide_eq_false_iff_not, Bool.not_true, Bool.not_false, Bool.and_true, Bool.true_and, Bool.and_false, Bool.false_and, gs_at, gs_no, oI_n, oI_s, h4, c4', hl]
    · by_cases c : d = i
      · subst c
        have : mvB g gT d = false := decide_eq_false (fun q => hl q.1)
        rw [this, Bool.and_false, Bool.and_false]
      · congr 1
        exact decide_eq_decide.mpr (by omega)
theorem wait_e (hg : GV g) (hT : LT g gT (g 7)) (s54 : SV M 54 g) (s73 : SV M 73 gT) (hi : i < g 7) (hl : g (64 + 10 * i + 3) = 0) (hn : 100 < n) : ∃ x, Rp_waitingFor n (nI i) M = some x ∧ LB x (fun b => decide (b < g 7) && clB g gT i b) := by
  have h40 := hg.2.2
  have b1 := hg.1.2.1.1
  have h4 : M.1 54 4 = nI (g 7) := s54.2.1
  have e7 : gT 7 = g 7 := hT.2.1 7 (by omega)
  have e1 : gT 1 = g 1 := hT.2.1 1 (by omega)
  have hsT : gT (64 + 10 * i + 3) = 0 := by rw [hT.2.2.2.1 i hi, if_pos ⟨hi, hl⟩]
  obtain ⟨x1, x2, x3, x4⟩ := (s73.2.2.1 i (by rw [e7]; exact hi)).2.2.2.2.2 hsT
  have hlv := hT.1.2.2.2.1 i (by rw [e7]; exact hi) hsT
  have x1' : M.1 85 i = nI (gT (64 + 10 * i + 6)) := x1
  have x2' : M.1 86 i = nI (gT (64 + 10 * i + 4)) := x2
  have x3' : M.1 87 i = nI (gT (64 + 10 * i + 5)) := x3
  have hlp : ∃ r, loop (fun s1 : Int64 × Int32 => Rp_waitingFor_b5 (nI i) M s1.1 s1.2) n (lN 0, nI 0) = some r ∧ LB r (fun b => decide (b < g 7) && clB g gT i b) := by
    refine loop_I0 (fun k (st : Int64 × Int32) => st.2 = nI k ∧ LB st.1 (fun b => decide (b < k) && clB g gT i b)) _ (g 7) ⟨rfl, 0, rfl, by decide, fun b => by simp⟩ (by omega) ?_ ?_
    · rintro k ⟨s1, s2⟩ hk ⟨e1', e2⟩
      simp only at e1' e2
      subst e1'
      left
      show ∃ s', Rp_waitingFor_b5 (nI i) M s1 (nI k) = some (.inl s') ∧ _
      have hcl := St_clashes_e hg s54 (d := k) (l := gT (64 + 10 * i + 6)) (f := gT (64 + 10 * i + 4)) (v := gT (64 + 10 * i + 5)) hk (by omega) (by omega)
      unfold Rp_waitingFor_b5 Rp_waitingFor_j69
      have hno : clB g gT i k = false → LB s1 (fun b => decide (b < k + 1) && clB g gT i b) := fun q => LB_cong e2 (fun b => by
        by_cases c : b = k
        · subst c; rw [q, Bool.and_false, Bool.and_false]
        · congr 1
          exact decide_eq_decide.mpr (by omega))
      by_cases c : k = i
      · refine ⟨(s1, nI (k + 1)), ?_, rfl, hno (by unfold clB; rw [decide_eq_false (fun q => q c), Bool.false_and])⟩
        simp (disch := omega) only [l_0, l_1, l_2, l_3, l_4, l_5, l_6, l_7, l_8, l_9, l_10, l_11, l_12, l_13, l_14, l_16, l_20, l_21, l_23, l_24, l_30, l_32, l_40, l_41, l_44, l_48, l_57, l_59, l_60, l_63, l_64, l_80, l_84, l_96, l_97, l_99, l_120, l_122, l_127, l_200, l_240, l_255, l_840, l_999, l_1000, l_1001, l_2400, l_3064, l_9999, l_10000, l_13849, l_16383, l_25173, l_65535, l_65536, l_99999, l_1000000000, neg_nI, pk_mul, nI_add, nI_subL, tn_nI, inb_t, grd_true, bnd_some, elS_l, elS_r, nI_ltI, nI_leI, nI_inj, fa_and, fa_or, m1_eq, eq_m1, m1_lt, m1_le, lt_m1, le_m1, m1_lt0, up2_at, up2_no, ite_true, ite_false, if_true, if_false, Bool.false_eq_true, reduceIte, reduceCtorEq, not_true_eq_false, not_false_eq_true, eq_self, decide_true, decide_false, le_tt, le_ff, lt_tt, lt_ff, eq_ff, and_true, true_and, and_false, false_and, or_true, true_or, or_false, false_or, ne_eq, decide_eq_true_eq, decide_eq_false_iff_not, Bool.not_true, Bool.not_false, Bool.and_true, Bool.true_and, Bool.and_false, Bool.false_and, gs_at, gs_no, oI_n, oI_s, h4, c]
      · cases ha : agP g (gT (64 + 10 * i + 6)) (gT (64 + 10 * i + 4)) (gT (64 + 10 * i + 5)) none k with
        | true =>
          rw [ha] at hcl
          refine ⟨(s1 ||| lshl (1 : Int64) (nI k), nI (k + 1)), ?_, rfl, LB_cong (LB_or e2 (by omega)) (fun b => ?_)⟩
          · simp (disch := omega) only [l_0, l_1, l_2, l_3, l_4, l_5, l_6, l_7, l_8, l_9, l_10, l_11, l_12, l_13, l_14, l_16, l_20, l_21, l_23, l_24, l_30, l_32, l_40, l_41, l_44, l_48, l_57, l_59, l_60, l_63, l_64, l_80, l_84, l_96, l_97, l_99, l_120, l_122, l_127, l_200, l_240, l_255, l_840, l_999, l_1000, l_1001, l_2400, l_3064, l_9999, l_10000, l_13849, l_16383, l_25173, l_65535, l_65536, l_99999, l_1000000000, neg_nI, pk_mul, nI_add, nI_subL, tn_nI, inb_t, grd_true, bnd_some, elS_l, elS_r, nI_ltI, nI_leI, nI_inj, fa_and, fa_or, m1_eq, eq_m1, m1_lt, m1_le, lt_m1, le_m1, m1_lt0, up2_at, up2_no, ite_true, ite_false, if_true, if_false, Bool.false_eq_true, reduceIte, reduceCtorEq, not_true_eq_false, not_false_eq_true, eq_self, decide_true, decide_false, le_tt, le_ff, lt_tt, lt_ff, eq_ff, and_true, true_and, and_false, false_and, or_true, true_or, or_false, false_or, ne_eq, decide_eq_true_eq, decide_eq_false_iff_not, Bool.not_true, Bool.not_false, Bool.and_true, Bool.true_and, Bool.and_false, Bool.false_and, gs_at, gs_no, oI_n, oI_s, h4, c, x1', x2', x3', hcl]
          · by_cases cb : b = k
            · subst cb
              have : clB g gT i b = true := by unfold clB; rw [decide_eq_true c, ha]; rfl
              rw [this, decide_eq_true rfl, Bool.or_true, decide_eq_true (show b < b + 1 by omega)]; rfl
            · rw [decide_eq_false cb, Bool.or_false]
              congr 1
              exact decide_eq_decide.mpr (by omega)
        | false =>
          rw [ha] at hcl
          refine ⟨(s1, nI (k + 1)), ?_, rfl, hno (by unfold clB; rw [ha, Bool.and_false])⟩
          simp (disch := omega) only [l_0, l_1, l_2, l_3, l_4, l_5, l_6, l_7, l_8, l_9, l_10, l_11, l_12, l_13, l_14, l_16, l_20, l_21, l_23, l_24, l_30, l_32, l_40, l_41, l_44, l_48, l_57, l_59, l_60, l_63, l_64, l_80, l_84, l_96, l_97, l_99, l_120, l_122, l_127, l_200, l_240, l_255, l_840, l_999, l_1000, l_1001, l_2400, l_3064, l_9999, l_10000, l_13849, l_16383, l_25173, l_65535, l_65536, l_99999, l_1000000000, neg_nI, pk_mul, nI_add, nI_subL, tn_nI, inb_t, grd_true, bnd_some, elS_l, elS_r, nI_ltI, nI_leI, nI_inj, fa_and, fa_or, m1_eq, eq_m1, m1_lt, m1_le, lt_m1, le_m1, m1_lt0, up2_at, up2_no, ite_true, ite_false, if_true, if_false, Bool.false_eq_true, reduceIte, reduceCtorEq, not_true_eq_false, not_false_eq_true, eq_self, decide_true, decide_false, le_tt, le_ff, lt_tt, lt_ff, eq_ff, and_true, true_and, and_false, false_and, or_true, true_or, or_false, false_or, ne_eq, decide_eq_true_eq, decide_eq_false_iff_not, Bool.not_true, Bool.not_false, Bool.and_true, Bool.true_and, Bool.and_false, Bool.false_and, gs_at, gs_no, oI_n, oI_s, h4, c, x1', x2', x3', hcl]
    · rintro ⟨s1, s2⟩ ⟨e1', e2⟩
      simp only at e1' e2
      subst e1'
      refine ⟨s1, ?_, e2⟩
      show Rp_waitingFor_b5 (nI i) M s1 (nI (g 7)) = _
      unfold Rp_waitingFor_b5
      simp (disch := omega) only [l_0, l_1, l_2, l_3, l_4, l_5, l_6, l_7, l_8, l_9, l_10, l_11, l_12, l_13, l_14, l_16, l_20, l_21, l_23, l_24, l_30, l_32, l_40, l_41, l_44, l_48, l_57, l_59, l_60, l_63, l_64, l_80, l_84, l_96, l_97, l_99, l_120, l_122, l_127, l_200, l_240, l_255, l_840, l_999, l_1000, l_1001, l_2400, l_3064, l_9999, l_10000, l_13849, l_16383, l_25173, l_65535, l_65536, l_99999, l_1000000000, neg_nI, pk_mul, nI_add, nI_subL, tn_nI, inb_t, grd_true, bnd_some, elS_l, elS_r, nI_ltI, nI_leI, nI_inj, fa_and, fa_or, m1_eq, eq_m1, m1_lt, m1_le, lt_m1, le_m1, m1_lt0, up2_at, up2_no, ite_true, ite_false, if_true, if_false, Bool.false_eq_true, reduceIte, reduceCtorEq, not_true_eq_false, not_false_eq_true, eq_self, decide_true, decide_false, le_tt, le_ff, lt_tt, lt_ff, eq_ff, and_true, true_and, and_false, false_and, or_true, true_or, or_false, false_or, ne_eq, decide_eq_true_eq, decide_eq_false_iff_not, Bool.not_true, Bool.not_false, Bool.and_true, Bool.true_and, Bool.and_false, Bool.false_and, gs_at, gs_no, oI_n, oI_s, h4]
  obtain ⟨r, r1, r2⟩ := hlp
  refine ⟨r, ?_, r2⟩
  unfold Rp_waitingFor
  rw [show (0 : Int64) = lN 0 from rfl, l_0, r1]
  rfl
/-- what the class holds while moves are done -/
def PLN (M : Mm) (g gT gn : Nat → Nat) (lf pk : Nat → Bool) (dn : Nat) : Prop := SV M 54 gn ∧ SV M 73 gT ∧ LB (M.2 72 3) lf ∧ (∀ d, d < g 7 → LB (M.2 91 d) (fun b => lf d && (decide (b < g 7) && clB gn gT d b))) ∧ M.1 72 7 = nI dn ∧ LB (M.2 72 4) pk
theorem lay_cl (hg : GV g) (hu : u < 4) (hS : SV M 18 g) (hA : CA M g) (hn : 100 < n) : (laF g u (g 7) = none ∧ ∃ M', Rp_lay n 18 (nI u) M = some (false, M') ∧ SV M' 18 g ∧ CA M' g ∧ Fr PC M M') ∨ ∃ gT, laF g u (g 7) = some gT ∧ ∃ M', Rp_lay n 18 (nI u) M = some (true, M') ∧ SV M' 18 g ∧ CA M' g ∧ PLN M' g gT g (fun d => decide (d < g 7) && mvB g gT d) (fun _ => false) 0 ∧ Fr PC M M' := by
  have h40 := hg.2.2
  obtain ⟨M1, M2, M3, M4, a1, a2, a3, a4, s54, s73, s18, hA4⟩ := lay_0 (n := n) hg hS hA hn
  have f5 : Fr (fun c _ => c = 72) M4 (M4.1, up2 M4.2 72 3 (lN 0)) := Fr.L Fr.rf rfl
  have hlp : ∃ y, loop (fun s1 : Int32 × Mm => Rp_lay_b59 n (nI u) s1.1 s1.2) n (nI 0, (M4.1, up2 M4.2 72 3 (lN 0))) = some y ∧ ((laF g u (g 7) = none ∧ ∃ M', y = .inr (false, M') ∧ SV M' 18 g ∧ CA M' g) ∨ ∃ gT M', laF g u (g 7) = some gT ∧ y = .inl M' ∧ LAYc M' g gT (g 7)) := by
    refine loop_I0 (fun i (st : Int32 × Mm) => st.1 = nI i ∧ ∃ gT, laF g u i = some gT ∧ LAYc st.2 g gT i) _ (g 7) ⟨rfl, _, rfl, s18.fr f5 (fun k j hk => by omega), s54.fr f5 (fun k j hk => by omega), s73.fr f5 (fun k j hk => by omega), hA4.fr f5 (fun j => by omega), ?_⟩ (by omega) ?_ ?_
    · show LB (up2 M4.2 72 3 (lN 0) 72 3) _
      rw [up2_at]
      exact ⟨0, rfl, by decide, fun b => by simp⟩
    · rintro i ⟨s1, N1⟩ hi ⟨e1, gT, e2, e3⟩
      simp only at e1 e2 e3
      subst e1
      rcases lay_b (n := n) hg hu hi e2 e3 hn with ⟨gT', M', q1, q2, q3⟩ | ⟨q1, M', q2, q3, q4⟩
      · exact .inl ⟨_, q2, rfl, gT', q1, q3⟩
      · refine .inr ⟨_, q2, .inl ⟨?_, M', rfl, q3, q4⟩⟩
        have := la_none (k := g 7 - (i + 1)) q1
        rw [show i + 1 + (g 7 - (i + 1)) = g 7 by omega] at this
        exact this
    · rintro ⟨s1, N1⟩ ⟨e1, gT, e2, e3⟩
      simp only at e1 e2 e3
      subst e1
      refine ⟨.inl N1, ?_, .inr ⟨gT, N1, e2, rfl, e3⟩⟩
      show Rp_lay_b59 n (nI u) (nI (g 7)) N1 = _
      unfold Rp_lay_b59
      simp (disch := omega) only [l_0, l_1, l_2, l_3, l_4, l_5, l_6, l_7, l_8, l_9, l_10, l_11, l_12, l_13, l_14, l_16, l_20, l_21, l_23, l_24, l_30, l_32, l_40, l_41, l_44, l_48, l_57, l_59, l_60, l_63, l_64, l_80, l_84, l_96, l_97, l_99, l_120, l_122, l_127, l_200, l_240, l_255, l_840, l_999, l_1000, l_1001, l_2400, l_3064, l_9999, l_10000, l_13849, l_16383, l_25173, l_65535, l_65536, l_99999, l_1000000000, neg_nI, pk_mul, nI_add, nI_subL, tn_nI, inb_t, grd_true, bnd_some, elS_l, elS_r, nI_ltI, nI_leI, nI_inj, fa_and, fa_or, m1_eq, eq_m1, m1_lt, m1_le, lt_m1, le_m1, m1_lt0, up2_at, up2_no, ite_true, ite_false, if_true, if_false, Bool.false_eq_true, reduceIte, reduceCtorEq, not_true_eq_false, not_false_eq_true, eq_self, decide_true, decide_false, le_tt, le_ff, lt_tt, lt_ff, eq_ff, and_true, true_and, and_false, false_and, or_true, true_or, or_false, false_or, ne_eq, decide_eq_true_eq, decide_eq_false_iff_not, Bool.not_true, Bool.not_false, Bool.and_true, Bool.true_and, Bool.and_false, Bool.false_and, gs_at, gs_no, oI_n, oI_s, show N1.1 54 4 = nI (g 7) from e3.2.1.2.1]
  obtain ⟨y, l1, l2⟩ := hlp
  have hrun0 : Rp_lay n 18 (nI u) M = elS y (fun x25 => bnd (loop (fun s1 : Int32 × Mm => Rp_lay_b160 n s1.1 s1.2) n (0, ((up2 x25.1 72 7 0), (up2 x25.2 72 4 (0 : Int64))))) (fun y32 => some (true, y32))) (fun e26 => some e26) := by
    unfold Rp_lay
    rw [a1, bnd_some, a2, bnd_some, a3, bnd_some, l_0, a4, bnd_some, show (0 : Int64) = lN 0 from rfl, l1]
    rfl
  rcases l2 with ⟨q1, M', q2, q3, q4⟩ | ⟨gT, M5, q1, q2, q3⟩
  · left
    have hrun : Rp_lay n 18 (nI u) M = some (false, M') := by rw [hrun0, q2]; rfl
    have hfr := fr_Rp_lay hrun
    exact ⟨q1, M', hrun, q3, q4, hfr.mono (fun c j q => by unfold fp_Rp_lay at q; unfold PC; omega)⟩
  · right
    obtain ⟨t18, t54, t73, tA, tL⟩ := q3
    have hT := la_LT hg (g 7) (Nat.le_refl _) gT q1
    obtain ⟨M6, hM6⟩ : ∃ M6 : Mm, M6 = (up2 M5.1 72 7 (nI 0), up2 M5.2 72 4 (lN 0)) := ⟨_, rfl⟩
    have f6 : Fr (fun c j => c = 72 ∧ (j = 7 ∨ j = 4)) M5 M6 := by
      rw [hM6]
      exact Fr.L (Fr.I Fr.rf ⟨rfl, .inl rfl⟩) ⟨rfl, .inr rfl⟩
    have k54 : SV M6 54 g := t54.fr f6 (fun k j hk => by omega)
    have k73 : SV M6 73 gT := t73.fr f6 (fun k j hk => by omega)
    have kL : LB (M6.2 72 3) (fun d => decide (d < g 7) && mvB g gT d) := by rw [(f6 72 3 (by omega)).2]; exact tL
    have hlp2 : ∃ r, loop (fun s1 : Int32 × Mm => Rp_lay_b160 n s1.1 s1.2) n (nI 0, M6) = some r ∧ ((∀ d, d < g 7 → LB (r.2 91 d) (fun b => (decide (d < g 7) && mvB g gT d) && (decide (b < g 7) && clB g gT d b))) ∧ Fr (fun c _ => c = 91) M6 r) := by
      refine loop_I0 (fun i (st : Int32 × Mm) => st.1 = nI i ∧ (∀ d, d < i → LB (st.2.2 91 d) (fun b => (decide (d < g 7) && mvB g gT d) && (decide (b < g 7) && clB g gT d b))) ∧ Fr (fun c _ => c = 91) M6 st.2) _ (g 7) ⟨rfl, fun d hd => by omega, Fr.rf⟩ (by omega) ?_ ?_
      · rintro i ⟨s1, N1⟩ hi ⟨e1, e2, e3⟩
        simp only at e1 e2 e3
        subst e1
        left
        have n54 : SV N1 54 g := k54.fr e3 (fun k j hk => by omega)
        have n73 : SV N1 73 gT := k73.fr e3 (fun k j hk => by omega)
        have nL : LB (N1.2 72 3) (fun d => decide (d < g 7) && mvB g gT d) := by rw [(e3 72 3 (by omega)).2]; exact kL
        have h4 : N1.1 54 4 = nI (g 7) := n54.2.1
        have hbit := LB_bit nL (d := i) (by omega)
        have key : ∀ x, LB x (fun b => (decide (i < g 7) && mvB g gT i) && (decide (b < g 7) && clB g gT i b)) → (fun i (st : Int32 × Mm) => st.1 = nI i ∧ (∀ d, d < i → LB (st.2.2 91 d) (fun b => (decide (d < g 7) && mvB g gT d) && (decide (b < g 7) && clB g gT d b))) ∧ Fr (fun c _ => c = 91) M6 st.2) (i + 1) (nI (i + 1), (N1.1, up2 N1.2 91 i x)) := fun x hx => by
          refine ⟨rfl, fun d hd => ?_, Fr.L e3 rfl⟩
          show LB (up2 N1.2 91 i x 91 d) _
          by_cases c : d = i
          · subst c; rw [up2_at]; exact hx
          · rw [up2_no (by omega)]; exact e2 d (by omega)
        show ∃ s', Rp_lay_b160 n (nI i) N1 = some (.inl s') ∧ _
        cases hm : mvB g gT i with
        | false =>
          refine ⟨(nI (i + 1), (N1.1, up2 N1.2 91 i (0 : Int64))), ?_, key _ ⟨0, rfl, by decide, fun b => by simp [hm]⟩⟩
          unfold Rp_lay_b160 Rp_lay_j198
          simp (disch := omega) only [l_0, l_1, l_2, l_3, l_4, l_5, l_6, l_7, l_8, l_9, l_10, l_11, l_12, l_13, l_14, l_16, l_20, l_21, l_23, l_24, l_30, l_32, l_40, l_41, l_44, l_48, l_57, l_59, l_60, l_63, l_64, l_80, l_84, l_96, l_97, l_99, l_120, l_122, l_127, l_200, l_240, l_255, l_840, l_999, l_1000, l_1001, l_2400, l_3064, l_9999, l_10000, l_13849, l_16383, l_25173, l_65535, l_65536, l_99999, l_1000000000, neg_nI, pk_mul, nI_add, nI_subL, tn_nI, inb_t, grd_true, bnd_some, elS_l, elS_r, nI_ltI, nI_leI, nI_inj, fa_and, fa_or, m1_eq, eq_m1, m1_lt, m1_le, lt_m1, le_m1, m1_lt0, up2_at, up2_no, ite_true, ite_false, if_true, if_false, Bool.false_eq_true, reduceIte, reduceCtorEq, not_true_eq_false, not_false_eq_true, eq_self, decide_true, decide_false, le_tt, le_ff, lt_tt, lt_ff, eq_ff, and_true, true_and, and_false, false_and, or_true, true_or, or_false, false_or, ne_eq, decide_eq_true_eq, decide_eq_false_iff_not, Bool.not_true, Bool.not_false, Bool.and_true, Bool.true_and, Bool.and_false, Bool.false_and, gs_at, gs_no, oI_n, oI_s, h4, hbit, hm]
        | true =>
          have hl : g (64 + 10 * i + 3) = 0 := (of_decide_eq_true hm).1
          obtain ⟨x, x1, x2⟩ := wait_e (n := n) hg hT n54 n73 hi hl hn
          refine ⟨(nI (i + 1), (N1.1, up2 N1.2 91 i x)), ?_, key x (LB_cong x2 (fun b => by rw [hm, decide_eq_true hi]; rfl))⟩
          unfold Rp_lay_b160 Rp_lay_j198
          simp (disch := omega) only [l_0, l_1, l_2, l_3, l_4, l_5, l_6, l_7, l_8, l_9, l_10, l_11, l_12, l_13, l_14, l_16, l_20, l_21, l_23, l_24, l_30, l_32, l_40, l_41, l_44, l_48, l_57, l_59, l_60, l_63, l_64, l_80, l_84, l_96, l_97, l_99, l_120, l_122, l_127, l_200, l_240, l_255, l_840, l_999, l_1000, l_1001, l_2400, l_3064, l_9999, l_10000, l_13849, l_16383, l_25173, l_65535, l_65536, l_99999, l_1000000000, neg_nI, pk_mul, nI_add, nI_subL, tn_nI, inb_t, grd_true, bnd_some, elS_l, elS_r, nI_ltI, nI_leI, nI_inj, fa_and, fa_or, m1_eq, eq_m1, m1_lt, m1_le, lt_m1, le_m1, m1_lt0, up2_at, up2_no, ite_true, ite_false, if_true, if_false, Bool.false_eq_true, reduceIte, reduceCtorEq, not_true_eq_false, not_false_eq_true, eq_self, decide_true, decide_false, le_tt, le_ff, lt_tt, lt_ff, eq_ff, and_true, true_and, and_false, false_and, or_true, true_or, or_false, false_or, ne_eq, decide_eq_true_eq, decide_eq_false_iff_not, Bool.not_true, Bool.not_false, Bool.and_true, Bool.true_and, Bool.and_false, Bool.false_and, gs_at, gs_no, oI_n, oI_s, h4, hbit, hm, x1]
      · rintro ⟨s1, N1⟩ ⟨e1, e2, e3⟩
        simp only at e1 e2 e3
        subst e1
        have h4 : N1.1 54 4 = nI (g 7) := by rw [(e3 54 4 (by omega)).1]; exact k54.2.1
        refine ⟨N1, ?_, e2, e3⟩
        show Rp_lay_b160 n (nI (g 7)) N1 = _
        unfold Rp_lay_b160
        simp (disch := omega) only [l_0, l_1, l_2, l_3, l_4, l_5, l_6, l_7, l_8, l_9, l_10, l_11, l_12, l_13, l_14, l_16, l_20, l_21, l_23, l_24, l_30, l_32, l_40, l_41, l_44, l_48, l_57, l_59, l_60, l_63, l_64, l_80, l_84, l_96, l_97, l_99, l_120, l_122, l_127, l_200, l_240, l_255, l_840, l_999, l_1000, l_1001, l_2400, l_3064, l_9999, l_10000, l_13849, l_16383, l_25173, l_65535, l_65536, l_99999, l_1000000000, neg_nI, pk_mul, nI_add, nI_subL, tn_nI, inb_t, grd_true, bnd_some, elS_l, elS_r, nI_ltI, nI_leI, nI_inj, fa_and, fa_or, m1_eq, eq_m1, m1_lt, m1_le, lt_m1, le_m1, m1_lt0, up2_at, up2_no, ite_true, ite_false, if_true, if_false, Bool.false_eq_true, reduceIte, reduceCtorEq, not_true_eq_false, not_false_eq_true, eq_self, decide_true, decide_false, le_tt, le_ff, lt_tt, lt_ff, eq_ff, and_true, true_and, and_false, false_and, or_true, true_or, or_false, false_or, ne_eq, decide_eq_true_eq, decide_eq_false_iff_not, Bool.not_true, Bool.not_false, Bool.and_true, Bool.true_and, Bool.and_false, Bool.false_and, gs_at, gs_no, oI_n, oI_s, h4]
    obtain ⟨M7, r1, r2, r3⟩ := hlp2
    have hrun : Rp_lay n 18 (nI u) M = some (true, M7) := by
      rw [hrun0, q2, elS_l, l_0, show (0 : Int64) = lN 0 from rfl, ← hM6, r1]
      rfl
    have hfr := fr_Rp_lay hrun
    refine ⟨gT, q1, M7, hrun, (t18.fr f6 (fun k j hk => by omega)).fr r3 (fun k j hk => by omega), (tA.fr f6 (fun j => by omega)).fr r3 (fun j => by omega), ⟨k54.fr r3 (fun k j hk => by omega), k73.fr r3 (fun k j hk => by omega), ?_, r2, ?_, ?_⟩, hfr.mono (fun c j q => by unfold fp_Rp_lay at q; unfold PC; omega)⟩
    · rw [(r3 72 3 (by omega)).2]; exact kL
    · rw [(r3 72 7 (by omega)).1, hM6]; show up2 M5.1 72 7 (nI 0) 72 7 = _; exact up2_at
    · rw [(r3 72 4 (by omega)).2, hM6]
      show LB (up2 M5.2 72 4 (lN 0) 72 4) _
      rw [up2_at]
      exact ⟨0, rfl, by decide, fun b => by rw [Nat.zero_testBit]⟩
end
