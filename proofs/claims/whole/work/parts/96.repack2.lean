/-! calls: repack -/
def rpR (g gT : Nat → Nat) (a b : Nat) : Bool := (decide (a < g 7) && mvB g gT a) && (decide (b < g 7) && clB g gT a b)
def rpA (g gT gn : Nat → Nat) (lf : Nat → Bool) (dn w : Nat) : Int32 := if w = 0 then oI (tpF gT 16383 (g 7)) else if w = 1 then nI (fb_ct (mvB g gT) (g 7)) else if w = 2 then nI dn else if w = 3 then nI (fb_ct lf (g 7)) else if w = 4 then oI (tpF gn 16383 (g 7)) else nI (fb_ct (fun d => WW (rpR g gT) (g 7) d d) (g 7))
theorem cl_eq {gn gn' gT : Nat → Nat} {a b : Nat} (h : ∀ w, w < 10 → gn' (64 + 10 * b + w) = gn (64 + 10 * b + w)) (h2 : gn' 2 = gn 2) : clB gn' gT a b = clB gn gT a b := by
  unfold clB agP kfB
  rw [h 3 (by omega), h 4 (by omega), h 5 (by omega), h 6 (by omega), h2]
theorem op_repack {n : Nat} (hn : 1099511627776 < n) (x y : Int32) : T2 (Fg_repack n x y) (Fm_repack n x y) := by
  refine T2.id (fun g hg => ?_)
  have b1 := hg.1.2.1.1
  have h40 := hg.2.2
  by_cases hx : (inb x 4 && rg y 0 5) = true
  · rw [Bool.and_eq_true] at hx
    obtain ⟨u, hu, rfl⟩ := (inb_iff (by decide)).mp hx.1
    obtain ⟨w, _, hw, rfl⟩ := (rg_iff (by decide)).mp hx.2
    cases hla : laF g u (g 7) with
    | none =>
      refine ⟨ng 2, fun M hS hA => ?_, fun M h hF => ?_⟩
      · rcases lay_cl (n := n) hg hu hS hA (by omega) with ⟨q1, M', q2, q3, q4, q5⟩ | ⟨gT, q1, _⟩
        · refine ⟨M', ?_, q3, q4, q5⟩
          unfold Fg_repack
          rw [Fg_isRule_e, hx.1]
          simp (disch := omega) only [l_0, l_1, l_2, l_3, l_4, l_5, l_6, l_7, l_8, l_9, l_10, l_11, l_12, l_13, l_14, l_16, l_20, l_21, l_23, l_24, l_30, l_32, l_40, l_41, l_44, l_48, l_57, l_59, l_60, l_63, l_64, l_80, l_84, l_96, l_97, l_99, l_120, l_122, l_127, l_200, l_240, l_255, l_840, l_999, l_1000, l_1001, l_2400, l_3064, l_9999, l_10000, l_13849, l_16383, l_25173, l_65535, l_65536, l_99999, l_1000000000, neg_nI, pk_mul, nI_add, nI_subL, tn_nI, inb_t, grd_true, bnd_some, elS_l, elS_r, nI_ltI, nI_leI, nI_inj, fa_and, fa_or, m1_eq, eq_m1, m1_lt, m1_le, lt_m1, le_m1, m1_lt0, up2_at, up2_no, ite_true, ite_false, if_true, if_false, Bool.false_eq_true, reduceIte, reduceCtorEq, not_true_eq_false, not_false_eq_true, eq_self, decide_true, decide_false, le_tt, le_ff, lt_tt, lt_ff, eq_ff, and_true, true_and, and_false, false_and, or_true, true_or, or_false, false_or, ne_eq, decide_eq_true_eq, decide_eq_false_iff_not, Bool.not_true, Bool.not_false, Bool.and_true, Bool.true_and, Bool.and_false, Bool.false_and, gs_at, gs_no, oI_n, oI_s, q2]
        · rw [hla] at q1; cases q1
      · rcases aims_m (n := n) hg hu hF hn with ⟨q1, M', h', q2, q3, q4, q5⟩ | ⟨gT, q1, _⟩
        · refine ⟨M', h', ?_, q3, q4, q5⟩
          unfold Fm_repack
          rw [Fm_isRule_e, hx.1, l_0, l_5, Fm_in_x (by decide) (by decide), hx.2]
          simp (disch := omega) only [l_0, l_1, l_2, l_3, l_4, l_5, l_6, l_7, l_8, l_9, l_10, l_11, l_12, l_13, l_14, l_16, l_20, l_21, l_23, l_24, l_30, l_32, l_40, l_41, l_44, l_48, l_57, l_59, l_60, l_63, l_64, l_80, l_84, l_96, l_97, l_99, l_120, l_122, l_127, l_200, l_240, l_255, l_840, l_999, l_1000, l_1001, l_2400, l_3064, l_9999, l_10000, l_13849, l_16383, l_25173, l_65535, l_65536, l_99999, l_1000000000, neg_nI, pk_mul, nI_add, nI_subL, tn_nI, inb_t, grd_true, bnd_some, elS_l, elS_r, nI_ltI, nI_leI, nI_inj, fa_and, fa_or, m1_eq, eq_m1, m1_lt, m1_le, lt_m1, le_m1, m1_lt0, up2_at, up2_no, ite_true, ite_false, if_true, if_false, Bool.false_eq_true, reduceIte, reduceCtorEq, not_true_eq_false, not_false_eq_true, eq_self, decide_true, decide_false, le_tt, le_ff, lt_tt, lt_ff, eq_ff, and_true, true_and, and_false, false_and, or_true, true_or, or_false, false_or, ne_eq, decide_eq_true_eq, decide_eq_false_iff_not, Bool.not_true, Bool.not_false, Bool.and_true, Bool.true_and, Bool.and_false, Bool.false_and, gs_at, gs_no, oI_n, oI_s, q2]
        · rw [hla] at q1; cases q1
    | some gT =>
      have hT := la_LT hg (g 7) (Nat.le_refl _) gT hla
      have t7 : gT 7 = g 7 := hT.2.1 7 (by omega)
      obtain ⟨gn', lf', dn', L, r1, r2, r3, r5, r6, r7, r8⟩ := carry (n := n) hT (PV_0 (gT := gT) hg) (by omega)
      have e7 : gn' 7 = g 7 := r1.2.1 7 (by omega)
      have hsum := r1.2.2.2.2.1
      have hmle := fb_ct_le (mvB g gT) (g 7)
      refine ⟨rpA g gT gn' lf' dn' w, fun M hS hA => ?_, fun M h hF => ?_⟩
      · rcases lay_cl (n := n) hg hu hS hA (by omega) with ⟨q1, _⟩ | ⟨gT', q1, M1, q2, q3, q4, q5, q6⟩
        · rw [hla] at q1; cases q1
        · rw [hla] at q1
          cases q1
          obtain ⟨M2, a1, a2, a3, a4, a5⟩ := r7 M1 q5
          have w2 : SV M2 18 g := q3.fr a5 (fun k j hk => by unfold fp_Rp_carryOut; omega)
          have w3 : CA M2 g := q4.fr a5 (fun j => by unfold fp_Rp_carryOut; omega)
          have w4 : Fr PC M M2 := q6.tr (a5.mono (fun c j q => by unfold fp_Rp_carryOut at q; unfold PC; omega))
          by_cases w0 : w = 0
          · refine ⟨M1, ?_, q3, q4, q6⟩
            have ht := St_top_e (n := n) (s := 73) hT.1.2.1 hT.1.2.2.2.1 q5.2.1.1.1 q5.2.1.2.2.2 (by omega)
            rw [t7] at ht
            unfold Fg_repack rpA
            rw [Fg_isRule_e, hx.1]
            simp (disch := omega) only [l_0, l_1, l_2, l_3, l_4, l_5, l_6, l_7, l_8, l_9, l_10, l_11, l_12, l_13, l_14, l_16, l_20, l_21, l_23, l_24, l_30, l_32, l_40, l_41, l_44, l_48, l_57, l_59, l_60, l_63, l_64, l_80, l_84, l_96, l_97, l_99, l_120, l_122, l_127, l_200, l_240, l_255, l_840, l_999, l_1000, l_1001, l_2400, l_3064, l_9999, l_10000, l_13849, l_16383, l_25173, l_65535, l_65536, l_99999, l_1000000000, neg_nI, pk_mul, nI_add, nI_subL, tn_nI, inb_t, grd_true, bnd_some, elS_l, elS_r, nI_ltI, nI_leI, nI_inj, fa_and, fa_or, m1_eq, eq_m1, m1_lt, m1_le, lt_m1, le_m1, m1_lt0, up2_at, up2_no, ite_true, ite_false, if_true, if_false, Bool.false_eq_true, reduceIte, reduceCtorEq, not_true_eq_false, not_false_eq_true, eq_self, decide_true, decide_false, le_tt, le_ff, lt_tt, lt_ff, eq_ff, and_true, true_and, and_false, false_and, or_true, true_or, or_false, false_or, ne_eq, decide_eq_true_eq, decide_eq_false_iff_not, Bool.not_true, Bool.not_false, Bool.and_true, Bool.true_and, Bool.and_false, Bool.false_and, gs_at, gs_no, oI_n, oI_s, q2, w0, ht]
          · by_cases w1 : w = 1
            · refine ⟨M1, ?_, q3, q4, q6⟩
              have hc := LB_ct (M := M1) (N := g 7) q5.2.2.1 (by omega) (fun b hb' => by rw [decide_eq_false (by omega), Bool.false_and])
              rw [fb_ct_cong (q := mvB g gT) (fun b hb' => by rw [decide_eq_true hb', Bool.true_and])] at hc
              unfold Fg_repack rpA
              rw [Fg_isRule_e, hx.1]
              simp (disch := omega) only [l_0, l_1, l_2, l_3, l_4, l_5, l_6, l_7, l_8, l_9, l_10, l_11, l_12, l_13, l_14, l_16, l_20, l_21, l_23, l_24, l_30, l_32, l_40, l_41, l_44, l_48, l_57, l_59, l_60, l_63, l_64, l_80, l_84, l_96, l_97, l_99, l_120, l_122, l_127, l_200, l_240, l_255, l_840, l_999, l_1000, l_1001, l_2400, l_3064, l_9999, l_10000, l_13849, l_16383, l_25173, l_65535, l_65536, l_99999, l_1000000000, neg_nI, pk_mul, nI_add, nI_subL, tn_nI, inb_t, grd_true, bnd_some, elS_l, elS_r, nI_ltI, nI_leI, nI_inj, fa_and, fa_or, m1_eq, eq_m1, m1_lt, m1_le, lt_m1, le_m1, m1_lt0, up2_at, up2_no, ite_true, ite_false, if_true, if_false, Bool.false_eq_true, reduceIte, reduceCtorEq, not_true_eq_false, not_false_eq_true, eq_self, decide_true, decide_false, le_tt, le_ff, lt_tt, lt_ff, eq_ff, and_true, true_and, and_false, false_and, or_true, true_or, or_false, false_or, ne_eq, decide_eq_true_eq, decide_eq_false_iff_not, Bool.not_true, Bool.not_false, Bool.and_true, Bool.true_and, Bool.and_false, Bool.false_and, gs_at, gs_no, oI_n, oI_s, q2, w1, hc]
            · by_cases w5 : w = 5
              · obtain ⟨M3, d1, d2⟩ := going_c (n := n) (N := g 7) (R := rpR g gT) (M := M1) (by omega) q5.1.2.1 (fun d hd => q5.2.2.2.1 d hd) (by omega)
                refine ⟨M3, ?_, q3.fr d2 (fun k j hk => by unfold fp_Rp_goingRound; omega), q4.fr d2 (fun j => by unfold fp_Rp_goingRound; omega), q6.tr (d2.mono (fun c j q => by unfold fp_Rp_goingRound at q; unfold PC; omega))⟩
                unfold Fg_repack rpA
                rw [Fg_isRule_e, hx.1]
                simp (disch := omega) only [l_0, l_1, l_2, l_3, l_4, l_5, l_6, l_7, l_8, l_9, l_10, l_11, l_12, l_13, l_14, l_16, l_20, l_21, l_23, l_24, l_30, l_32, l_40, l_41, l_44, l_48, l_57, l_59, l_60, l_63, l_64, l_80, l_84, l_96, l_97, l_99, l_120, l_122, l_127, l_200, l_240, l_255, l_840, l_999, l_1000, l_1001, l_2400, l_3064, l_9999, l_10000, l_13849, l_16383, l_25173, l_65535, l_65536, l_99999, l_1000000000, neg_nI, pk_mul, nI_add, nI_subL, tn_nI, inb_t, grd_true, bnd_some, elS_l, elS_r, nI_ltI, nI_leI, nI_inj, fa_and, fa_or, m1_eq, eq_m1, m1_lt, m1_le, lt_m1, le_m1, m1_lt0, up2_at, up2_no, ite_true, ite_false, if_true, if_false, Bool.false_eq_true, reduceIte, reduceCtorEq, not_true_eq_false, not_false_eq_true, eq_self, decide_true, decide_false, le_tt, le_ff, lt_tt, lt_ff, eq_ff, and_true, true_and, and_false, false_and, or_true, true_or, or_false, false_or, ne_eq, decide_eq_true_eq, decide_eq_false_iff_not, Bool.not_true, Bool.not_false, Bool.and_true, Bool.true_and, Bool.and_false, Bool.false_and, gs_at, gs_no, oI_n, oI_s, q2, w5, d1]
              · refine ⟨M2, ?_, w2, w3, w4⟩
                have h77 : M2.1 72 7 = nI dn' := a2.2.2.2.2.1
                by_cases w22 : w = 2
                · unfold Fg_repack rpA
                  rw [Fg_isRule_e, hx.1]
                  simp (disch := omega) only [l_0, l_1, l_2, l_3, l_4, l_5, l_6, l_7, l_8, l_9, l_10, l_11, l_12, l_13, l_14, l_16, l_20, l_21, l_23, l_24, l_30, l_32, l_40, l_41, l_44, l_48, l_57, l_59, l_60, l_63, l_64, l_80, l_84, l_96, l_97, l_99, l_120, l_122, l_127, l_200, l_240, l_255, l_840, l_999, l_1000, l_1001, l_2400, l_3064, l_9999, l_10000, l_13849, l_16383, l_25173, l_65535, l_65536, l_99999, l_1000000000, neg_nI, pk_mul, nI_add, nI_subL, tn_nI, inb_t, grd_true, bnd_some, elS_l, elS_r, nI_ltI, nI_leI, nI_inj, fa_and, fa_or, m1_eq, eq_m1, m1_lt, m1_le, lt_m1, le_m1, m1_lt0, up2_at, up2_no, ite_true, ite_false, if_true, if_false, Bool.false_eq_true, reduceIte, reduceCtorEq, not_true_eq_false, not_false_eq_true, eq_self, decide_true, decide_false, le_tt, le_ff, lt_tt, lt_ff, eq_ff, and_true, true_and, and_false, false_and, or_true, true_or, or_false, false_or, ne_eq, decide_eq_true_eq, decide_eq_false_iff_not, Bool.not_true, Bool.not_false, Bool.and_true, Bool.true_and, Bool.and_false, Bool.false_and, gs_at, gs_no, oI_n, oI_s, q2, w22, a1, h77]
                · by_cases w33 : w = 3
                  · have hc := LB_ct (M := M2) (N := g 7) a2.2.2.1 (by omega) (fun b hb' => by
                      cases hl : lf' b with
                      | false => rfl
                      | true => have := (r1.2.2.2.1 b hl).1; omega)
                    unfold Fg_repack rpA
                    rw [Fg_isRule_e, hx.1]
                    simp (disch := omega) only [l_0, l_1, l_2, l_3, l_4, l_5, l_6, l_7, l_8, l_9, l_10, l_11, l_12, l_13, l_14, l_16, l_20, l_21, l_23, l_24, l_30, l_32, l_40, l_41, l_44, l_48, l_57, l_59, l_60, l_63, l_64, l_80, l_84, l_96, l_97, l_99, l_120, l_122, l_127, l_200, l_240, l_255, l_840, l_999, l_1000, l_1001, l_2400, l_3064, l_9999, l_10000, l_13849, l_16383, l_25173, l_65535, l_65536, l_99999, l_1000000000, neg_nI, pk_mul, nI_add, nI_subL, tn_nI, inb_t, grd_true, bnd_some, elS_l, elS_r, nI_ltI, nI_leI, nI_inj, fa_and, fa_or, m1_eq, eq_m1, m1_lt, m1_le, lt_m1, le_m1, m1_lt0, up2_at, up2_no, ite_true, ite_false, if_true, if_false, Bool.false_eq_true, reduceIte, reduceCtorEq, not_true_eq_false, not_false_eq_true, eq_self, decide_true, decide_false, le_tt, le_ff, lt_tt, lt_ff, eq_ff, and_true, true_and, and_false, false_and, or_true, true_or, or_false, false_or, ne_eq, decide_eq_true_eq, decide_eq_false_iff_not, Bool.not_true, Bool.not_false, Bool.and_true, Bool.true_and, Bool.and_false, Bool.false_and, gs_at, gs_no, oI_n, oI_s, q2, w33, a1, hc]
                  · have w44 : w = 4 := by omega
                    have ht := St_top_e (n := n) (s := 54) r1.1.1.2.1 r1.1.1.2.2.2.1 a2.1.1.1 a2.1.2.2.2 (by omega)
                    rw [e7] at ht
                    unfold Fg_repack rpA
                    rw [Fg_isRule_e, hx.1]
                    simp (disch := omega) only [l_0, l_1, l_2, l_3, l_4, l_5, l_6, l_7, l_8, l_9, l_10, l_11, l_12, l_13, l_14, l_16, l_20, l_21, l_23, l_24, l_30, l_32, l_40, l_41, l_44, l_48, l_57, l_59, l_60, l_63, l_64, l_80, l_84, l_96, l_97, l_99, l_120, l_122, l_127, l_200, l_240, l_255, l_840, l_999, l_1000, l_1001, l_2400, l_3064, l_9999, l_10000, l_13849, l_16383, l_25173, l_65535, l_65536, l_99999, l_1000000000, neg_nI, pk_mul, nI_add, nI_subL, tn_nI, inb_t, grd_true, bnd_some, elS_l, elS_r, nI_ltI, nI_leI, nI_inj, fa_and, fa_or, m1_eq, eq_m1, m1_lt, m1_le, lt_m1, le_m1, m1_lt0, up2_at, up2_no, ite_true, ite_false, if_true, if_false, Bool.false_eq_true, reduceIte, reduceCtorEq, not_true_eq_false, not_false_eq_true, eq_self, decide_true, decide_false, le_tt, le_ff, lt_tt, lt_ff, eq_ff, and_true, true_and, and_false, false_and, or_true, true_or, or_false, false_or, ne_eq, decide_eq_true_eq, decide_eq_false_iff_not, Bool.not_true, Bool.not_false, Bool.and_true, Bool.true_and, Bool.and_false, Bool.false_and, gs_at, gs_no, oI_n, oI_s, q2, w44, a1, ht]
      · rcases aims_m (n := n) hg hu hF hn with ⟨q1, _⟩ | ⟨gT', q1, M1, h', q2, q3, q4, q5, q6, q7⟩
        · rw [hla] at q1; cases q1
        · rw [hla] at q1
          cases q1
          obtain ⟨M2, h2, c1, c2, c3, c4, c5⟩ := q3.out (b := 3) (n := n) (by omega) (by omega) (by omega)
          obtain ⟨M3, a1, a2, a3, a4, a5, a6⟩ := r8 M2 h2 c2 (q5.fr c5 (fun c j hc => by omega) (by omega))
          have h7 : M3.1 95 7 = nI (g 7) := by rw [a2.lo (by omega), e7]
          have htop := Fm_top_e (n := n) r1.1.1.1 r1.1.1.2.1 r1.1.1.2.2.2.1 a2 (by omega)
          rw [e7] at htop
          obtain ⟨M4, d1, d2⟩ := rounds_m (n := n) (M := M3) (lf := lf') (cl := clB gn' gT) h40 h7 (fun M' d hf hd => left_m r1 h40 (a3.fr hf (fun c j hc => by omega) (by omega)) hd) (fun M' a b hf ha hb hl => wf_m r1 hT (a2.fr hf (fun j => by omega)) (a3.fr hf (fun c j hc => by omega) (by omega)) ha hb (of_decide_eq_true (r1.2.2.2.1 a hl).2).1) (by omega)
          have hR : fb_ct (fun d => WW (fun a b => lf' a && (lf' b && clB gn' gT a b)) (g 7) d d) (g 7) = fb_ct (fun d => WW (rpR g gT) (g 7) d d) (g 7) := fb_ct_cong (fun d hd => by
            have e2 : gn' 2 = g 2 := r1.2.1 2 (by omega)
            refine (ww_dia (lf' := lf') (fun a b q => ?_) (fun a b q qa qb => ?_) (fun C hC => ?_) hd).symm
            · rw [Bool.and_eq_true, Bool.and_eq_true] at q
              obtain ⟨y1, y2, y3⟩ := q
              rw [cl_eq (r5 b y2).2 e2] at y3
              have y4 := (r5 a y1).1
              unfold rpR
              rw [y4, y3, decide_eq_true (r1.2.2.2.1 b y2).1]
              rfl
            · unfold rpR at q
              rw [Bool.and_eq_true] at q
              have q2 := q.2
              rw [Bool.and_eq_true] at q2
              rw [qa, qb, cl_eq (r5 b qb).2 e2, q2.2]
              rfl
            · refine r6 C (fun x hx => ?_)
              obtain ⟨y, y1, y2, y3⟩ := hC x hx
              unfold rpR at y3
              rw [Bool.and_eq_true] at y3
              have y4 := y3.2
              rw [Bool.and_eq_true] at y4
              exact ⟨y3.1, y, y1, y2, y4.2⟩)
          rw [hR] at d1
          clear hR
          obtain ⟨M5, e1, e2, e3⟩ := (a2.fr d2 (fun j => by unfold fp_Fm_rounds; omega)).back (b := 3) (n := n) (g' := g) (by omega) (by omega) c3 (by omega)
          refine ⟨M5, h2, ?_, e2, fun j hj => (c4 _ (by omega) (by omega)).trans (q4 j hj), (((q7.tr (c5.mono (fun c j q => .inl q))).tr (a6.mono (fun c j q => by unfold fp_Fm_plans at q; unfold PM; omega))).tr (d2.mono (fun c j q => by unfold fp_Fm_rounds at q; unfold PM; omega))).tr (e3.mono (fun c j q => .inl q))⟩
          have h33 : M5.1 94 33 = nI dn' := by rw [(e3 94 33 (by omega)).1, (d2 94 33 (by unfold fp_Fm_rounds; omega)).1]; exact a3.2.2.2.2.1
          have h32 : M5.1 94 32 = nI (fb_ct (mvB g gT) (g 7)) := by rw [(e3 94 32 (by omega)).1, (d2 94 32 (by unfold fp_Fm_rounds; omega)).1]; exact a3.2.2.2.2.2.2
          have h31 : M5.1 94 31 = oI (tpF gT 16383 (g 7)) := by rw [(e3 94 31 (by omega)).1, (d2 94 31 (by unfold fp_Fm_rounds; omega)).1, (a6 94 31 (by unfold fp_Fm_plans; omega)).1, (c5 94 31 (by omega)).1]; exact q6
          have hsub : nI (fb_ct (mvB g gT) (g 7)) - nI dn' = nI (fb_ct lf' (g 7)) := by
            rw [nI_subL (by omega)]
            congr 1
            omega
          unfold Fm_repack rpA
          rw [Fm_isRule_e, hx.1, l_0, l_5, Fm_in_x (by decide) (by decide), hx.2]
          by_cases w0 : w = 0
          · simp (disch := omega) only [l_0, l_1, l_2, l_3, l_4, l_5, l_6, l_7, l_8, l_9, l_10, l_11, l_12, l_13, l_14, l_16, l_20, l_21, l_23, l_24, l_30, l_32, l_40, l_41, l_44, l_48, l_57, l_59, l_60, l_63, l_64, l_80, l_84, l_96, l_97, l_99, l_120, l_122, l_127, l_200, l_240, l_255, l_840, l_999, l_1000, l_1001, l_2400, l_3064, l_9999, l_10000, l_13849, l_16383, l_25173, l_65535, l_65536, l_99999, l_1000000000, neg_nI, pk_mul, nI_add, nI_subL, tn_nI, inb_t, grd_true, bnd_some, elS_l, elS_r, nI_ltI, nI_leI, nI_inj, fa_and, fa_or, m1_eq, eq_m1, m1_lt, m1_le, lt_m1, le_m1, m1_lt0, up2_at, up2_no, ite_true, ite_false, if_true, if_false, Bool.false_eq_true, reduceIte, reduceCtorEq, not_true_eq_false, not_false_eq_true, eq_self, decide_true, decide_false, le_tt, le_ff, lt_tt, lt_ff, eq_ff, and_true, true_and, and_false, false_and, or_true, true_or, or_false, false_or, ne_eq, decide_eq_true_eq, decide_eq_false_iff_not, Bool.not_true, Bool.not_false, Bool.and_true, Bool.true_and, Bool.and_false, Bool.false_and, gs_at, gs_no, oI_n, oI_s, q2, c1, a1, htop, d1, e1, w0, h31]
          · by_cases w1 : w = 1
            · simp (disch := omega) only [l_0, l_1, l_2, l_3, l_4, l_5, l_6, l_7, l_8, l_9, l_10, l_11, l_12, l_13, l_14, l_16, l_20, l_21, l_23, l_24, l_30, l_32, l_40, l_41, l_44, l_48, l_57, l_59, l_60, l_63, l_64, l_80, l_84, l_96, l_97, l_99, l_120, l_122, l_127, l_200, l_240, l_255, l_840, l_999, l_1000, l_1001, l_2400, l_3064, l_9999, l_10000, l_13849, l_16383, l_25173, l_65535, l_65536, l_99999, l_1000000000, neg_nI, pk_mul, nI_add, nI_subL, tn_nI, inb_t, grd_true, bnd_some, elS_l, elS_r, nI_ltI, nI_leI, nI_inj, fa_and, fa_or, m1_eq, eq_m1, m1_lt, m1_le, lt_m1, le_m1, m1_lt0, up2_at, up2_no, ite_true, ite_false, if_true, if_false, Bool.false_eq_true, reduceIte, reduceCtorEq, not_true_eq_false, not_false_eq_true, eq_self, decide_true, decide_false, le_tt, le_ff, lt_tt, lt_ff, eq_ff, and_true, true_and, and_false, false_and, or_true, true_or, or_false, false_or, ne_eq, decide_eq_true_eq, decide_eq_false_iff_not, Bool.not_true, Bool.not_false, Bool.and_true, Bool.true_and, Bool.and_false, Bool.false_and, gs_at, gs_no, oI_n, oI_s, q2, c1, a1, htop, d1, e1, w1, h32]
            · by_cases w22 : w = 2
              · simp (disch := omega) only [l_0, l_1, l_2, l_3, l_4, l_5, l_6, l_7, l_8, l_9, l_10, l_11, l_12, l_13, l_14, l_16, l_20, l_21, l_23, l_24, l_30, l_32, l_40, l_41, l_44, l_48, l_57, l_59, l_60, l_63, l_64, l_80, l_84, l_96, l_97, l_99, l_120, l_122, l_127, l_200, l_240, l_255, l_840, l_999, l_1000, l_1001, l_2400, l_3064, l_9999, l_10000, l_13849, l_16383, l_25173, l_65535, l_65536, l_99999, l_1000000000, neg_nI, pk_mul, nI_add, nI_subL, tn_nI, inb_t, grd_true, bnd_some, elS_l, elS_r, nI_ltI, nI_leI, nI_inj, fa_and, fa_or, m1_eq, eq_m1, m1_lt, m1_le, lt_m1, le_m1, m1_lt0, up2_at, up2_no, ite_true, ite_false, if_true, if_false, Bool.false_eq_true, reduceIte, reduceCtorEq, not_true_eq_false, not_false_eq_true, eq_self, decide_true, decide_false, le_tt, le_ff, lt_tt, lt_ff, eq_ff, and_true, true_and, and_false, false_and, or_true, true_or, or_false, false_or, ne_eq, decide_eq_true_eq, decide_eq_false_iff_not, Bool.not_true, Bool.not_false, Bool.and_true, Bool.true_and, Bool.and_false, Bool.false_and, gs_at, gs_no, oI_n, oI_s, q2, c1, a1, htop, d1, e1, w22, h33]
              · by_cases w33 : w = 3
                · simp (disch := omega) only [l_0, l_1, l_2, l_3, l_4, l_5, l_6, l_7, l_8, l_9, l_10, l_11, l_12, l_13, l_14, l_16, l_20, l_21, l_23, l_24, l_30, l_32, l_40, l_41, l_44, l_48, l_57, l_59, l_60, l_63, l_64, l_80, l_84, l_96, l_97, l_99, l_120, l_122, l_127, l_200, l_240, l_255, l_840, l_999, l_1000, l_1001, l_2400, l_3064, l_9999, l_10000, l_13849, l_16383, l_25173, l_65535, l_65536, l_99999, l_1000000000, neg_nI, pk_mul, nI_add, nI_subL, tn_nI, inb_t, grd_true, bnd_some, elS_l, elS_r, nI_ltI, nI_leI, nI_inj, fa_and, fa_or, m1_eq, eq_m1, m1_lt, m1_le, lt_m1, le_m1, m1_lt0, up2_at, up2_no, ite_true, ite_false, if_true, if_false, Bool.false_eq_true, reduceIte, reduceCtorEq, not_true_eq_false, not_false_eq_true, eq_self, decide_true, decide_false, le_tt, le_ff, lt_tt, lt_ff, eq_ff, and_true, true_and, and_false, false_and, or_true, true_or, or_false, false_or, ne_eq, decide_eq_true_eq, decide_eq_false_iff_not, Bool.not_true, Bool.not_false, Bool.and_true, Bool.true_and, Bool.and_false, Bool.false_and, gs_at, gs_no, oI_n, oI_s, q2, c1, a1, htop, d1, e1, w33, h33, h32, hsub]
                · by_cases w44 : w = 4
                  · simp (disch := omega) only [l_0, l_1, l_2, l_3, l_4, l_5, l_6, l_7, l_8, l_9, l_10, l_11, l_12, l_13, l_14, l_16, l_20, l_21, l_23, l_24, l_30, l_32, l_40, l_41, l_44, l_48, l_57, l_59, l_60, l_63, l_64, l_80, l_84, l_96, l_97, l_99, l_120, l_122, l_127, l_200, l_240, l_255, l_840, l_999, l_1000, l_1001, l_2400, l_3064, l_9999, l_10000, l_13849, l_16383, l_25173, l_65535, l_65536, l_99999, l_1000000000, neg_nI, pk_mul, nI_add, nI_subL, tn_nI, inb_t, grd_true, bnd_some, elS_l, elS_r, nI_ltI, nI_leI, nI_inj, fa_and, fa_or, m1_eq, eq_m1, m1_lt, m1_le, lt_m1, le_m1, m1_lt0, up2_at, up2_no, ite_true, ite_false, if_true, if_false, Bool.false_eq_true, reduceIte, reduceCtorEq, not_true_eq_false, not_false_eq_true, eq_self, decide_true, decide_false, le_tt, le_ff, lt_tt, lt_ff, eq_ff, and_true, true_and, and_false, false_and, or_true, true_or, or_false, false_or, ne_eq, decide_eq_true_eq, decide_eq_false_iff_not, Bool.not_true, Bool.not_false, Bool.and_true, Bool.true_and, Bool.and_false, Bool.false_and, gs_at, gs_no, oI_n, oI_s, q2, c1, a1, htop, d1, e1, w44]
                  · have w55 : w = 5 := by omega
                    simp (disch := omega) only [l_0, l_1, l_2, l_3, l_4, l_5, l_6, l_7, l_8, l_9, l_10, l_11, l_12, l_13, l_14, l_16, l_20, l_21, l_23, l_24, l_30, l_32, l_40, l_41, l_44, l_48, l_57, l_59, l_60, l_63, l_64, l_80, l_84, l_96, l_97, l_99, l_120, l_122, l_127, l_200, l_240, l_255, l_840, l_999, l_1000, l_1001, l_2400, l_3064, l_9999, l_10000, l_13849, l_16383, l_25173, l_65535, l_65536, l_99999, l_1000000000, neg_nI, pk_mul, nI_add, nI_subL, tn_nI, inb_t, grd_true, bnd_some, elS_l, elS_r, nI_ltI, nI_leI, nI_inj, fa_and, fa_or, m1_eq, eq_m1, m1_lt, m1_le, lt_m1, le_m1, m1_lt0, up2_at, up2_no, ite_true, ite_false, if_true, if_false, Bool.false_eq_true, reduceIte, reduceCtorEq, not_true_eq_false, not_false_eq_true, eq_self, decide_true, decide_false, le_tt, le_ff, lt_tt, lt_ff, eq_ff, and_true, true_and, and_false, false_and, or_true, true_or, or_false, false_or, ne_eq, decide_eq_true_eq, decide_eq_false_iff_not, Bool.not_true, Bool.not_false, Bool.and_true, Bool.true_and, Bool.and_false, Bool.false_and, gs_at, gs_no, oI_n, oI_s, q2, c1, a1, htop, d1, e1, w55]
  · have hx' := ts_nt hx
    refine ⟨ng 1, fun M hS hA => TC.id hS hA ?_, fun M h hF => TM.id hF ?_⟩
    · unfold Fg_repack
      rw [Fg_isRule_e, bnd_some]
      cases hp : inb x 4 with
      | false => rfl
      | true =>
        rw [hp, Bool.true_and] at hx'
        rcases i32c y with ⟨w, hw, rfl⟩ | hz
        · rw [rg_n hw] at hx'
          have := of_decide_eq_false hx'
          have : 5 < w := by omega
          simp (disch := omega) only [l_0, l_1, l_2, l_3, l_4, l_5, l_6, l_7, l_8, l_9, l_10, l_11, l_12, l_13, l_14, l_16, l_20, l_21, l_23, l_24, l_30, l_32, l_40, l_41, l_44, l_48, l_57, l_59, l_60, l_63, l_64, l_80, l_84, l_96, l_97, l_99, l_120, l_122, l_127, l_200, l_240, l_255, l_840, l_999, l_1000, l_1001, l_2400, l_3064, l_9999, l_10000, l_13849, l_16383, l_25173, l_65535, l_65536, l_99999, l_1000000000, neg_nI, pk_mul, nI_add, nI_subL, tn_nI, inb_t, grd_true, bnd_some, elS_l, elS_r, nI_ltI, nI_leI, nI_inj, fa_and, fa_or, m1_eq, eq_m1, m1_lt, m1_le, lt_m1, le_m1, m1_lt0, up2_at, up2_no, ite_true, ite_false, if_true, if_false, Bool.false_eq_true, reduceIte, reduceCtorEq, not_true_eq_false, not_false_eq_true, eq_self, decide_true, decide_false, le_tt, le_ff, lt_tt, lt_ff, eq_ff, and_true, true_and, and_false, false_and, or_true, true_or, or_false, false_or, ne_eq, decide_eq_true_eq, decide_eq_false_iff_not, Bool.not_true, Bool.not_false, Bool.and_true, Bool.true_and, Bool.and_false, Bool.false_and, gs_at, gs_no, oI_n, oI_s]
        · simp (disch := omega) only [l_0, l_1, l_2, l_3, l_4, l_5, l_6, l_7, l_8, l_9, l_10, l_11, l_12, l_13, l_14, l_16, l_20, l_21, l_23, l_24, l_30, l_32, l_40, l_41, l_44, l_48, l_57, l_59, l_60, l_63, l_64, l_80, l_84, l_96, l_97, l_99, l_120, l_122, l_127, l_200, l_240, l_255, l_840, l_999, l_1000, l_1001, l_2400, l_3064, l_9999, l_10000, l_13849, l_16383, l_25173, l_65535, l_65536, l_99999, l_1000000000, neg_nI, pk_mul, nI_add, nI_subL, tn_nI, inb_t, grd_true, bnd_some, elS_l, elS_r, nI_ltI, nI_leI, nI_inj, fa_and, fa_or, m1_eq, eq_m1, m1_lt, m1_le, lt_m1, le_m1, m1_lt0, up2_at, up2_no, ite_true, ite_false, if_true, if_false, Bool.false_eq_true, reduceIte, reduceCtorEq, not_true_eq_false, not_false_eq_true, eq_self, decide_true, decide_false, le_tt, le_ff, lt_tt, lt_ff, eq_ff, and_true, true_and, and_false, false_and, or_true, true_or, or_false, false_or, ne_eq, decide_eq_true_eq, decide_eq_false_iff_not, Bool.not_true, Bool.not_false, Bool.and_true, Bool.true_and, Bool.and_false, Bool.false_and, gs_at, gs_no, oI_n, oI_s, xlt hz]
    · unfold Fm_repack
      rw [Fm_isRule_e, bnd_some]
      cases hp : inb x 4 with
      | false => rfl
      | true =>
        rw [hp, Bool.true_and] at hx'
        rw [l_0, l_5, Fm_in_x (by decide) (by decide), hx']
        simp (disch := omega) only [l_0, l_1, l_2, l_3, l_4, l_5, l_6, l_7, l_8, l_9, l_10, l_11, l_12, l_13, l_14, l_16, l_20, l_21, l_23, l_24, l_30, l_32, l_40, l_41, l_44, l_48, l_57, l_59, l_60, l_63, l_64, l_80, l_84, l_96, l_97, l_99, l_120, l_122, l_127, l_200, l_240, l_255, l_840, l_999, l_1000, l_1001, l_2400, l_3064, l_9999, l_10000, l_13849, l_16383, l_25173, l_65535, l_65536, l_99999, l_1000000000, neg_nI, pk_mul, nI_add, nI_subL, tn_nI, inb_t, grd_true, bnd_some, elS_l, elS_r, nI_ltI, nI_leI, nI_inj, fa_and, fa_or, m1_eq, eq_m1, m1_lt, m1_le, lt_m1, le_m1, m1_lt0, up2_at, up2_no, ite_true, ite_false, if_true, if_false, Bool.false_eq_true, reduceIte, reduceCtorEq, not_true_eq_false, not_false_eq_true, eq_self, decide_true, decide_false, le_tt, le_ff, lt_tt, lt_ff, eq_ff, and_true, true_and, and_false, false_and, or_true, true_or, or_false, false_or, ne_eq, decide_eq_true_eq, decide_eq_false_iff_not, Bool.not_true, Bool.not_false, Bool.and_true, Bool.true_and, Bool.and_false, Bool.false_and, gs_at, gs_no, oI_n, oI_s]
