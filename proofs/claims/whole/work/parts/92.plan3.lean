/-! calls: plan, planned, waits -/
section
variable {g gT : Nat → Nat} {n u : Nat}
theorem PV_0 (hg : GV g) : PV g gT g (fun d => decide (d < g 7) && mvB g gT d) (fun _ => false) 0 := by
  refine ⟨hg, fun _ _ => rfl, fun _ _ => rfl, fun d hd => ?_, ?_, fun d hd => by cases hd⟩
  · rw [Bool.and_eq_true, decide_eq_true_eq] at hd
    exact hd
  · rw [Nat.zero_add]
    exact fb_ct_cong (fun d hd => by rw [decide_eq_true hd, Bool.true_and])
theorem carry {gn : Nat → Nat} {lf pk : Nat → Bool} {dn : Nat} (hT : LT g gT (g 7)) (hV : PV g gT gn lf pk dn) (hn : 1000 < n) : ∃ (gn' : Nat → Nat) (lf' : Nat → Bool) (dn' : Nat) (L : List Nat), PV g gT gn' lf' pk dn' ∧ dn' = dn + L.length ∧ (∀ x, x ∈ L → x < g 7 ∧ mvB g gT x = true) ∧ (∀ x, lf' x = true → lf x = true ∧ ∀ w, w < 10 → gn' (64 + 10 * x + w) = gn (64 + 10 * x + w)) ∧ (∀ C : Nat → Bool, (∀ x, C x = true → lf x = true ∧ ∃ y, y < g 7 ∧ C y = true ∧ clB gn gT x y = true) → ∀ x, C x = true → lf' x = true) ∧ (∀ M, PLN M g gT gn lf pk dn → ∃ M', Rp_carryOut n M = some M' ∧ PLN M' g gT gn' lf' pk dn' ∧ HN M' 92 dn L ∧ (∀ j, j < dn → M'.1 92 j = M.1 92 j) ∧ Fr fp_Rp_carryOut M M') ∧ (∀ M h, FK M gn h → PLm M g gT lf pk dn → ∃ M', Fm_plans n M = some M' ∧ FK M' gn' h ∧ PLm M' g gT lf' pk dn' ∧ HN M' 108 dn L ∧ (∀ j, j < dn → M'.1 108 j = M.1 108 j) ∧ Fr fp_Fm_plans M M') := by
  have e7 : gn 7 = g 7 := hV.2.1 7 (by omega)
  have h40 : g 7 ≤ 40 := by rw [← e7]; exact hV.1.2.2
  have hle := fb_ct_le lf (g 7)
  obtain ⟨gn', lf', dn', L, r1, r2, r3, r4, r5, r6, r7, r8⟩ := plan_k (n := n) hT hn (fb_ct lf (g 7)) gn lf pk dn hV (Nat.le_refl _)
  refine ⟨gn', lf', dn', L, r1, r2, r3, r5, r6, fun M hC => ?_, fun M h hF hC => ?_⟩
  · obtain ⟨M', a1, a2, a3, a4⟩ := r7 n M (by omega) hC
    have hnx := nx_c (n := n) h40 e7 hC (by omega)
    have hrun : Rp_carryOut n M = some M' := by
      unfold Rp_carryOut
      rw [hnx, bnd_some, a1]
      rfl
    exact ⟨M', hrun, a2, a3, a4, fr_Rp_carryOut hrun⟩
  · obtain ⟨M', a1, a2, a3, a4, a5⟩ := r8 n M h (by omega) hF hC
    have hnx := nx_m (n := n) hV hT hF hC (by omega)
    have hrun : Fm_plans n M = some M' := by
      unfold Fm_plans
      rw [hnx, bnd_some, a1]
      rfl
    exact ⟨M', hrun, a2, a3, a4, a5, fr_Fm_plans hrun⟩
theorem HN_get {M : Mm} {c : Nat} : ∀ {L : List Nat} {i k d : Nat}, HN M c i L → L[k]? = some d → M.1 c (i + k) = nI d
  | [], i, k, d, _, h => by cases k <;> cases h
  | x :: L, i, 0, d, q, h => by cases h; exact q.1
  | x :: L, i, k + 1, d, q, h => by
    have := HN_get (k := k) q.2 (by simpa using h)
    rw [show i + (k + 1) = i + 1 + k by omega]
    exact this
end
theorem op_plan {n : Nat} (hn : 1099511627776 < n) (x : Int32) : T2 (Fg_plan n x) (Fm_plan n x) := by
  intro g hg
  have b1 := hg.1.2.1.1
  by_cases hx : inb x 4 = true
  · obtain ⟨u, hu, rfl⟩ := (inb_iff (by decide)).mp hx
    cases hla : laF g u (g 7) with
    | none =>
      refine ⟨ng 2, g, hg, fun M hS hA => ?_, fun M h hF => ?_⟩
      · rcases lay_cl (n := n) hg hu hS hA (by omega) with ⟨q1, M', q2, q3, q4, q5⟩ | ⟨gT, q1, _⟩
        · refine ⟨M', ?_, q3, q4, q5⟩
          unfold Fg_plan
          rw [Fg_isRule_e, hx]
          simp (disch := omega) only [l_0, l_1, l_2, l_3, l_4, l_5, l_6, l_7, l_8, l_9, l_10, l_11, l_12, l_13, l_14, l_16, l_20, l_21, l_23, l_24, l_30, l_32, l_40, l_41, l_44, l_48, l_57, l_59, l_60, l_63, l_64, l_80, l_84, l_96, l_97, l_99, l_120, l_122, l_127, l_200, l_240, l_255, l_840, l_999, l_1000, l_1001, l_2400, l_3064, l_9999, l_10000, l_13849, l_16383, l_25173, l_65535, l_65536, l_99999, l_1000000000, neg_nI, pk_mul, nI_add, nI_subL, tn_nI, inb_t, grd_true, bnd_some, elS_l, elS_r, nI_ltI, nI_leI, nI_inj, fa_and, fa_or, m1_eq, eq_m1, m1_lt, m1_le, lt_m1, le_m1, m1_lt0, up2_at, up2_no, ite_true, ite_false, if_true, if_false, Bool.false_eq_true, reduceIte, reduceCtorEq, not_true_eq_false, not_false_eq_true, eq_self, decide_true, decide_false, le_tt, le_ff, lt_tt, lt_ff, eq_ff, and_true, true_and, and_false, false_and, or_true, true_or, or_false, false_or, ne_eq, decide_eq_true_eq, decide_eq_false_iff_not, Bool.not_true, Bool.not_false, Bool.and_true, Bool.true_and, Bool.and_false, Bool.false_and, gs_at, gs_no, oI_n, oI_s, q2]
        · rw [hla] at q1; cases q1
      · rcases aims_m (n := n) hg hu hF hn with ⟨q1, M', h', q2, q3, q4, q5⟩ | ⟨gT, q1, _⟩
        · refine ⟨M', h', ?_, q3, q4, q5⟩
          unfold Fm_plan
          rw [Fm_isRule_e, hx]
          simp (disch := omega) only [l_0, l_1, l_2, l_3, l_4, l_5, l_6, l_7, l_8, l_9, l_10, l_11, l_12, l_13, l_14, l_16, l_20, l_21, l_23, l_24, l_30, l_32, l_40, l_41, l_44, l_48, l_57, l_59, l_60, l_63, l_64, l_80, l_84, l_96, l_97, l_99, l_120, l_122, l_127, l_200, l_240, l_255, l_840, l_999, l_1000, l_1001, l_2400, l_3064, l_9999, l_10000, l_13849, l_16383, l_25173, l_65535, l_65536, l_99999, l_1000000000, neg_nI, pk_mul, nI_add, nI_subL, tn_nI, inb_t, grd_true, bnd_some, elS_l, elS_r, nI_ltI, nI_leI, nI_inj, fa_and, fa_or, m1_eq, eq_m1, m1_lt, m1_le, lt_m1, le_m1, m1_lt0, up2_at, up2_no, ite_true, ite_false, if_true, if_false, Bool.false_eq_true, reduceIte, reduceCtorEq, not_true_eq_false, not_false_eq_true, eq_self, decide_true, decide_false, le_tt, le_ff, lt_tt, lt_ff, eq_ff, and_true, true_and, and_false, false_and, or_true, true_or, or_false, false_or, ne_eq, decide_eq_true_eq, decide_eq_false_iff_not, Bool.not_true, Bool.not_false, Bool.and_true, Bool.true_and, Bool.and_false, Bool.false_and, gs_at, gs_no, oI_n, oI_s, q2]
        · rw [hla] at q1; cases q1
    | some gT =>
      have hT := la_LT hg (g 7) (Nat.le_refl _) gT hla
      obtain ⟨gn', lf', dn', L, r1, r2, r3, r5, r6, r7, r8⟩ := carry (n := n) hT (PV_0 (gT := gT) hg) (by omega)
      have e7 : gn' 7 = g 7 := r1.2.1 7 (by omega)
      refine ⟨nI dn', gn', r1.1, fun M hS hA => ?_, fun M h hF => ?_⟩
      · rcases lay_cl (n := n) hg hu hS hA (by omega) with ⟨q1, _⟩ | ⟨gT', q1, M1, q2, q3, q4, q5, q6⟩
        · rw [hla] at q1; cases q1
        · rw [hla] at q1
          cases q1
          obtain ⟨M2, a1, a2, a3, a4, a5⟩ := r7 M1 q5
          obtain ⟨M3, c1, c2, c3, c4⟩ := St_copy_e (s := 18) (o := 54) (by omega) (by rw [r1.2.1 3 (by omega)]; exact b1.2.2.2.2.2.1) r1.1.2.2 a2.1
          have hrun : Fg_plan n (nI u) M = some (nI dn', M3) := by
            have h77 : M3.1 72 7 = nI dn' := by rw [(c4 72 7 (by unfold fp_St_copy; omega)).1]; exact a2.2.2.2.2.1
            unfold Fg_plan
            rw [Fg_isRule_e, hx]
            simp (disch := omega) only [l_0, l_1, l_2, l_3, l_4, l_5, l_6, l_7, l_8, l_9, l_10, l_11, l_12, l_13, l_14, l_16, l_20, l_21, l_23, l_24, l_30, l_32, l_40, l_41, l_44, l_48, l_57, l_59, l_60, l_63, l_64, l_80, l_84, l_96, l_97, l_99, l_120, l_122, l_127, l_200, l_240, l_255, l_840, l_999, l_1000, l_1001, l_2400, l_3064, l_9999, l_10000, l_13849, l_16383, l_25173, l_65535, l_65536, l_99999, l_1000000000, neg_nI, pk_mul, nI_add, nI_subL, tn_nI, inb_t, grd_true, bnd_some, elS_l, elS_r, nI_ltI, nI_leI, nI_inj, fa_and, fa_or, m1_eq, eq_m1, m1_lt, m1_le, lt_m1, le_m1, m1_lt0, up2_at, up2_no, ite_true, ite_false, if_true, if_false, Bool.false_eq_true, reduceIte, reduceCtorEq, not_true_eq_false, not_false_eq_true, eq_self, decide_true, decide_false, le_tt, le_ff, lt_tt, lt_ff, eq_ff, and_true, true_and, and_false, false_and, or_true, true_or, or_false, false_or, ne_eq, decide_eq_true_eq, decide_eq_false_iff_not, Bool.not_true, Bool.not_false, Bool.and_true, Bool.true_and, Bool.and_false, Bool.false_and, gs_at, gs_no, oI_n, oI_s, q2, a1, c1, h77]
          have hfr := fr_Fg_plan hrun
          refine ⟨M3, hrun, c2, ?_, hfr.mono (fun c j q => by unfold fp_Fg_plan at q; unfold PC; omega)⟩
          exact ((q4.fr a5 (fun j => by unfold fp_Rp_carryOut; omega)).fr c4 (fun j => by unfold fp_St_copy; omega)).cong b1.2.2.2.2.2.1 (fun k h1 _ _ => r1.2.1 k h1)
      · rcases aims_m (n := n) hg hu hF hn with ⟨q1, _⟩ | ⟨gT', q1, M1, h', q2, q3, q4, q5, q6, q7⟩
        · rw [hla] at q1; cases q1
        · rw [hla] at q1
          cases q1
          obtain ⟨M2, a1, a2, a3, a4, a5, a6⟩ := r8 M1 h' q3 q5
          refine ⟨M2, h', ?_, a2, q4, q7.tr (a6.mono (fun c j q => by unfold fp_Fm_plans at q; unfold PM; omega))⟩
          unfold Fm_plan
          rw [Fm_isRule_e, hx]
          simp (disch := omega) only [l_0, l_1, l_2, l_3, l_4, l_5, l_6, l_7, l_8, l_9, l_10, l_11, l_12, l_13, l_14, l_16, l_20, l_21, l_23, l_24, l_30, l_32, l_40, l_41, l_44, l_48, l_57, l_59, l_60, l_63, l_64, l_80, l_84, l_96, l_97, l_99, l_120, l_122, l_127, l_200, l_240, l_255, l_840, l_999, l_1000, l_1001, l_2400, l_3064, l_9999, l_10000, l_13849, l_16383, l_25173, l_65535, l_65536, l_99999, l_1000000000, neg_nI, pk_mul, nI_add, nI_subL, tn_nI, inb_t, grd_true, bnd_some, elS_l, elS_r, nI_ltI, nI_leI, nI_inj, fa_and, fa_or, m1_eq, eq_m1, m1_lt, m1_le, lt_m1, le_m1, m1_lt0, up2_at, up2_no, ite_true, ite_false, if_true, if_false, Bool.false_eq_true, reduceIte, reduceCtorEq, not_true_eq_false, not_false_eq_true, eq_self, decide_true, decide_false, le_tt, le_ff, lt_tt, lt_ff, eq_ff, and_true, true_and, and_false, false_and, or_true, true_or, or_false, false_or, ne_eq, decide_eq_true_eq, decide_eq_false_iff_not, Bool.not_true, Bool.not_false, Bool.and_true, Bool.true_and, Bool.and_false, Bool.false_and, gs_at, gs_no, oI_n, oI_s, q2, a1, a3.2.2.2.2.1]
  · have hx' := ts_nt hx
    refine ⟨ng 1, g, hg, fun M hS hA => TC.id hS hA ?_, fun M h hF => TM.id hF ?_⟩
    · unfold Fg_plan
      rw [Fg_isRule_e, hx']
      rfl
    · unfold Fm_plan
      rw [Fm_isRule_e, hx']
      rfl
theorem op_waits {n : Nat} (hn : 1099511627776 < n) (x y : Int32) : T2 (Fg_waits n x y) (Fm_waits n x y) := by
  refine T2.id (fun g hg => ?_)
  have b1 := hg.1.2.1.1
  have h40 := hg.2.2
  by_cases hx : (inb x 4 && inb y (g 7)) = true
  · rw [Bool.and_eq_true] at hx
    obtain ⟨u, hu, rfl⟩ := (inb_iff (by decide)).mp hx.1
    obtain ⟨d, hd, rfl⟩ := (inb_iff (by omega)).mp hx.2
    cases hla : laF g u (g 7) with
    | none =>
      refine ⟨ng 2, fun M hS hA => ?_, fun M h hF => ?_⟩
      · rcases lay_cl (n := n) hg hu hS hA (by omega) with ⟨q1, M', q2, q3, q4, q5⟩ | ⟨gT, q1, _⟩
        · refine ⟨M', ?_, q3, q4, q5⟩
          unfold Fg_waits
          rw [Fg_isRule_e, hx.1, St_has_e hS.2.1 (by omega), hx.2]
          simp (disch := omega) only [l_0, l_1, l_2, l_3, l_4, l_5, l_6, l_7, l_8, l_9, l_10, l_11, l_12, l_13, l_14, l_16, l_20, l_21, l_23, l_24, l_30, l_32, l_40, l_41, l_44, l_48, l_57, l_59, l_60, l_63, l_64, l_80, l_84, l_96, l_97, l_99, l_120, l_122, l_127, l_200, l_240, l_255, l_840, l_999, l_1000, l_1001, l_2400, l_3064, l_9999, l_10000, l_13849, l_16383, l_25173, l_65535, l_65536, l_99999, l_1000000000, neg_nI, pk_mul, nI_add, nI_subL, tn_nI, inb_t, grd_true, bnd_some, elS_l, elS_r, nI_ltI, nI_leI, nI_inj, fa_and, fa_or, m1_eq, eq_m1, m1_lt, m1_le, lt_m1, le_m1, m1_lt0, up2_at, up2_no, ite_true, ite_false, if_true, if_false, Bool.false_eq_true, reduceIte, reduceCtorEq, not_true_eq_false, not_false_eq_true, eq_self, decide_true, decide_false, le_tt, le_ff, lt_tt, lt_ff, eq_ff, and_true, true_and, and_false, false_and, or_true, true_or, or_false, false_or, ne_eq, decide_eq_true_eq, decide_eq_false_iff_not, Bool.not_true, Bool.not_false, Bool.and_true, Bool.true_and, Bool.and_false, Bool.false_and, gs_at, gs_no, oI_n, oI_s, q2]
        · rw [hla] at q1; cases q1
      · rcases aims_m (n := n) hg hu hF hn with ⟨q1, M', h', q2, q3, q4, q5⟩ | ⟨gT, q1, _⟩
        · refine ⟨M', h', ?_, q3, q4, q5⟩
          unfold Fm_waits
          rw [Fm_isRule_e, hx.1, Fm_isDemand_e (hF.lo (show 7 < 64 by omega)) (by omega), hx.2]
          simp (disch := omega) only [l_0, l_1, l_2, l_3, l_4, l_5, l_6, l_7, l_8, l_9, l_10, l_11, l_12, l_13, l_14, l_16, l_20, l_21, l_23, l_24, l_30, l_32, l_40, l_41, l_44, l_48, l_57, l_59, l_60, l_63, l_64, l_80, l_84, l_96, l_97, l_99, l_120, l_122, l_127, l_200, l_240, l_255, l_840, l_999, l_1000, l_1001, l_2400, l_3064, l_9999, l_10000, l_13849, l_16383, l_25173, l_65535, l_65536, l_99999, l_1000000000, neg_nI, pk_mul, nI_add, nI_subL, tn_nI, inb_t, grd_true, bnd_some, elS_l, elS_r, nI_ltI, nI_leI, nI_inj, fa_and, fa_or, m1_eq, eq_m1, m1_lt, m1_le, lt_m1, le_m1, m1_lt0, up2_at, up2_no, ite_true, ite_false, if_true, if_false, Bool.false_eq_true, reduceIte, reduceCtorEq, not_true_eq_false, not_false_eq_true, eq_self, decide_true, decide_false, le_tt, le_ff, lt_tt, lt_ff, eq_ff, and_true, true_and, and_false, false_and, or_true, true_or, or_false, false_or, ne_eq, decide_eq_true_eq, decide_eq_false_iff_not, Bool.not_true, Bool.not_false, Bool.and_true, Bool.true_and, Bool.and_false, Bool.false_and, gs_at, gs_no, oI_n, oI_s, q2]
        · rw [hla] at q1; cases q1
    | some gT =>
      have hT := la_LT hg (g 7) (Nat.le_refl _) gT hla
      have hct := fb_ct_le (clB g gT d) (g 7)
      refine ⟨if mvB g gT d = true then nI (fb_ct (clB g gT d) (g 7)) else ng 4, fun M hS hA => ?_, fun M h hF => ?_⟩
      · rcases lay_cl (n := n) hg hu hS hA (by omega) with ⟨q1, _⟩ | ⟨gT', q1, M1, q2, q3, q4, q5, q6⟩
        · rw [hla] at q1; cases q1
        · rw [hla] at q1
          cases q1
          refine ⟨M1, ?_, q3, q4, q6⟩
          have hb := LB_bit q5.2.2.1 (d := d) (by omega)
          have hw := q5.2.2.2.1 d hd
          unfold Fg_waits
          rw [Fg_isRule_e, hx.1, St_has_e hS.2.1 (by omega), hx.2]
          cases hm : mvB g gT d with
          | false =>
            rw [hm, Bool.and_false] at hb
            simp (disch := omega) only [l_0, l_1, l_2, l_3, l_4, l_5, l_6, l_7, l_8, l_9, l_10, l_11, l_12, l_13, l_14, l_16, l_20, l_21, l_23, l_24, l_30, l_32, l_40, l_41, l_44, l_48, l_57, l_59, l_60, l_63, l_64, l_80, l_84, l_96, l_97, l_99, l_120, l_122, l_127, l_200, l_240, l_255, l_840, l_999, l_1000, l_1001, l_2400, l_3064, l_9999, l_10000, l_13849, l_16383, l_25173, l_65535, l_65536, l_99999, l_1000000000, neg_nI, pk_mul, nI_add, nI_subL, tn_nI, inb_t, grd_true, bnd_some, elS_l, elS_r, nI_ltI, nI_leI, nI_inj, fa_and, fa_or, m1_eq, eq_m1, m1_lt, m1_le, lt_m1, le_m1, m1_lt0, up2_at, up2_no, ite_true, ite_false, if_true, if_false, Bool.false_eq_true, reduceIte, reduceCtorEq, not_true_eq_false, not_false_eq_true, eq_self, decide_true, decide_false, le_tt, le_ff, lt_tt, lt_ff, eq_ff, and_true, true_and, and_false, false_and, or_true, true_or, or_false, false_or, ne_eq, decide_eq_true_eq, decide_eq_false_iff_not, Bool.not_true, Bool.not_false, Bool.and_true, Bool.true_and, Bool.and_false, Bool.false_and, gs_at, gs_no, oI_n, oI_s, q2, hb]
          | true =>
            rw [hm, decide_eq_true hd] at hb
            have hc := LB_ct (M := M1) (N := g 7) (LB_cong hw (Q := fun b => decide (b < g 7) && clB g gT d b) (fun b => by show ((decide (d < g 7) && mvB g gT d) && (decide (b < g 7) && clB g gT d b)) = _; rw [hm, decide_eq_true hd]; rfl)) (by omega) (fun b hb' => by rw [decide_eq_false (by omega), Bool.false_and])
            rw [fb_ct_cong (q := clB g gT d) (fun b hb' => by rw [decide_eq_true hb', Bool.true_and])] at hc
            simp (disch := omega) only [l_0, l_1, l_2, l_3, l_4, l_5, l_6, l_7, l_8, l_9, l_10, l_11, l_12, l_13, l_14, l_16, l_20, l_21, l_23, l_24, l_30, l_32, l_40, l_41, l_44, l_48, l_57, l_59, l_60, l_63, l_64, l_80, l_84, l_96, l_97, l_99, l_120, l_122, l_127, l_200, l_240, l_255, l_840, l_999, l_1000, l_1001, l_2400, l_3064, l_9999, l_10000, l_13849, l_16383, l_25173, l_65535, l_65536, l_99999, l_1000000000, neg_nI, pk_mul, nI_add, nI_subL, tn_nI, inb_t, grd_true, bnd_some, elS_l, elS_r, nI_ltI, nI_leI, nI_inj, fa_and, fa_or, m1_eq, eq_m1, m1_lt, m1_le, lt_m1, le_m1, m1_lt0, up2_at, up2_no, ite_true, ite_false, if_true, if_false, Bool.false_eq_true, reduceIte, reduceCtorEq, not_true_eq_false, not_false_eq_true, eq_self, decide_true, decide_false, le_tt, le_ff, lt_tt, lt_ff, eq_ff, and_true, true_and, and_false, false_and, or_true, true_or, or_false, false_or, ne_eq, decide_eq_true_eq, decide_eq_false_iff_not, Bool.not_true, Bool.not_false, Bool.and_true, Bool.true_and, Bool.and_false, Bool.false_and, gs_at, gs_no, oI_n, oI_s, q2, hb, hc]
      · rcases aims_m (n := n) hg hu hF hn with ⟨q1, _⟩ | ⟨gT', q1, M1, h', q2, q3, q4, q5, q6, q7⟩
        · rw [hla] at q1; cases q1
        · rw [hla] at q1
          cases q1
          refine ⟨M1, h', ?_, q3, q4, q7⟩
          have h109 := q5.2.1 d hd
          unfold Fm_waits
          rw [Fm_isRule_e, hx.1, Fm_isDemand_e (hF.lo (show 7 < 64 by omega)) (by omega), hx.2]
          cases hm : mvB g gT d with
          | false =>
            rw [hm] at h109
            simp (disch := omega) only [l_0, l_1, l_2, l_3, l_4, l_5, l_6, l_7, l_8, l_9, l_10, l_11, l_12, l_13, l_14, l_16, l_20, l_21, l_23, l_24, l_30, l_32, l_40, l_41, l_44, l_48, l_57, l_59, l_60, l_63, l_64, l_80, l_84, l_96, l_97, l_99, l_120, l_122, l_127, l_200, l_240, l_255, l_840, l_999, l_1000, l_1001, l_2400, l_3064, l_9999, l_10000, l_13849, l_16383, l_25173, l_65535, l_65536, l_99999, l_1000000000, neg_nI, pk_mul, nI_add, nI_subL, tn_nI, inb_t, grd_true, bnd_some, elS_l, elS_r, nI_ltI, nI_leI, nI_inj, fa_and, fa_or, m1_eq, eq_m1, m1_lt, m1_le, lt_m1, le_m1, m1_lt0, up2_at, up2_no, ite_true, ite_false, if_true, if_false, Bool.false_eq_true, reduceIte, reduceCtorEq, not_true_eq_false, not_false_eq_true, eq_self, decide_true, decide_false, le_tt, le_ff, lt_tt, lt_ff, eq_ff, and_true, true_and, and_false, false_and, or_true, true_or, or_false, false_or, ne_eq, decide_eq_true_eq, decide_eq_false_iff_not, Bool.not_true, Bool.not_false, Bool.and_true, Bool.true_and, Bool.and_false, Bool.false_and, gs_at, gs_no, oI_n, oI_s, q2, show M1.1 109 d = nI 0 from h109]
          | true =>
            rw [hm] at h109
            have hwm := wm_m (n := n) (PV_0 (gT := gT) hg) hT q3 q5 hd (of_decide_eq_true hm).1 (by omega)
            simp (disch := omega) only [l_0, l_1, l_2, l_3, l_4, l_5, l_6, l_7, l_8, l_9, l_10, l_11, l_12, l_13, l_14, l_16, l_20, l_21, l_23, l_24, l_30, l_32, l_40, l_41, l_44, l_48, l_57, l_59, l_60, l_63, l_64, l_80, l_84, l_96, l_97, l_99, l_120, l_122, l_127, l_200, l_240, l_255, l_840, l_999, l_1000, l_1001, l_2400, l_3064, l_9999, l_10000, l_13849, l_16383, l_25173, l_65535, l_65536, l_99999, l_1000000000, neg_nI, pk_mul, nI_add, nI_subL, tn_nI, inb_t, grd_true, bnd_some, elS_l, elS_r, nI_ltI, nI_leI, nI_inj, fa_and, fa_or, m1_eq, eq_m1, m1_lt, m1_le, lt_m1, le_m1, m1_lt0, up2_at, up2_no, ite_true, ite_false, if_true, if_false, Bool.false_eq_true, reduceIte, reduceCtorEq, not_true_eq_false, not_false_eq_true, eq_self, decide_true, decide_false, le_tt, le_ff, lt_tt, lt_ff, eq_ff, and_true, true_and, and_false, false_and, or_true, true_or, or_false, false_or, ne_eq, decide_eq_true_eq, decide_eq_false_iff_not, Bool.not_true, Bool.not_false, Bool.and_true, Bool.true_and, Bool.and_false, Bool.false_and, gs_at, gs_no, oI_n, oI_s, q2, show M1.1 109 d = nI 1 from h109, hwm]
  · have hx' := ts_nt hx
    refine ⟨ng 1, fun M hS hA => TC.id hS hA ?_, fun M h hF => TM.id hF ?_⟩
    · unfold Fg_waits
      rw [Fg_isRule_e, bnd_some]
      cases hp : inb x 4 with
      | false => rfl
      | true =>
        rw [hp, Bool.true_and] at hx'
        rw [St_has_e hS.2.1 (by omega), hx']
        rfl
    · unfold Fm_waits
      rw [Fm_isRule_e, bnd_some]
      cases hp : inb x 4 with
      | false => rfl
      | true =>
        rw [hp, Bool.true_and] at hx'
        rw [Fm_isDemand_e (hF.lo (show 7 < 64 by omega)) (by omega), hx']
        rfl
