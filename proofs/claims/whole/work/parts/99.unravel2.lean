/-! calls: unravel -/
section
variable {g gT : Nat → Nat} {n : Nat}
theorem unr_k (hT : LT g gT (g 7)) (hn : 1000 < n) : ∀ (k : Nat) (gn : Nat → Nat) (lf pk : Nat → Bool) (dn : Nat), PV g gT gn lf pk dn → g 7 < fb_ct pk (g 7) + k → ∃ (gn' : Nat → Nat) (lf' pk' : Nat → Bool) (dn' : Nat), PV g gT gn' lf' pk' dn' ∧ (∀ m M, k ≤ m → PLN M g gT gn lf pk dn → ∃ M', loop (fun s1 : Int32 × Mm => Rp_carryOutParking_b6 n s1.1 s1.2) m (nI (fb_ct pk (g 7)), M) = some M' ∧ PLN M' g gT gn' lf' pk' dn') ∧ (∀ m M h, k ≤ m → FK M gn h → PLm M g gT lf pk dn → ∃ M', loop (fun s1 : Mm => Fm_unravel_b39 n s1) m M = some M' ∧ FK M' gn' h ∧ PLm M' g gT lf' pk' dn') := by
  intro k
  induction k with
  | zero =>
    intro gn lf pk dn hV hk
    have := fb_ct_le pk (g 7)
    omega
  | succ k ih =>
    intro gn lf pk dn hV hk
    have e7 : gn 7 = g 7 := hV.2.1 7 (by omega)
    have h40 : g 7 ≤ 40 := by rw [← e7]; exact hV.1.2.2
    have hsum := hV.2.2.2.2.1
    have hmle := fb_ct_le (mvB g gT) (g 7)
    have hple := fb_ct_le pk (g 7)
    have hz : ∀ M, PLN M g gT gn lf pk dn → (M.2 72 3 = (0 : Int64)) = (fb_ct lf (g 7) = 0) := fun M hC => by
      rw [LB_z hC.2.2.1]
      refine propext ⟨fun q => fb_ct_zero.mpr (fun d _ => q d), fun q b => ?_⟩
      cases hb : lf b with
      | false => rfl
      | true =>
        have := fb_ct_zero.mp q b (hV.2.2.2.1 b hb).1
        rw [hb] at this; cases this
    by_cases h0 : fb_ct lf (g 7) = 0
    · refine ⟨gn, lf, pk, dn, hV, fun m M hm hC => ⟨M, loop_inr (r := M) ?_ (by omega), hC⟩, fun m M h hm hF hC => ⟨M, loop_inr (r := M) ?_ (by omega), hF, hC⟩⟩
      · have hz' := hz M hC
        rw [eq_true h0] at hz'
        show Rp_carryOutParking_b6 n (nI (fb_ct pk (g 7))) M = _
        generalize fb_ct pk (g 7) = z at hple ⊢
        unfold Rp_carryOutParking_b6
        by_cases c : 40 ≤ z
        · simp (disch := omega) only [l_0, l_1, l_2, l_3, l_4, l_5, l_6, l_7, l_8, l_9, l_10, l_11, l_12, l_13, l_14, l_16, l_20, l_21, l_23, l_24, l_30, l_32, l_40, l_41, l_44, l_48, l_57, l_59, l_60, l_63, l_64, l_80, l_84, l_96, l_97, l_99, l_120, l_122, l_127, l_200, l_240, l_255, l_840, l_999, l_1000, l_1001, l_2400, l_3064, l_9999, l_10000, l_13849, l_16383, l_25173, l_65535, l_65536, l_99999, l_1000000000, neg_nI, pk_mul, nI_add, nI_subL, tn_nI, inb_t, grd_true, bnd_some, elS_l, elS_r, nI_ltI, nI_leI, nI_inj, fa_and, fa_or, m1_eq, eq_m1, m1_lt, m1_le, lt_m1, le_m1, m1_lt0, up2_at, up2_no, ite_true, ite_false, if_true, if_false, Bool.false_eq_true, reduceIte, reduceCtorEq, not_true_eq_false, not_false_eq_true, eq_self, decide_true, decide_false, le_tt, le_ff, lt_tt, lt_ff, eq_ff, and_true, true_and, and_false, false_and, or_true, true_or, or_false, false_or, ne_eq, decide_eq_true_eq, decide_eq_false_iff_not, Bool.not_true, Bool.not_false, Bool.and_true, Bool.true_and, Bool.and_false, Bool.false_and, gs_at, gs_no, oI_n, oI_s, c]
        · simp (disch := omega) only [l_0, l_1, l_2, l_3, l_4, l_5, l_6, l_7, l_8, l_9, l_10, l_11, l_12, l_13, l_14, l_16, l_20, l_21, l_23, l_24, l_30, l_32, l_40, l_41, l_44, l_48, l_57, l_59, l_60, l_63, l_64, l_80, l_84, l_96, l_97, l_99, l_120, l_122, l_127, l_200, l_240, l_255, l_840, l_999, l_1000, l_1001, l_2400, l_3064, l_9999, l_10000, l_13849, l_16383, l_25173, l_65535, l_65536, l_99999, l_1000000000, neg_nI, pk_mul, nI_add, nI_subL, tn_nI, inb_t, grd_true, bnd_some, elS_l, elS_r, nI_ltI, nI_leI, nI_inj, fa_and, fa_or, m1_eq, eq_m1, m1_lt, m1_le, lt_m1, le_m1, m1_lt0, up2_at, up2_no, ite_true, ite_false, if_true, if_false, Bool.false_eq_true, reduceIte, reduceCtorEq, not_true_eq_false, not_false_eq_true, eq_self, decide_true, decide_false, le_tt, le_ff, lt_tt, lt_ff, eq_ff, and_true, true_and, and_false, false_and, or_true, true_or, or_false, false_or, ne_eq, decide_eq_true_eq, decide_eq_false_iff_not, Bool.not_true, Bool.not_false, Bool.and_true, Bool.true_and, Bool.and_false, Bool.false_and, gs_at, gs_no, oI_n, oI_s, c, hz']
      · show Fm_unravel_b39 n M = _
        have x1 := hC.2.2.2.2.1
        have x2 := hC.2.2.2.2.2.2
        rw [show fb_ct (mvB g gT) (g 7) = dn by omega] at x2
        unfold Fm_unravel_b39
        simp (disch := omega) only [l_0, l_1, l_2, l_3, l_4, l_5, l_6, l_7, l_8, l_9, l_10, l_11, l_12, l_13, l_14, l_16, l_20, l_21, l_23, l_24, l_30, l_32, l_40, l_41, l_44, l_48, l_57, l_59, l_60, l_63, l_64, l_80, l_84, l_96, l_97, l_99, l_120, l_122, l_127, l_200, l_240, l_255, l_840, l_999, l_1000, l_1001, l_2400, l_3064, l_9999, l_10000, l_13849, l_16383, l_25173, l_65535, l_65536, l_99999, l_1000000000, neg_nI, pk_mul, nI_add, nI_subL, tn_nI, inb_t, grd_true, bnd_some, elS_l, elS_r, nI_ltI, nI_leI, nI_inj, fa_and, fa_or, m1_eq, eq_m1, m1_lt, m1_le, lt_m1, le_m1, m1_lt0, up2_at, up2_no, ite_true, ite_false, if_true, if_false, Bool.false_eq_true, reduceIte, reduceCtorEq, not_true_eq_false, not_false_eq_true, eq_self, decide_true, decide_false, le_tt, le_ff, lt_tt, lt_ff, eq_ff, and_true, true_and, and_false, false_and, or_true, true_or, or_false, false_or, ne_eq, decide_eq_true_eq, decide_eq_false_iff_not, Bool.not_true, Bool.not_false, Bool.and_true, Bool.true_and, Bool.and_false, Bool.false_and, gs_at, gs_no, oI_n, oI_s, x1, x2]
    · have hz1 : ∀ M, PLN M g gT gn lf pk dn → (M.2 72 3 = (0 : Int64)) = False := fun M hC => by rw [hz M hC]; exact eq_false h0
      have hm1 : ∀ M, PLm M g gT lf pk dn → (M.1 94 32 ≤ M.1 94 33) = False := fun M hC => by
        rw [hC.2.2.2.2.1, hC.2.2.2.2.2.2]
        have q1 : dn < fb_ct (mvB g gT) (g 7) := by omega
        generalize fb_ct (mvB g gT) (g 7) = z at q1 hmle ⊢
        simp (disch := omega) only [l_0, l_1, l_2, l_3, l_4, l_5, l_6, l_7, l_8, l_9, l_10, l_11, l_12, l_13, l_14, l_16, l_20, l_21, l_23, l_24, l_30, l_32, l_40, l_41, l_44, l_48, l_57, l_59, l_60, l_63, l_64, l_80, l_84, l_96, l_97, l_99, l_120, l_122, l_127, l_200, l_240, l_255, l_840, l_999, l_1000, l_1001, l_2400, l_3064, l_9999, l_10000, l_13849, l_16383, l_25173, l_65535, l_65536, l_99999, l_1000000000, neg_nI, pk_mul, nI_add, nI_subL, tn_nI, inb_t, grd_true, bnd_some, elS_l, elS_r, nI_ltI, nI_leI, nI_inj, fa_and, fa_or, m1_eq, eq_m1, m1_lt, m1_le, lt_m1, le_m1, m1_lt0, up2_at, up2_no, ite_true, ite_false, if_true, if_false, Bool.false_eq_true, reduceIte, reduceCtorEq, not_true_eq_false, not_false_eq_true, eq_self, decide_true, decide_false, le_tt, le_ff, lt_tt, lt_ff, eq_ff, and_true, true_and, and_false, false_and, or_true, true_or, or_false, false_or, ne_eq, decide_eq_true_eq, decide_eq_false_iff_not, Bool.not_true, Bool.not_false, Bool.and_true, Bool.true_and, Bool.and_false, Bool.false_and, gs_at, gs_no, oI_n, oI_s]
      cases hx : fstP (pkB gn lf pk) 0 (g 7) with
      | none =>
        refine ⟨gn, lf, pk, dn, hV, fun m M hm hC => ⟨M, loop_inr (r := M) ?_ (by omega), hC⟩, fun m M h hm hF hC => ⟨M, loop_inr (r := M) ?_ (by omega), hF, hC⟩⟩
        · have hz' := hz1 M hC
          rcases pk_c (n := n) hV hT hC (by omega) with ⟨_, q2⟩ | ⟨d, f, M', q1, _⟩
          · show Rp_carryOutParking_b6 n (nI (fb_ct pk (g 7))) M = _
            generalize fb_ct pk (g 7) = z at hple ⊢
            unfold Rp_carryOutParking_b6
            by_cases c : 40 ≤ z
            · simp (disch := omega) only [l_0, l_1, l_2, l_3, l_4, l_5, l_6, l_7, l_8, l_9, l_10, l_11, l_12, l_13, l_14, l_16, l_20, l_21, l_23, l_24, l_30, l_32, l_40, l_41, l_44, l_48, l_57, l_59, l_60, l_63, l_64, l_80, l_84, l_96, l_97, l_99, l_120, l_122, l_127, l_200, l_240, l_255, l_840, l_999, l_1000, l_1001, l_2400, l_3064, l_9999, l_10000, l_13849, l_16383, l_25173, l_65535, l_65536, l_99999, l_1000000000, neg_nI, pk_mul, nI_add, nI_subL, tn_nI, inb_t, grd_true, bnd_some, elS_l, elS_r, nI_ltI, nI_leI, nI_inj, fa_and, fa_or, m1_eq, eq_m1, m1_lt, m1_le, lt_m1, le_m1, m1_lt0, up2_at, up2_no, ite_true, ite_false, if_true, if_false, Bool.false_eq_true, reduceIte, reduceCtorEq, not_true_eq_false, not_false_eq_true, eq_self, decide_true, decide_false, le_tt, le_ff, lt_tt, lt_ff, eq_ff, and_true, true_and, and_false, false_and, or_true, true_or, or_false, false_or, ne_eq, decide_eq_true_eq, decide_eq_false_iff_not, Bool.not_true, Bool.not_false, Bool.and_true, Bool.true_and, Bool.and_false, Bool.false_and, gs_at, gs_no, oI_n, oI_s, c]
            · simp (disch := omega) only [l_0, l_1, l_2, l_3, l_4, l_5, l_6, l_7, l_8, l_9, l_10, l_11, l_12, l_13, l_14, l_16, l_20, l_21, l_23, l_24, l_30, l_32, l_40, l_41, l_44, l_48, l_57, l_59, l_60, l_63, l_64, l_80, l_84, l_96, l_97, l_99, l_120, l_122, l_127, l_200, l_240, l_255, l_840, l_999, l_1000, l_1001, l_2400, l_3064, l_9999, l_10000, l_13849, l_16383, l_25173, l_65535, l_65536, l_99999, l_1000000000, neg_nI, pk_mul, nI_add, nI_subL, tn_nI, inb_t, grd_true, bnd_some, elS_l, elS_r, nI_ltI, nI_leI, nI_inj, fa_and, fa_or, m1_eq, eq_m1, m1_lt, m1_le, lt_m1, le_m1, m1_lt0, up2_at, up2_no, ite_true, ite_false, if_true, if_false, Bool.false_eq_true, reduceIte, reduceCtorEq, not_true_eq_false, not_false_eq_true, eq_self, decide_true, decide_false, le_tt, le_ff, lt_tt, lt_ff, eq_ff, and_true, true_and, and_false, false_and, or_true, true_or, or_false, false_or, ne_eq, decide_eq_true_eq, decide_eq_false_iff_not, Bool.not_true, Bool.not_false, Bool.and_true, Bool.true_and, Bool.and_false, Bool.false_and, gs_at, gs_no, oI_n, oI_s, c, hz', q2]
          · rw [hx] at q1; cases q1
        · have hm' := hm1 M hC
          rcases pk_m (n := n) hV hF hC (by omega) with ⟨_, q2⟩ | ⟨d, f, M', q1, _⟩
          · show Fm_unravel_b39 n M = _
            unfold Fm_unravel_b39
            rw [if_neg (fun q => hm'.mp q), q2]
            rfl
          · rw [hx] at q1; cases q1
      | some d =>
        obtain ⟨_, d2, d3, _⟩ := fstP_some hx
        have hd : d < g 7 := by omega
        unfold pkB at d3
        rw [Bool.and_eq_true, Bool.and_eq_true, Bool.not_eq_true'] at d3
        obtain ⟨⟨hl, hp⟩, hs⟩ := d3
        cases hf : pfF gn d with
        | none => rw [hf] at hs; cases hs
        | some f =>
          obtain ⟨_, _, p3, _⟩ := fstP_some hf
          have hV1 := pk_V hV hd hl p3
          have hct := pk1_ct (g := g) hd hp
          have hple1 := fb_ct_le (pk1 pk d) (g 7)
          obtain ⟨gn2, lf2, dn2, L, r1, r2, r3, r5, r6, r7, r8⟩ := carry (n := n) hT hV1 hn
          obtain ⟨gn', lf', pk', dn', i1, i2, i3⟩ := ih gn2 lf2 (pk1 pk d) dn2 r1 (by omega)
          refine ⟨gn', lf', pk', dn', i1, fun m M hm hC => ?_, fun m M h hm hF hC => ?_⟩
          · rcases pk_c (n := n) hV hT hC (by omega) with ⟨q1, _⟩ | ⟨d', f', M1, q1, q2, q3, q4⟩
            · rw [hx] at q1; cases q1
            · rw [hx] at q1
              cases q1
              rw [hf] at q2
              cases q2
              obtain ⟨M2, a1, a2, _⟩ := r7 M1 q4
              obtain ⟨M', b1, b2⟩ := i2 (m - 1) M2 (by omega) a2
              refine ⟨M', ?_, b2⟩
              rw [loop_inl (s' := (nI (fb_ct (pk1 pk d) (g 7)), M2)) ?_ (by omega)]
              · exact b1
              · have hz' := hz1 M hC
                show Rp_carryOutParking_b6 n (nI (fb_ct pk (g 7))) M = _
                rw [hct]
                have hlt : fb_ct pk (g 7) < 40 := by omega
                generalize fb_ct pk (g 7) = z at hlt ⊢
                unfold Rp_carryOutParking_b6
                simp (disch := omega) only [l_0, l_1, l_2, l_3, l_4, l_5, l_6, l_7, l_8, l_9, l_10, l_11, l_12, l_13, l_14, l_16, l_20, l_21, l_23, l_24, l_30, l_32, l_40, l_41, l_44, l_48, l_57, l_59, l_60, l_63, l_64, l_80, l_84, l_96, l_97, l_99, l_120, l_122, l_127, l_200, l_240, l_255, l_840, l_999, l_1000, l_1001, l_2400, l_3064, l_9999, l_10000, l_13849, l_16383, l_25173, l_65535, l_65536, l_99999, l_1000000000, neg_nI, pk_mul, nI_add, nI_subL, tn_nI, inb_t, grd_true, bnd_some, elS_l, elS_r, nI_ltI, nI_leI, nI_inj, fa_and, fa_or, m1_eq, eq_m1, m1_lt, m1_le, lt_m1, le_m1, m1_lt0, up2_at, up2_no, ite_true, ite_false, if_true, if_false, Bool.false_eq_true, reduceIte, reduceCtorEq, not_true_eq_false, not_false_eq_true, eq_self, decide_true, decide_false, le_tt, le_ff, lt_tt, lt_ff, eq_ff, and_true, true_and, and_false, false_and, or_true, true_or, or_false, false_or, ne_eq, decide_eq_true_eq, decide_eq_false_iff_not, Bool.not_true, Bool.not_false, Bool.and_true, Bool.true_and, Bool.and_false, Bool.false_and, gs_at, gs_no, oI_n, oI_s, hz', q3, a1]
          · rcases pk_m (n := n) hV hF hC (by omega) with ⟨q1, _⟩ | ⟨d', f', M1, q1, q2, q3, q4, q5⟩
            · rw [hx] at q1; cases q1
            · rw [hx] at q1
              cases q1
              rw [hf] at q2
              cases q2
              obtain ⟨M2, a1, a2, a3, _⟩ := r8 M1 h q4 q5
              obtain ⟨M', b1, b2, b3⟩ := i3 (m - 1) M2 h (by omega) a2 a3
              refine ⟨M', ?_, b2, b3⟩
              rw [loop_inl (s' := M2) ?_ (by omega)]
              · exact b1
              · have hm' := hm1 M hC
                show Fm_unravel_b39 n M = _
                unfold Fm_unravel_b39
                rw [if_neg (fun q => hm'.mp q), q3]
                simp (disch := omega) only [l_0, l_1, l_2, l_3, l_4, l_5, l_6, l_7, l_8, l_9, l_10, l_11, l_12, l_13, l_14, l_16, l_20, l_21, l_23, l_24, l_30, l_32, l_40, l_41, l_44, l_48, l_57, l_59, l_60, l_63, l_64, l_80, l_84, l_96, l_97, l_99, l_120, l_122, l_127, l_200, l_240, l_255, l_840, l_999, l_1000, l_1001, l_2400, l_3064, l_9999, l_10000, l_13849, l_16383, l_25173, l_65535, l_65536, l_99999, l_1000000000, neg_nI, pk_mul, nI_add, nI_subL, tn_nI, inb_t, grd_true, bnd_some, elS_l, elS_r, nI_ltI, nI_leI, nI_inj, fa_and, fa_or, m1_eq, eq_m1, m1_lt, m1_le, lt_m1, le_m1, m1_lt0, up2_at, up2_no, ite_true, ite_false, if_true, if_false, Bool.false_eq_true, reduceIte, reduceCtorEq, not_true_eq_false, not_false_eq_true, eq_self, decide_true, decide_false, le_tt, le_ff, lt_tt, lt_ff, eq_ff, and_true, true_and, and_false, false_and, or_true, true_or, or_false, false_or, ne_eq, decide_eq_true_eq, decide_eq_false_iff_not, Bool.not_true, Bool.not_false, Bool.and_true, Bool.true_and, Bool.and_false, Bool.false_and, gs_at, gs_no, oI_n, oI_s, a1]
end
def urA (g gn : Nat → Nat) (lf pk : Nat → Bool) (dn w : Nat) : Int32 := if w = 0 then nI (fb_ct pk (g 7)) else if w = 1 then nI dn else if w = 2 then nI (fb_ct lf (g 7)) else oI (tpF gn 16383 (g 7))
theorem op_unravel {n : Nat} (hn : 1099511627776 < n) (x y : Int32) : T2 (Fg_unravel n x y) (Fm_unravel n x y) := by
  refine T2.id (fun g hg => ?_)
  have b1 := hg.1.2.1.1
  have h40 := hg.2.2
  by_cases hx : (inb x 4 && rg y 0 3) = true
  · rw [Bool.and_eq_true] at hx
    obtain ⟨u, hu, rfl⟩ := (inb_iff (by decide)).mp hx.1
    obtain ⟨w, _, hw, rfl⟩ := (rg_iff (by decide)).mp hx.2
    cases hla : laF g u (g 7) with
    | none =>
      refine ⟨ng 2, fun M hS hA => ?_, fun M h hF => ?_⟩
      · rcases lay_cl (n := n) hg hu hS hA (by omega) with ⟨q1, M', q2, q3, q4, q5⟩ | ⟨gT, q1, _⟩
        · refine ⟨M', ?_, q3, q4, q5⟩
          unfold Fg_unravel
          rw [Fg_isRule_e, hx.1]
          simp (disch := omega) only [l_0, l_1, l_2, l_3, l_4, l_5, l_6, l_7, l_8, l_9, l_10, l_11, l_12, l_13, l_14, l_16, l_20, l_21, l_23, l_24, l_30, l_32, l_40, l_41, l_44, l_48, l_57, l_59, l_60, l_63, l_64, l_80, l_84, l_96, l_97, l_99, l_120, l_122, l_127, l_200, l_240, l_255, l_840, l_999, l_1000, l_1001, l_2400, l_3064, l_9999, l_10000, l_13849, l_16383, l_25173, l_65535, l_65536, l_99999, l_1000000000, neg_nI, pk_mul, nI_add, nI_subL, tn_nI, inb_t, grd_true, bnd_some, elS_l, elS_r, nI_ltI, nI_leI, nI_inj, fa_and, fa_or, m1_eq, eq_m1, m1_lt, m1_le, lt_m1, le_m1, m1_lt0, up2_at, up2_no, ite_true, ite_false, if_true, if_false, Bool.false_eq_true, reduceIte, reduceCtorEq, not_true_eq_false, not_false_eq_true, eq_self, decide_true, decide_false, le_tt, le_ff, lt_tt, lt_ff, eq_ff, and_true, true_and, and_false, false_and, or_true, true_or, or_false, false_or, ne_eq, decide_eq_true_eq, decide_eq_false_iff_not, Bool.not_true, Bool.not_false, Bool.and_true, Bool.true_and, Bool.and_false, Bool.false_and, gs_at, gs_no, oI_n, oI_s, q2]
        · rw [hla] at q1; cases q1
      · rcases aims_m (n := n) hg hu hF hn with ⟨q1, M', h', q2, q3, q4, q5⟩ | ⟨gT, q1, _⟩
        · refine ⟨M', h', ?_, q3, q4, q5⟩
          unfold Fm_unravel
          rw [Fm_isRule_e, hx.1, l_0, l_3, Fm_in_x (by decide) (by decide), hx.2]
          simp (disch := omega) only [l_0, l_1, l_2, l_3, l_4, l_5, l_6, l_7, l_8, l_9, l_10, l_11, l_12, l_13, l_14, l_16, l_20, l_21, l_23, l_24, l_30, l_32, l_40, l_41, l_44, l_48, l_57, l_59, l_60, l_63, l_64, l_80, l_84, l_96, l_97, l_99, l_120, l_122, l_127, l_200, l_240, l_255, l_840, l_999, l_1000, l_1001, l_2400, l_3064, l_9999, l_10000, l_13849, l_16383, l_25173, l_65535, l_65536, l_99999, l_1000000000, neg_nI, pk_mul, nI_add, nI_subL, tn_nI, inb_t, grd_true, bnd_some, elS_l, elS_r, nI_ltI, nI_leI, nI_inj, fa_and, fa_or, m1_eq, eq_m1, m1_lt, m1_le, lt_m1, le_m1, m1_lt0, up2_at, up2_no, ite_true, ite_false, if_true, if_false, Bool.false_eq_true, reduceIte, reduceCtorEq, not_true_eq_false, not_false_eq_true, eq_self, decide_true, decide_false, le_tt, le_ff, lt_tt, lt_ff, eq_ff, and_true, true_and, and_false, false_and, or_true, true_or, or_false, false_or, ne_eq, decide_eq_true_eq, decide_eq_false_iff_not, Bool.not_true, Bool.not_false, Bool.and_true, Bool.true_and, Bool.and_false, Bool.false_and, gs_at, gs_no, oI_n, oI_s, q2]
        · rw [hla] at q1; cases q1
    | some gT =>
      have hT := la_LT hg (g 7) (Nat.le_refl _) gT hla
      obtain ⟨gn1, lf1', dn1, L, r1, r2, r3, r5, r6, r7, r8⟩ := carry (n := n) hT (PV_0 (gT := gT) hg) (by omega)
      have hpk0 : fb_ct (fun _ => false) (g 7) = 0 := fb_ct_zero.mpr (fun _ _ => rfl)
      obtain ⟨gn', lf', pk', dn', i1, i2, i3⟩ := unr_k (n := n) hT (by omega) 41 gn1 lf1' (fun _ => false) dn1 r1 (by omega)
      rw [hpk0] at i2
      have e7 : gn' 7 = g 7 := i1.2.1 7 (by omega)
      have hsum := i1.2.2.2.2.1
      have hmle := fb_ct_le (mvB g gT) (g 7)
      refine ⟨urA g gn' lf' pk' dn' w, fun M hS hA => ?_, fun M h hF => ?_⟩
      · rcases lay_cl (n := n) hg hu hS hA (by omega) with ⟨q1, _⟩ | ⟨gT', q1, M1, q2, q3, q4, q5, q6⟩
        · rw [hla] at q1; cases q1
        · rw [hla] at q1
          cases q1
          obtain ⟨M2, a1, a2, a3, a4, a5⟩ := r7 M1 q5
          obtain ⟨M3, c1, c2⟩ := i2 n M2 (by omega) a2
          have hrun : Rp_carryOutParking n M1 = some M3 := by
            unfold Rp_carryOutParking
            rw [a1, bnd_some, l_0, c1]
            rfl
          have hfr := fr_Rp_carryOutParking hrun
          refine ⟨M3, ?_, q3.fr hfr (fun k j hk => by unfold fp_Rp_carryOutParking; omega), q4.fr hfr (fun j => by unfold fp_Rp_carryOutParking; omega), q6.tr (hfr.mono (fun c j q => by unfold fp_Rp_carryOutParking at q; unfold PC; omega))⟩
          have h77 : M3.1 72 7 = nI dn' := c2.2.2.2.2.1
          have hcl := LB_ct (M := M3) (N := g 7) c2.2.2.1 (by omega) (fun b hb' => by
            cases hl : lf' b with
            | false => rfl
            | true => have := (i1.2.2.2.1 b hl).1; omega)
          have hcp := LB_ct (M := M3) (N := g 7) c2.2.2.2.2.2 (by omega) (fun b hb' => by
            cases hl : pk' b with
            | false => rfl
            | true => have := i1.2.2.2.2.2 b hl; omega)
          have ht := St_top_e (n := n) (s := 54) i1.1.1.2.1 i1.1.1.2.2.2.1 c2.1.1.1 c2.1.2.2.2 (by omega)
          rw [e7] at ht
          unfold Fg_unravel urA
          rw [Fg_isRule_e, hx.1]
          by_cases w0 : w = 0
          · simp (disch := omega) only [l_0, l_1, l_2, l_3, l_4, l_5, l_6, l_7, l_8, l_9, l_10, l_11, l_12, l_13, l_14, l_16, l_20, l_21, l_23, l_24, l_30, l_32, l_40, l_41, l_44, l_48, l_57, l_59, l_60, l_63, l_64, l_80, l_84, l_96, l_97, l_99, l_120, l_122, l_127, l_200, l_240, l_255, l_840, l_999, l_1000, l_1001, l_2400, l_3064, l_9999, l_10000, l_13849, l_16383, l_25173, l_65535, l_65536, l_99999, l_1000000000, neg_nI, pk_mul, nI_add, nI_subL, tn_nI, inb_t, grd_true, bnd_some, elS_l, elS_r, nI_ltI, nI_leI, nI_inj, fa_and, fa_or, m1_eq, eq_m1, m1_lt, m1_le, lt_m1, le_m1, m1_lt0, up2_at, up2_no, ite_true, ite_false, if_true, if_false, Bool.false_eq_true, reduceIte, reduceCtorEq, not_true_eq_false, not_false_eq_true, eq_self, decide_true, decide_false, le_tt, le_ff, lt_tt, lt_ff, eq_ff, and_true, true_and, and_false, false_and, or_true, true_or, or_false, false_or, ne_eq, decide_eq_true_eq, decide_eq_false_iff_not, Bool.not_true, Bool.not_false, Bool.and_true, Bool.true_and, Bool.and_false, Bool.false_and, gs_at, gs_no, oI_n, oI_s, q2, hrun, w0, hcp]
          · by_cases w1 : w = 1
            · simp (disch := omega) only [l_0, l_1, l_2, l_3, l_4, l_5, l_6, l_7, l_8, l_9, l_10, l_11, l_12, l_13, l_14, l_16, l_20, l_21, l_23, l_24, l_30, l_32, l_40, l_41, l_44, l_48, l_57, l_59, l_60, l_63, l_64, l_80, l_84, l_96, l_97, l_99, l_120, l_122, l_127, l_200, l_240, l_255, l_840, l_999, l_1000, l_1001, l_2400, l_3064, l_9999, l_10000, l_13849, l_16383, l_25173, l_65535, l_65536, l_99999, l_1000000000, neg_nI, pk_mul, nI_add, nI_subL, tn_nI, inb_t, grd_true, bnd_some, elS_l, elS_r, nI_ltI, nI_leI, nI_inj, fa_and, fa_or, m1_eq, eq_m1, m1_lt, m1_le, lt_m1, le_m1, m1_lt0, up2_at, up2_no, ite_true, ite_false, if_true, if_false, Bool.false_eq_true, reduceIte, reduceCtorEq, not_true_eq_false, not_false_eq_true, eq_self, decide_true, decide_false, le_tt, le_ff, lt_tt, lt_ff, eq_ff, and_true, true_and, and_false, false_and, or_true, true_or, or_false, false_or, ne_eq, decide_eq_true_eq, decide_eq_false_iff_not, Bool.not_true, Bool.not_false, Bool.and_true, Bool.true_and, Bool.and_false, Bool.false_and, gs_at, gs_no, oI_n, oI_s, q2, hrun, w1, h77]
            · by_cases w22 : w = 2
              · simp (disch := omega) only [l_0, l_1, l_2, l_3, l_4, l_5, l_6, l_7, l_8, l_9, l_10, l_11, l_12, l_13, l_14, l_16, l_20, l_21, l_23, l_24, l_30, l_32, l_40, l_41, l_44, l_48, l_57, l_59, l_60, l_63, l_64, l_80, l_84, l_96, l_97, l_99, l_120, l_122, l_127, l_200, l_240, l_255, l_840, l_999, l_1000, l_1001, l_2400, l_3064, l_9999, l_10000, l_13849, l_16383, l_25173, l_65535, l_65536, l_99999, l_1000000000, neg_nI, pk_mul, nI_add, nI_subL, tn_nI, inb_t, grd_true, bnd_some, elS_l, elS_r, nI_ltI, nI_leI, nI_inj, fa_and, fa_or, m1_eq, eq_m1, m1_lt, m1_le, lt_m1, le_m1, m1_lt0, up2_at, up2_no, ite_true, ite_false, if_true, if_false, Bool.false_eq_true, reduceIte, reduceCtorEq, not_true_eq_false, not_false_eq_true, eq_self, decide_true, decide_false, le_tt, le_ff, lt_tt, lt_ff, eq_ff, and_true, true_and, and_false, false_and, or_true, true_or, or_false, false_or, ne_eq, decide_eq_true_eq, decide_eq_false_iff_not, Bool.not_true, Bool.not_false, Bool.and_true, Bool.true_and, Bool.and_false, Bool.false_and, gs_at, gs_no, oI_n, oI_s, q2, hrun, w22, hcl]
              · have w33 : w = 3 := by omega
                simp (disch := omega) only [l_0, l_1, l_2, l_3, l_4, l_5, l_6, l_7, l_8, l_9, l_10, l_11, l_12, l_13, l_14, l_16, l_20, l_21, l_23, l_24, l_30, l_32, l_40, l_41, l_44, l_48, l_57, l_59, l_60, l_63, l_64, l_80, l_84, l_96, l_97, l_99, l_120, l_122, l_127, l_200, l_240, l_255, l_840, l_999, l_1000, l_1001, l_2400, l_3064, l_9999, l_10000, l_13849, l_16383, l_25173, l_65535, l_65536, l_99999, l_1000000000, neg_nI, pk_mul, nI_add, nI_subL, tn_nI, inb_t, grd_true, bnd_some, elS_l, elS_r, nI_ltI, nI_leI, nI_inj, fa_and, fa_or, m1_eq, eq_m1, m1_lt, m1_le, lt_m1, le_m1, m1_lt0, up2_at, up2_no, ite_true, ite_false, if_true, if_false, Bool.false_eq_true, reduceIte, reduceCtorEq, not_true_eq_false, not_false_eq_true, eq_self, decide_true, decide_false, le_tt, le_ff, lt_tt, lt_ff, eq_ff, and_true, true_and, and_false, false_and, or_true, true_or, or_false, false_or, ne_eq, decide_eq_true_eq, decide_eq_false_iff_not, Bool.not_true, Bool.not_false, Bool.and_true, Bool.true_and, Bool.and_false, Bool.false_and, gs_at, gs_no, oI_n, oI_s, q2, hrun, w33, ht]
      · rcases aims_m (n := n) hg hu hF hn with ⟨q1, _⟩ | ⟨gT', q1, M1, h', q2, q3, q4, q5, q6, q7⟩
        · rw [hla] at q1; cases q1
        · rw [hla] at q1
          cases q1
          obtain ⟨M2, h2, c1, c2, c3, c4, c5⟩ := q3.out (b := 3) (n := n) (by omega) (by omega) (by omega)
          obtain ⟨M3, a1, a2, a3, a4, a5, a6⟩ := r8 M2 h2 c2 (q5.fr c5 (fun c j hc => by omega) (by omega))
          obtain ⟨M4, d1, d2, d3⟩ := i3 n M3 h2 (by omega) a2 a3
          have htop := Fm_top_e (n := n) i1.1.1.1 i1.1.1.2.1 i1.1.1.2.2.2.1 d2 (by omega)
          rw [e7] at htop
          obtain ⟨M5, e1, e2, e3⟩ := d2.back (b := 3) (n := n) (g' := g) (by omega) (by omega) c3 (by omega)
          have h33 : M5.1 94 33 = nI dn' := by rw [(e3 94 33 (by omega)).1]; exact d3.2.2.2.2.1
          have h34 : M5.1 94 34 = nI (fb_ct pk' (g 7)) := by rw [(e3 94 34 (by omega)).1]; exact d3.2.2.2.2.2.1
          have h32 : M5.1 94 32 = nI (fb_ct (mvB g gT) (g 7)) := by rw [(e3 94 32 (by omega)).1]; exact d3.2.2.2.2.2.2
          have hsub : nI (fb_ct (mvB g gT) (g 7)) - nI dn' = nI (fb_ct lf' (g 7)) := by
            rw [nI_subL (by omega)]
            congr 1
            omega
          have hrun : Fm_unravel n (nI u) (nI w) M = some (urA g gn' lf' pk' dn' w, M5) := by
            unfold Fm_unravel Fm_unravel_j64 urA
            rw [Fm_isRule_e, hx.1, l_0, l_3, Fm_in_x (by decide) (by decide), hx.2]
            by_cases w0 : w = 0
            · simp (disch := omega) only [l_0, l_1, l_2, l_3, l_4, l_5, l_6, l_7, l_8, l_9, l_10, l_11, l_12, l_13, l_14, l_16, l_20, l_21, l_23, l_24, l_30, l_32, l_40, l_41, l_44, l_48, l_57, l_59, l_60, l_63, l_64, l_80, l_84, l_96, l_97, l_99, l_120, l_122, l_127, l_200, l_240, l_255, l_840, l_999, l_1000, l_1001, l_2400, l_3064, l_9999, l_10000, l_13849, l_16383, l_25173, l_65535, l_65536, l_99999, l_1000000000, neg_nI, pk_mul, nI_add, nI_subL, tn_nI, inb_t, grd_true, bnd_some, elS_l, elS_r, nI_ltI, nI_leI, nI_inj, fa_and, fa_or, m1_eq, eq_m1, m1_lt, m1_le, lt_m1, le_m1, m1_lt0, up2_at, up2_no, ite_true, ite_false, if_true, if_false, Bool.false_eq_true, reduceIte, reduceCtorEq, not_true_eq_false, not_false_eq_true, eq_self, decide_true, decide_false, le_tt, le_ff, lt_tt, lt_ff, eq_ff, and_true, true_and, and_false, false_and, or_true, true_or, or_false, false_or, ne_eq, decide_eq_true_eq, decide_eq_false_iff_not, Bool.not_true, Bool.not_false, Bool.and_true, Bool.true_and, Bool.and_false, Bool.false_and, gs_at, gs_no, oI_n, oI_s, q2, c1, a1, d1, htop, e1, w0, h34]
            · by_cases w1 : w = 1
              · simp (disch := omega) only [l_0, l_1, l_2, l_3, l_4, l_5, l_6, l_7, l_8, l_9, l_10, l_11, l_12, l_13, l_14, l_16, l_20, l_21, l_23, l_24, l_30, l_32, l_40, l_41, l_44, l_48, l_57, l_59, l_60, l_63, l_64, l_80, l_84, l_96, l_97, l_99, l_120, l_122, l_127, l_200, l_240, l_255, l_840, l_999, l_1000, l_1001, l_2400, l_3064, l_9999, l_10000, l_13849, l_16383, l_25173, l_65535, l_65536, l_99999, l_1000000000, neg_nI, pk_mul, nI_add, nI_subL, tn_nI, inb_t, grd_true, bnd_some, elS_l, elS_r, nI_ltI, nI_leI, nI_inj, fa_and, fa_or, m1_eq, eq_m1, m1_lt, m1_le, lt_m1, le_m1, m1_lt0, up2_at, up2_no, ite_true, ite_false, if_true, if_false, Bool.false_eq_true, reduceIte, reduceCtorEq, not_true_eq_false, not_false_eq_true, eq_self, decide_true, decide_false, le_tt, le_ff, lt_tt, lt_ff, eq_ff, and_true, true_and, and_false, false_and, or_true, true_or, or_false, false_or, ne_eq, decide_eq_true_eq, decide_eq_false_iff_not, Bool.not_true, Bool.not_false, Bool.and_true, Bool.true_and, Bool.and_false, Bool.false_and, gs_at, gs_no, oI_n, oI_s, q2, c1, a1, d1, htop, e1, w1, h33]
              · by_cases w22 : w = 2
                · simp (disch := omega) only [l_0, l_1, l_2, l_3, l_4, l_5, l_6, l_7, l_8, l_9, l_10, l_11, l_12, l_13, l_14, l_16, l_20, l_21, l_23, l_24, l_30, l_32, l_40, l_41, l_44, l_48, l_57, l_59, l_60, l_63, l_64, l_80, l_84, l_96, l_97, l_99, l_120, l_122, l_127, l_200, l_240, l_255, l_840, l_999, l_1000, l_1001, l_2400, l_3064, l_9999, l_10000, l_13849, l_16383, l_25173, l_65535, l_65536, l_99999, l_1000000000, neg_nI, pk_mul, nI_add, nI_subL, tn_nI, inb_t, grd_true, bnd_some, elS_l, elS_r, nI_ltI, nI_leI, nI_inj, fa_and, fa_or, m1_eq, eq_m1, m1_lt, m1_le, lt_m1, le_m1, m1_lt0, up2_at, up2_no, ite_true, ite_false, if_true, if_false, Bool.false_eq_true, reduceIte, reduceCtorEq, not_true_eq_false, not_false_eq_true, eq_self, decide_true, decide_false, le_tt, le_ff, lt_tt, lt_ff, eq_ff, and_true, true_and, and_false, false_and, or_true, true_or, or_false, false_or, ne_eq, decide_eq_true_eq, decide_eq_false_iff_not, Bool.not_true, Bool.not_false, Bool.and_true, Bool.true_and, Bool.and_false, Bool.false_and, gs_at, gs_no, oI_n, oI_s, q2, c1, a1, d1, htop, e1, w22, h33, h32, hsub]
                · have w33 : w = 3 := by omega
                  simp (disch := omega) only [l_0, l_1, l_2, l_3, l_4, l_5, l_6, l_7, l_8, l_9, l_10, l_11, l_12, l_13, l_14, l_16, l_20, l_21, l_23, l_24, l_30, l_32, l_40, l_41, l_44, l_48, l_57, l_59, l_60, l_63, l_64, l_80, l_84, l_96, l_97, l_99, l_120, l_122, l_127, l_200, l_240, l_255, l_840, l_999, l_1000, l_1001, l_2400, l_3064, l_9999, l_10000, l_13849, l_16383, l_25173, l_65535, l_65536, l_99999, l_1000000000, neg_nI, pk_mul, nI_add, nI_subL, tn_nI, inb_t, grd_true, bnd_some, elS_l, elS_r, nI_ltI, nI_leI, nI_inj, fa_and, fa_or, m1_eq, eq_m1, m1_lt, m1_le, lt_m1, le_m1, m1_lt0, up2_at, up2_no, ite_true, ite_false, if_true, if_false, Bool.false_eq_true, reduceIte, reduceCtorEq, not_true_eq_false, not_false_eq_true, eq_self, decide_true, decide_false, le_tt, le_ff, lt_tt, lt_ff, eq_ff, and_true, true_and, and_false, false_and, or_true, true_or, or_false, false_or, ne_eq, decide_eq_true_eq, decide_eq_false_iff_not, Bool.not_true, Bool.not_false, Bool.and_true, Bool.true_and, Bool.and_false, Bool.false_and, gs_at, gs_no, oI_n, oI_s, q2, c1, a1, d1, htop, e1, w33]
          have hfr := fr_Fm_unravel hrun
          exact ⟨M5, h2, hrun, e2, fun j hj => (c4 _ (by omega) (by omega)).trans (q4 j hj), hfr.mono (fun c j q => by unfold fp_Fm_unravel at q; unfold PM; omega)⟩
  · have hx' := ts_nt hx
    refine ⟨ng 1, fun M hS hA => TC.id hS hA ?_, fun M h hF => TM.id hF ?_⟩
    · unfold Fg_unravel
      rw [Fg_isRule_e, bnd_some]
      cases hp : inb x 4 with
      | false => rfl
      | true =>
        rw [hp, Bool.true_and] at hx'
        rcases i32c y with ⟨w, hw, rfl⟩ | hz
        · rw [rg_n hw] at hx'
          have := of_decide_eq_false hx'
          have : 3 < w := by omega
          simp (disch := omega) only [l_0, l_1, l_2, l_3, l_4, l_5, l_6, l_7, l_8, l_9, l_10, l_11, l_12, l_13, l_14, l_16, l_20, l_21, l_23, l_24, l_30, l_32, l_40, l_41, l_44, l_48, l_57, l_59, l_60, l_63, l_64, l_80, l_84, l_96, l_97, l_99, l_120, l_122, l_127, l_200, l_240, l_255, l_840, l_999, l_1000, l_1001, l_2400, l_3064, l_9999, l_10000, l_13849, l_16383, l_25173, l_65535, l_65536, l_99999, l_1000000000, neg_nI, pk_mul, nI_add, nI_subL, tn_nI, inb_t, grd_true, bnd_some, elS_l, elS_r, nI_ltI, nI_leI, nI_inj, fa_and, fa_or, m1_eq, eq_m1, m1_lt, m1_le, lt_m1, le_m1, m1_lt0, up2_at, up2_no, ite_true, ite_false, if_true, if_false, Bool.false_eq_true, reduceIte, reduceCtorEq, not_true_eq_false, not_false_eq_true, eq_self, decide_true, decide_false, le_tt, le_ff, lt_tt, lt_ff, eq_ff, and_true, true_and, and_false, false_and, or_true, true_or, or_false, false_or, ne_eq, decide_eq_true_eq, decide_eq_false_iff_not, Bool.not_true, Bool.not_false, Bool.and_true, Bool.true_and, Bool.and_false, Bool.false_and, gs_at, gs_no, oI_n, oI_s]
        · simp (disch := omega) only [l_0, l_1, l_2, l_3, l_4, l_5, l_6, l_7, l_8, l_9, l_10, l_11, l_12, l_13, l_14, l_16, l_20, l_21, l_23, l_24, l_30, l_32, l_40, l_41, l_44, l_48, l_57, l_59, l_60, l_63, l_64, l_80, l_84, l_96, l_97, l_99, l_120, l_122, l_127, l_200, l_240, l_255, l_840, l_999, l_1000, l_1001, l_2400, l_3064, l_9999, l_10000, l_13849, l_16383, l_25173, l_65535, l_65536, l_99999, l_1000000000, neg_nI, pk_mul, nI_add, nI_subL, tn_nI, inb_t, grd_true, bnd_some, elS_l, elS_r, nI_ltI, nI_leI, nI_inj, fa_and, fa_or, m1_eq, eq_m1, m1_lt, m1_le, lt_m1, le_m1, m1_lt0, up2_at, up2_no, ite_true, ite_false, if_true, if_false, Bool.false_eq_true, reduceIte, reduceCtorEq, not_true_eq_false, not_false_eq_true, eq_self, decide_true, decide_false, le_tt, le_ff, lt_tt, lt_ff, eq_ff, and_true, true_and, and_false, false_and, or_true, true_or, or_false, false_or, ne_eq, decide_eq_true_eq, decide_eq_false_iff_not, Bool.not_true, Bool.not_false, Bool.and_true, Bool.true_and, Bool.and_false, Bool.false_and, gs_at, gs_no, oI_n, oI_s, xlt hz]
    · unfold Fm_unravel
      rw [Fm_isRule_e, bnd_some]
      cases hp : inb x 4 with
      | false => rfl
      | true =>
        rw [hp, Bool.true_and] at hx'
        rw [l_0, l_3, Fm_in_x (by decide) (by decide), hx']
        simp (disch := omega) only [l_0, l_1, l_2, l_3, l_4, l_5, l_6, l_7, l_8, l_9, l_10, l_11, l_12, l_13, l_14, l_16, l_20, l_21, l_23, l_24, l_30, l_32, l_40, l_41, l_44, l_48, l_57, l_59, l_60, l_63, l_64, l_80, l_84, l_96, l_97, l_99, l_120, l_122, l_127, l_200, l_240, l_255, l_840, l_999, l_1000, l_1001, l_2400, l_3064, l_9999, l_10000, l_13849, l_16383, l_25173, l_65535, l_65536, l_99999, l_1000000000, neg_nI, pk_mul, nI_add, nI_subL, tn_nI, inb_t, grd_true, bnd_some, elS_l, elS_r, nI_ltI, nI_leI, nI_inj, fa_and, fa_or, m1_eq, eq_m1, m1_lt, m1_le, lt_m1, le_m1, m1_lt0, up2_at, up2_no, ite_true, ite_false, if_true, if_false, Bool.false_eq_true, reduceIte, reduceCtorEq, not_true_eq_false, not_false_eq_true, eq_self, decide_true, decide_false, le_tt, le_ff, lt_tt, lt_ff, eq_ff, and_true, true_and, and_false, false_and, or_true, true_or, or_false, false_or, ne_eq, decide_eq_true_eq, decide_eq_false_iff_not, Bool.not_true, Bool.not_false, Bool.and_true, Bool.true_and, Bool.and_false, Bool.false_and, gs_at, gs_no, oI_n, oI_s]
