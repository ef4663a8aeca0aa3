/-! the model: the walk over links, forth and back -/
theorem dl_or {a b : Nat} (h : a.testBit b = false) : dl (a ||| 2 ^ b) (2 ^ b) = a := by
  apply Nat.eq_of_testBit_eq
  intro i
  rw [dl_tb, fb_bit_set, Nat.testBit_two_pow]
  by_cases q : i = b
  · rw [q, h, decide_eq_true rfl]; rfl
  · rw [decide_eq_false q, decide_eq_false (fun w => q w.symm)]
    cases a.testBit i <;> rfl
theorem RLq_step {g : Nat → Nat} {goal fu u l seen : Nat} {e : We} (hu : u ≠ goal) (hl : l < g 3) : RLq g goal fu (u, l, seen, e) = (match byd g l u with | some x => kid g goal fu seen e (x, l) | none => []) ++ RLq g goal fu (u, l + 1, seen, e) := by
  unfold RLq
  rw [if_neg hu, if_neg hu]
  show (chL g u l (g 3 - l)).flatMap _ = _ ++ (chL g u (l + 1) (g 3 - (l + 1))).flatMap _
  rw [show g 3 - l = (g 3 - (l + 1)) + 1 by omega]
  show ((match byd g l u with | some x => [(x, l)] | none => []) ++ chL g u (l + 1) (g 3 - (l + 1))).flatMap _ = _
  rw [List.flatMap_append]
  congr 1
  cases byd g l u with
  | none => rfl
  | some x => exact List.flatMap_singleton ..
theorem RLq_end {g : Nat → Nat} {goal fu u l seen : Nat} {e : We} (h : l = g 3 ∨ u = goal) : RLq g goal fu (u, l, seen, e) = [] := by
  unfold RLq
  by_cases q : u = goal
  · rw [if_pos q]
  · rw [if_neg q]
    show (chL g u l (g 3 - l)).flatMap _ = _
    rw [show g 3 - l = 0 by omega]
    rfl
theorem kids_none {g : Nat → Nat} (hN : NV g) {goal fu u l k seen : Nat} {e : We} (hs : ∀ i, i < 8 → seen.testBit i = true) (hk : l + k ≤ g 3) : (chL g u l k).flatMap (kid g goal fu seen e) = [] := by
  apply List.flatMap_eq_nil_iff.mpr
  intro p hp
  obtain ⟨h1, h2, h3⟩ := chL_mem.mp hp
  have := byd_lt hN (by omega) h3
  have := hN.1
  unfold kid
  rw [if_pos (hs p.1 (by omega))]
def FI (g : Nat → Nat) (goal : Nat) (M0 : Mm) (W : List We) (k : Nat) (s : Int32 × Int32 × Int32 × Int32 × Mm) : Prop := ∃ (stk : List Fq) (acc : List We), k = ms stk ∧ Fr fp_Fm_findsWays M0 s.2.2.2.2 ∧ WL s.2.2.2.2 acc ∧ HS s.2.2.2.2 stk ∧ VS g stk ∧ (RS g goal stk).foldl (T4 ahB) acc = W ∧ (match stk with
  | [] => s.1 = ng 1
  | q :: R => s.1 = nI R.length ∧ s.2.1 = nI q.2.2.2.2.2.2 ∧ s.2.2.1 = nI q.2.2.2.1 ∧ s.2.2.2.1 = nI q.2.2.1)
theorem WL.fr {P : Nat → Nat → Prop} {M M' : Mm} {L : List We} (h : WL M L) (hf : Fr P M M') (h19 : ¬ P 94 19) (hp : ∀ j, ¬ P 98 j ∧ ¬ P 99 j ∧ ¬ P 100 j ∧ ¬ P 101 j) : WL M' L := by
  obtain ⟨h1, h2, h3, h4, h5⟩ := h
  refine ⟨(hf 94 19 h19).1.trans h1, h2, HL_congr (fun j e _ _ q => ?_) h3, h4, h5⟩
  obtain ⟨q1, q2, q3, q4⟩ := q
  have := hp j
  exact ⟨(hf 98 j this.1).1.trans q1, (hf 100 j this.2.2.1).1.trans q2, (hf 101 j this.2.2.2).1.trans q3, (hf 99 j this.2.1).1.trans q4⟩
def f1 (i j : Nat) (c k : Nat) : Prop := c = 102 ∧ k = j ∨ c = 103 ∧ (k = i ∨ k = j)
theorem FI_step {g : Nat → Nat} (hG : GB g) (hN : NV g) {goal : Nat} (hgo : goal < 8) {M0 : Mm} (hF0 : FR M0 g) {W : List We} {n : Nat} (hn : 100 < n) {k : Nat} {s : Int32 × Int32 × Int32 × Int32 × Mm} (h : FI g goal M0 W k s) : (∃ s' k', (fun s1 : Int32 × Int32 × Int32 × Int32 × Mm => Fm_findsWays_b32 n (nI goal) s1.1 s1.2.1 s1.2.2.1 s1.2.2.2.1 s1.2.2.2.2) s = some (.inl s') ∧ k' < k ∧ FI g goal M0 W k' s') ∨ (∃ r, (fun s1 : Int32 × Int32 × Int32 × Int32 × Mm => Fm_findsWays_b32 n (nI goal) s1.1 s1.2.1 s1.2.2.1 s1.2.2.2.1 s1.2.2.2.2) s = some (.inr r) ∧ (WL r W ∧ Fr fp_Fm_findsWays M0 r)) := by
  obtain ⟨s1, s2, s3, s4, M⟩ := s
  obtain ⟨stk, acc, hk, hfr, hw, hh, hv, hfold, hm⟩ := h
  simp only at hfr hw hh hm
  have b1 := hN.1
  have hF : FR M g := hF0.fr hfr (fun j q => by unfold fp_Fm_findsWays at q; omega)
  cases stk with
  | nil =>
    right
    simp only at hm
    subst hm
    refine ⟨M, ?_, ?_, hfr⟩
    · show Fm_findsWays_b32 n (nI goal) (ng 1) s2 s3 s4 M = _
      unfold Fm_findsWays_b32
      simp (disch := omega) only [l_0, l_1, l_2, l_3, l_4, l_5, l_6, l_7, l_8, l_9, l_10, l_11, l_12, l_13, l_14, l_16, l_20, l_21, l_23, l_24, l_30, l_32, l_40, l_41, l_44, l_48, l_57, l_59, l_60, l_63, l_64, l_80, l_84, l_96, l_97, l_99, l_120, l_122, l_127, l_200, l_240, l_255, l_840, l_999, l_1000, l_1001, l_2400, l_3064, l_9999, l_10000, l_13849, l_16383, l_25173, l_65535, l_65536, l_99999, l_1000000000, neg_nI, pk_mul, nI_add, nI_subL, tn_nI, inb_t, grd_true, bnd_some, elS_l, elS_r, nI_ltI, nI_leI, nI_inj, fa_and, fa_or, m1_eq, eq_m1, m1_lt, m1_le, lt_m1, le_m1, m1_lt0, up2_at, up2_no, ite_true, ite_false, if_true, if_false, Bool.false_eq_true, reduceIte, reduceCtorEq, not_true_eq_false, not_false_eq_true, eq_self, decide_true, decide_false, le_tt, le_ff, lt_tt, lt_ff, eq_ff, and_true, true_and, and_false, false_and, or_true, true_or, or_false, false_or, ne_eq, decide_eq_true_eq, decide_eq_false_iff_not, Bool.not_true, Bool.not_false, Bool.and_true, Bool.true_and, Bool.and_false, Bool.false_and, gs_at, gs_no, oI_n, oI_s]
    · have : acc = W := hfold
      rw [← this]
      exact hw
  | cons q R =>
    left
    obtain ⟨u, l, seen, e⟩ := q
    simp only at hm
    obtain ⟨m1, m2, m3, m4⟩ := hm
    subst m1 m2 m3 m4
    have v1 : EI g u seen e := hv.1
    have v2 : l ≤ g 3 := hv.2.1
    have v3 : e.2.1 = R.length := hv.2.2.1
    have v5 : VS g R := hv.2.2.2.2
    have hbw := v1.lt hN
    have hu8 : u < 8 := by have := v1.1; omega
    have hs8 : seen < 256 := v1.2.2.1
    have h102 : M.1 102 R.length = nI u := hh.1
    have h103 : M.1 103 R.length = nI l := hh.2.1
    have hhR : HS M R := hh.2.2
    show ∃ s' k', Fm_findsWays_b32 n (nI goal) (nI R.length) (nI e.2.2.2) (nI e.1) (nI seen) M = some (.inl s') ∧ _
    have hR7 : R.length ≤ 7 := by omega
    by_cases hA : l = g 3 ∨ u = goal
    · have eb : Fm_findsWays_b32 n (nI goal) (nI R.length) (nI e.2.2.2) (nI e.1) (nI seen) M = Fm_findsWays_j65 (nI R.length) (nI e.2.2.2) (nI e.1) (nI seen) M := by
        unfold Fm_findsWays_b32
        simp (disch := omega) only [l_0, l_1, l_2, l_3, l_4, l_5, l_6, l_7, l_8, l_9, l_10, l_11, l_12, l_13, l_14, l_16, l_20, l_21, l_23, l_24, l_30, l_32, l_40, l_41, l_44, l_48, l_57, l_59, l_60, l_63, l_64, l_80, l_84, l_96, l_97, l_99, l_120, l_122, l_127, l_200, l_240, l_255, l_840, l_999, l_1000, l_1001, l_2400, l_3064, l_9999, l_10000, l_13849, l_16383, l_25173, l_65535, l_65536, l_99999, l_1000000000, neg_nI, pk_mul, nI_add, nI_subL, tn_nI, inb_t, grd_true, bnd_some, elS_l, elS_r, nI_ltI, nI_leI, nI_inj, fa_and, fa_or, m1_eq, eq_m1, m1_lt, m1_le, lt_m1, le_m1, m1_lt0, up2_at, up2_no, ite_true, ite_false, if_true, if_false, Bool.false_eq_true, reduceIte, reduceCtorEq, not_true_eq_false, not_false_eq_true, eq_self, decide_true, decide_false, le_tt, le_ff, lt_tt, lt_ff, eq_ff, and_true, true_and, and_false, false_and, or_true, true_or, or_false, false_or, ne_eq, decide_eq_true_eq, decide_eq_false_iff_not, Bool.not_true, Bool.not_false, Bool.and_true, Bool.true_and, Bool.and_false, Bool.false_and, gs_at, gs_no, oI_n, oI_s, h102, h103, fr0 hF]
        by_cases hl : l = g 3
        · simp (disch := omega) only [l_0, l_1, l_2, l_3, l_4, l_5, l_6, l_7, l_8, l_9, l_10, l_11, l_12, l_13, l_14, l_16, l_20, l_21, l_23, l_24, l_30, l_32, l_40, l_41, l_44, l_48, l_57, l_59, l_60, l_63, l_64, l_80, l_84, l_96, l_97, l_99, l_120, l_122, l_127, l_200, l_240, l_255, l_840, l_999, l_1000, l_1001, l_2400, l_3064, l_9999, l_10000, l_13849, l_16383, l_25173, l_65535, l_65536, l_99999, l_1000000000, neg_nI, pk_mul, nI_add, nI_subL, tn_nI, inb_t, grd_true, bnd_some, elS_l, elS_r, nI_ltI, nI_leI, nI_inj, fa_and, fa_or, m1_eq, eq_m1, m1_lt, m1_le, lt_m1, le_m1, m1_lt0, up2_at, up2_no, ite_true, ite_false, if_true, if_false, Bool.false_eq_true, reduceIte, reduceCtorEq, not_true_eq_false, not_false_eq_true, eq_self, decide_true, decide_false, le_tt, le_ff, lt_tt, lt_ff, eq_ff, and_true, true_and, and_false, false_and, or_true, true_or, or_false, false_or, ne_eq, decide_eq_true_eq, decide_eq_false_iff_not, Bool.not_true, Bool.not_false, Bool.and_true, Bool.true_and, Bool.and_false, Bool.false_and, gs_at, gs_no, oI_n, oI_s, hl]
        · have hu : u = goal := by omega
          simp (disch := omega) only [l_0, l_1, l_2, l_3, l_4, l_5, l_6, l_7, l_8, l_9, l_10, l_11, l_12, l_13, l_14, l_16, l_20, l_21, l_23, l_24, l_30, l_32, l_40, l_41, l_44, l_48, l_57, l_59, l_60, l_63, l_64, l_80, l_84, l_96, l_97, l_99, l_120, l_122, l_127, l_200, l_240, l_255, l_840, l_999, l_1000, l_1001, l_2400, l_3064, l_9999, l_10000, l_13849, l_16383, l_25173, l_65535, l_65536, l_99999, l_1000000000, neg_nI, pk_mul, nI_add, nI_subL, tn_nI, inb_t, grd_true, bnd_some, elS_l, elS_r, nI_ltI, nI_leI, nI_inj, fa_and, fa_or, m1_eq, eq_m1, m1_lt, m1_le, lt_m1, le_m1, m1_lt0, up2_at, up2_no, ite_true, ite_false, if_true, if_false, Bool.false_eq_true, reduceIte, reduceCtorEq, not_true_eq_false, not_false_eq_true, eq_self, decide_true, decide_false, le_tt, le_ff, lt_tt, lt_ff, eq_ff, and_true, true_and, and_false, false_and, or_true, true_or, or_false, false_or, ne_eq, decide_eq_true_eq, decide_eq_false_iff_not, Bool.not_true, Bool.not_false, Bool.and_true, Bool.true_and, Bool.and_false, Bool.false_and, gs_at, gs_no, oI_n, oI_s, hl, hu]
      have hfold' : (RS g goal R).foldl (T4 ahB) acc = W := by
        have e1 : RS g goal ((u, l, seen, e) :: R) = RS g goal R := by
          show RLq g goal (6 - R.length) (u, l, seen, e) ++ RS g goal R = _
          rw [RLq_end hA]
          rfl
        rw [← e1]; exact hfold
      rw [eb]
      cases R with
      | nil =>
        refine ⟨(ng 1, nI e.2.2.2, nI e.1, nI seen, M), ms [], ?_, ?_, [], acc, rfl, hfr, hw, trivial, trivial, hfold', rfl⟩
        · unfold Fm_findsWays_j65
          rw [List.length_nil]
          simp (disch := omega) only [l_0, l_1, l_2, l_3, l_4, l_5, l_6, l_7, l_8, l_9, l_10, l_11, l_12, l_13, l_14, l_16, l_20, l_21, l_23, l_24, l_30, l_32, l_40, l_41, l_44, l_48, l_57, l_59, l_60, l_63, l_64, l_80, l_84, l_96, l_97, l_99, l_120, l_122, l_127, l_200, l_240, l_255, l_840, l_999, l_1000, l_1001, l_2400, l_3064, l_9999, l_10000, l_13849, l_16383, l_25173, l_65535, l_65536, l_99999, l_1000000000, neg_nI, pk_mul, nI_add, nI_subL, tn_nI, inb_t, grd_true, bnd_some, elS_l, elS_r, nI_ltI, nI_leI, nI_inj, fa_and, fa_or, m1_eq, eq_m1, m1_lt, m1_le, lt_m1, le_m1, m1_lt0, up2_at, up2_no, ite_true, ite_false, if_true, if_false, Bool.false_eq_true, reduceIte, reduceCtorEq, not_true_eq_false, not_false_eq_true, eq_self, decide_true, decide_false, le_tt, le_ff, lt_tt, lt_ff, eq_ff, and_true, true_and, and_false, false_and, or_true, true_or, or_false, false_or, ne_eq, decide_eq_true_eq, decide_eq_false_iff_not, Bool.not_true, Bool.not_false, Bool.and_true, Bool.true_and, Bool.and_false, Bool.false_and, gs_at, gs_no, oI_n, oI_s, z0m1]
        · rw [hk]
          show 0 < 1 + _ + 0
          omega
      | cons p R =>
        obtain ⟨b, c1, c2, c3, c4, c5, c6⟩ := hv.2.2.2.1
        have c6' : e = extW (lenG g) p.2.2.2 (u, b) := c6
        have c5' : seen = p.2.2.1 ||| 2 ^ u := c5
        have c4' : p.2.2.1.testBit u = false := c4
        have hx := (v5.1).ext hN c2 c3 c4
        have hp103 : M.1 103 R.length = nI (b + 1) := by rw [← c1]; exact hhR.2.1
        have hb44 := hG.1 (44 + b)
        rw [List.length_cons] at h102 h103 hR7
        refine ⟨(nI R.length, nI p.2.2.2.2.2.2, nI p.2.2.2.1, nI p.2.2.1, M), ms (p :: R), ?_, ?_, p :: R, acc, rfl, hfr, hw, hhR, v5, hfold', rfl, rfl, rfl, rfl⟩
        · unfold Fm_findsWays_j65
          rw [List.length_cons, c6', c5']
          show _ = some (Sum.inl (nI R.length, nI p.2.2.2.2.2.2, nI p.2.2.2.1, nI p.2.2.1, M))
          have i1 : 44 + (b + 1) - 1 = 44 + b := by omega
          have i2 : (extW (lenG g) p.2.2.2 (u, b)).2.2.2 = p.2.2.2.2.2.2 ||| 2 ^ b := rfl
          have i3 : (extW (lenG g) p.2.2.2 (u, b)).1 = p.2.2.2.1 + g (44 + b) := rfl
          rw [i2, i3]
          simp (disch := omega) only [l_0, l_1, l_2, l_3, l_4, l_5, l_6, l_7, l_8, l_9, l_10, l_11, l_12, l_13, l_14, l_16, l_20, l_21, l_23, l_24, l_30, l_32, l_40, l_41, l_44, l_48, l_57, l_59, l_60, l_63, l_64, l_80, l_84, l_96, l_97, l_99, l_120, l_122, l_127, l_200, l_240, l_255, l_840, l_999, l_1000, l_1001, l_2400, l_3064, l_9999, l_10000, l_13849, l_16383, l_25173, l_65535, l_65536, l_99999, l_1000000000, neg_nI, pk_mul, nI_add, nI_subL, tn_nI, inb_t, grd_true, bnd_some, elS_l, elS_r, nI_ltI, nI_leI, nI_inj, fa_and, fa_or, m1_eq, eq_m1, m1_lt, m1_le, lt_m1, le_m1, m1_lt0, up2_at, up2_no, ite_true, ite_false, if_true, if_false, Bool.false_eq_true, reduceIte, reduceCtorEq, not_true_eq_false, not_false_eq_true, eq_self, decide_true, decide_false, le_tt, le_ff, lt_tt, lt_ff, eq_ff, and_true, true_and, and_false, false_and, or_true, true_or, or_false, false_or, ne_eq, decide_eq_true_eq, decide_eq_false_iff_not, Bool.not_true, Bool.not_false, Bool.and_true, Bool.true_and, Bool.and_false, Bool.false_and, gs_at, gs_no, oI_n, oI_s, Nat.add_sub_cancel, h102, hp103, i1, fr0 hF, shl_e, andnot_e, dl_or hx.2, dl_or c4']
        · rw [hk]
          show ms (p :: R) < 1 + _ + ms (p :: R)
          omega
    · have hl : l < g 3 := by omega
      have hu : u ≠ goal := by omega
      have hfr1 : Fr fp_Fm_findsWays M0 (up2 M.1 103 R.length (nI (l + 1)), M.2) := Fr.I hfr (by unfold fp_Fm_findsWays; omega)
      have hF1 : FR (up2 M.1 103 R.length (nI (l + 1)), M.2) g := hF0.fr hfr1 (fun j q => by unfold fp_Fm_findsWays at q; omega)
      have hby := Fm_beyond_e hF1 hG hN hl hu8
      have hfr2 : Fr (fun c k => c = 103) M (up2 M.1 103 R.length (nI (l + 1)), M.2) := Fr.I Fr.rf rfl
      have hw1 : WL (up2 M.1 103 R.length (nI (l + 1)), M.2) acc := hw.fr hfr2 (by omega) (fun j => by omega)
      have hh1 : HS (up2 M.1 103 R.length (nI (l + 1)), M.2) ((u, l + 1, seen, e) :: R) := ⟨by
        show up2 M.1 103 R.length (nI (l + 1)) 102 R.length = nI u
        simp (disch := omega) only [l_0, l_1, l_2, l_3, l_4, l_5, l_6, l_7, l_8, l_9, l_10, l_11, l_12, l_13, l_14, l_16, l_20, l_21, l_23, l_24, l_30, l_32, l_40, l_41, l_44, l_48, l_57, l_59, l_60, l_63, l_64, l_80, l_84, l_96, l_97, l_99, l_120, l_122, l_127, l_200, l_240, l_255, l_840, l_999, l_1000, l_1001, l_2400, l_3064, l_9999, l_10000, l_13849, l_16383, l_25173, l_65535, l_65536, l_99999, l_1000000000, neg_nI, pk_mul, nI_add, nI_subL, tn_nI, inb_t, grd_true, bnd_some, elS_l, elS_r, nI_ltI, nI_leI, nI_inj, fa_and, fa_or, m1_eq, eq_m1, m1_lt, m1_le, lt_m1, le_m1, m1_lt0, up2_at, up2_no, ite_true, ite_false, if_true, if_false, Bool.false_eq_true, reduceIte, reduceCtorEq, not_true_eq_false, not_false_eq_true, eq_self, decide_true, decide_false, le_tt, le_ff, lt_tt, lt_ff, eq_ff, and_true, true_and, and_false, false_and, or_true, true_or, or_false, false_or, ne_eq, decide_eq_true_eq, decide_eq_false_iff_not, Bool.not_true, Bool.not_false, Bool.and_true, Bool.true_and, Bool.and_false, Bool.false_and, gs_at, gs_no, oI_n, oI_s, h102], up2_at, HS_congr (fun k hk => ⟨by
          show up2 M.1 103 R.length (nI (l + 1)) 102 k = _
          simp (disch := omega) only [l_0, l_1, l_2, l_3, l_4, l_5, l_6, l_7, l_8, l_9, l_10, l_11, l_12, l_13, l_14, l_16, l_20, l_21, l_23, l_24, l_30, l_32, l_40, l_41, l_44, l_48, l_57, l_59, l_60, l_63, l_64, l_80, l_84, l_96, l_97, l_99, l_120, l_122, l_127, l_200, l_240, l_255, l_840, l_999, l_1000, l_1001, l_2400, l_3064, l_9999, l_10000, l_13849, l_16383, l_25173, l_65535, l_65536, l_99999, l_1000000000, neg_nI, pk_mul, nI_add, nI_subL, tn_nI, inb_t, grd_true, bnd_some, elS_l, elS_r, nI_ltI, nI_leI, nI_inj, fa_and, fa_or, m1_eq, eq_m1, m1_lt, m1_le, lt_m1, le_m1, m1_lt0, up2_at, up2_no, ite_true, ite_false, if_true, if_false, Bool.false_eq_true, reduceIte, reduceCtorEq, not_true_eq_false, not_false_eq_true, eq_self, decide_true, decide_false, le_tt, le_ff, lt_tt, lt_ff, eq_ff, and_true, true_and, and_false, false_and, or_true, true_or, or_false, false_or, ne_eq, decide_eq_true_eq, decide_eq_false_iff_not, Bool.not_true, Bool.not_false, Bool.and_true, Bool.true_and, Bool.and_false, Bool.false_and, gs_at, gs_no, oI_n, oI_s], by
          show up2 M.1 103 R.length (nI (l + 1)) 103 k = _
          simp (disch := omega) only [l_0, l_1, l_2, l_3, l_4, l_5, l_6, l_7, l_8, l_9, l_10, l_11, l_12, l_13, l_14, l_16, l_20, l_21, l_23, l_24, l_30, l_32, l_40, l_41, l_44, l_48, l_57, l_59, l_60, l_63, l_64, l_80, l_84, l_96, l_97, l_99, l_120, l_122, l_127, l_200, l_240, l_255, l_840, l_999, l_1000, l_1001, l_2400, l_3064, l_9999, l_10000, l_13849, l_16383, l_25173, l_65535, l_65536, l_99999, l_1000000000, neg_nI, pk_mul, nI_add, nI_subL, tn_nI, inb_t, grd_true, bnd_some, elS_l, elS_r, nI_ltI, nI_leI, nI_inj, fa_and, fa_or, m1_eq, eq_m1, m1_lt, m1_le, lt_m1, le_m1, m1_lt0, up2_at, up2_no, ite_true, ite_false, if_true, if_false, Bool.false_eq_true, reduceIte, reduceCtorEq, not_true_eq_false, not_false_eq_true, eq_self, decide_true, decide_false, le_tt, le_ff, lt_tt, lt_ff, eq_ff, and_true, true_and, and_false, false_and, or_true, true_or, or_false, false_or, ne_eq, decide_eq_true_eq, decide_eq_false_iff_not, Bool.not_true, Bool.not_false, Bool.and_true, Bool.true_and, Bool.and_false, Bool.false_and, gs_at, gs_no, oI_n, oI_s]⟩) hhR⟩
      have hv1 : VS g ((u, l + 1, seen, e) :: R) := ⟨v1, hl, v3, hv.2.2.2.1, v5⟩
      have hC : 0 < 16 ^ (9 - R.length) := Nat.pow_pos (by decide)
      have hCm : (14 - l) * 16 ^ (9 - R.length) = (14 - (l + 1)) * 16 ^ (9 - R.length) + 16 ^ (9 - R.length) := by
        rw [show 14 - l = (14 - (l + 1)) + 1 by omega, Nat.succ_mul]
      have hms : ms ((u, l + 1, seen, e) :: R) + 16 ^ (9 - R.length) = k := by
        rw [hk]
        show 1 + (14 - (l + 1)) * 16 ^ (9 - R.length) + ms R + _ = 1 + (14 - l) * 16 ^ (9 - R.length) + ms R
        omega
      have hRS : RS g goal ((u, l, seen, e) :: R) = (match byd g l u with | some x => kid g goal (6 - R.length) seen e (x, l) | none => []) ++ RS g goal ((u, l + 1, seen, e) :: R) := by
        show RLq g goal (6 - R.length) (u, l, seen, e) ++ RS g goal R = _ ++ (RLq g goal (6 - R.length) (u, l + 1, seen, e) ++ RS g goal R)
        rw [RLq_step hu hl, List.append_assoc]
      rw [hRS] at hfold
      cases hb : byd g l u with
      | none =>
        rw [hb] at hfold hby
        refine ⟨(nI R.length, nI e.2.2.2, nI e.1, nI seen, (up2 M.1 103 R.length (nI (l + 1)), M.2)), _, ?_, ?_, (u, l + 1, seen, e) :: R, acc, rfl, hfr1, hw1, hh1, hv1, hfold, rfl, rfl, rfl, rfl⟩
        · unfold Fm_findsWays_b32
          simp (disch := omega) only [l_0, l_1, l_2, l_3, l_4, l_5, l_6, l_7, l_8, l_9, l_10, l_11, l_12, l_13, l_14, l_16, l_20, l_21, l_23, l_24, l_30, l_32, l_40, l_41, l_44, l_48, l_57, l_59, l_60, l_63, l_64, l_80, l_84, l_96, l_97, l_99, l_120, l_122, l_127, l_200, l_240, l_255, l_840, l_999, l_1000, l_1001, l_2400, l_3064, l_9999, l_10000, l_13849, l_16383, l_25173, l_65535, l_65536, l_99999, l_1000000000, neg_nI, pk_mul, nI_add, nI_subL, tn_nI, inb_t, grd_true, bnd_some, elS_l, elS_r, nI_ltI, nI_leI, nI_inj, fa_and, fa_or, m1_eq, eq_m1, m1_lt, m1_le, lt_m1, le_m1, m1_lt0, up2_at, up2_no, ite_true, ite_false, if_true, if_false, Bool.false_eq_true, reduceIte, reduceCtorEq, not_true_eq_false, not_false_eq_true, eq_self, decide_true, decide_false, le_tt, le_ff, lt_tt, lt_ff, eq_ff, and_true, true_and, and_false, false_and, or_true, true_or, or_false, false_or, ne_eq, decide_eq_true_eq, decide_eq_false_iff_not, Bool.not_true, Bool.not_false, Bool.and_true, Bool.true_and, Bool.and_false, Bool.false_and, gs_at, gs_no, oI_n, oI_s, h102, h103, fr0 hF, hby]
        · omega
      | some x =>
        rw [hb] at hfold hby
        replace hfold : (kid g goal (6 - R.length) seen e (x, l) ++ RS g goal ((u, l + 1, seen, e) :: R)).foldl (T4 ahB) acc = W := hfold
        have hx8 : x < 8 := by have := byd_lt hN hl hb; omega
        have hhas := has_e (a := seen) (k := x) (M := (up2 M.1 103 R.length (nI (l + 1)), M.2)) (by omega) (by omega)
        cases hsx : seen.testBit x with
        | true =>
          rw [hsx] at hhas
          have ek : kid g goal (6 - R.length) seen e (x, l) = [] := by unfold kid; rw [if_pos hsx]
          rw [ek] at hfold
          refine ⟨(nI R.length, nI e.2.2.2, nI e.1, nI seen, (up2 M.1 103 R.length (nI (l + 1)), M.2)), _, ?_, ?_, (u, l + 1, seen, e) :: R, acc, rfl, hfr1, hw1, hh1, hv1, hfold, rfl, rfl, rfl, rfl⟩
          · unfold Fm_findsWays_b32
            simp (disch := omega) only [l_0, l_1, l_2, l_3, l_4, l_5, l_6, l_7, l_8, l_9, l_10, l_11, l_12, l_13, l_14, l_16, l_20, l_21, l_23, l_24, l_30, l_32, l_40, l_41, l_44, l_48, l_57, l_59, l_60, l_63, l_64, l_80, l_84, l_96, l_97, l_99, l_120, l_122, l_127, l_200, l_240, l_255, l_840, l_999, l_1000, l_1001, l_2400, l_3064, l_9999, l_10000, l_13849, l_16383, l_25173, l_65535, l_65536, l_99999, l_1000000000, neg_nI, pk_mul, nI_add, nI_subL, tn_nI, inb_t, grd_true, bnd_some, elS_l, elS_r, nI_ltI, nI_leI, nI_inj, fa_and, fa_or, m1_eq, eq_m1, m1_lt, m1_le, lt_m1, le_m1, m1_lt0, up2_at, up2_no, ite_true, ite_false, if_true, if_false, Bool.false_eq_true, reduceIte, reduceCtorEq, not_true_eq_false, not_false_eq_true, eq_self, decide_true, decide_false, le_tt, le_ff, lt_tt, lt_ff, eq_ff, and_true, true_and, and_false, false_and, or_true, true_or, or_false, false_or, ne_eq, decide_eq_true_eq, decide_eq_false_iff_not, Bool.not_true, Bool.not_false, Bool.and_true, Bool.true_and, Bool.and_false, Bool.false_and, gs_at, gs_no, oI_n, oI_s, h102, h103, fr0 hF, hby, hhas]
          · omega
        | false =>
          rw [hsx] at hhas
          have hex := (v1.ext hN hl hb hsx).1
          have hexl := hex.lt hN
          have hR6 : R.length ≤ 6 := by
            have e1 : (extW (lenG g) e (x, l)).2.1 = e.2.1 + 1 := rfl
            have := hexl.1
            omega
          have ek : kid g goal (6 - R.length) seen e (x, l) = pthW (chM g) (lenG g) goal (6 - R.length) x (seen ||| 2 ^ x) (extW (lenG g) e (x, l)) := by unfold kid; rw [if_neg (by rw [hsx]; decide)]
          rw [ek] at hfold
          have hMfr : Fr (f1 R.length (R.length + 1)) M (up2 (up2 (up2 M.1 103 R.length (nI (l + 1))) 102 (R.length + 1) (nI x)) 103 (R.length + 1) (nI 0), M.2) := Fr.I (Fr.I (Fr.I Fr.rf (.inr ⟨rfl, .inl rfl⟩)) (.inl ⟨rfl, rfl⟩)) (.inr ⟨rfl, .inr rfl⟩)
          have hfr3 : Fr fp_Fm_findsWays M0 (up2 (up2 (up2 M.1 103 R.length (nI (l + 1))) 102 (R.length + 1) (nI x)) 103 (R.length + 1) (nI 0), M.2) := Fr.I (Fr.I hfr1 (by unfold fp_Fm_findsWays; omega)) (by unfold fp_Fm_findsWays; omega)
          have hw3 : WL (up2 (up2 (up2 M.1 103 R.length (nI (l + 1))) 102 (R.length + 1) (nI x)) 103 (R.length + 1) (nI 0), M.2) acc := hw.fr hMfr (by unfold f1; omega) (fun j => by unfold f1; omega)
          have hh3 : HS (up2 (up2 (up2 M.1 103 R.length (nI (l + 1))) 102 (R.length + 1) (nI x)) 103 (R.length + 1) (nI 0), M.2) ((x, 0, seen ||| 2 ^ x, extW (lenG g) e (x, l)) :: (u, l + 1, seen, e) :: R) := by
            refine ⟨?_, ?_, ?_, ?_, HS_congr (fun k hk => ⟨?_, ?_⟩) hhR⟩
            · show up2 (up2 (up2 M.1 103 R.length (nI (l + 1))) 102 (R.length + 1) (nI x)) 103 (R.length + 1) (nI 0) 102 (R.length + 1) = nI x
              simp (disch := omega) only [l_0, l_1, l_2, l_3, l_4, l_5, l_6, l_7, l_8, l_9, l_10, l_11, l_12, l_13, l_14, l_16, l_20, l_21, l_23, l_24, l_30, l_32, l_40, l_41, l_44, l_48, l_57, l_59, l_60, l_63, l_64, l_80, l_84, l_96, l_97, l_99, l_120, l_122, l_127, l_200, l_240, l_255, l_840, l_999, l_1000, l_1001, l_2400, l_3064, l_9999, l_10000, l_13849, l_16383, l_25173, l_65535, l_65536, l_99999, l_1000000000, neg_nI, pk_mul, nI_add, nI_subL, tn_nI, inb_t, grd_true, bnd_some, elS_l, elS_r, nI_ltI, nI_leI, nI_inj, fa_and, fa_or, m1_eq, eq_m1, m1_lt, m1_le, lt_m1, le_m1, m1_lt0, up2_at, up2_no, ite_true, ite_false, if_true, if_false, Bool.false_eq_true, reduceIte, reduceCtorEq, not_true_eq_false, not_false_eq_true, eq_self, decide_true, decide_false, le_tt, le_ff, lt_tt, lt_ff, eq_ff, and_true, true_and, and_false, false_and, or_true, true_or, or_false, false_or, ne_eq, decide_eq_true_eq, decide_eq_false_iff_not, Bool.not_true, Bool.not_false, Bool.and_true, Bool.true_and, Bool.and_false, Bool.false_and, gs_at, gs_no, oI_n, oI_s]
            · show up2 (up2 (up2 M.1 103 R.length (nI (l + 1))) 102 (R.length + 1) (nI x)) 103 (R.length + 1) (nI 0) 103 (R.length + 1) = nI 0
              simp (disch := omega) only [l_0, l_1, l_2, l_3, l_4, l_5, l_6, l_7, l_8, l_9, l_10, l_11, l_12, l_13, l_14, l_16, l_20, l_21, l_23, l_24, l_30, l_32, l_40, l_41, l_44, l_48, l_57, l_59, l_60, l_63, l_64, l_80, l_84, l_96, l_97, l_99, l_120, l_122, l_127, l_200, l_240, l_255, l_840, l_999, l_1000, l_1001, l_2400, l_3064, l_9999, l_10000, l_13849, l_16383, l_25173, l_65535, l_65536, l_99999, l_1000000000, neg_nI, pk_mul, nI_add, nI_subL, tn_nI, inb_t, grd_true, bnd_some, elS_l, elS_r, nI_ltI, nI_leI, nI_inj, fa_and, fa_or, m1_eq, eq_m1, m1_lt, m1_le, lt_m1, le_m1, m1_lt0, up2_at, up2_no, ite_true, ite_false, if_true, if_false, Bool.false_eq_true, reduceIte, reduceCtorEq, not_true_eq_false, not_false_eq_true, eq_self, decide_true, decide_false, le_tt, le_ff, lt_tt, lt_ff, eq_ff, and_true, true_and, and_false, false_and, or_true, true_or, or_false, false_or, ne_eq, decide_eq_true_eq, decide_eq_false_iff_not, Bool.not_true, Bool.not_false, Bool.and_true, Bool.true_and, Bool.and_false, Bool.false_and, gs_at, gs_no, oI_n, oI_s]
            · show up2 (up2 (up2 M.1 103 R.length (nI (l + 1))) 102 (R.length + 1) (nI x)) 103 (R.length + 1) (nI 0) 102 R.length = nI u
              simp (disch := omega) only [l_0, l_1, l_2, l_3, l_4, l_5, l_6, l_7, l_8, l_9, l_10, l_11, l_12, l_13, l_14, l_16, l_20, l_21, l_23, l_24, l_30, l_32, l_40, l_41, l_44, l_48, l_57, l_59, l_60, l_63, l_64, l_80, l_84, l_96, l_97, l_99, l_120, l_122, l_127, l_200, l_240, l_255, l_840, l_999, l_1000, l_1001, l_2400, l_3064, l_9999, l_10000, l_13849, l_16383, l_25173, l_65535, l_65536, l_99999, l_1000000000, neg_nI, pk_mul, nI_add, nI_subL, tn_nI, inb_t, grd_true, bnd_some, elS_l, elS_r, nI_ltI, nI_leI, nI_inj, fa_and, fa_or, m1_eq, eq_m1, m1_lt, m1_le, lt_m1, le_m1, m1_lt0, up2_at, up2_no, ite_true, ite_false, if_true, if_false, Bool.false_eq_true, reduceIte, reduceCtorEq, not_true_eq_false, not_false_eq_true, eq_self, decide_true, decide_false, le_tt, le_ff, lt_tt, lt_ff, eq_ff, and_true, true_and, and_false, false_and, or_true, true_or, or_false, false_or, ne_eq, decide_eq_true_eq, decide_eq_false_iff_not, Bool.not_true, Bool.not_false, Bool.and_true, Bool.true_and, Bool.and_false, Bool.false_and, gs_at, gs_no, oI_n, oI_s, h102]
            · show up2 (up2 (up2 M.1 103 R.length (nI (l + 1))) 102 (R.length + 1) (nI x)) 103 (R.length + 1) (nI 0) 103 R.length = nI (l + 1)
              simp (disch := omega) only [l_0, l_1, l_2, l_3, l_4, l_5, l_6, l_7, l_8, l_9, l_10, l_11, l_12, l_13, l_14, l_16, l_20, l_21, l_23, l_24, l_30, l_32, l_40, l_41, l_44, l_48, l_57, l_59, l_60, l_63, l_64, l_80, l_84, l_96, l_97, l_99, l_120, l_122, l_127, l_200, l_240, l_255, l_840, l_999, l_1000, l_1001, l_2400, l_3064, l_9999, l_10000, l_13849, l_16383, l_25173, l_65535, l_65536, l_99999, l_1000000000, neg_nI, pk_mul, nI_add, nI_subL, tn_nI, inb_t, grd_true, bnd_some, elS_l, elS_r, nI_ltI, nI_leI, nI_inj, fa_and, fa_or, m1_eq, eq_m1, m1_lt, m1_le, lt_m1, le_m1, m1_lt0, up2_at, up2_no, ite_true, ite_false, if_true, if_false, Bool.false_eq_true, reduceIte, reduceCtorEq, not_true_eq_false, not_false_eq_true, eq_self, decide_true, decide_false, le_tt, le_ff, lt_tt, lt_ff, eq_ff, and_true, true_and, and_false, false_and, or_true, true_or, or_false, false_or, ne_eq, decide_eq_true_eq, decide_eq_false_iff_not, Bool.not_true, Bool.not_false, Bool.and_true, Bool.true_and, Bool.and_false, Bool.false_and, gs_at, gs_no, oI_n, oI_s]
            · show up2 (up2 (up2 M.1 103 R.length (nI (l + 1))) 102 (R.length + 1) (nI x)) 103 (R.length + 1) (nI 0) 102 k = _
              simp (disch := omega) only [l_0, l_1, l_2, l_3, l_4, l_5, l_6, l_7, l_8, l_9, l_10, l_11, l_12, l_13, l_14, l_16, l_20, l_21, l_23, l_24, l_30, l_32, l_40, l_41, l_44, l_48, l_57, l_59, l_60, l_63, l_64, l_80, l_84, l_96, l_97, l_99, l_120, l_122, l_127, l_200, l_240, l_255, l_840, l_999, l_1000, l_1001, l_2400, l_3064, l_9999, l_10000, l_13849, l_16383, l_25173, l_65535, l_65536, l_99999, l_1000000000, neg_nI, pk_mul, nI_add, nI_subL, tn_nI, inb_t, grd_true, bnd_some, elS_l, elS_r, nI_ltI, nI_leI, nI_inj, fa_and, fa_or, m1_eq, eq_m1, m1_lt, m1_le, lt_m1, le_m1, m1_lt0, up2_at, up2_no, ite_true, ite_false, if_true, if_false, Bool.false_eq_true, reduceIte, reduceCtorEq, not_true_eq_false, not_false_eq_true, eq_self, decide_true, decide_false, le_tt, le_ff, lt_tt, lt_ff, eq_ff, and_true, true_and, and_false, false_and, or_true, true_or, or_false, false_or, ne_eq, decide_eq_true_eq, decide_eq_false_iff_not, Bool.not_true, Bool.not_false, Bool.and_true, Bool.true_and, Bool.and_false, Bool.false_and, gs_at, gs_no, oI_n, oI_s]
            · show up2 (up2 (up2 M.1 103 R.length (nI (l + 1))) 102 (R.length + 1) (nI x)) 103 (R.length + 1) (nI 0) 103 k = _
              simp (disch := omega) only [l_0, l_1, l_2, l_3, l_4, l_5, l_6, l_7, l_8, l_9, l_10, l_11, l_12, l_13, l_14, l_16, l_20, l_21, l_23, l_24, l_30, l_32, l_40, l_41, l_44, l_48, l_57, l_59, l_60, l_63, l_64, l_80, l_84, l_96, l_97, l_99, l_120, l_122, l_127, l_200, l_240, l_255, l_840, l_999, l_1000, l_1001, l_2400, l_3064, l_9999, l_10000, l_13849, l_16383, l_25173, l_65535, l_65536, l_99999, l_1000000000, neg_nI, pk_mul, nI_add, nI_subL, tn_nI, inb_t, grd_true, bnd_some, elS_l, elS_r, nI_ltI, nI_leI, nI_inj, fa_and, fa_or, m1_eq, eq_m1, m1_lt, m1_le, lt_m1, le_m1, m1_lt0, up2_at, up2_no, ite_true, ite_false, if_true, if_false, Bool.false_eq_true, reduceIte, reduceCtorEq, not_true_eq_false, not_false_eq_true, eq_self, decide_true, decide_false, le_tt, le_ff, lt_tt, lt_ff, eq_ff, and_true, true_and, and_false, false_and, or_true, true_or, or_false, false_or, ne_eq, decide_eq_true_eq, decide_eq_false_iff_not, Bool.not_true, Bool.not_false, Bool.and_true, Bool.true_and, Bool.and_false, Bool.false_and, gs_at, gs_no, oI_n, oI_s]
          have hv3 : VS g ((x, 0, seen ||| 2 ^ x, extW (lenG g) e (x, l)) :: (u, l + 1, seen, e) :: R) := ⟨hex, Nat.zero_le _, by show e.2.1 + 1 = R.length + 1; omega, ⟨l, rfl, hl, hb, hsx, rfl, rfl⟩, hv1⟩
          have hpow : 16 ^ (9 - R.length) = 16 * 16 ^ (9 - (R.length + 1)) := by
            rw [show 9 - R.length = (9 - (R.length + 1)) + 1 by omega, Nat.pow_succ, Nat.mul_comm]
          have hpp : 0 < 16 ^ (9 - (R.length + 1)) := Nat.pow_pos (by decide)
          have hlt : ms ((x, 0, seen ||| 2 ^ x, extW (lenG g) e (x, l)) :: (u, l + 1, seen, e) :: R) < k := by
            show 1 + (14 - 0) * 16 ^ (9 - (R.length + 1)) + ms ((u, l + 1, seen, e) :: R) < k
            omega
          have hRS3 : RS g goal ((x, 0, seen ||| 2 ^ x, extW (lenG g) e (x, l)) :: (u, l + 1, seen, e) :: R) = RLq g goal (6 - (R.length + 1)) (x, 0, seen ||| 2 ^ x, extW (lenG g) e (x, l)) ++ RS g goal ((u, l + 1, seen, e) :: R) := rfl
          have hg44 := hG.1 (44 + l)
          have hbwe := hbw.2
          have hbwx := hexl.2
          unfold BW at hbwe hbwx
          have q1 : (extW (lenG g) e (x, l)).1 = e.1 + g (44 + l) := rfl
          have q2 : (extW (lenG g) e (x, l)).2.2.2 = e.2.2.2 ||| 2 ^ l := rfl
          by_cases hxg : x = goal
          · obtain ⟨hc1, hc2⟩ := HS_cod hN hh3 hv3
            have hc1' : cod (fun k => tn ((up2 (up2 (up2 M.1 103 R.length (nI (l + 1))) 102 (R.length + 1) (nI x)) 103 (R.length + 1) (nI 0)) 102 k)) (R.length + 1 + 1) = (extW (lenG g) e (x, l)).2.2.1 := hc1
            obtain ⟨M', y1, y2⟩ := Fm_laysWay_e hw3 (dp := R.length + 1) (lk := e.2.2.2 ||| 2 ^ l) (len := e.1 + g (44 + l)) (n := n) (f := fun k => tn ((up2 (up2 (up2 M.1 103 R.length (nI (l + 1))) 102 (R.length + 1) (nI x)) 103 (R.length + 1) (nI 0)) 102 k)) hc2 (by omega) hbwx.2.2.2 (by omega) hn
            rw [hc1'] at y2
            have yfr := fr_Fm_laysWay y1
            have e5 : (e.1 + g (44 + l), R.length + 1, (extW (lenG g) e (x, l)).2.2.1, e.2.2.2 ||| 2 ^ l) = extW (lenG g) e (x, l) := by
              rw [← v3]; rfl
            rw [e5] at y2
            refine ⟨(nI (R.length + 1), nI (e.2.2.2 ||| 2 ^ l), nI (e.1 + g (44 + l)), nI (seen ||| 2 ^ x), M'), _, ?_, hlt, _, T4 ahB acc (extW (lenG g) e (x, l)), rfl, ?_, y2, ?_, hv3, ?_, rfl, rfl, rfl, rfl⟩
            · unfold Fm_findsWays_b32 Fm_findsWays_j241
              simp (disch := omega) only [l_0, l_1, l_2, l_3, l_4, l_5, l_6, l_7, l_8, l_9, l_10, l_11, l_12, l_13, l_14, l_16, l_20, l_21, l_23, l_24, l_30, l_32, l_40, l_41, l_44, l_48, l_57, l_59, l_60, l_63, l_64, l_80, l_84, l_96, l_97, l_99, l_120, l_122, l_127, l_200, l_240, l_255, l_840, l_999, l_1000, l_1001, l_2400, l_3064, l_9999, l_10000, l_13849, l_16383, l_25173, l_65535, l_65536, l_99999, l_1000000000, neg_nI, pk_mul, nI_add, nI_subL, tn_nI, inb_t, grd_true, bnd_some, elS_l, elS_r, nI_ltI, nI_leI, nI_inj, fa_and, fa_or, m1_eq, eq_m1, m1_lt, m1_le, lt_m1, le_m1, m1_lt0, up2_at, up2_no, ite_true, ite_false, if_true, if_false, Bool.false_eq_true, reduceIte, reduceCtorEq, not_true_eq_false, not_false_eq_true, eq_self, decide_true, decide_false, le_tt, le_ff, lt_tt, lt_ff, eq_ff, and_true, true_and, and_false, false_and, or_true, true_or, or_false, false_or, ne_eq, decide_eq_true_eq, decide_eq_false_iff_not, Bool.not_true, Bool.not_false, Bool.and_true, Bool.true_and, Bool.and_false, Bool.false_and, gs_at, gs_no, oI_n, oI_s, h102, h103, fr0 hF, hby, hhas, shl_e, y1]
              rw [if_pos hxg]
            · exact hfr3.tr (yfr.mono (fun c j hp => by unfold fp_Fm_laysWay at hp; unfold fp_Fm_findsWays; omega))
            · exact HS_congr (fun k _ => ⟨(yfr 102 k (by unfold fp_Fm_laysWay; omega)).1, (yfr 103 k (by unfold fp_Fm_laysWay; omega)).1⟩) hh3
            · rw [hRS3, RLq_end (.inr hxg)]
              rw [hxg, pthW_goal] at hfold
              rw [hxg]
              exact hfold
          · refine ⟨(nI (R.length + 1), nI (e.2.2.2 ||| 2 ^ l), nI (e.1 + g (44 + l)), nI (seen ||| 2 ^ x), (up2 (up2 (up2 M.1 103 R.length (nI (l + 1))) 102 (R.length + 1) (nI x)) 103 (R.length + 1) (nI 0), M.2)), _, ?_, hlt, _, acc, rfl, hfr3, hw3, hh3, hv3, ?_, rfl, rfl, rfl, rfl⟩
            · unfold Fm_findsWays_b32 Fm_findsWays_j241
              simp (disch := omega) only [l_0, l_1, l_2, l_3, l_4, l_5, l_6, l_7, l_8, l_9, l_10, l_11, l_12, l_13, l_14, l_16, l_20, l_21, l_23, l_24, l_30, l_32, l_40, l_41, l_44, l_48, l_57, l_59, l_60, l_63, l_64, l_80, l_84, l_96, l_97, l_99, l_120, l_122, l_127, l_200, l_240, l_255, l_840, l_999, l_1000, l_1001, l_2400, l_3064, l_9999, l_10000, l_13849, l_16383, l_25173, l_65535, l_65536, l_99999, l_1000000000, neg_nI, pk_mul, nI_add, nI_subL, tn_nI, inb_t, grd_true, bnd_some, elS_l, elS_r, nI_ltI, nI_leI, nI_inj, fa_and, fa_or, m1_eq, eq_m1, m1_lt, m1_le, lt_m1, le_m1, m1_lt0, up2_at, up2_no, ite_true, ite_false, if_true, if_false, Bool.false_eq_true, reduceIte, reduceCtorEq, not_true_eq_false, not_false_eq_true, eq_self, decide_true, decide_false, le_tt, le_ff, lt_tt, lt_ff, eq_ff, and_true, true_and, and_false, false_and, or_true, true_or, or_false, false_or, ne_eq, decide_eq_true_eq, decide_eq_false_iff_not, Bool.not_true, Bool.not_false, Bool.and_true, Bool.true_and, Bool.and_false, Bool.false_and, gs_at, gs_no, oI_n, oI_s, h102, h103, fr0 hF, hby, hhas, shl_e, hxg]
            · rw [hRS3]
              have e6 : RLq g goal (6 - (R.length + 1)) (x, 0, seen ||| 2 ^ x, extW (lenG g) e (x, l)) = pthW (chM g) (lenG g) goal (6 - R.length) x (seen ||| 2 ^ x) (extW (lenG g) e (x, l)) := by
                by_cases h6 : R.length = 6
                · rw [h6]
                  show RLq g goal 0 _ = pthW _ _ _ 0 _ _ _
                  unfold RLq pthW
                  rw [if_neg hxg, if_neg hxg]
                  refine kids_none hN (fun i hi => ?_) (by show 0 + (g 3 - 0) ≤ g 3; omega)
                  have h8 : fb_ct (fun i => (seen ||| 2 ^ x).testBit i) 8 = 8 := by
                    have a1 := hex.2.2.2.2.2.2.2
                    have a2 : (extW (lenG g) e (x, l)).2.1 = e.2.1 + 1 := rfl
                    omega
                  exact fb_ct_all.mp h8 i hi
                · rw [show 6 - R.length = (6 - (R.length + 1)) + 1 by omega, pthW_succ hxg]
                  unfold RLq
                  rw [if_neg hxg]
                  rfl
              rw [e6]
              exact hfold
/-- the ways between two nodes: the first four of all -/
def waysG (g : Nat → Nat) (a b : Nat) : List We := (pthW (chM g) (lenG g) b 7 a (2 ^ a) (0, 0, a, 0)).foldl (T4 ahB) []
theorem EI_0 {g : Nat → Nat} (hN : NV g) {a : Nat} (ha : a < g 0) : EI g a (2 ^ a) (0, 0, a, 0) := by
  have b1 := hN.1
  refine ⟨ha, ?_, ?_, ?_, ?_, ?_, ?_, ?_⟩
  · rw [Nat.testBit_two_pow, decide_eq_true rfl]
  · show 2 ^ a < 2 ^ 8
    exact Nat.pow_lt_pow_right (by decide) (by omega)
  · intro b hb
    have : (0 : Nat).testBit b = true := hb
    rw [Nat.zero_testBit] at this
    cases this
  · exact Nat.le_refl 0
  · show a < 8 ^ 1
    omega
  · show pcI 0 = 0
    decide
  · have h1 : ∀ a, a < 8 → fb_ct (fun i => (2 ^ a).testBit i) 8 = 1 := by decide
    exact h1 a (by omega)
theorem Fm_findsWays_e {M : Mm} {g : Nat → Nat} (hF : FR M g) (hG : GB g) (hN : NV g) {a b n : Nat} (ha : a < g 0) (hb : b < g 0) (hab : a ≠ b) (hn : 1099511627776 < n) : ∃ M', Fm_findsWays n (nI a) (nI b) M = some M' ∧ WL M' (waysG g a b) ∧ Fr fp_Fm_findsWays M M' := by
  have b1 := hN.1
  have hfr : Fr fp_Fm_findsWays M (up2 (up2 (up2 M.1 94 19 (nI 0)) 102 0 (nI a)) 103 0 (nI 0), M.2) := Fr.I (Fr.I (Fr.I Fr.rf (by unfold fp_Fm_findsWays; omega)) (by unfold fp_Fm_findsWays; omega)) (by unfold fp_Fm_findsWays; omega)
  have h0 : FI g b M (waysG g a b) (ms [(a, 0, 2 ^ a, (0, 0, a, 0))]) (nI 0, nI 0, nI 0, nI (2 ^ a), (up2 (up2 (up2 M.1 94 19 (nI 0)) 102 0 (nI a)) 103 0 (nI 0), M.2)) := by
    refine ⟨[(a, 0, 2 ^ a, (0, 0, a, 0))], [], rfl, hfr, ⟨?_, by decide, trivial, List.Pairwise.nil, fun e he => by cases he⟩, ⟨?_, ?_, trivial⟩, ⟨EI_0 hN ha, Nat.zero_le _, rfl, rfl, trivial⟩, ?_, rfl, rfl, rfl, rfl⟩
    · show up2 (up2 (up2 M.1 94 19 (nI 0)) 102 0 (nI a)) 103 0 (nI 0) 94 19 = nI 0
      simp (disch := omega) only [l_0, l_1, l_2, l_3, l_4, l_5, l_6, l_7, l_8, l_9, l_10, l_11, l_12, l_13, l_14, l_16, l_20, l_21, l_23, l_24, l_30, l_32, l_40, l_41, l_44, l_48, l_57, l_59, l_60, l_63, l_64, l_80, l_84, l_96, l_97, l_99, l_120, l_122, l_127, l_200, l_240, l_255, l_840, l_999, l_1000, l_1001, l_2400, l_3064, l_9999, l_10000, l_13849, l_16383, l_25173, l_65535, l_65536, l_99999, l_1000000000, neg_nI, pk_mul, nI_add, nI_subL, tn_nI, inb_t, grd_true, bnd_some, elS_l, elS_r, nI_ltI, nI_leI, nI_inj, fa_and, fa_or, m1_eq, eq_m1, m1_lt, m1_le, lt_m1, le_m1, m1_lt0, up2_at, up2_no, ite_true, ite_false, if_true, if_false, Bool.false_eq_true, reduceIte, reduceCtorEq, not_true_eq_false, not_false_eq_true, eq_self, decide_true, decide_false, le_tt, le_ff, lt_tt, lt_ff, eq_ff, and_true, true_and, and_false, false_and, or_true, true_or, or_false, false_or, ne_eq, decide_eq_true_eq, decide_eq_false_iff_not, Bool.not_true, Bool.not_false, Bool.and_true, Bool.true_and, Bool.and_false, Bool.false_and, gs_at, gs_no, oI_n, oI_s]
    · show up2 (up2 (up2 M.1 94 19 (nI 0)) 102 0 (nI a)) 103 0 (nI 0) 102 0 = nI a
      simp (disch := omega) only [l_0, l_1, l_2, l_3, l_4, l_5, l_6, l_7, l_8, l_9, l_10, l_11, l_12, l_13, l_14, l_16, l_20, l_21, l_23, l_24, l_30, l_32, l_40, l_41, l_44, l_48, l_57, l_59, l_60, l_63, l_64, l_80, l_84, l_96, l_97, l_99, l_120, l_122, l_127, l_200, l_240, l_255, l_840, l_999, l_1000, l_1001, l_2400, l_3064, l_9999, l_10000, l_13849, l_16383, l_25173, l_65535, l_65536, l_99999, l_1000000000, neg_nI, pk_mul, nI_add, nI_subL, tn_nI, inb_t, grd_true, bnd_some, elS_l, elS_r, nI_ltI, nI_leI, nI_inj, fa_and, fa_or, m1_eq, eq_m1, m1_lt, m1_le, lt_m1, le_m1, m1_lt0, up2_at, up2_no, ite_true, ite_false, if_true, if_false, Bool.false_eq_true, reduceIte, reduceCtorEq, not_true_eq_false, not_false_eq_true, eq_self, decide_true, decide_false, le_tt, le_ff, lt_tt, lt_ff, eq_ff, and_true, true_and, and_false, false_and, or_true, true_or, or_false, false_or, ne_eq, decide_eq_true_eq, decide_eq_false_iff_not, Bool.not_true, Bool.not_false, Bool.and_true, Bool.true_and, Bool.and_false, Bool.false_and, gs_at, gs_no, oI_n, oI_s]
    · show up2 (up2 (up2 M.1 94 19 (nI 0)) 102 0 (nI a)) 103 0 (nI 0) 103 0 = nI 0
      simp (disch := omega) only [l_0, l_1, l_2, l_3, l_4, l_5, l_6, l_7, l_8, l_9, l_10, l_11, l_12, l_13, l_14, l_16, l_20, l_21, l_23, l_24, l_30, l_32, l_40, l_41, l_44, l_48, l_57, l_59, l_60, l_63, l_64, l_80, l_84, l_96, l_97, l_99, l_120, l_122, l_127, l_200, l_240, l_255, l_840, l_999, l_1000, l_1001, l_2400, l_3064, l_9999, l_10000, l_13849, l_16383, l_25173, l_65535, l_65536, l_99999, l_1000000000, neg_nI, pk_mul, nI_add, nI_subL, tn_nI, inb_t, grd_true, bnd_some, elS_l, elS_r, nI_ltI, nI_leI, nI_inj, fa_and, fa_or, m1_eq, eq_m1, m1_lt, m1_le, lt_m1, le_m1, m1_lt0, up2_at, up2_no, ite_true, ite_false, if_true, if_false, Bool.false_eq_true, reduceIte, reduceCtorEq, not_true_eq_false, not_false_eq_true, eq_self, decide_true, decide_false, le_tt, le_ff, lt_tt, lt_ff, eq_ff, and_true, true_and, and_false, false_and, or_true, true_or, or_false, false_or, ne_eq, decide_eq_true_eq, decide_eq_false_iff_not, Bool.not_true, Bool.not_false, Bool.and_true, Bool.true_and, Bool.and_false, Bool.false_and, gs_at, gs_no, oI_n, oI_s]
    · unfold waysG
      rw [pthW_succ hab]
      show ((RLq g b 6 (a, 0, 2 ^ a, (0, 0, a, 0))) ++ []).foldl _ _ = _
      rw [List.append_nil]
      unfold RLq
      rw [if_neg hab]
      rfl
  have hms : ms [(a, 0, 2 ^ a, ((0, 0, a, 0) : We))] < n := by
    show 1 + (14 - 0) * 16 ^ 9 + 0 < n
    omega
  obtain ⟨r, h1, h2, h3⟩ := loop_W (FI g b M (waysG g a b)) _ (fun k s h => FI_step hG hN (by omega) hF (n := n) (by omega) h) _ n _ hms h0
  refine ⟨r, ?_, h2, h3⟩
  unfold Fm_findsWays
  simp (disch := omega) only [l_0, l_1, l_2, l_3, l_4, l_5, l_6, l_7, l_8, l_9, l_10, l_11, l_12, l_13, l_14, l_16, l_20, l_21, l_23, l_24, l_30, l_32, l_40, l_41, l_44, l_48, l_57, l_59, l_60, l_63, l_64, l_80, l_84, l_96, l_97, l_99, l_120, l_122, l_127, l_200, l_240, l_255, l_840, l_999, l_1000, l_1001, l_2400, l_3064, l_9999, l_10000, l_13849, l_16383, l_25173, l_65535, l_65536, l_99999, l_1000000000, neg_nI, pk_mul, nI_add, nI_subL, tn_nI, inb_t, grd_true, bnd_some, elS_l, elS_r, nI_ltI, nI_leI, nI_inj, fa_and, fa_or, m1_eq, eq_m1, m1_lt, m1_le, lt_m1, le_m1, m1_lt0, up2_at, up2_no, ite_true, ite_false, if_true, if_false, Bool.false_eq_true, reduceIte, reduceCtorEq, not_true_eq_false, not_false_eq_true, eq_self, decide_true, decide_false, le_tt, le_ff, lt_tt, lt_ff, eq_ff, and_true, true_and, and_false, false_and, or_true, true_or, or_false, false_or, ne_eq, decide_eq_true_eq, decide_eq_false_iff_not, Bool.not_true, Bool.not_false, Bool.and_true, Bool.true_and, Bool.and_false, Bool.false_and, gs_at, gs_no, oI_n, oI_s, shl_e]
  exact bnd_e h1
