/-! works -/
section
variable {n k : Nat} {vs : Nat → Nat} {nu : Nat → Int32}
theorem seq_k (hn : 1099511627776 < n) (hk : k ≤ 24) (hvs : ∀ s, s < k → vs s < 11) : ∀ (j s : Nat), s + j = k → ∀ g, GV g → ∃ r g', GV g' ∧ (∀ C m, j < m → SV C 18 g → CA C g → (∀ s, s < k → C.1 10 s = nI (vs s) ∧ ∀ i, i < sDu (vs s) → C.1 11 (4 * s + i) = nu (4 * s + i)) → ∃ C', loop (fun s1 : Int32 × Mm => Fg_works_b36 n (nI k) s1.1 s1.2) m (nI s, C) = some (nI r, C') ∧ SV C' 18 g' ∧ CA C' g' ∧ Fr PC C C') ∧ ∀ N m h, j < m → FK N g h → N.1 94 11 = nI k → (∀ s, s < k → N.2 113 s = lN (wC (vs s + 5)) ∧ ∀ i, i < sDu (vs s) → N.1 114 (4 * s + i) = nu (4 * s + i)) → ∃ N' h', loop (fun s1 : Int32 × Mm => Fm_works_b66 n s1.1 s1.2) m (nI s, N) = some (nI r, N') ∧ FK N' g' h' ∧ (∀ j, j < 3064 → h' (3064 + j) = h (3064 + j)) ∧ Fr PM N N' := by
  intro j
  induction j with
  | zero =>
    intro s hs g hg
    have : s = k := by omega
    subst this
    refine ⟨s, g, hg, fun C m hm h1 h2 _ => ⟨C, loop_inr ?_ hm, h1, h2, Fr.rf⟩, fun N m h hm h1 h2 _ => ⟨N, h, loop_inr ?_ hm, h1, fun _ _ => rfl, Fr.rf⟩⟩
    · show Fg_works_b36 n (nI s) (nI s) C = _
      unfold Fg_works_b36
      rw [if_pos (by simp (disch := omega) only [l_0, l_1, l_2, l_3, l_4, l_5, l_6, l_7, l_8, l_9, l_10, l_11, l_12, l_13, l_14, l_16, l_20, l_21, l_23, l_24, l_30, l_32, l_40, l_41, l_44, l_48, l_57, l_59, l_60, l_63, l_64, l_80, l_84, l_96, l_97, l_99, l_120, l_122, l_127, l_200, l_240, l_255, l_840, l_999, l_1000, l_1001, l_2400, l_3064, l_9999, l_10000, l_13849, l_16383, l_25173, l_65535, l_65536, l_99999, l_1000000000, neg_nI, pk_mul, nI_add, nI_subL, tn_nI, inb_t, grd_true, bnd_some, elS_l, elS_r, nI_ltI, nI_leI, nI_inj, fa_and, fa_or, m1_eq, eq_m1, m1_lt, m1_le, lt_m1, le_m1, m1_lt0, up2_at, up2_no, ite_true, ite_false, if_true, if_false, Bool.false_eq_true, reduceIte, reduceCtorEq, not_true_eq_false, not_false_eq_true, eq_self, decide_true, decide_false, le_tt, le_ff, lt_tt, lt_ff, eq_ff, and_true, true_and, and_false, false_and, or_true, true_or, or_false, false_or, ne_eq, decide_eq_true_eq, decide_eq_false_iff_not, Bool.not_true, Bool.not_false, Bool.and_true, Bool.true_and, Bool.and_false, Bool.false_and, gs_at, gs_no, oI_n, oI_s])]
    · show Fm_works_b66 n (nI s) N = _
      unfold Fm_works_b66
      rw [h2, if_pos (by simp (disch := omega) only [l_0, l_1, l_2, l_3, l_4, l_5, l_6, l_7, l_8, l_9, l_10, l_11, l_12, l_13, l_14, l_16, l_20, l_21, l_23, l_24, l_30, l_32, l_40, l_41, l_44, l_48, l_57, l_59, l_60, l_63, l_64, l_80, l_84, l_96, l_97, l_99, l_120, l_122, l_127, l_200, l_240, l_255, l_840, l_999, l_1000, l_1001, l_2400, l_3064, l_9999, l_10000, l_13849, l_16383, l_25173, l_65535, l_65536, l_99999, l_1000000000, neg_nI, pk_mul, nI_add, nI_subL, tn_nI, inb_t, grd_true, bnd_some, elS_l, elS_r, nI_ltI, nI_leI, nI_inj, fa_and, fa_or, m1_eq, eq_m1, m1_lt, m1_le, lt_m1, le_m1, m1_lt0, up2_at, up2_no, ite_true, ite_false, if_true, if_false, Bool.false_eq_true, reduceIte, reduceCtorEq, not_true_eq_false, not_false_eq_true, eq_self, decide_true, decide_false, le_tt, le_ff, lt_tt, lt_ff, eq_ff, and_true, true_and, and_false, false_and, or_true, true_or, or_false, false_or, ne_eq, decide_eq_true_eq, decide_eq_false_iff_not, Bool.not_true, Bool.not_false, Bool.and_true, Bool.true_and, Bool.and_false, Bool.false_and, gs_at, gs_no, oI_n, oI_s])]
  | succ j ih =>
    intro s hs g hg
    obtain ⟨ok, g1, v1, a1, a2⟩ := ST_all (nu := nu) hn (show s < 24 by omega) (vs s) (hvs s (by omega)) g hg
    cases ok with
    | false =>
      refine ⟨s, g1, v1, fun C m hm h1 h2 h3 => ?_, fun N m h hm h1 h2 h3 => ?_⟩
      · obtain ⟨C', b1, b2, b3, b4⟩ := a1 C h1 h2 (h3 s (by omega)).1 (h3 s (by omega)).2
        refine ⟨C', loop_inr ?_ (by omega), b2, b3, b4⟩
        show Fg_works_b36 n (nI k) (nI s) C = _
        unfold Fg_works_b36
        rw [if_neg (by simp (disch := omega) only [l_0, l_1, l_2, l_3, l_4, l_5, l_6, l_7, l_8, l_9, l_10, l_11, l_12, l_13, l_14, l_16, l_20, l_21, l_23, l_24, l_30, l_32, l_40, l_41, l_44, l_48, l_57, l_59, l_60, l_63, l_64, l_80, l_84, l_96, l_97, l_99, l_120, l_122, l_127, l_200, l_240, l_255, l_840, l_999, l_1000, l_1001, l_2400, l_3064, l_9999, l_10000, l_13849, l_16383, l_25173, l_65535, l_65536, l_99999, l_1000000000, neg_nI, pk_mul, nI_add, nI_subL, tn_nI, inb_t, grd_true, bnd_some, elS_l, elS_r, nI_ltI, nI_leI, nI_inj, fa_and, fa_or, m1_eq, eq_m1, m1_lt, m1_le, lt_m1, le_m1, m1_lt0, up2_at, up2_no, ite_true, ite_false, if_true, if_false, Bool.false_eq_true, reduceIte, reduceCtorEq, not_true_eq_false, not_false_eq_true, eq_self, decide_true, decide_false, le_tt, le_ff, lt_tt, lt_ff, eq_ff, and_true, true_and, and_false, false_and, or_true, true_or, or_false, false_or, ne_eq, decide_eq_true_eq, decide_eq_false_iff_not, Bool.not_true, Bool.not_false, Bool.and_true, Bool.true_and, Bool.and_false, Bool.false_and, gs_at, gs_no, oI_n, oI_s]), b1, bnd_some]
        rfl
      · obtain ⟨N', h', b1, b2, b3, b4⟩ := a2 N h h1 (h3 s (by omega)).1 (h3 s (by omega)).2
        refine ⟨N', h', loop_inr ?_ (by omega), b2, b3, b4⟩
        show Fm_works_b66 n (nI s) N = _
        unfold Fm_works_b66
        rw [h2, if_neg (by simp (disch := omega) only [l_0, l_1, l_2, l_3, l_4, l_5, l_6, l_7, l_8, l_9, l_10, l_11, l_12, l_13, l_14, l_16, l_20, l_21, l_23, l_24, l_30, l_32, l_40, l_41, l_44, l_48, l_57, l_59, l_60, l_63, l_64, l_80, l_84, l_96, l_97, l_99, l_120, l_122, l_127, l_200, l_240, l_255, l_840, l_999, l_1000, l_1001, l_2400, l_3064, l_9999, l_10000, l_13849, l_16383, l_25173, l_65535, l_65536, l_99999, l_1000000000, neg_nI, pk_mul, nI_add, nI_subL, tn_nI, inb_t, grd_true, bnd_some, elS_l, elS_r, nI_ltI, nI_leI, nI_inj, fa_and, fa_or, m1_eq, eq_m1, m1_lt, m1_le, lt_m1, le_m1, m1_lt0, up2_at, up2_no, ite_true, ite_false, if_true, if_false, Bool.false_eq_true, reduceIte, reduceCtorEq, not_true_eq_false, not_false_eq_true, eq_self, decide_true, decide_false, le_tt, le_ff, lt_tt, lt_ff, eq_ff, and_true, true_and, and_false, false_and, or_true, true_or, or_false, false_or, ne_eq, decide_eq_true_eq, decide_eq_false_iff_not, Bool.not_true, Bool.not_false, Bool.and_true, Bool.true_and, Bool.and_false, Bool.false_and, gs_at, gs_no, oI_n, oI_s]), b1, bnd_some]
        rfl
    | true =>
      obtain ⟨r, g', v2, c1, c2⟩ := ih (s + 1) (by omega) g1 v1
      refine ⟨r, g', v2, fun C m hm h1 h2 h3 => ?_, fun N m h hm h1 h2 h3 => ?_⟩
      · obtain ⟨C1, b1, b2, b3, b4⟩ := a1 C h1 h2 (h3 s (by omega)).1 (h3 s (by omega)).2
        obtain ⟨C', e1, e2, e3, e4⟩ := c1 C1 (m - 1) (by omega) b2 b3 (fun s' hs' => ⟨((b4 10 s' (by unfold PC; omega)).1).trans (h3 s' hs').1, fun i hi => ((b4 11 _ (by unfold PC; omega)).1).trans ((h3 s' hs').2 i hi)⟩)
        refine ⟨C', (loop_inl ?_ (by omega)).trans e1, e2, e3, b4.tr e4⟩
        show Fg_works_b36 n (nI k) (nI s) C = _
        unfold Fg_works_b36
        rw [if_neg (by simp (disch := omega) only [l_0, l_1, l_2, l_3, l_4, l_5, l_6, l_7, l_8, l_9, l_10, l_11, l_12, l_13, l_14, l_16, l_20, l_21, l_23, l_24, l_30, l_32, l_40, l_41, l_44, l_48, l_57, l_59, l_60, l_63, l_64, l_80, l_84, l_96, l_97, l_99, l_120, l_122, l_127, l_200, l_240, l_255, l_840, l_999, l_1000, l_1001, l_2400, l_3064, l_9999, l_10000, l_13849, l_16383, l_25173, l_65535, l_65536, l_99999, l_1000000000, neg_nI, pk_mul, nI_add, nI_subL, tn_nI, inb_t, grd_true, bnd_some, elS_l, elS_r, nI_ltI, nI_leI, nI_inj, fa_and, fa_or, m1_eq, eq_m1, m1_lt, m1_le, lt_m1, le_m1, m1_lt0, up2_at, up2_no, ite_true, ite_false, if_true, if_false, Bool.false_eq_true, reduceIte, reduceCtorEq, not_true_eq_false, not_false_eq_true, eq_self, decide_true, decide_false, le_tt, le_ff, lt_tt, lt_ff, eq_ff, and_true, true_and, and_false, false_and, or_true, true_or, or_false, false_or, ne_eq, decide_eq_true_eq, decide_eq_false_iff_not, Bool.not_true, Bool.not_false, Bool.and_true, Bool.true_and, Bool.and_false, Bool.false_and, gs_at, gs_no, oI_n, oI_s]), b1, bnd_some, l_1, nI_add]
        rfl
      · obtain ⟨N1, h', b1, b2, b3, b4⟩ := a2 N h h1 (h3 s (by omega)).1 (h3 s (by omega)).2
        obtain ⟨N', h'', e1, e2, e3, e4⟩ := c2 N1 (m - 1) h' (by omega) b2 (((b4 94 11 (by unfold PM; omega)).1).trans h2) (fun s' hs' => ⟨((b4 113 s' (by unfold PM; omega)).2).trans (h3 s' hs').1, fun i hi => ((b4 114 _ (by unfold PM; omega)).1).trans ((h3 s' hs').2 i hi)⟩)
        refine ⟨N', h'', (loop_inl ?_ (by omega)).trans e1, e2, fun j hj => (e3 j hj).trans (b3 j hj), b4.tr e4⟩
        show Fm_works_b66 n (nI s) N = _
        unfold Fm_works_b66
        rw [h2, if_neg (by simp (disch := omega) only [l_0, l_1, l_2, l_3, l_4, l_5, l_6, l_7, l_8, l_9, l_10, l_11, l_12, l_13, l_14, l_16, l_20, l_21, l_23, l_24, l_30, l_32, l_40, l_41, l_44, l_48, l_57, l_59, l_60, l_63, l_64, l_80, l_84, l_96, l_97, l_99, l_120, l_122, l_127, l_200, l_240, l_255, l_840, l_999, l_1000, l_1001, l_2400, l_3064, l_9999, l_10000, l_13849, l_16383, l_25173, l_65535, l_65536, l_99999, l_1000000000, neg_nI, pk_mul, nI_add, nI_subL, tn_nI, inb_t, grd_true, bnd_some, elS_l, elS_r, nI_ltI, nI_leI, nI_inj, fa_and, fa_or, m1_eq, eq_m1, m1_lt, m1_le, lt_m1, le_m1, m1_lt0, up2_at, up2_no, ite_true, ite_false, if_true, if_false, Bool.false_eq_true, reduceIte, reduceCtorEq, not_true_eq_false, not_false_eq_true, eq_self, decide_true, decide_false, le_tt, le_ff, lt_tt, lt_ff, eq_ff, and_true, true_and, and_false, false_and, or_true, true_or, or_false, false_or, ne_eq, decide_eq_true_eq, decide_eq_false_iff_not, Bool.not_true, Bool.not_false, Bool.and_true, Bool.true_and, Bool.and_false, Bool.false_and, gs_at, gs_no, oI_n, oI_s]), b1, bnd_some, l_1, nI_add]
        rfl
end
theorem op_works {n : Nat} (hn : 1099511627776 < n) (x : Int32) : OK2 (Fg_works n x) (Fm_works n x) := by
  rintro ⟨g, kp, s, b⟩ M hv hc hm
  obtain ⟨hg, hkg, hs, hB⟩ := hv
  dsimp only at hg hkg hs hB
  by_cases hx : ∃ L, 1 ≤ L ∧ L ≤ 200 ∧ L ≤ s ∧ x = nI L
  case neg =>
    obtain ⟨n1, n2⟩ := tx_no hs hx
    refine ⟨-1, M, M, (g, kp, s, b), ?_, ?_, ⟨hg, hkg, hs, hB⟩, hc, hm⟩
    · unfold Fg_works
      rw [n1 M hc.2.1.1, bnd_some]
      rfl
    · unfold Fm_works
      rw [n2 M hm.2.1, bnd_some]
      rfl
  obtain ⟨L, hL1, hL2, hL3, rfl⟩ := hx
  obtain ⟨⟨hSV, hCA⟩, ⟨hT, hTb⟩, hK⟩ := hc
  dsimp only at hSV hCA hT hTb hK
  obtain ⟨N0, hN0⟩ : ∃ N0 : Mm → Mm, N0 = fun N => ((up2 (up2 (up2 (up2 N.1 94 5 (nI 0)) 94 6 (nI L)) 94 4 (nI 0)) 94 11 (nI 0)), N.2) := ⟨_, rfl⟩
  have H : ∀ N : Mm, (∀ i, i < 240 → N.1 97 i &&& nI 255 = nI (b i)) → ∃ r C' y, Rd_readText n (nI L) false M = some (r, C') ∧ (bnd (Fm_readsStep n (N0 N)) (fun z6 => loop (fun s1 : Int32 × Mm => Fm_works_b15 n s1.1 s1.2) n (b2i z6.1, z6.2)) = some y ∧ Fr (fun c j => c = 113 ∨ c = 114 ∨ (c = 94 ∧ 4 ≤ j ∧ j ≤ 12)) N y.2 ∧ y.2.1 94 4 = nI 0) ∧ XO L DS r C' y := fun N hN => by
    have hRM : RM b L 0 0 (N0 N) := by
      rw [hN0]
      exact ⟨⟨by simp (disch := omega) only [l_0, l_1, l_2, l_3, l_4, l_5, l_6, l_7, l_8, l_9, l_10, l_11, l_12, l_13, l_14, l_16, l_20, l_21, l_23, l_24, l_30, l_32, l_40, l_41, l_44, l_48, l_57, l_59, l_60, l_63, l_64, l_80, l_84, l_96, l_97, l_99, l_120, l_122, l_127, l_200, l_240, l_255, l_840, l_999, l_1000, l_1001, l_2400, l_3064, l_9999, l_10000, l_13849, l_16383, l_25173, l_65535, l_65536, l_99999, l_1000000000, neg_nI, pk_mul, nI_add, nI_subL, tn_nI, inb_t, grd_true, bnd_some, elS_l, elS_r, nI_ltI, nI_leI, nI_inj, fa_and, fa_or, m1_eq, eq_m1, m1_lt, m1_le, lt_m1, le_m1, m1_lt0, up2_at, up2_no, ite_true, ite_false, if_true, if_false, Bool.false_eq_true, reduceIte, reduceCtorEq, not_true_eq_false, not_false_eq_true, eq_self, decide_true, decide_false, le_tt, le_ff, lt_tt, lt_ff, eq_ff, and_true, true_and, and_false, false_and, or_true, true_or, or_false, false_or, ne_eq, decide_eq_true_eq, decide_eq_false_iff_not, Bool.not_true, Bool.not_false, Bool.and_true, Bool.true_and, Bool.and_false, Bool.false_and, gs_at, gs_no, oI_n, oI_s], by simp (disch := omega) only [l_0, l_1, l_2, l_3, l_4, l_5, l_6, l_7, l_8, l_9, l_10, l_11, l_12, l_13, l_14, l_16, l_20, l_21, l_23, l_24, l_30, l_32, l_40, l_41, l_44, l_48, l_57, l_59, l_60, l_63, l_64, l_80, l_84, l_96, l_97, l_99, l_120, l_122, l_127, l_200, l_240, l_255, l_840, l_999, l_1000, l_1001, l_2400, l_3064, l_9999, l_10000, l_13849, l_16383, l_25173, l_65535, l_65536, l_99999, l_1000000000, neg_nI, pk_mul, nI_add, nI_subL, tn_nI, inb_t, grd_true, bnd_some, elS_l, elS_r, nI_ltI, nI_leI, nI_inj, fa_and, fa_or, m1_eq, eq_m1, m1_lt, m1_le, lt_m1, le_m1, m1_lt0, up2_at, up2_no, ite_true, ite_false, if_true, if_false, Bool.false_eq_true, reduceIte, reduceCtorEq, not_true_eq_false, not_false_eq_true, eq_self, decide_true, decide_false, le_tt, le_ff, lt_tt, lt_ff, eq_ff, and_true, true_and, and_false, false_and, or_true, true_or, or_false, false_or, ne_eq, decide_eq_true_eq, decide_eq_false_iff_not, Bool.not_true, Bool.not_false, Bool.and_true, Bool.true_and, Bool.and_false, Bool.false_and, gs_at, gs_no, oI_n, oI_s], by simp (disch := omega) only [l_0, l_1, l_2, l_3, l_4, l_5, l_6, l_7, l_8, l_9, l_10, l_11, l_12, l_13, l_14, l_16, l_20, l_21, l_23, l_24, l_30, l_32, l_40, l_41, l_44, l_48, l_57, l_59, l_60, l_63, l_64, l_80, l_84, l_96, l_97, l_99, l_120, l_122, l_127, l_200, l_240, l_255, l_840, l_999, l_1000, l_1001, l_2400, l_3064, l_9999, l_10000, l_13849, l_16383, l_25173, l_65535, l_65536, l_99999, l_1000000000, neg_nI, pk_mul, nI_add, nI_subL, tn_nI, inb_t, grd_true, bnd_some, elS_l, elS_r, nI_ltI, nI_leI, nI_inj, fa_and, fa_or, m1_eq, eq_m1, m1_lt, m1_le, lt_m1, le_m1, m1_lt0, up2_at, up2_no, ite_true, ite_false, if_true, if_false, Bool.false_eq_true, reduceIte, reduceCtorEq, not_true_eq_false, not_false_eq_true, eq_self, decide_true, decide_false, le_tt, le_ff, lt_tt, lt_ff, eq_ff, and_true, true_and, and_false, false_and, or_true, true_or, or_false, false_or, ne_eq, decide_eq_true_eq, decide_eq_false_iff_not, Bool.not_true, Bool.not_false, Bool.and_true, Bool.true_and, Bool.and_false, Bool.false_and, gs_at, gs_no, oI_n, oI_s]⟩, fun i hi => by simp (disch := omega) only [l_0, l_1, l_2, l_3, l_4, l_5, l_6, l_7, l_8, l_9, l_10, l_11, l_12, l_13, l_14, l_16, l_20, l_21, l_23, l_24, l_30, l_32, l_40, l_41, l_44, l_48, l_57, l_59, l_60, l_63, l_64, l_80, l_84, l_96, l_97, l_99, l_120, l_122, l_127, l_200, l_240, l_255, l_840, l_999, l_1000, l_1001, l_2400, l_3064, l_9999, l_10000, l_13849, l_16383, l_25173, l_65535, l_65536, l_99999, l_1000000000, neg_nI, pk_mul, nI_add, nI_subL, tn_nI, inb_t, grd_true, bnd_some, elS_l, elS_r, nI_ltI, nI_leI, nI_inj, fa_and, fa_or, m1_eq, eq_m1, m1_lt, m1_le, lt_m1, le_m1, m1_lt0, up2_at, up2_no, ite_true, ite_false, if_true, if_false, Bool.false_eq_true, reduceIte, reduceCtorEq, not_true_eq_false, not_false_eq_true, eq_self, decide_true, decide_false, le_tt, le_ff, lt_tt, lt_ff, eq_ff, and_true, true_and, and_false, false_and, or_true, true_or, or_false, false_or, ne_eq, decide_eq_true_eq, decide_eq_false_iff_not, Bool.not_true, Bool.not_false, Bool.and_true, Bool.true_and, Bool.and_false, Bool.false_and, gs_at, gs_no, oI_n, oI_s, hN i hi]⟩
    obtain ⟨r, C', y, a1, a2, a3⟩ := rd_gen (rc := Fm_readsStep n) (Dr := DS) (w := 0) (v := false) (C := M) (N := N0 N) (n := n) rfl hL1 hL2 (by omega) hB DS.st (fun p N' hp hR => ⟨(up2 N'.1 94 7 (fltI 4 p), N'.2), by
      obtain ⟨⟨t6, t5, t11⟩, _⟩ := hR
      unfold Fm_readsStep Fm_wrongAt
      rw [t11, if_pos (by decide), t5]
      rfl, at1u⟩) (fun k p C N' hk hp hC hN' hD => sclause hL2 hB (by omega) hk hp hC hN' hD) (fun C1 hC1 => fun s hs => absurd hs (by omega)) hTb hRM
    have f1 := gB_fr (P := fun c j => c = 113 ∨ c = 114 ∨ (c = 94 ∧ 5 ≤ j ∧ j ≤ 12)) (.inr (.inr (by omega))) (.inr (.inr (by omega))) (fun N z hz => (fr_Fm_readsStep hz).mono (fun c j q => by unfold fp_Fm_readsStep at q; omega)) a2
    refine ⟨r, C', y, a1, ⟨a2, ?_, ?_⟩, a3⟩
    · have f0 : Fr (fun c j => c = 113 ∨ c = 114 ∨ (c = 94 ∧ 4 ≤ j ∧ j ≤ 12)) N (N0 N) := by
        rw [hN0]
        exact Fr.I (Fr.I (Fr.I (Fr.I Fr.rf (.inr (.inr (by omega)))) (.inr (.inr (by omega)))) (.inr (.inr (by omega)))) (.inr (.inr (by omega)))
      exact f0.tr (f1.mono (fun c j q => by omega))
    · rw [(f1 94 4 (by omega)).1, hN0]
      simp (disch := omega) only [l_0, l_1, l_2, l_3, l_4, l_5, l_6, l_7, l_8, l_9, l_10, l_11, l_12, l_13, l_14, l_16, l_20, l_21, l_23, l_24, l_30, l_32, l_40, l_41, l_44, l_48, l_57, l_59, l_60, l_63, l_64, l_80, l_84, l_96, l_97, l_99, l_120, l_122, l_127, l_200, l_240, l_255, l_840, l_999, l_1000, l_1001, l_2400, l_3064, l_9999, l_10000, l_13849, l_16383, l_25173, l_65535, l_65536, l_99999, l_1000000000, neg_nI, pk_mul, nI_add, nI_subL, tn_nI, inb_t, grd_true, bnd_some, elS_l, elS_r, nI_ltI, nI_leI, nI_inj, fa_and, fa_or, m1_eq, eq_m1, m1_lt, m1_le, lt_m1, le_m1, m1_lt0, up2_at, up2_no, ite_true, ite_false, if_true, if_false, Bool.false_eq_true, reduceIte, reduceCtorEq, not_true_eq_false, not_false_eq_true, eq_self, decide_true, decide_false, le_tt, le_ff, lt_tt, lt_ff, eq_ff, and_true, true_and, and_false, false_and, or_true, true_or, or_false, false_or, ne_eq, decide_eq_true_eq, decide_eq_false_iff_not, Bool.not_true, Bool.not_false, Bool.and_true, Bool.true_and, Bool.and_false, Bool.false_and, gs_at, gs_no, oI_n, oI_s]
  obtain ⟨r, C', y0, e1, _, o0⟩ := H M hm.2.2
  have frC := fr_Rd_readText e1
  dsimp only at frC
  have H2 : ∀ N : Mm, (∀ i, i < 240 → N.1 97 i &&& nI 255 = nI (b i)) → ∃ y, (bnd (Fm_readsStep n (N0 N)) (fun z6 => loop (fun s1 : Int32 × Mm => Fm_works_b15 n s1.1 s1.2) n (b2i z6.1, z6.2)) = some y ∧ Fr (fun c j => c = 113 ∨ c = 114 ∨ (c = 94 ∧ 4 ≤ j ∧ j ≤ 12)) N y.2 ∧ y.2.1 94 4 = nI 0) ∧ XO L DS r C' y := fun N hN => by
    obtain ⟨r', C'', y, a1, a2, a3⟩ := H N hN
    rw [e1] at a1
    cases a1
    exact ⟨y, a2, a3⟩
  obtain ⟨⟨h, hF, hKH⟩, hM4, hMb⟩ := hm
  dsimp only at hF hKH hM4 hMb
  have hgate := fun (Cx Nx : Mm) => tx_yes (C := Cx) (N := Nx) (s := s) (L := L) hL1 hL2 hL3 hs
  have hmod : ∀ (N : Mm) (y : Int32 × Mm), N.1 94 4 = nI s → bnd (Fm_readsStep n (N0 N)) (fun z6 => loop (fun s1 : Int32 × Mm => Fm_works_b15 n s1.1 s1.2) n (b2i z6.1, z6.2)) = some y → Fm_works n (nI L) N = Fm_works_j55 n y.1 y.2 := fun N y hN hy => by
    unfold Fm_works
    rw [(hgate M N hT hN).2, bnd_some, if_pos rfl, bnd_as]
    rw [hN0] at hy
    rw [hy, bnd_some]
  obtain ⟨M1, hM1⟩ : ∃ M1 : Mm, M1 = (up2 C'.1 1 1 (nI 0), C'.2) := ⟨_, rfl⟩
  have fr1 : Fr (fun c j => 1 ≤ c ∧ c < 12 ∧ c ≠ 2) M M1 := by
    rw [hM1]
    exact Fr.I (frC.mono (fun c j q => by unfold fp_Rd_readText at q; omega)) (by omega)
  have hc1 : KC M1 (g, kp, 0, b) := by
    refine ⟨⟨hSV.fr fr1 (fun k j hk => by omega), hCA.fr fr1 (fun j => by omega)⟩, ⟨by rw [hM1]; exact at1u, fun i hi => ?_⟩, hK.fr fr1 (fun c j hc => by omega)⟩
    rw [(fr1 2 i (by omega)).1]
    exact hTb i hi
  rcases o0 with ⟨f, q, f1, f2, f3, f4, _, _⟩ | ⟨k, C2, k1, k2, k3, _, _, kD, kC⟩
  · have hng := flt_ng (k := f) (q := q) f2 (by omega)
    obtain ⟨y, ⟨y1, y2, y4⟩, y3⟩ := H2 M1 (fun i hi => by rw [(fr1 97 i (by omega)).1]; exact hMb i hi)
    have hy : y.1 = nI 0 ∧ y.2.1 94 7 = r := by
      rcases y3 with ⟨f', q', _, _, _, g4, g5, g6⟩ | ⟨k, _, k1, k2, k3, _⟩
      · exact ⟨g5, by rw [g6, g4]⟩
      · rw [f4, hng, m1_eq (by omega) (by omega) (by omega)] at k3
        cases k3
    refine ⟨r, M1, y.2, (g, kp, 0, b), ?_, ?_, ⟨hg, hkg, by show 0 ≤ 240; omega, hB⟩, hc1.fr y2 (fun c j q => by omega), ⟨h, (hF.fr fr1 (fun j => by omega)).fr y2 (fun j => by omega), (hKH.fr fr1 (by omega) (fun _ _ => rfl)).fr y2 (by omega) (fun _ _ => rfl)⟩, y4, fun i hi => ?_⟩
    · unfold Fg_works
      rw [(hgate M M hT hM4).1, bnd_some, if_pos rfl, e1, bnd_some]
      dsimp only
      rw [if_neg (by rw [f4, hng]; simp (disch := omega) only [l_0, l_1, l_2, l_3, l_4, l_5, l_6, l_7, l_8, l_9, l_10, l_11, l_12, l_13, l_14, l_16, l_20, l_21, l_23, l_24, l_30, l_32, l_40, l_41, l_44, l_48, l_57, l_59, l_60, l_63, l_64, l_80, l_84, l_96, l_97, l_99, l_120, l_122, l_127, l_200, l_240, l_255, l_840, l_999, l_1000, l_1001, l_2400, l_3064, l_9999, l_10000, l_13849, l_16383, l_25173, l_65535, l_65536, l_99999, l_1000000000, neg_nI, pk_mul, nI_add, nI_subL, tn_nI, inb_t, grd_true, bnd_some, elS_l, elS_r, nI_ltI, nI_leI, nI_inj, fa_and, fa_or, m1_eq, eq_m1, m1_lt, m1_le, lt_m1, le_m1, m1_lt0, up2_at, up2_no, ite_true, ite_false, if_true, if_false, Bool.false_eq_true, reduceIte, reduceCtorEq, not_true_eq_false, not_false_eq_true, eq_self, decide_true, decide_false, le_tt, le_ff, lt_tt, lt_ff, eq_ff, and_true, true_and, and_false, false_and, or_true, true_or, or_false, false_or, ne_eq, decide_eq_true_eq, decide_eq_false_iff_not, Bool.not_true, Bool.not_false, Bool.and_true, Bool.true_and, Bool.and_false, Bool.false_and, gs_at, gs_no, oI_n, oI_s]), hM1]
      rfl
    · rw [hmod M1 y ((fr1 94 4 (by omega)).1.trans hM4) y1, hy.1]
      unfold Fm_works_j55
      rw [if_pos z00, hy.2]
    · rw [(y2 97 i (by omega)).1, (fr1 97 i (by omega)).1]
      exact hMb i hi
  · have c10 : ∀ j, M1.1 10 j = C2.1 10 j ∧ M1.1 11 j = C2.1 11 j := fun j => by
      rw [hM1, kC]
      constructor <;> simp (disch := omega) only [l_0, l_1, l_2, l_3, l_4, l_5, l_6, l_7, l_8, l_9, l_10, l_11, l_12, l_13, l_14, l_16, l_20, l_21, l_23, l_24, l_30, l_32, l_40, l_41, l_44, l_48, l_57, l_59, l_60, l_63, l_64, l_80, l_84, l_96, l_97, l_99, l_120, l_122, l_127, l_200, l_240, l_255, l_840, l_999, l_1000, l_1001, l_2400, l_3064, l_9999, l_10000, l_13849, l_16383, l_25173, l_65535, l_65536, l_99999, l_1000000000, neg_nI, pk_mul, nI_add, nI_subL, tn_nI, inb_t, grd_true, bnd_some, elS_l, elS_r, nI_ltI, nI_leI, nI_inj, fa_and, fa_or, m1_eq, eq_m1, m1_lt, m1_le, lt_m1, le_m1, m1_lt0, up2_at, up2_no, ite_true, ite_false, if_true, if_false, Bool.false_eq_true, reduceIte, reduceCtorEq, not_true_eq_false, not_false_eq_true, eq_self, decide_true, decide_false, le_tt, le_ff, lt_tt, lt_ff, eq_ff, and_true, true_and, and_false, false_and, or_true, true_or, or_false, false_or, ne_eq, decide_eq_true_eq, decide_eq_false_iff_not, Bool.not_true, Bool.not_false, Bool.and_true, Bool.true_and, Bool.and_false, Bool.false_and, gs_at, gs_no, oI_n, oI_s]
    have hw : ∀ s, s < k → tn (C2.1 10 s) < 11 ∧ C2.1 10 s = nI (tn (C2.1 10 s)) := fun s hs => by
      obtain ⟨v, v1, v2, _⟩ := kD s hs
      rw [v2, tn_nI (by omega)]
      exact ⟨v1, rfl⟩
    obtain ⟨rr, g', v', s1, s2⟩ := seq_k (n := n) (k := k) (vs := fun s => tn (C2.1 10 s)) (nu := C2.1 11) hn k2 (fun s hs => (hw s hs).1) k 0 (by omega) g hg
    obtain ⟨M2, t1, t2, t3, t4⟩ := s1 M1 n (by omega) hc1.1.1 hc1.1.2 (fun s hs => ⟨by rw [(c10 s).1]; exact (hw s hs).2, fun i hi => (c10 _).2⟩)
    have hc2 : KC M2 (g', kp, 0, b) := hc1.st t4 t2 t3
    have fr2 : Fr (fun c j => 1 ≤ c ∧ (c < 94 ∨ c = 115) ∧ c ≠ 2) M M2 := (fr1.mono (fun c j q => by omega)).tr (t4.mono (fun c j q => by unfold PC at q; omega))
    obtain ⟨y, ⟨y1, y2, y4⟩, y3⟩ := H2 M2 (fun i hi => by rw [(fr2 97 i (by omega)).1]; exact hMb i hi)
    rcases y3 with ⟨f', q', g1, g2, g3, g4, g5, g6⟩ | ⟨k', C2', l1, l2, l3, l4, l5, l6, l7⟩
    · rw [k3, flt_ng (k := f') (q := q') g2 (by omega), eq_m1 (by omega) (by omega) (by omega)] at g4
      cases g4
    · rw [k3, nI_inj (by omega) (by omega)] at l3
      subst l3
      have i3 : ∀ c j, c ≠ 4 → C2'.1 c j = C2.1 c j := fun c j hcj => by
        have i1 : up2 C2.1 4 4 (nI k) = up2 C2'.1 4 4 (nI k) := by
          have : ((up2 C2.1 4 4 (nI k), C2.2) : Mm) = (up2 C2'.1 4 4 (nI k), C2'.2) := by rw [← kC, ← l7]
          exact congrArg Prod.fst this
        have := congrFun (congrFun i1 c) j
        rw [up2_no (by omega), up2_no (by omega)] at this
        exact this.symm
      have hF2 := (hF.fr fr2 (fun j => by omega)).fr y2 (fun j => by omega)
      obtain ⟨N', h', u1, u2, u3, u4⟩ := s2 y.2 n h (by omega) hF2 l5 (fun s hs => by
        obtain ⟨v, v1, v2, v3, v4⟩ := l6 s hs
        rw [i3 10 s (by omega)] at v2
        rw [v2, tn_nI (by omega)]
        refine ⟨v3, fun i hi => ?_⟩
        rw [← i3 11 _ (by omega)]
        exact (v4 i hi).symm)
      refine ⟨nI rr, M2, N', (g', kp, 0, b), ?_, ?_, ⟨v', hkg, by show 0 ≤ 240; omega, hB⟩, (hc2.fr y2 (fun c j q => by omega)).fr u4 (fun c j q => by unfold PM at q; omega), ⟨h', u2, ((hKH.fr fr2 (by omega) (fun _ _ => rfl)).fr y2 (by omega) (fun _ _ => rfl)).fr u4 (by unfold PM; omega) u3⟩, ?_, fun i hi => ?_⟩
      · unfold Fg_works
        rw [(hgate M M hT hM4).1, bnd_some, if_pos rfl, e1, bnd_some]
        dsimp only
        rw [k3, if_pos (by simp (disch := omega) only [l_0, l_1, l_2, l_3, l_4, l_5, l_6, l_7, l_8, l_9, l_10, l_11, l_12, l_13, l_14, l_16, l_20, l_21, l_23, l_24, l_30, l_32, l_40, l_41, l_44, l_48, l_57, l_59, l_60, l_63, l_64, l_80, l_84, l_96, l_97, l_99, l_120, l_122, l_127, l_200, l_240, l_255, l_840, l_999, l_1000, l_1001, l_2400, l_3064, l_9999, l_10000, l_13849, l_16383, l_25173, l_65535, l_65536, l_99999, l_1000000000, neg_nI, pk_mul, nI_add, nI_subL, tn_nI, inb_t, grd_true, bnd_some, elS_l, elS_r, nI_ltI, nI_leI, nI_inj, fa_and, fa_or, m1_eq, eq_m1, m1_lt, m1_le, lt_m1, le_m1, m1_lt0, up2_at, up2_no, ite_true, ite_false, if_true, if_false, Bool.false_eq_true, reduceIte, reduceCtorEq, not_true_eq_false, not_false_eq_true, eq_self, decide_true, decide_false, le_tt, le_ff, lt_tt, lt_ff, eq_ff, and_true, true_and, and_false, false_and, or_true, true_or, or_false, false_or, ne_eq, decide_eq_true_eq, decide_eq_false_iff_not, Bool.not_true, Bool.not_false, Bool.and_true, Bool.true_and, Bool.and_false, Bool.false_and, gs_at, gs_no, oI_n, oI_s]), l_0, ← hM1, t1, bnd_some]
      · rw [hmod M2 y ((fr2 94 4 (by omega)).1.trans hM4) y1, l4]
        unfold Fm_works_j55
        rw [if_neg (by decide), l_0, u1, bnd_some]
      · show N'.1 94 4 = nI 0
        rw [(u4 94 4 (by unfold PM; omega)).1]
        exact y4
      · rw [(u4 97 i (by unfold PM; omega)).1, (y2 97 i (by omega)).1, (fr2 97 i (by omega)).1]
        exact hMb i hi
