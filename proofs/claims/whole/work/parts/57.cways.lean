/-! the class: ways laid in order -/
theorem insG_sorted {lt : We → We → Bool} (has : ∀ a b, lt a b = true → lt b a = false) (hnt : ∀ a b c, lt b a = false → lt c b = false → lt c a = false) {e : We} : ∀ {L : List We}, L.Pairwise (fun a b => lt b a = false) → (insW lt e L).Pairwise (fun a b => lt b a = false)
  | [], _ => by unfold insW; exact List.pairwise_singleton _ _
  | x :: L, h => by
    rw [List.pairwise_cons] at h
    unfold insW
    by_cases q : lt e x = true
    · rw [if_pos q, List.pairwise_cons, List.pairwise_cons]
      refine ⟨fun a ha => ?_, h⟩
      rcases List.mem_cons.mp ha with ha | ha
      · rw [ha]; exact has _ _ q
      · exact hnt _ _ _ (has _ _ q) (h.1 a ha)
    · rw [if_neg q, List.pairwise_cons]
      refine ⟨fun a ha => ?_, insG_sorted has hnt h.2⟩
      rcases insW_mem.mp ha with ha | ha
      · rw [ha]; simpa using q
      · exact h.1 a ha
theorem ac_asym {a b : We} (h : ahC a b = true) : ahC b a = false := by
  unfold ahC at h ⊢
  rw [decide_eq_true_eq] at h
  exact decide_eq_false (by omega)
theorem ac_ntr {a b c : We} (h : ahC b a = false) (h2 : ahC c b = false) : ahC c a = false := by
  unfold ahC at h h2 ⊢
  rw [decide_eq_false_iff_not] at h h2 ⊢
  omega
theorem bubW_t {lt : We → We → Bool} {e x : We} {R : List We} (q : lt e x = true) : bubW lt e (x :: R) = bubW lt e R ++ [x] := if_pos q
def QC (M : Mm) (b i : Nat) (e : We) : Prop := M.1 16 (b + i) = nI e.2.2.2 ∧ M.1 17 (b + i) = nI e.1 ∧ pcI e.2.2.2 = e.2.1
theorem imn_e {a b : Nat} (ha : a < 2 ^ 31) (hb : b < 2 ^ 31) : imn (nI a) (nI b) = nI (min a b) := by
  unfold imn
  by_cases h : b < a
  · rw [if_pos ((nI_ltI hb ha).mpr h), Nat.min_eq_right (by omega)]
  · rw [if_neg (fun q => h ((nI_ltI hb ha).mp q)), Nat.min_eq_left (by omega)]
theorem imx_e {a b : Nat} (ha : a < 2 ^ 31) (hb : b < 2 ^ 31) : imx (nI a) (nI b) = nI (max a b) := by
  unfold imx
  by_cases h : a < b
  · rw [if_pos ((nI_ltI ha hb).mpr h), Nat.max_eq_right (by omega)]
  · rw [if_neg (fun q => h ((nI_ltI ha hb).mp q)), Nat.max_eq_left (by omega)]
theorem Wy_offer_l {b : Nat} (hb : b ≤ 252) {e : We} (be : BW e) : ∀ (R B : List We) (M : Mm) (n : Nat), HL (QC M b) 0 R.reverse → HL (QC M b) (R.length + 1) (B.take (3 - R.length)) → R.length ≤ 4 → (∀ x, x ∈ R → BW x) → R.length < n → ∃ (M' : Mm) (A B' : List We), loop (fun s1 : Int32 × Mm => Wy_offer_b24 (nI e.1) (nI b) (nI e.2.1) s1.1 s1.2) n (nI R.length, M) = some (nI A.length, M') ∧ bubW ahC e R ++ B = A ++ e :: B' ∧ A.length ≤ 4 ∧ HL (QC M' b) 0 A ∧ HL (QC M' b) (A.length + 1) (B'.take (3 - A.length)) ∧ Fr (fun c j => (c = 16 ∨ c = 17) ∧ b ≤ j ∧ j < b + 4) M M' := by
  intro R
  obtain ⟨e1, e2, e3, e4⟩ := be
  induction R with
  | nil =>
    intro B M n h hB hl hx hn
    refine ⟨M, [], B, loop_inr ?_ hn, rfl, by decide, trivial, hB, Fr.rf⟩
    show Wy_offer_b24 (nI e.1) (nI b) (nI e.2.1) (nI 0) M = _
    unfold Wy_offer_b24
    simp (disch := omega) only [l_0, l_1, l_2, l_3, l_4, l_5, l_6, l_7, l_8, l_9, l_10, l_11, l_12, l_13, l_14, l_16, l_20, l_21, l_23, l_24, l_30, l_32, l_40, l_41, l_44, l_48, l_57, l_59, l_60, l_63, l_64, l_80, l_84, l_96, l_97, l_99, l_120, l_122, l_127, l_200, l_240, l_255, l_840, l_999, l_1000, l_1001, l_2400, l_3064, l_9999, l_10000, l_13849, l_16383, l_25173, l_65535, l_65536, l_99999, l_1000000000, neg_nI, pk_mul, nI_add, nI_subL, tn_nI, inb_t, grd_true, bnd_some, elS_l, elS_r, nI_ltI, nI_leI, nI_inj, fa_and, fa_or, m1_eq, eq_m1, m1_lt, m1_le, lt_m1, le_m1, m1_lt0, up2_at, up2_no, ite_true, ite_false, if_true, if_false, Bool.false_eq_true, reduceIte, reduceCtorEq, not_true_eq_false, not_false_eq_true, eq_self, decide_true, decide_false, le_tt, le_ff, lt_tt, lt_ff, eq_ff, and_true, true_and, and_false, false_and, or_true, true_or, or_false, false_or, ne_eq, decide_eq_true_eq, decide_eq_false_iff_not, Bool.not_true, Bool.not_false, Bool.and_true, Bool.true_and, Bool.and_false, Bool.false_and, gs_at, gs_no, oI_n, oI_s]
    rfl
  | cons x R ih =>
    intro B M n h hB hl hx hn
    rw [List.length_cons] at hl hn hB
    rw [List.reverse_cons, HL_app, List.length_reverse, Nat.zero_add] at h
    obtain ⟨h0, ⟨x1, x2, x3⟩, _⟩ := h
    obtain ⟨y1, y2, y3, y4⟩ := hx x List.mem_cons_self
    have i1 : b + (R.length + 1) - 1 = b + R.length := by omega
    have hbc := Ji_bitCount_e (m := x.2.2.2) (M := M) (by omega)
    rw [x3] at hbc
    rw [List.length_cons]
    have hdec : Wy_offer_b24 (nI e.1) (nI b) (nI e.2.1) (nI (R.length + 1)) M = if ahC e x = true then Wy_offer_j78 (nI b) (nI (R.length + 1)) M else some (.inr (nI (R.length + 1), M)) := by
      unfold Wy_offer_b24 ahC
      simp (disch := omega) only [l_0, l_1, l_2, l_3, l_4, l_5, l_6, l_7, l_8, l_9, l_10, l_11, l_12, l_13, l_14, l_16, l_20, l_21, l_23, l_24, l_30, l_32, l_40, l_41, l_44, l_48, l_57, l_59, l_60, l_63, l_64, l_80, l_84, l_96, l_97, l_99, l_120, l_122, l_127, l_200, l_240, l_255, l_840, l_999, l_1000, l_1001, l_2400, l_3064, l_9999, l_10000, l_13849, l_16383, l_25173, l_65535, l_65536, l_99999, l_1000000000, neg_nI, pk_mul, nI_add, nI_subL, tn_nI, inb_t, grd_true, bnd_some, elS_l, elS_r, nI_ltI, nI_leI, nI_inj, fa_and, fa_or, m1_eq, eq_m1, m1_lt, m1_le, lt_m1, le_m1, m1_lt0, up2_at, up2_no, ite_true, ite_false, if_true, if_false, Bool.false_eq_true, reduceIte, reduceCtorEq, not_true_eq_false, not_false_eq_true, eq_self, decide_true, decide_false, le_tt, le_ff, lt_tt, lt_ff, eq_ff, and_true, true_and, and_false, false_and, or_true, true_or, or_false, false_or, ne_eq, decide_eq_true_eq, decide_eq_false_iff_not, Bool.not_true, Bool.not_false, Bool.and_true, Bool.true_and, Bool.and_false, Bool.false_and, gs_at, gs_no, oI_n, oI_s, i1, x1, x2]
      by_cases c1 : e.1 < x.1
      · simp (disch := omega) only [l_0, l_1, l_2, l_3, l_4, l_5, l_6, l_7, l_8, l_9, l_10, l_11, l_12, l_13, l_14, l_16, l_20, l_21, l_23, l_24, l_30, l_32, l_40, l_41, l_44, l_48, l_57, l_59, l_60, l_63, l_64, l_80, l_84, l_96, l_97, l_99, l_120, l_122, l_127, l_200, l_240, l_255, l_840, l_999, l_1000, l_1001, l_2400, l_3064, l_9999, l_10000, l_13849, l_16383, l_25173, l_65535, l_65536, l_99999, l_1000000000, neg_nI, pk_mul, nI_add, nI_subL, tn_nI, inb_t, grd_true, bnd_some, elS_l, elS_r, nI_ltI, nI_leI, nI_inj, fa_and, fa_or, m1_eq, eq_m1, m1_lt, m1_le, lt_m1, le_m1, m1_lt0, up2_at, up2_no, ite_true, ite_false, if_true, if_false, Bool.false_eq_true, reduceIte, reduceCtorEq, not_true_eq_false, not_false_eq_true, eq_self, decide_true, decide_false, le_tt, le_ff, lt_tt, lt_ff, eq_ff, and_true, true_and, and_false, false_and, or_true, true_or, or_false, false_or, ne_eq, decide_eq_true_eq, decide_eq_false_iff_not, Bool.not_true, Bool.not_false, Bool.and_true, Bool.true_and, Bool.and_false, Bool.false_and, gs_at, gs_no, oI_n, oI_s]
      · simp (disch := omega) only [l_0, l_1, l_2, l_3, l_4, l_5, l_6, l_7, l_8, l_9, l_10, l_11, l_12, l_13, l_14, l_16, l_20, l_21, l_23, l_24, l_30, l_32, l_40, l_41, l_44, l_48, l_57, l_59, l_60, l_63, l_64, l_80, l_84, l_96, l_97, l_99, l_120, l_122, l_127, l_200, l_240, l_255, l_840, l_999, l_1000, l_1001, l_2400, l_3064, l_9999, l_10000, l_13849, l_16383, l_25173, l_65535, l_65536, l_99999, l_1000000000, neg_nI, pk_mul, nI_add, nI_subL, tn_nI, inb_t, grd_true, bnd_some, elS_l, elS_r, nI_ltI, nI_leI, nI_inj, fa_and, fa_or, m1_eq, eq_m1, m1_lt, m1_le, lt_m1, le_m1, m1_lt0, up2_at, up2_no, ite_true, ite_false, if_true, if_false, Bool.false_eq_true, reduceIte, reduceCtorEq, not_true_eq_false, not_false_eq_true, eq_self, decide_true, decide_false, le_tt, le_ff, lt_tt, lt_ff, eq_ff, and_true, true_and, and_false, false_and, or_true, true_or, or_false, false_or, ne_eq, decide_eq_true_eq, decide_eq_false_iff_not, Bool.not_true, Bool.not_false, Bool.and_true, Bool.true_and, Bool.and_false, Bool.false_and, gs_at, gs_no, oI_n, oI_s]
        by_cases c2 : e.1 = x.1
        · simp (disch := omega) only [l_0, l_1, l_2, l_3, l_4, l_5, l_6, l_7, l_8, l_9, l_10, l_11, l_12, l_13, l_14, l_16, l_20, l_21, l_23, l_24, l_30, l_32, l_40, l_41, l_44, l_48, l_57, l_59, l_60, l_63, l_64, l_80, l_84, l_96, l_97, l_99, l_120, l_122, l_127, l_200, l_240, l_255, l_840, l_999, l_1000, l_1001, l_2400, l_3064, l_9999, l_10000, l_13849, l_16383, l_25173, l_65535, l_65536, l_99999, l_1000000000, neg_nI, pk_mul, nI_add, nI_subL, tn_nI, inb_t, grd_true, bnd_some, elS_l, elS_r, nI_ltI, nI_leI, nI_inj, fa_and, fa_or, m1_eq, eq_m1, m1_lt, m1_le, lt_m1, le_m1, m1_lt0, up2_at, up2_no, ite_true, ite_false, if_true, if_false, Bool.false_eq_true, reduceIte, reduceCtorEq, not_true_eq_false, not_false_eq_true, eq_self, decide_true, decide_false, le_tt, le_ff, lt_tt, lt_ff, eq_ff, and_true, true_and, and_false, false_and, or_true, true_or, or_false, false_or, ne_eq, decide_eq_true_eq, decide_eq_false_iff_not, Bool.not_true, Bool.not_false, Bool.and_true, Bool.true_and, Bool.and_false, Bool.false_and, gs_at, gs_no, oI_n, oI_s, c2, hbc]
          by_cases c3 : x.2.1 ≤ e.2.1
          · simp (disch := omega) only [l_0, l_1, l_2, l_3, l_4, l_5, l_6, l_7, l_8, l_9, l_10, l_11, l_12, l_13, l_14, l_16, l_20, l_21, l_23, l_24, l_30, l_32, l_40, l_41, l_44, l_48, l_57, l_59, l_60, l_63, l_64, l_80, l_84, l_96, l_97, l_99, l_120, l_122, l_127, l_200, l_240, l_255, l_840, l_999, l_1000, l_1001, l_2400, l_3064, l_9999, l_10000, l_13849, l_16383, l_25173, l_65535, l_65536, l_99999, l_1000000000, neg_nI, pk_mul, nI_add, nI_subL, tn_nI, inb_t, grd_true, bnd_some, elS_l, elS_r, nI_ltI, nI_leI, nI_inj, fa_and, fa_or, m1_eq, eq_m1, m1_lt, m1_le, lt_m1, le_m1, m1_lt0, up2_at, up2_no, ite_true, ite_false, if_true, if_false, Bool.false_eq_true, reduceIte, reduceCtorEq, not_true_eq_false, not_false_eq_true, eq_self, decide_true, decide_false, le_tt, le_ff, lt_tt, lt_ff, eq_ff, and_true, true_and, and_false, false_and, or_true, true_or, or_false, false_or, ne_eq, decide_eq_true_eq, decide_eq_false_iff_not, Bool.not_true, Bool.not_false, Bool.and_true, Bool.true_and, Bool.and_false, Bool.false_and, gs_at, gs_no, oI_n, oI_s, Nat.lt_irrefl]
          · simp (disch := omega) only [l_0, l_1, l_2, l_3, l_4, l_5, l_6, l_7, l_8, l_9, l_10, l_11, l_12, l_13, l_14, l_16, l_20, l_21, l_23, l_24, l_30, l_32, l_40, l_41, l_44, l_48, l_57, l_59, l_60, l_63, l_64, l_80, l_84, l_96, l_97, l_99, l_120, l_122, l_127, l_200, l_240, l_255, l_840, l_999, l_1000, l_1001, l_2400, l_3064, l_9999, l_10000, l_13849, l_16383, l_25173, l_65535, l_65536, l_99999, l_1000000000, neg_nI, pk_mul, nI_add, nI_subL, tn_nI, inb_t, grd_true, bnd_some, elS_l, elS_r, nI_ltI, nI_leI, nI_inj, fa_and, fa_or, m1_eq, eq_m1, m1_lt, m1_le, lt_m1, le_m1, m1_lt0, up2_at, up2_no, ite_true, ite_false, if_true, if_false, Bool.false_eq_true, reduceIte, reduceCtorEq, not_true_eq_false, not_false_eq_true, eq_self, decide_true, decide_false, le_tt, le_ff, lt_tt, lt_ff, eq_ff, and_true, true_and, and_false, false_and, or_true, true_or, or_false, false_or, ne_eq, decide_eq_true_eq, decide_eq_false_iff_not, Bool.not_true, Bool.not_false, Bool.and_true, Bool.true_and, Bool.and_false, Bool.false_and, gs_at, gs_no, oI_n, oI_s, Nat.lt_irrefl]
        · simp (disch := omega) only [l_0, l_1, l_2, l_3, l_4, l_5, l_6, l_7, l_8, l_9, l_10, l_11, l_12, l_13, l_14, l_16, l_20, l_21, l_23, l_24, l_30, l_32, l_40, l_41, l_44, l_48, l_57, l_59, l_60, l_63, l_64, l_80, l_84, l_96, l_97, l_99, l_120, l_122, l_127, l_200, l_240, l_255, l_840, l_999, l_1000, l_1001, l_2400, l_3064, l_9999, l_10000, l_13849, l_16383, l_25173, l_65535, l_65536, l_99999, l_1000000000, neg_nI, pk_mul, nI_add, nI_subL, tn_nI, inb_t, grd_true, bnd_some, elS_l, elS_r, nI_ltI, nI_leI, nI_inj, fa_and, fa_or, m1_eq, eq_m1, m1_lt, m1_le, lt_m1, le_m1, m1_lt0, up2_at, up2_no, ite_true, ite_false, if_true, if_false, Bool.false_eq_true, reduceIte, reduceCtorEq, not_true_eq_false, not_false_eq_true, eq_self, decide_true, decide_false, le_tt, le_ff, lt_tt, lt_ff, eq_ff, and_true, true_and, and_false, false_and, or_true, true_or, or_false, false_or, ne_eq, decide_eq_true_eq, decide_eq_false_iff_not, Bool.not_true, Bool.not_false, Bool.and_true, Bool.true_and, Bool.and_false, Bool.false_and, gs_at, gs_no, oI_n, oI_s, c2]
    by_cases q : ahC e x = true
    · rw [if_pos q] at hdec
      by_cases c4 : R.length + 1 = 4
      · have hbody : (fun s1 : Int32 × Mm => Wy_offer_b24 (nI e.1) (nI b) (nI e.2.1) s1.1 s1.2) (nI (R.length + 1), M) = some (.inl (nI R.length, M)) := by
          show Wy_offer_b24 _ _ _ _ _ = _
          rw [hdec]
          unfold Wy_offer_j78 Wy_offer_j124
          simp (disch := omega) only [l_0, l_1, l_2, l_3, l_4, l_5, l_6, l_7, l_8, l_9, l_10, l_11, l_12, l_13, l_14, l_16, l_20, l_21, l_23, l_24, l_30, l_32, l_40, l_41, l_44, l_48, l_57, l_59, l_60, l_63, l_64, l_80, l_84, l_96, l_97, l_99, l_120, l_122, l_127, l_200, l_240, l_255, l_840, l_999, l_1000, l_1001, l_2400, l_3064, l_9999, l_10000, l_13849, l_16383, l_25173, l_65535, l_65536, l_99999, l_1000000000, neg_nI, pk_mul, nI_add, nI_subL, tn_nI, inb_t, grd_true, bnd_some, elS_l, elS_r, nI_ltI, nI_leI, nI_inj, fa_and, fa_or, m1_eq, eq_m1, m1_lt, m1_le, lt_m1, le_m1, m1_lt0, up2_at, up2_no, ite_true, ite_false, if_true, if_false, Bool.false_eq_true, reduceIte, reduceCtorEq, not_true_eq_false, not_false_eq_true, eq_self, decide_true, decide_false, le_tt, le_ff, lt_tt, lt_ff, eq_ff, and_true, true_and, and_false, false_and, or_true, true_or, or_false, false_or, ne_eq, decide_eq_true_eq, decide_eq_false_iff_not, Bool.not_true, Bool.not_false, Bool.and_true, Bool.true_and, Bool.and_false, Bool.false_and, gs_at, gs_no, oI_n, oI_s, nI_addm, Nat.add_sub_cancel]
        rw [loop_inl hbody (by omega)]
        obtain ⟨M', A, B', g1, g2, g3, g4, g5, g6⟩ := ih (x :: B) M (n - 1) h0 (by rw [show 3 - R.length = 0 by omega]; exact trivial) (by omega) (fun y hy => hx y (List.mem_cons_of_mem _ hy)) (by omega)
        refine ⟨M', A, B', g1, ?_, g3, g4, g5, g6⟩
        rw [← g2, bubW_t q, List.append_assoc]
        rfl
      · have hbody : (fun s1 : Int32 × Mm => Wy_offer_b24 (nI e.1) (nI b) (nI e.2.1) s1.1 s1.2) (nI (R.length + 1), M) = some (.inl (nI R.length, (up2 (up2 M.1 16 (b + (R.length + 1)) (nI x.2.2.2)) 17 (b + (R.length + 1)) (nI x.1), M.2))) := by
          show Wy_offer_b24 _ _ _ _ _ = _
          rw [hdec]
          unfold Wy_offer_j78 Wy_offer_j124
          simp (disch := omega) only [l_0, l_1, l_2, l_3, l_4, l_5, l_6, l_7, l_8, l_9, l_10, l_11, l_12, l_13, l_14, l_16, l_20, l_21, l_23, l_24, l_30, l_32, l_40, l_41, l_44, l_48, l_57, l_59, l_60, l_63, l_64, l_80, l_84, l_96, l_97, l_99, l_120, l_122, l_127, l_200, l_240, l_255, l_840, l_999, l_1000, l_1001, l_2400, l_3064, l_9999, l_10000, l_13849, l_16383, l_25173, l_65535, l_65536, l_99999, l_1000000000, neg_nI, pk_mul, nI_add, nI_subL, tn_nI, inb_t, grd_true, bnd_some, elS_l, elS_r, nI_ltI, nI_leI, nI_inj, fa_and, fa_or, m1_eq, eq_m1, m1_lt, m1_le, lt_m1, le_m1, m1_lt0, up2_at, up2_no, ite_true, ite_false, if_true, if_false, Bool.false_eq_true, reduceIte, reduceCtorEq, not_true_eq_false, not_false_eq_true, eq_self, decide_true, decide_false, le_tt, le_ff, lt_tt, lt_ff, eq_ff, and_true, true_and, and_false, false_and, or_true, true_or, or_false, false_or, ne_eq, decide_eq_true_eq, decide_eq_false_iff_not, Bool.not_true, Bool.not_false, Bool.and_true, Bool.true_and, Bool.and_false, Bool.false_and, gs_at, gs_no, oI_n, oI_s, nI_addm, Nat.add_sub_cancel, i1, x1, x2]
        rw [loop_inl hbody (by omega)]
        have fr1 : Fr (fun c j => (c = 16 ∨ c = 17) ∧ b ≤ j ∧ j < b + 4) M (up2 (up2 M.1 16 (b + (R.length + 1)) (nI x.2.2.2)) 17 (b + (R.length + 1)) (nI x.1), M.2) := Fr.I (Fr.I Fr.rf (by omega)) (by omega)
        have hq : ∀ j y, j ≠ R.length + 1 → QC M b j y → QC (up2 (up2 M.1 16 (b + (R.length + 1)) (nI x.2.2.2)) 17 (b + (R.length + 1)) (nI x.1), M.2) b j y := fun j y hj hq => by
          obtain ⟨q1, q2, q3⟩ := hq
          refine ⟨?_, ?_, q3⟩
          · show up2 (up2 M.1 16 (b + (R.length + 1)) (nI x.2.2.2)) 17 (b + (R.length + 1)) (nI x.1) 16 (b + j) = _
            simp (disch := omega) only [l_0, l_1, l_2, l_3, l_4, l_5, l_6, l_7, l_8, l_9, l_10, l_11, l_12, l_13, l_14, l_16, l_20, l_21, l_23, l_24, l_30, l_32, l_40, l_41, l_44, l_48, l_57, l_59, l_60, l_63, l_64, l_80, l_84, l_96, l_97, l_99, l_120, l_122, l_127, l_200, l_240, l_255, l_840, l_999, l_1000, l_1001, l_2400, l_3064, l_9999, l_10000, l_13849, l_16383, l_25173, l_65535, l_65536, l_99999, l_1000000000, neg_nI, pk_mul, nI_add, nI_subL, tn_nI, inb_t, grd_true, bnd_some, elS_l, elS_r, nI_ltI, nI_leI, nI_inj, fa_and, fa_or, m1_eq, eq_m1, m1_lt, m1_le, lt_m1, le_m1, m1_lt0, up2_at, up2_no, ite_true, ite_false, if_true, if_false, Bool.false_eq_true, reduceIte, reduceCtorEq, not_true_eq_false, not_false_eq_true, eq_self, decide_true, decide_false, le_tt, le_ff, lt_tt, lt_ff, eq_ff, and_true, true_and, and_false, false_and, or_true, true_or, or_false, false_or, ne_eq, decide_eq_true_eq, decide_eq_false_iff_not, Bool.not_true, Bool.not_false, Bool.and_true, Bool.true_and, Bool.and_false, Bool.false_and, gs_at, gs_no, oI_n, oI_s, q1]
          · show up2 (up2 M.1 16 (b + (R.length + 1)) (nI x.2.2.2)) 17 (b + (R.length + 1)) (nI x.1) 17 (b + j) = _
            simp (disch := omega) only [l_0, l_1, l_2, l_3, l_4, l_5, l_6, l_7, l_8, l_9, l_10, l_11, l_12, l_13, l_14, l_16, l_20, l_21, l_23, l_24, l_30, l_32, l_40, l_41, l_44, l_48, l_57, l_59, l_60, l_63, l_64, l_80, l_84, l_96, l_97, l_99, l_120, l_122, l_127, l_200, l_240, l_255, l_840, l_999, l_1000, l_1001, l_2400, l_3064, l_9999, l_10000, l_13849, l_16383, l_25173, l_65535, l_65536, l_99999, l_1000000000, neg_nI, pk_mul, nI_add, nI_subL, tn_nI, inb_t, grd_true, bnd_some, elS_l, elS_r, nI_ltI, nI_leI, nI_inj, fa_and, fa_or, m1_eq, eq_m1, m1_lt, m1_le, lt_m1, le_m1, m1_lt0, up2_at, up2_no, ite_true, ite_false, if_true, if_false, Bool.false_eq_true, reduceIte, reduceCtorEq, not_true_eq_false, not_false_eq_true, eq_self, decide_true, decide_false, le_tt, le_ff, lt_tt, lt_ff, eq_ff, and_true, true_and, and_false, false_and, or_true, true_or, or_false, false_or, ne_eq, decide_eq_true_eq, decide_eq_false_iff_not, Bool.not_true, Bool.not_false, Bool.and_true, Bool.true_and, Bool.and_false, Bool.false_and, gs_at, gs_no, oI_n, oI_s, q2]
        obtain ⟨M', A, B', g1, g2, g3, g4, g5, g6⟩ := ih (x :: B) _ (n - 1) (HL_congr (fun j y a1 a2 => hq j y (by rw [List.length_reverse] at a2; omega)) h0) (by
          rw [show 3 - R.length = (3 - (R.length + 1)) + 1 by omega, List.take_succ_cons]
          refine ⟨⟨?_, ?_, x3⟩, HL_congr (fun j y a1 a2 => hq j y (by omega)) hB⟩
          · show up2 (up2 M.1 16 (b + (R.length + 1)) (nI x.2.2.2)) 17 (b + (R.length + 1)) (nI x.1) 16 (b + (R.length + 1)) = _
            simp (disch := omega) only [l_0, l_1, l_2, l_3, l_4, l_5, l_6, l_7, l_8, l_9, l_10, l_11, l_12, l_13, l_14, l_16, l_20, l_21, l_23, l_24, l_30, l_32, l_40, l_41, l_44, l_48, l_57, l_59, l_60, l_63, l_64, l_80, l_84, l_96, l_97, l_99, l_120, l_122, l_127, l_200, l_240, l_255, l_840, l_999, l_1000, l_1001, l_2400, l_3064, l_9999, l_10000, l_13849, l_16383, l_25173, l_65535, l_65536, l_99999, l_1000000000, neg_nI, pk_mul, nI_add, nI_subL, tn_nI, inb_t, grd_true, bnd_some, elS_l, elS_r, nI_ltI, nI_leI, nI_inj, fa_and, fa_or, m1_eq, eq_m1, m1_lt, m1_le, lt_m1, le_m1, m1_lt0, up2_at, up2_no, ite_true, ite_false, if_true, if_false, Bool.false_eq_true, reduceIte, reduceCtorEq, not_true_eq_false, not_false_eq_true, eq_self, decide_true, decide_false, le_tt, le_ff, lt_tt, lt_ff, eq_ff, and_true, true_and, and_false, false_and, or_true, true_or, or_false, false_or, ne_eq, decide_eq_true_eq, decide_eq_false_iff_not, Bool.not_true, Bool.not_false, Bool.and_true, Bool.true_and, Bool.and_false, Bool.false_and, gs_at, gs_no, oI_n, oI_s]
          · show up2 (up2 M.1 16 (b + (R.length + 1)) (nI x.2.2.2)) 17 (b + (R.length + 1)) (nI x.1) 17 (b + (R.length + 1)) = _
            simp (disch := omega) only [l_0, l_1, l_2, l_3, l_4, l_5, l_6, l_7, l_8, l_9, l_10, l_11, l_12, l_13, l_14, l_16, l_20, l_21, l_23, l_24, l_30, l_32, l_40, l_41, l_44, l_48, l_57, l_59, l_60, l_63, l_64, l_80, l_84, l_96, l_97, l_99, l_120, l_122, l_127, l_200, l_240, l_255, l_840, l_999, l_1000, l_1001, l_2400, l_3064, l_9999, l_10000, l_13849, l_16383, l_25173, l_65535, l_65536, l_99999, l_1000000000, neg_nI, pk_mul, nI_add, nI_subL, tn_nI, inb_t, grd_true, bnd_some, elS_l, elS_r, nI_ltI, nI_leI, nI_inj, fa_and, fa_or, m1_eq, eq_m1, m1_lt, m1_le, lt_m1, le_m1, m1_lt0, up2_at, up2_no, ite_true, ite_false, if_true, if_false, Bool.false_eq_true, reduceIte, reduceCtorEq, not_true_eq_false, not_false_eq_true, eq_self, decide_true, decide_false, le_tt, le_ff, lt_tt, lt_ff, eq_ff, and_true, true_and, and_false, false_and, or_true, true_or, or_false, false_or, ne_eq, decide_eq_true_eq, decide_eq_false_iff_not, Bool.not_true, Bool.not_false, Bool.and_true, Bool.true_and, Bool.and_false, Bool.false_and, gs_at, gs_no, oI_n, oI_s]) (by omega) (fun y hy => hx y (List.mem_cons_of_mem _ hy)) (by omega)
        refine ⟨M', A, B', g1, ?_, g3, g4, g5, fr1.tr g6⟩
        rw [← g2, bubW_t q, List.append_assoc]
        rfl
    · rw [if_neg q] at hdec
      refine ⟨M, (x :: R).reverse, B, ?_, ?_, ?_, ?_, ?_, Fr.rf⟩
      · rw [List.length_reverse, List.length_cons]
        exact loop_inr hdec (by omega)
      · unfold bubW
        rw [if_neg q, List.append_assoc]
        rfl
      · rw [List.length_reverse, List.length_cons]; exact hl
      · rw [List.reverse_cons, HL_app, List.length_reverse, Nat.zero_add]
        exact ⟨h0, ⟨x1, x2, x3⟩, trivial⟩
      · rw [List.length_reverse, List.length_cons]; exact hB
def CE (M : Mm) (p : Nat) (L : List We) : Prop := M.1 14 p = nI L.length ∧ L.length ≤ 4 ∧ HL (QC M (p * 4)) 0 L ∧ ∀ e, e ∈ L → BW e
def WC (M : Mm) (p : Nat) (L : List We) : Prop := M.1 13 4 = nI p ∧ p < 64 ∧ CE M p L ∧ L.Pairwise (fun a b => ahC b a = false)
def fpo (p : Nat) (c j : Nat) : Prop := (c = 14 ∧ j = p) ∨ ((c = 16 ∨ c = 17) ∧ p * 4 ≤ j ∧ j < p * 4 + 4)
theorem Wy_offer_e {M : Mm} {p : Nat} {L : List We} (h : WC M p L) {e : We} (be : BW e) (hpe : pcI e.2.2.2 = e.2.1) {n : Nat} (hn : 100 < n) : ∃ M', Wy_offer n (nI e.2.2.2) (nI e.1) M = some M' ∧ WC M' p (T4 ahC L e) ∧ Fr (fpo p) M M' := by
  obtain ⟨h1, h2, ⟨h3, h4, h5, h6⟩, h7⟩ := h
  have be' := be
  obtain ⟨e1, e2, e3, e4⟩ := be
  have hbc := Ji_bitCount_e (m := e.2.2.2) (M := M) (by omega)
  rw [hpe] at hbc
  obtain ⟨M1, A, B, g1, g2, g3, g4, g5, g6⟩ := Wy_offer_l (b := p * 4) (by omega) be' L.reverse [] M n (by rw [List.reverse_reverse]; exact h5) (by rw [List.take_nil]; exact trivial) (by rw [List.length_reverse]; exact h4) (fun x hx => h6 x (List.mem_reverse.mp hx)) (by rw [List.length_reverse]; omega)
  rw [List.length_reverse] at g1
  rw [List.append_nil, bub_ins (fun x z q1 q2 => ac_ntr q2 q1) _ (by rw [List.pairwise_reverse]; exact h7), List.reverse_reverse] at g2
  have hT : T4 ahC L e = (A ++ e :: B).take 4 := by unfold T4; rw [g2]
  have hlen : (T4 ahC L e).length = min 4 (L.length + 1) := by unfold T4; rw [List.length_take, insW_len]
  have hsort : (T4 ahC L e).Pairwise (fun a b => ahC b a = false) := (insG_sorted (lt := ahC) (fun a b h => ac_asym h) (fun a b c h h2 => ac_ntr h h2) h7).take
  have hmem : ∀ y, y ∈ T4 ahC L e → BW y := fun y hy => by
    rcases T4_mem hy with q | q
    · rw [q]; exact be'
    · exact h6 y q
  have k1 : M1.1 13 4 = nI p := by rw [(g6 13 4 (by omega)).1]; exact h1
  have k2 : M1.1 14 p = nI L.length := by rw [(g6 14 p (by omega)).1]; exact h3
  have fr1 : Fr (fpo p) M M1 := g6.mono (fun c j q => by unfold fpo; omega)
  have hlA : A.length + (B.length + 1) = L.length + 1 := by
    have := congrArg List.length g2
    rw [insW_len, List.length_append, List.length_cons] at this
    omega
  by_cases c : A.length = 4
  · refine ⟨M1, ?_, ⟨k1, h2, ⟨?_, by rw [hlen]; omega, ?_, hmem⟩, hsort⟩, fr1⟩
    · unfold Wy_offer Wy_offer_j130
      simp (disch := omega) only [l_0, l_1, l_2, l_3, l_4, l_5, l_6, l_7, l_8, l_9, l_10, l_11, l_12, l_13, l_14, l_16, l_20, l_21, l_23, l_24, l_30, l_32, l_40, l_41, l_44, l_48, l_57, l_59, l_60, l_63, l_64, l_80, l_84, l_96, l_97, l_99, l_120, l_122, l_127, l_200, l_240, l_255, l_840, l_999, l_1000, l_1001, l_2400, l_3064, l_9999, l_10000, l_13849, l_16383, l_25173, l_65535, l_65536, l_99999, l_1000000000, neg_nI, pk_mul, nI_add, nI_subL, tn_nI, inb_t, grd_true, bnd_some, elS_l, elS_r, nI_ltI, nI_leI, nI_inj, fa_and, fa_or, m1_eq, eq_m1, m1_lt, m1_le, lt_m1, le_m1, m1_lt0, up2_at, up2_no, ite_true, ite_false, if_true, if_false, Bool.false_eq_true, reduceIte, reduceCtorEq, not_true_eq_false, not_false_eq_true, eq_self, decide_true, decide_false, le_tt, le_ff, lt_tt, lt_ff, eq_ff, and_true, true_and, and_false, false_and, or_true, true_or, or_false, false_or, ne_eq, decide_eq_true_eq, decide_eq_false_iff_not, Bool.not_true, Bool.not_false, Bool.and_true, Bool.true_and, Bool.and_false, Bool.false_and, gs_at, gs_no, oI_n, oI_s, hbc, h1, h3, g1, c]
    · rw [k2, hlen]
      congr 1
      omega
    · rw [hT, List.take_append_of_le_length (by omega), List.take_of_length_le (by omega)]
      exact g4
  · refine ⟨(up2 (up2 (up2 M1.1 16 (p * 4 + A.length) (nI e.2.2.2)) 17 (p * 4 + A.length) (nI e.1)) 14 p (nI (min (L.length + 1) 4)), M1.2), ?_, ⟨?_, h2, ⟨?_, by rw [hlen]; omega, ?_, hmem⟩, hsort⟩, ?_⟩
    · unfold Wy_offer Wy_offer_j130
      simp (disch := omega) only [l_0, l_1, l_2, l_3, l_4, l_5, l_6, l_7, l_8, l_9, l_10, l_11, l_12, l_13, l_14, l_16, l_20, l_21, l_23, l_24, l_30, l_32, l_40, l_41, l_44, l_48, l_57, l_59, l_60, l_63, l_64, l_80, l_84, l_96, l_97, l_99, l_120, l_122, l_127, l_200, l_240, l_255, l_840, l_999, l_1000, l_1001, l_2400, l_3064, l_9999, l_10000, l_13849, l_16383, l_25173, l_65535, l_65536, l_99999, l_1000000000, neg_nI, pk_mul, nI_add, nI_subL, tn_nI, inb_t, grd_true, bnd_some, elS_l, elS_r, nI_ltI, nI_leI, nI_inj, fa_and, fa_or, m1_eq, eq_m1, m1_lt, m1_le, lt_m1, le_m1, m1_lt0, up2_at, up2_no, ite_true, ite_false, if_true, if_false, Bool.false_eq_true, reduceIte, reduceCtorEq, not_true_eq_false, not_false_eq_true, eq_self, decide_true, decide_false, le_tt, le_ff, lt_tt, lt_ff, eq_ff, and_true, true_and, and_false, false_and, or_true, true_or, or_false, false_or, ne_eq, decide_eq_true_eq, decide_eq_false_iff_not, Bool.not_true, Bool.not_false, Bool.and_true, Bool.true_and, Bool.and_false, Bool.false_and, gs_at, gs_no, oI_n, oI_s, hbc, h1, h3, g1, k1, k2, imn_e]
    · show up2 (up2 (up2 M1.1 16 (p * 4 + A.length) (nI e.2.2.2)) 17 (p * 4 + A.length) (nI e.1)) 14 p (nI (min (L.length + 1) 4)) 13 4 = _
      simp (disch := omega) only [l_0, l_1, l_2, l_3, l_4, l_5, l_6, l_7, l_8, l_9, l_10, l_11, l_12, l_13, l_14, l_16, l_20, l_21, l_23, l_24, l_30, l_32, l_40, l_41, l_44, l_48, l_57, l_59, l_60, l_63, l_64, l_80, l_84, l_96, l_97, l_99, l_120, l_122, l_127, l_200, l_240, l_255, l_840, l_999, l_1000, l_1001, l_2400, l_3064, l_9999, l_10000, l_13849, l_16383, l_25173, l_65535, l_65536, l_99999, l_1000000000, neg_nI, pk_mul, nI_add, nI_subL, tn_nI, inb_t, grd_true, bnd_some, elS_l, elS_r, nI_ltI, nI_leI, nI_inj, fa_and, fa_or, m1_eq, eq_m1, m1_lt, m1_le, lt_m1, le_m1, m1_lt0, up2_at, up2_no, ite_true, ite_false, if_true, if_false, Bool.false_eq_true, reduceIte, reduceCtorEq, not_true_eq_false, not_false_eq_true, eq_self, decide_true, decide_false, le_tt, le_ff, lt_tt, lt_ff, eq_ff, and_true, true_and, and_false, false_and, or_true, true_or, or_false, false_or, ne_eq, decide_eq_true_eq, decide_eq_false_iff_not, Bool.not_true, Bool.not_false, Bool.and_true, Bool.true_and, Bool.and_false, Bool.false_and, gs_at, gs_no, oI_n, oI_s, k1]
    · show up2 (up2 (up2 M1.1 16 (p * 4 + A.length) (nI e.2.2.2)) 17 (p * 4 + A.length) (nI e.1)) 14 p (nI (min (L.length + 1) 4)) 14 p = _
      rw [up2_at, hlen, Nat.min_comm]
    · have hq : ∀ j y, j ≠ A.length → QC M1 (p * 4) j y → QC (up2 (up2 (up2 M1.1 16 (p * 4 + A.length) (nI e.2.2.2)) 17 (p * 4 + A.length) (nI e.1)) 14 p (nI (min (L.length + 1) 4)), M1.2) (p * 4) j y := fun j y hj hq => by
        obtain ⟨q1, q2, q3⟩ := hq
        refine ⟨?_, ?_, q3⟩
        · show up2 (up2 (up2 M1.1 16 (p * 4 + A.length) (nI e.2.2.2)) 17 (p * 4 + A.length) (nI e.1)) 14 p (nI (min (L.length + 1) 4)) 16 (p * 4 + j) = _
          simp (disch := omega) only [l_0, l_1, l_2, l_3, l_4, l_5, l_6, l_7, l_8, l_9, l_10, l_11, l_12, l_13, l_14, l_16, l_20, l_21, l_23, l_24, l_30, l_32, l_40, l_41, l_44, l_48, l_57, l_59, l_60, l_63, l_64, l_80, l_84, l_96, l_97, l_99, l_120, l_122, l_127, l_200, l_240, l_255, l_840, l_999, l_1000, l_1001, l_2400, l_3064, l_9999, l_10000, l_13849, l_16383, l_25173, l_65535, l_65536, l_99999, l_1000000000, neg_nI, pk_mul, nI_add, nI_subL, tn_nI, inb_t, grd_true, bnd_some, elS_l, elS_r, nI_ltI, nI_leI, nI_inj, fa_and, fa_or, m1_eq, eq_m1, m1_lt, m1_le, lt_m1, le_m1, m1_lt0, up2_at, up2_no, ite_true, ite_false, if_true, if_false, Bool.false_eq_true, reduceIte, reduceCtorEq, not_true_eq_false, not_false_eq_true, eq_self, decide_true, decide_false, le_tt, le_ff, lt_tt, lt_ff, eq_ff, and_true, true_and, and_false, false_and, or_true, true_or, or_false, false_or, ne_eq, decide_eq_true_eq, decide_eq_false_iff_not, Bool.not_true, Bool.not_false, Bool.and_true, Bool.true_and, Bool.and_false, Bool.false_and, gs_at, gs_no, oI_n, oI_s, q1]
        · show up2 (up2 (up2 M1.1 16 (p * 4 + A.length) (nI e.2.2.2)) 17 (p * 4 + A.length) (nI e.1)) 14 p (nI (min (L.length + 1) 4)) 17 (p * 4 + j) = _
          simp (disch := omega) only [l_0, l_1, l_2, l_3, l_4, l_5, l_6, l_7, l_8, l_9, l_10, l_11, l_12, l_13, l_14, l_16, l_20, l_21, l_23, l_24, l_30, l_32, l_40, l_41, l_44, l_48, l_57, l_59, l_60, l_63, l_64, l_80, l_84, l_96, l_97, l_99, l_120, l_122, l_127, l_200, l_240, l_255, l_840, l_999, l_1000, l_1001, l_2400, l_3064, l_9999, l_10000, l_13849, l_16383, l_25173, l_65535, l_65536, l_99999, l_1000000000, neg_nI, pk_mul, nI_add, nI_subL, tn_nI, inb_t, grd_true, bnd_some, elS_l, elS_r, nI_ltI, nI_leI, nI_inj, fa_and, fa_or, m1_eq, eq_m1, m1_lt, m1_le, lt_m1, le_m1, m1_lt0, up2_at, up2_no, ite_true, ite_false, if_true, if_false, Bool.false_eq_true, reduceIte, reduceCtorEq, not_true_eq_false, not_false_eq_true, eq_self, decide_true, decide_false, le_tt, le_ff, lt_tt, lt_ff, eq_ff, and_true, true_and, and_false, false_and, or_true, true_or, or_false, false_or, ne_eq, decide_eq_true_eq, decide_eq_false_iff_not, Bool.not_true, Bool.not_false, Bool.and_true, Bool.true_and, Bool.and_false, Bool.false_and, gs_at, gs_no, oI_n, oI_s, q2]
      have e5 : (A ++ e :: B).take 4 = A ++ e :: B.take (3 - A.length) := by
        rw [List.take_append, List.take_of_length_le (by omega), show 4 - A.length = (3 - A.length) + 1 by omega, List.take_succ_cons]
      rw [hT, e5, HL_app, Nat.zero_add]
      refine ⟨HL_congr (fun j y a1 a2 => hq j y (by omega)) g4, ⟨?_, ?_, hpe⟩, HL_congr (fun j y a1 a2 => hq j y (by omega)) g5⟩
      · show up2 (up2 (up2 M1.1 16 (p * 4 + A.length) (nI e.2.2.2)) 17 (p * 4 + A.length) (nI e.1)) 14 p (nI (min (L.length + 1) 4)) 16 (p * 4 + A.length) = _
        simp (disch := omega) only [l_0, l_1, l_2, l_3, l_4, l_5, l_6, l_7, l_8, l_9, l_10, l_11, l_12, l_13, l_14, l_16, l_20, l_21, l_23, l_24, l_30, l_32, l_40, l_41, l_44, l_48, l_57, l_59, l_60, l_63, l_64, l_80, l_84, l_96, l_97, l_99, l_120, l_122, l_127, l_200, l_240, l_255, l_840, l_999, l_1000, l_1001, l_2400, l_3064, l_9999, l_10000, l_13849, l_16383, l_25173, l_65535, l_65536, l_99999, l_1000000000, neg_nI, pk_mul, nI_add, nI_subL, tn_nI, inb_t, grd_true, bnd_some, elS_l, elS_r, nI_ltI, nI_leI, nI_inj, fa_and, fa_or, m1_eq, eq_m1, m1_lt, m1_le, lt_m1, le_m1, m1_lt0, up2_at, up2_no, ite_true, ite_false, if_true, if_false, Bool.false_eq_true, reduceIte, reduceCtorEq, not_true_eq_false, not_false_eq_true, eq_self, decide_true, decide_false, le_tt, le_ff, lt_tt, lt_ff, eq_ff, and_true, true_and, and_false, false_and, or_true, true_or, or_false, false_or, ne_eq, decide_eq_true_eq, decide_eq_false_iff_not, Bool.not_true, Bool.not_false, Bool.and_true, Bool.true_and, Bool.and_false, Bool.false_and, gs_at, gs_no, oI_n, oI_s]
      · show up2 (up2 (up2 M1.1 16 (p * 4 + A.length) (nI e.2.2.2)) 17 (p * 4 + A.length) (nI e.1)) 14 p (nI (min (L.length + 1) 4)) 17 (p * 4 + A.length) = _
        simp (disch := omega) only [l_0, l_1, l_2, l_3, l_4, l_5, l_6, l_7, l_8, l_9, l_10, l_11, l_12, l_13, l_14, l_16, l_20, l_21, l_23, l_24, l_30, l_32, l_40, l_41, l_44, l_48, l_57, l_59, l_60, l_63, l_64, l_80, l_84, l_96, l_97, l_99, l_120, l_122, l_127, l_200, l_240, l_255, l_840, l_999, l_1000, l_1001, l_2400, l_3064, l_9999, l_10000, l_13849, l_16383, l_25173, l_65535, l_65536, l_99999, l_1000000000, neg_nI, pk_mul, nI_add, nI_subL, tn_nI, inb_t, grd_true, bnd_some, elS_l, elS_r, nI_ltI, nI_leI, nI_inj, fa_and, fa_or, m1_eq, eq_m1, m1_lt, m1_le, lt_m1, le_m1, m1_lt0, up2_at, up2_no, ite_true, ite_false, if_true, if_false, Bool.false_eq_true, reduceIte, reduceCtorEq, not_true_eq_false, not_false_eq_true, eq_self, decide_true, decide_false, le_tt, le_ff, lt_tt, lt_ff, eq_ff, and_true, true_and, and_false, false_and, or_true, true_or, or_false, false_or, ne_eq, decide_eq_true_eq, decide_eq_false_iff_not, Bool.not_true, Bool.not_false, Bool.and_true, Bool.true_and, Bool.and_false, Bool.false_and, gs_at, gs_no, oI_n, oI_s]
    · exact Fr.I (Fr.I (Fr.I fr1 (by unfold fpo; omega)) (by unfold fpo; omega)) (by unfold fpo; omega)
