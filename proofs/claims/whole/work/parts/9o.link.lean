/-! the clause of a link -/
def newL (d : Nat → Nat) (x y v : Nat) : Nat → Nat := gs (gs (gs (gs d (16 + d 3) x) (30 + d 3) y) (44 + d 3) v) 3 (d 3 + 1)
section
variable {d : Nat → Nat} {x y v : Nat}
theorem nl_3 : newL d x y v 3 = d 3 + 1 := gs_at
theorem nl_P (h : d 3 < 14) : newL d x y v (16 + d 3) = x := by
  unfold newL
  rw [gs_no (by omega), gs_no (by omega), gs_no (by omega), gs_at]
theorem nl_Q (h : d 3 < 14) : newL d x y v (30 + d 3) = y := by
  unfold newL
  rw [gs_no (by omega), gs_no (by omega), gs_at]
theorem nl_L (h : d 3 < 14) : newL d x y v (44 + d 3) = v := by
  unfold newL
  rw [gs_no (by omega), gs_at]
theorem nl_no {j : Nat} (h1 : j ≠ 3) (h2 : j ≠ 16 + d 3) (h3 : j ≠ 30 + d 3) (h4 : j ≠ 44 + d 3) : newL d x y v j = d j := by
  unfold newL
  rw [gs_no h1, gs_no h4, gs_no h3, gs_no h2]
theorem lkB_sym {g : Nat → Nat} {a b l : Nat} : lkB g a b l = lkB g b a l := by
  unfold lkB
  exact decide_eq_decide.mpr ⟨fun q => q.symm, fun q => q.symm⟩
theorem lkS_new (h14 : d 3 < 14) (hno : lkS d x y = none) {a b : Nat} : lkS (newL d x y v) a b = if (a = x ∧ b = y) ∨ (a = y ∧ b = x) then some (d 3) else lkS d a b := by
  have hP : newL d x y v (16 + d 3) = x := nl_P h14
  have hQ : newL d x y v (30 + d 3) = y := nl_Q h14
  have hold : ∀ a b m, m < d 3 → lkB (newL d x y v) a b m = lkB d a b m := fun a b m hm => by
    unfold lkB
    rw [nl_no (by omega) (by omega) (by omega) (by omega), nl_no (by omega) (by omega) (by omega) (by omega)]
  have hn := fstP_none.mp hno
  show fstP (lkB (newL d x y v) a b) 0 (newL d x y v 3) = _
  rw [nl_3]
  by_cases c : (a = x ∧ b = y) ∨ (a = y ∧ b = x)
  · rw [if_pos c]
    refine fstP_is (by omega) ?_ (fun j hj => ?_)
    · unfold lkB
      rw [hP, hQ]
      exact decide_eq_true (by omega)
    · rw [hold a b j hj]
      rcases c with ⟨e1, e2⟩ | ⟨e1, e2⟩
      · rw [e1, e2]; exact hn j (by omega) (by omega)
      · rw [e1, e2, lkB_sym]; exact hn j (by omega) (by omega)
  · rw [if_neg c]
    have hl : lkB (newL d x y v) a b (d 3) = false := by
      unfold lkB
      rw [hP, hQ]
      exact decide_eq_false (by omega)
    cases hx : lkS d a b with
    | none =>
      refine fstP_none.mpr (fun m _ hm => ?_)
      by_cases cm : m = d 3
      · rw [cm]; exact hl
      · rw [hold a b m (by omega)]
        exact fstP_none.mp hx m (by omega) (by omega)
    | some j =>
      obtain ⟨j1, j2, j3, j4⟩ := fstP_some hx
      refine fstP_is (by omega) ?_ (fun m hm => ?_)
      · rw [hold a b j (by omega)]; exact j3
      · rw [hold a b m (by omega)]; exact j4 m (by omega) hm
theorem ND.link (hd : ND d) (h14 : d 3 < 14) (hx : x < d 0) (hy : y < d 0) (hxy : y ≠ x) (hno : lkS d x y = none) (h1 : 1 ≤ v) (h2 : v ≤ 99) : ND (newL d x y v) := by
  obtain ⟨⟨a1, a2, a3, a4⟩, b2, b3, b4, b5, b6, b7⟩ := hd
  have hP : newL d x y v (16 + d 3) = x := nl_P h14
  have hQ : newL d x y v (30 + d 3) = y := nl_Q h14
  have hV : newL d x y v (44 + d 3) = v := nl_L h14
  have hn := fstP_none.mp hno
  have hnn : ∀ m, m < d 3 → ¬ (d (16 + m) = x ∧ d (30 + m) = y) ∧ ¬ (d (16 + m) = y ∧ d (30 + m) = x) := fun m hm => by
    have := of_decide_eq_false (hn m (by omega) (by omega))
    omega
  have o16 : ∀ m, m < d 3 → newL d x y v (16 + m) = d (16 + m) := fun m hm => nl_no (by omega) (by omega) (by omega) (by omega)
  have o30 : ∀ m, m < d 3 → newL d x y v (30 + m) = d (30 + m) := fun m hm => nl_no (by omega) (by omega) (by omega) (by omega)
  have o44 : ∀ m, m < d 3 → newL d x y v (44 + m) = d (44 + m) := fun m hm => nl_no (by omega) (by omega) (by omega) (by omega)
  have e0 : newL d x y v 0 = d 0 := nl_no (by omega) (by omega) (by omega) (by omega)
  have hU : ∀ l m, l < newL d x y v 3 → m < newL d x y v 3 → l ≠ m → ¬ (newL d x y v (16 + l) = newL d x y v (16 + m) ∧ newL d x y v (30 + l) = newL d x y v (30 + m)) ∧ ¬ (newL d x y v (16 + l) = newL d x y v (30 + m) ∧ newL d x y v (30 + l) = newL d x y v (16 + m)) := fun l m hl hm hlm => by
    rw [nl_3] at hl hm
    by_cases cl : l = d 3
    · have := hnn m (by omega)
      rw [cl, hP, hQ, o16 m (by omega), o30 m (by omega)]
      omega
    · by_cases cm : m = d 3
      · have := hnn l (by omega)
        rw [cm, hP, hQ, o16 l (by omega), o30 l (by omega)]
        omega
      · rw [o16 l (by omega), o30 l (by omega), o16 m (by omega), o30 m (by omega)]
        exact a4 l m (by omega) (by omega) hlm
  refine ⟨⟨?_, fun f hf => ?_, fun l hl => ?_, hU⟩, hU, fun j => ?_, ?_, ?_, ?_, ?_⟩
  · rw [e0, nl_3, nl_no (by omega) (by omega) (by omega) (by omega), nl_no (by omega) (by omega) (by omega) (by omega), nl_no (j := 12) (by omega) (by omega) (by omega) (by omega), b7]
    have : 0 < 2 ^ (d 3 + 1) := Nat.pos_of_ne_zero (by simp)
    omega
  · rw [nl_no (by omega) (by omega) (by omega) (by omega)]; exact a2 f hf
  · rw [nl_3] at hl
    rw [e0]
    by_cases cl : l = d 3
    · rw [cl, hP, hQ, hV]
      omega
    · rw [o16 l (by omega), o30 l (by omega), o44 l (by omega)]
      exact a3 l (by omega)
  · by_cases c1 : j = 3
    · rw [c1, nl_3]; omega
    · by_cases c2 : j = 16 + d 3
      · rw [c2, hP]; omega
      · by_cases c3 : j = 30 + d 3
        · rw [c3, hQ]; omega
        · by_cases c4 : j = 44 + d 3
          · rw [c4, hV]; omega
          · rw [nl_no c1 c2 c3 c4]; exact b3 j
  · rw [nl_no (by omega) (by omega) (by omega) (by omega)]; exact b4
  · rw [nl_no (by omega) (by omega) (by omega) (by omega)]; exact b5
  · rw [nl_no (by omega) (by omega) (by omega) (by omega)]; exact b6
  · rw [nl_no (by omega) (by omega) (by omega) (by omega)]; exact b7
end
section
variable {C N : Mm} {b d : Nat → Nat} {L k p n x y v : Nat}
theorem joined_c (hd : ND d) (hc : CN C 4 d) (hx : x < 8) (hy : y < 8) : Nt_areJoined 4 (nI x) (nI y) C = some (lkS d x y).isSome := by
  have h := hc.2.2.2 x y hx hy
  have h14 := hd.1.1.2.2.2.2.2.1
  unfold Nt_areJoined
  cases hl : lkS d x y with
  | none =>
    rw [hl] at h
    simp (disch := omega) only [l_0, l_1, l_2, l_3, l_4, l_5, l_6, l_7, l_8, l_9, l_10, l_11, l_12, l_13, l_14, l_16, l_20, l_21, l_23, l_24, l_30, l_32, l_40, l_41, l_44, l_48, l_57, l_59, l_60, l_63, l_64, l_80, l_84, l_96, l_97, l_99, l_120, l_122, l_127, l_200, l_240, l_255, l_840, l_999, l_1000, l_1001, l_2400, l_3064, l_9999, l_10000, l_13849, l_16383, l_25173, l_65535, l_65536, l_99999, l_1000000000, neg_nI, pk_mul, nI_add, nI_subL, tn_nI, inb_t, grd_true, bnd_some, elS_l, elS_r, nI_ltI, nI_leI, nI_inj, fa_and, fa_or, m1_eq, eq_m1, m1_lt, m1_le, lt_m1, le_m1, m1_lt0, up2_at, up2_no, ite_true, ite_false, if_true, if_false, Bool.false_eq_true, reduceIte, reduceCtorEq, not_true_eq_false, not_false_eq_true, eq_self, decide_true, decide_false, le_tt, le_ff, lt_tt, lt_ff, eq_ff, and_true, true_and, and_false, false_and, or_true, true_or, or_false, false_or, ne_eq, decide_eq_true_eq, decide_eq_false_iff_not, Bool.not_true, Bool.not_false, Bool.and_true, Bool.true_and, Bool.and_false, Bool.false_and, gs_at, gs_no, oI_n, oI_s, h]
    rfl
  | some l =>
    rw [hl] at h
    have := (lk_some hl).1
    simp (disch := omega) only [l_0, l_1, l_2, l_3, l_4, l_5, l_6, l_7, l_8, l_9, l_10, l_11, l_12, l_13, l_14, l_16, l_20, l_21, l_23, l_24, l_30, l_32, l_40, l_41, l_44, l_48, l_57, l_59, l_60, l_63, l_64, l_80, l_84, l_96, l_97, l_99, l_120, l_122, l_127, l_200, l_240, l_255, l_840, l_999, l_1000, l_1001, l_2400, l_3064, l_9999, l_10000, l_13849, l_16383, l_25173, l_65535, l_65536, l_99999, l_1000000000, neg_nI, pk_mul, nI_add, nI_subL, tn_nI, inb_t, grd_true, bnd_some, elS_l, elS_r, nI_ltI, nI_leI, nI_inj, fa_and, fa_or, m1_eq, eq_m1, m1_lt, m1_le, lt_m1, le_m1, m1_lt0, up2_at, up2_no, ite_true, ite_false, if_true, if_false, Bool.false_eq_true, reduceIte, reduceCtorEq, not_true_eq_false, not_false_eq_true, eq_self, decide_true, decide_false, le_tt, le_ff, lt_tt, lt_ff, eq_ff, and_true, true_and, and_false, false_and, or_true, true_or, or_false, false_or, ne_eq, decide_eq_true_eq, decide_eq_false_iff_not, Bool.not_true, Bool.not_false, Bool.and_true, Bool.true_and, Bool.and_false, Bool.false_and, gs_at, gs_no, oI_n, oI_s, h]
    rfl
theorem linked_m (hd : ND d) (h3 : N.1 96 3 = nI (d 3)) (hP : ∀ m, m < d 3 → N.1 96 (16 + m) = nI (d (16 + m)) ∧ N.1 96 (30 + m) = nI (d (30 + m))) (hx : x < 1000) (hy : y < 1000) (hn : 300 < n) : Fm_isLinkedInDraft n (nI x) (nI y) N = some (lkS d x y).isSome := by
  have h14 := hd.1.1.2.2.2.2.2.1
  have hB := hd.2.2.1
  have hlp := loop_fst (body := fun s1 : Int32 => Fm_isLinkedInDraft_b2 (nI x) (nI y) N s1) (fun i => nI i) (lkB d x y) (d 3) (Sum.inl ()) (fun _ => Sum.inr true) (fun i hi hf => by
    obtain ⟨q1, q2⟩ := hP i hi
    have hf' := of_decide_eq_false hf
    have b1 := hB (16 + i)
    have b2 := hB (30 + i)
    show Fm_isLinkedInDraft_b2 (nI x) (nI y) N (nI i) = _
    unfold Fm_isLinkedInDraft_b2 Fm_isLinkedInDraft_j38 Fm_isLinkedInDraft_j66
    by_cases c1 : d (16 + i) = x
    · by_cases c2 : d (30 + i) = y
      · exact absurd (Or.inl ⟨c1, c2⟩) hf'
      · by_cases c3 : d (16 + i) = y
        · by_cases c4 : d (30 + i) = x
          · exact absurd (Or.inr ⟨c3, c4⟩) hf'
          · simp (disch := omega) only [l_0, l_1, l_2, l_3, l_4, l_5, l_6, l_7, l_8, l_9, l_10, l_11, l_12, l_13, l_14, l_16, l_20, l_21, l_23, l_24, l_30, l_32, l_40, l_41, l_44, l_48, l_57, l_59, l_60, l_63, l_64, l_80, l_84, l_96, l_97, l_99, l_120, l_122, l_127, l_200, l_240, l_255, l_840, l_999, l_1000, l_1001, l_2400, l_3064, l_9999, l_10000, l_13849, l_16383, l_25173, l_65535, l_65536, l_99999, l_1000000000, neg_nI, pk_mul, nI_add, nI_subL, tn_nI, inb_t, grd_true, bnd_some, elS_l, elS_r, nI_ltI, nI_leI, nI_inj, fa_and, fa_or, m1_eq, eq_m1, m1_lt, m1_le, lt_m1, le_m1, m1_lt0, up2_at, up2_no, ite_true, ite_false, if_true, if_false, Bool.false_eq_true, reduceIte, reduceCtorEq, not_true_eq_false, not_false_eq_true, eq_self, decide_true, decide_false, le_tt, le_ff, lt_tt, lt_ff, eq_ff, and_true, true_and, and_false, false_and, or_true, true_or, or_false, false_or, ne_eq, decide_eq_true_eq, decide_eq_false_iff_not, Bool.not_true, Bool.not_false, Bool.and_true, Bool.true_and, Bool.and_false, Bool.false_and, gs_at, gs_no, oI_n, oI_s, h3, q1, q2, c1, c2, c3, c4]
            exact ite_self _
        · simp (disch := omega) only [l_0, l_1, l_2, l_3, l_4, l_5, l_6, l_7, l_8, l_9, l_10, l_11, l_12, l_13, l_14, l_16, l_20, l_21, l_23, l_24, l_30, l_32, l_40, l_41, l_44, l_48, l_57, l_59, l_60, l_63, l_64, l_80, l_84, l_96, l_97, l_99, l_120, l_122, l_127, l_200, l_240, l_255, l_840, l_999, l_1000, l_1001, l_2400, l_3064, l_9999, l_10000, l_13849, l_16383, l_25173, l_65535, l_65536, l_99999, l_1000000000, neg_nI, pk_mul, nI_add, nI_subL, tn_nI, inb_t, grd_true, bnd_some, elS_l, elS_r, nI_ltI, nI_leI, nI_inj, fa_and, fa_or, m1_eq, eq_m1, m1_lt, m1_le, lt_m1, le_m1, m1_lt0, up2_at, up2_no, ite_true, ite_false, if_true, if_false, Bool.false_eq_true, reduceIte, reduceCtorEq, not_true_eq_false, not_false_eq_true, eq_self, decide_true, decide_false, le_tt, le_ff, lt_tt, lt_ff, eq_ff, and_true, true_and, and_false, false_and, or_true, true_or, or_false, false_or, ne_eq, decide_eq_true_eq, decide_eq_false_iff_not, Bool.not_true, Bool.not_false, Bool.and_true, Bool.true_and, Bool.and_false, Bool.false_and, gs_at, gs_no, oI_n, oI_s, h3, q1, q2, c1, c2, c3]
    · by_cases c3 : d (16 + i) = y
      · by_cases c4 : d (30 + i) = x
        · exact absurd (Or.inr ⟨c3, c4⟩) hf'
        · simp (disch := omega) only [l_0, l_1, l_2, l_3, l_4, l_5, l_6, l_7, l_8, l_9, l_10, l_11, l_12, l_13, l_14, l_16, l_20, l_21, l_23, l_24, l_30, l_32, l_40, l_41, l_44, l_48, l_57, l_59, l_60, l_63, l_64, l_80, l_84, l_96, l_97, l_99, l_120, l_122, l_127, l_200, l_240, l_255, l_840, l_999, l_1000, l_1001, l_2400, l_3064, l_9999, l_10000, l_13849, l_16383, l_25173, l_65535, l_65536, l_99999, l_1000000000, neg_nI, pk_mul, nI_add, nI_subL, tn_nI, inb_t, grd_true, bnd_some, elS_l, elS_r, nI_ltI, nI_leI, nI_inj, fa_and, fa_or, m1_eq, eq_m1, m1_lt, m1_le, lt_m1, le_m1, m1_lt0, up2_at, up2_no, ite_true, ite_false, if_true, if_false, Bool.false_eq_true, reduceIte, reduceCtorEq, not_true_eq_false, not_false_eq_true, eq_self, decide_true, decide_false, le_tt, le_ff, lt_tt, lt_ff, eq_ff, and_true, true_and, and_false, false_and, or_true, true_or, or_false, false_or, ne_eq, decide_eq_true_eq, decide_eq_false_iff_not, Bool.not_true, Bool.not_false, Bool.and_true, Bool.true_and, Bool.and_false, Bool.false_and, gs_at, gs_no, oI_n, oI_s, h3, q1, q2, c1, c3, c4]
      · simp (disch := omega) only [l_0, l_1, l_2, l_3, l_4, l_5, l_6, l_7, l_8, l_9, l_10, l_11, l_12, l_13, l_14, l_16, l_20, l_21, l_23, l_24, l_30, l_32, l_40, l_41, l_44, l_48, l_57, l_59, l_60, l_63, l_64, l_80, l_84, l_96, l_97, l_99, l_120, l_122, l_127, l_200, l_240, l_255, l_840, l_999, l_1000, l_1001, l_2400, l_3064, l_9999, l_10000, l_13849, l_16383, l_25173, l_65535, l_65536, l_99999, l_1000000000, neg_nI, pk_mul, nI_add, nI_subL, tn_nI, inb_t, grd_true, bnd_some, elS_l, elS_r, nI_ltI, nI_leI, nI_inj, fa_and, fa_or, m1_eq, eq_m1, m1_lt, m1_le, lt_m1, le_m1, m1_lt0, up2_at, up2_no, ite_true, ite_false, if_true, if_false, Bool.false_eq_true, reduceIte, reduceCtorEq, not_true_eq_false, not_false_eq_true, eq_self, decide_true, decide_false, le_tt, le_ff, lt_tt, lt_ff, eq_ff, and_true, true_and, and_false, false_and, or_true, true_or, or_false, false_or, ne_eq, decide_eq_true_eq, decide_eq_false_iff_not, Bool.not_true, Bool.not_false, Bool.and_true, Bool.true_and, Bool.and_false, Bool.false_and, gs_at, gs_no, oI_n, oI_s, h3, q1, q2, c1, c3]) (fun i hi hf => by
    obtain ⟨q1, q2⟩ := hP i hi
    have hf' := of_decide_eq_true hf
    have b1 := hB (16 + i)
    have b2 := hB (30 + i)
    show Fm_isLinkedInDraft_b2 (nI x) (nI y) N (nI i) = _
    unfold Fm_isLinkedInDraft_b2 Fm_isLinkedInDraft_j38 Fm_isLinkedInDraft_j66
    by_cases c1 : d (16 + i) = x
    · by_cases c2 : d (30 + i) = y
      · simp (disch := omega) only [l_0, l_1, l_2, l_3, l_4, l_5, l_6, l_7, l_8, l_9, l_10, l_11, l_12, l_13, l_14, l_16, l_20, l_21, l_23, l_24, l_30, l_32, l_40, l_41, l_44, l_48, l_57, l_59, l_60, l_63, l_64, l_80, l_84, l_96, l_97, l_99, l_120, l_122, l_127, l_200, l_240, l_255, l_840, l_999, l_1000, l_1001, l_2400, l_3064, l_9999, l_10000, l_13849, l_16383, l_25173, l_65535, l_65536, l_99999, l_1000000000, neg_nI, pk_mul, nI_add, nI_subL, tn_nI, inb_t, grd_true, bnd_some, elS_l, elS_r, nI_ltI, nI_leI, nI_inj, fa_and, fa_or, m1_eq, eq_m1, m1_lt, m1_le, lt_m1, le_m1, m1_lt0, up2_at, up2_no, ite_true, ite_false, if_true, if_false, Bool.false_eq_true, reduceIte, reduceCtorEq, not_true_eq_false, not_false_eq_true, eq_self, decide_true, decide_false, le_tt, le_ff, lt_tt, lt_ff, eq_ff, and_true, true_and, and_false, false_and, or_true, true_or, or_false, false_or, ne_eq, decide_eq_true_eq, decide_eq_false_iff_not, Bool.not_true, Bool.not_false, Bool.and_true, Bool.true_and, Bool.and_false, Bool.false_and, gs_at, gs_no, oI_n, oI_s, h3, q1, q2, c1, c2]
      · exact absurd hf' (by omega)
    · have c3 : d (16 + i) = y := by omega
      have c4 : d (30 + i) = x := by omega
      simp (disch := omega) only [l_0, l_1, l_2, l_3, l_4, l_5, l_6, l_7, l_8, l_9, l_10, l_11, l_12, l_13, l_14, l_16, l_20, l_21, l_23, l_24, l_30, l_32, l_40, l_41, l_44, l_48, l_57, l_59, l_60, l_63, l_64, l_80, l_84, l_96, l_97, l_99, l_120, l_122, l_127, l_200, l_240, l_255, l_840, l_999, l_1000, l_1001, l_2400, l_3064, l_9999, l_10000, l_13849, l_16383, l_25173, l_65535, l_65536, l_99999, l_1000000000, neg_nI, pk_mul, nI_add, nI_subL, tn_nI, inb_t, grd_true, bnd_some, elS_l, elS_r, nI_ltI, nI_leI, nI_inj, fa_and, fa_or, m1_eq, eq_m1, m1_lt, m1_le, lt_m1, le_m1, m1_lt0, up2_at, up2_no, ite_true, ite_false, if_true, if_false, Bool.false_eq_true, reduceIte, reduceCtorEq, not_true_eq_false, not_false_eq_true, eq_self, decide_true, decide_false, le_tt, le_ff, lt_tt, lt_ff, eq_ff, and_true, true_and, and_false, false_and, or_true, true_or, or_false, false_or, ne_eq, decide_eq_true_eq, decide_eq_false_iff_not, Bool.not_true, Bool.not_false, Bool.and_true, Bool.true_and, Bool.and_false, Bool.false_and, gs_at, gs_no, oI_n, oI_s, h3, q1, q2, c1, c3, c4]) (by
    show Fm_isLinkedInDraft_b2 (nI x) (nI y) N (nI (d 3)) = _
    unfold Fm_isLinkedInDraft_b2
    simp (disch := omega) only [l_0, l_1, l_2, l_3, l_4, l_5, l_6, l_7, l_8, l_9, l_10, l_11, l_12, l_13, l_14, l_16, l_20, l_21, l_23, l_24, l_30, l_32, l_40, l_41, l_44, l_48, l_57, l_59, l_60, l_63, l_64, l_80, l_84, l_96, l_97, l_99, l_120, l_122, l_127, l_200, l_240, l_255, l_840, l_999, l_1000, l_1001, l_2400, l_3064, l_9999, l_10000, l_13849, l_16383, l_25173, l_65535, l_65536, l_99999, l_1000000000, neg_nI, pk_mul, nI_add, nI_subL, tn_nI, inb_t, grd_true, bnd_some, elS_l, elS_r, nI_ltI, nI_leI, nI_inj, fa_and, fa_or, m1_eq, eq_m1, m1_lt, m1_le, lt_m1, le_m1, m1_lt0, up2_at, up2_no, ite_true, ite_false, if_true, if_false, Bool.false_eq_true, reduceIte, reduceCtorEq, not_true_eq_false, not_false_eq_true, eq_self, decide_true, decide_false, le_tt, le_ff, lt_tt, lt_ff, eq_ff, and_true, true_and, and_false, false_and, or_true, true_or, or_false, false_or, ne_eq, decide_eq_true_eq, decide_eq_false_iff_not, Bool.not_true, Bool.not_false, Bool.and_true, Bool.true_and, Bool.and_false, Bool.false_and, gs_at, gs_no, oI_n, oI_s, h3]) (d 3) 0 n (by omega) (by omega)
  unfold Fm_isLinkedInDraft
  rw [l_0, hlp, bnd_some]
  show _ = some (fstP (lkB d x y) 0 (d 3)).isSome
  cases fstP (lkB d x y) 0 (d 3) with
  | none => rfl
  | some i => rfl
theorem join_c (hd : ND d) (hc : CN C 4 d) (h14 : d 3 < 14) (hx : x < 8) (hy : y < 8) (hno : lkS d x y = none) : ∃ C', Nt_join 4 (nI x) (nI y) (nI v) C = some C' ∧ CN C' 4 (newL d x y v) ∧ Fr (fp_Nt_join 4) C C' := by
  have h3 := hc.1 3 (by omega)
  have he : Nt_join 4 (nI x) (nI y) (nI v) C = some (up2 (up2 (up2 (up2 (up2 (up2 C.1 6 (d 3) (nI x)) 7 (d 3) (nI y)) 8 (d 3) (nI v)) 9 (x * 8 + y) (nI (d 3))) 9 (y * 8 + x) (nI (d 3))) 4 3 (nI (d 3 + 1)), C.2) := by
    unfold Nt_join
    simp (disch := omega) only [l_0, l_1, l_2, l_3, l_4, l_5, l_6, l_7, l_8, l_9, l_10, l_11, l_12, l_13, l_14, l_16, l_20, l_21, l_23, l_24, l_30, l_32, l_40, l_41, l_44, l_48, l_57, l_59, l_60, l_63, l_64, l_80, l_84, l_96, l_97, l_99, l_120, l_122, l_127, l_200, l_240, l_255, l_840, l_999, l_1000, l_1001, l_2400, l_3064, l_9999, l_10000, l_13849, l_16383, l_25173, l_65535, l_65536, l_99999, l_1000000000, neg_nI, pk_mul, nI_add, nI_subL, tn_nI, inb_t, grd_true, bnd_some, elS_l, elS_r, nI_ltI, nI_leI, nI_inj, fa_and, fa_or, m1_eq, eq_m1, m1_lt, m1_le, lt_m1, le_m1, m1_lt0, up2_at, up2_no, ite_true, ite_false, if_true, if_false, Bool.false_eq_true, reduceIte, reduceCtorEq, not_true_eq_false, not_false_eq_true, eq_self, decide_true, decide_false, le_tt, le_ff, lt_tt, lt_ff, eq_ff, and_true, true_and, and_false, false_and, or_true, true_or, or_false, false_or, ne_eq, decide_eq_true_eq, decide_eq_false_iff_not, Bool.not_true, Bool.not_false, Bool.and_true, Bool.true_and, Bool.and_false, Bool.false_and, gs_at, gs_no, oI_n, oI_s, h3]
  refine ⟨_, he, ⟨fun j hj => ?_, fun f hf => ?_, fun l hl => ?_, fun a u ha hu => ?_⟩, fr_Nt_join he⟩
  · by_cases c : j = 3
    · subst c
      rw [nl_3]
      simp (disch := omega) only [l_0, l_1, l_2, l_3, l_4, l_5, l_6, l_7, l_8, l_9, l_10, l_11, l_12, l_13, l_14, l_16, l_20, l_21, l_23, l_24, l_30, l_32, l_40, l_41, l_44, l_48, l_57, l_59, l_60, l_63, l_64, l_80, l_84, l_96, l_97, l_99, l_120, l_122, l_127, l_200, l_240, l_255, l_840, l_999, l_1000, l_1001, l_2400, l_3064, l_9999, l_10000, l_13849, l_16383, l_25173, l_65535, l_65536, l_99999, l_1000000000, neg_nI, pk_mul, nI_add, nI_subL, tn_nI, inb_t, grd_true, bnd_some, elS_l, elS_r, nI_ltI, nI_leI, nI_inj, fa_and, fa_or, m1_eq, eq_m1, m1_lt, m1_le, lt_m1, le_m1, m1_lt0, up2_at, up2_no, ite_true, ite_false, if_true, if_false, Bool.false_eq_true, reduceIte, reduceCtorEq, not_true_eq_false, not_false_eq_true, eq_self, decide_true, decide_false, le_tt, le_ff, lt_tt, lt_ff, eq_ff, and_true, true_and, and_false, false_and, or_true, true_or, or_false, false_or, ne_eq, decide_eq_true_eq, decide_eq_false_iff_not, Bool.not_true, Bool.not_false, Bool.and_true, Bool.true_and, Bool.and_false, Bool.false_and, gs_at, gs_no, oI_n, oI_s]
    · rw [nl_no c (by omega) (by omega) (by omega), ← hc.1 j hj]
      simp (disch := omega) only [l_0, l_1, l_2, l_3, l_4, l_5, l_6, l_7, l_8, l_9, l_10, l_11, l_12, l_13, l_14, l_16, l_20, l_21, l_23, l_24, l_30, l_32, l_40, l_41, l_44, l_48, l_57, l_59, l_60, l_63, l_64, l_80, l_84, l_96, l_97, l_99, l_120, l_122, l_127, l_200, l_240, l_255, l_840, l_999, l_1000, l_1001, l_2400, l_3064, l_9999, l_10000, l_13849, l_16383, l_25173, l_65535, l_65536, l_99999, l_1000000000, neg_nI, pk_mul, nI_add, nI_subL, tn_nI, inb_t, grd_true, bnd_some, elS_l, elS_r, nI_ltI, nI_leI, nI_inj, fa_and, fa_or, m1_eq, eq_m1, m1_lt, m1_le, lt_m1, le_m1, m1_lt0, up2_at, up2_no, ite_true, ite_false, if_true, if_false, Bool.false_eq_true, reduceIte, reduceCtorEq, not_true_eq_false, not_false_eq_true, eq_self, decide_true, decide_false, le_tt, le_ff, lt_tt, lt_ff, eq_ff, and_true, true_and, and_false, false_and, or_true, true_or, or_false, false_or, ne_eq, decide_eq_true_eq, decide_eq_false_iff_not, Bool.not_true, Bool.not_false, Bool.and_true, Bool.true_and, Bool.and_false, Bool.false_and, gs_at, gs_no, oI_n, oI_s, c]
  · rw [nl_no (by omega) (by omega) (by omega) (by omega), ← hc.2.1 f hf]
    simp (disch := omega) only [l_0, l_1, l_2, l_3, l_4, l_5, l_6, l_7, l_8, l_9, l_10, l_11, l_12, l_13, l_14, l_16, l_20, l_21, l_23, l_24, l_30, l_32, l_40, l_41, l_44, l_48, l_57, l_59, l_60, l_63, l_64, l_80, l_84, l_96, l_97, l_99, l_120, l_122, l_127, l_200, l_240, l_255, l_840, l_999, l_1000, l_1001, l_2400, l_3064, l_9999, l_10000, l_13849, l_16383, l_25173, l_65535, l_65536, l_99999, l_1000000000, neg_nI, pk_mul, nI_add, nI_subL, tn_nI, inb_t, grd_true, bnd_some, elS_l, elS_r, nI_ltI, nI_leI, nI_inj, fa_and, fa_or, m1_eq, eq_m1, m1_lt, m1_le, lt_m1, le_m1, m1_lt0, up2_at, up2_no, ite_true, ite_false, if_true, if_false, Bool.false_eq_true, reduceIte, reduceCtorEq, not_true_eq_false, not_false_eq_true, eq_self, decide_true, decide_false, le_tt, le_ff, lt_tt, lt_ff, eq_ff, and_true, true_and, and_false, false_and, or_true, true_or, or_false, false_or, ne_eq, decide_eq_true_eq, decide_eq_false_iff_not, Bool.not_true, Bool.not_false, Bool.and_true, Bool.true_and, Bool.and_false, Bool.false_and, gs_at, gs_no, oI_n, oI_s]
  · rw [nl_3] at hl
    by_cases c : l = d 3
    · subst c
      rw [nl_P h14, nl_Q h14, nl_L h14]
      refine ⟨?_, ?_, ?_⟩ <;> simp (disch := omega) only [l_0, l_1, l_2, l_3, l_4, l_5, l_6, l_7, l_8, l_9, l_10, l_11, l_12, l_13, l_14, l_16, l_20, l_21, l_23, l_24, l_30, l_32, l_40, l_41, l_44, l_48, l_57, l_59, l_60, l_63, l_64, l_80, l_84, l_96, l_97, l_99, l_120, l_122, l_127, l_200, l_240, l_255, l_840, l_999, l_1000, l_1001, l_2400, l_3064, l_9999, l_10000, l_13849, l_16383, l_25173, l_65535, l_65536, l_99999, l_1000000000, neg_nI, pk_mul, nI_add, nI_subL, tn_nI, inb_t, grd_true, bnd_some, elS_l, elS_r, nI_ltI, nI_leI, nI_inj, fa_and, fa_or, m1_eq, eq_m1, m1_lt, m1_le, lt_m1, le_m1, m1_lt0, up2_at, up2_no, ite_true, ite_false, if_true, if_false, Bool.false_eq_true, reduceIte, reduceCtorEq, not_true_eq_false, not_false_eq_true, eq_self, decide_true, decide_false, le_tt, le_ff, lt_tt, lt_ff, eq_ff, and_true, true_and, and_false, false_and, or_true, true_or, or_false, false_or, ne_eq, decide_eq_true_eq, decide_eq_false_iff_not, Bool.not_true, Bool.not_false, Bool.and_true, Bool.true_and, Bool.and_false, Bool.false_and, gs_at, gs_no, oI_n, oI_s]
    · obtain ⟨q1, q2, q3⟩ := hc.2.2.1 l (by omega)
      rw [nl_no (by omega) (by omega) (by omega) (by omega), nl_no (by omega) (by omega) (by omega) (by omega), nl_no (by omega) (by omega) (by omega) (by omega), ← q1, ← q2, ← q3]
      refine ⟨?_, ?_, ?_⟩ <;> simp (disch := omega) only [l_0, l_1, l_2, l_3, l_4, l_5, l_6, l_7, l_8, l_9, l_10, l_11, l_12, l_13, l_14, l_16, l_20, l_21, l_23, l_24, l_30, l_32, l_40, l_41, l_44, l_48, l_57, l_59, l_60, l_63, l_64, l_80, l_84, l_96, l_97, l_99, l_120, l_122, l_127, l_200, l_240, l_255, l_840, l_999, l_1000, l_1001, l_2400, l_3064, l_9999, l_10000, l_13849, l_16383, l_25173, l_65535, l_65536, l_99999, l_1000000000, neg_nI, pk_mul, nI_add, nI_subL, tn_nI, inb_t, grd_true, bnd_some, elS_l, elS_r, nI_ltI, nI_leI, nI_inj, fa_and, fa_or, m1_eq, eq_m1, m1_lt, m1_le, lt_m1, le_m1, m1_lt0, up2_at, up2_no, ite_true, ite_false, if_true, if_false, Bool.false_eq_true, reduceIte, reduceCtorEq, not_true_eq_false, not_false_eq_true, eq_self, decide_true, decide_false, le_tt, le_ff, lt_tt, lt_ff, eq_ff, and_true, true_and, and_false, false_and, or_true, true_or, or_false, false_or, ne_eq, decide_eq_true_eq, decide_eq_false_iff_not, Bool.not_true, Bool.not_false, Bool.and_true, Bool.true_and, Bool.and_false, Bool.false_and, gs_at, gs_no, oI_n, oI_s, c]
  · rw [lkS_new h14 hno]
    by_cases c : (a = x ∧ u = y) ∨ (a = y ∧ u = x)
    · rw [if_pos c, oI_s]
      show up2 (up2 (up2 (up2 (up2 (up2 C.1 6 (d 3) (nI x)) 7 (d 3) (nI y)) 8 (d 3) (nI v)) 9 (x * 8 + y) (nI (d 3))) 9 (y * 8 + x) (nI (d 3))) 4 3 (nI (d 3 + 1)) 9 _ = _
      rw [up2_no (by omega)]
      rcases c with ⟨e1, e2⟩ | ⟨e1, e2⟩
      · rw [e1, e2]
        by_cases cc : x * 8 + y = y * 8 + x
        · rw [← cc, up2_at]
        · rw [up2_no (fun q => cc q.2), up2_at]
      · rw [e1, e2, up2_at]
    · rw [if_neg c, ← hc.2.2.2 a u ha hu]
      show up2 (up2 (up2 (up2 (up2 (up2 C.1 6 (d 3) (nI x)) 7 (d 3) (nI y)) 8 (d 3) (nI v)) 9 (x * 8 + y) (nI (d 3))) 9 (y * 8 + x) (nI (d 3))) 4 3 (nI (d 3 + 1)) 9 _ = _
      rw [up2_no (by omega), up2_no (by omega), up2_no (by omega), up2_no (by omega), up2_no (by omega), up2_no (by omega)]
end
