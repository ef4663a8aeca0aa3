/-! ways: the class's order of coming, and lists in memory -/
theorem ins_congr {lt lt' : We → We → Bool} {e : We} : ∀ {L : List We}, (∀ x, x ∈ L → lt e x = lt' e x) → insW lt e L = insW lt' e L
  | [], _ => rfl
  | x :: L, h => by
    unfold insW
    rw [h x (List.mem_cons_self ..), ins_congr (fun y hy => h y (List.mem_cons_of_mem _ hy))]
theorem ahC_B {e x : We} (h : x.2.1 = e.2.1 → x.2.2.1 < e.2.2.1) : ahC e x = ahB e x := by
  unfold ahC ahB
  apply decide_eq_decide.mpr
  constructor
  · intro q; omega
  · intro q
    by_cases h1 : x.2.1 = e.2.1
    · have := h h1; omega
    · omega
theorem fold_CB : ∀ {Ls L : List We}, Ls.Pairwise (fun x y => x.2.1 = y.2.1 → x.2.2.1 < y.2.2.1) → (∀ x, x ∈ L → ∀ y, y ∈ Ls → x.2.1 = y.2.1 → x.2.2.1 < y.2.2.1) → Ls.foldl (T4 ahC) L = Ls.foldl (T4 ahB) L
  | [], _, _, _ => rfl
  | y :: Ls, L, h, hL => by
    rw [List.pairwise_cons] at h
    rw [List.foldl_cons, List.foldl_cons]
    have e : T4 ahC L y = T4 ahB L y := by
      unfold T4
      rw [ins_congr (fun x hx => ahC_B (hL x hx y (List.mem_cons_self ..)))]
    rw [e]
    refine fold_CB h.2 (fun x hx z hz => ?_)
    rcases T4_mem hx with q | q
    · rw [q]; exact h.1 z hz
    · exact hL x q z (List.mem_cons_of_mem _ hz)
theorem pth_iv {ch : Nat → List (Nat × Nat)} {len : Nat → Nat} {goal : Nat} (hc : ∀ v p, p ∈ ch v → p.1 < 8) : ∀ k v seen e y, y ∈ pthW ch len goal k v seen e → ∃ j, y.2.1 = e.2.1 + j ∧ e.2.2.1 * 8 ^ j ≤ y.2.2.1 ∧ y.2.2.1 < (e.2.2.1 + 1) * 8 ^ j := by
  intro k
  induction k with
  | zero =>
    intro v seen e y hy
    unfold pthW at hy
    by_cases q : v = goal
    · rw [if_pos q, List.mem_singleton] at hy; rw [hy]; exact ⟨0, by omega, by omega, by omega⟩
    · rw [if_neg q] at hy; cases hy
  | succ k ih =>
    intro v seen e y hy
    unfold pthW at hy
    by_cases q : v = goal
    · rw [if_pos q, List.mem_singleton] at hy; rw [hy]; exact ⟨0, by omega, by omega, by omega⟩
    · rw [if_neg q, List.mem_flatMap] at hy
      obtain ⟨p, hp, hy⟩ := hy
      by_cases q2 : seen.testBit p.1 = true
      · rw [if_pos q2] at hy; cases hy
      · rw [if_neg q2] at hy
        obtain ⟨j, h1, h2, h3⟩ := ih _ _ _ y hy
        have hx := hc v p hp
        have a1 : (extW len e p).2.1 = e.2.1 + 1 := rfl
        have a2 : (extW len e p).2.2.1 = 8 * e.2.2.1 + p.1 := rfl
        rw [a1] at h1
        rw [a2] at h2 h3
        refine ⟨j + 1, by omega, ?_, ?_⟩
        · rw [Nat.pow_succ]
          have : e.2.2.1 * 8 * 8 ^ j ≤ (8 * e.2.2.1 + p.1) * 8 ^ j := Nat.mul_le_mul_right _ (by omega)
          rw [Nat.mul_assoc, Nat.mul_comm 8 (8 ^ j)] at this
          omega
        · rw [Nat.pow_succ]
          have : (8 * e.2.2.1 + p.1 + 1) * 8 ^ j ≤ (e.2.2.1 + 1) * 8 * 8 ^ j := Nat.mul_le_mul_right _ (by omega)
          rw [Nat.mul_assoc, Nat.mul_comm 8 (8 ^ j)] at this
          omega
theorem pth_pw {ch : Nat → List (Nat × Nat)} {len : Nat → Nat} {goal : Nat} (hc : ∀ v p, p ∈ ch v → p.1 < 8) (hs : ∀ v, (ch v).Pairwise (fun p q => p.1 < q.1)) : ∀ k v seen e, (pthW ch len goal k v seen e).Pairwise (fun x y => x.2.1 = y.2.1 → x.2.2.1 < y.2.2.1) := by
  intro k
  induction k with
  | zero =>
    intro v seen e
    unfold pthW
    by_cases q : v = goal
    · rw [if_pos q]; exact List.pairwise_singleton _ _
    · rw [if_neg q]; exact List.Pairwise.nil
  | succ k ih =>
    intro v seen e
    unfold pthW
    by_cases q : v = goal
    · rw [if_pos q]; exact List.pairwise_singleton _ _
    · rw [if_neg q, List.pairwise_flatMap]
      refine ⟨fun p hp => ?_, (hs v).imp (fun {p r} hpr x hx y hy he => ?_)⟩
      · by_cases q2 : seen.testBit p.1 = true
        · rw [if_pos q2]; exact List.Pairwise.nil
        · rw [if_neg q2]; exact ih _ _ _
      · by_cases q2 : seen.testBit p.1 = true
        · rw [if_pos q2] at hx; cases hx
        · by_cases q3 : seen.testBit r.1 = true
          · rw [if_pos q3] at hy; cases hy
          · rw [if_neg q2] at hx
            rw [if_neg q3] at hy
            obtain ⟨j, h1, h2, h3⟩ := pth_iv hc _ _ _ _ x hx
            obtain ⟨i, g1, g2, g3⟩ := pth_iv hc _ _ _ _ y hy
            have a1 : (extW len e p).2.1 = e.2.1 + 1 := rfl
            have a2 : (extW len e p).2.2.1 = 8 * e.2.2.1 + p.1 := rfl
            have b1 : (extW len e r).2.1 = e.2.1 + 1 := rfl
            have b2 : (extW len e r).2.2.1 = 8 * e.2.2.1 + r.1 := rfl
            rw [a1] at h1; rw [a2] at h2 h3; rw [b1] at g1; rw [b2] at g2 g3
            have e1 : i = j := by omega
            subst e1
            have : (8 * e.2.2.1 + p.1 + 1) * 8 ^ i ≤ (8 * e.2.2.1 + r.1) * 8 ^ i := Nat.mul_le_mul_right _ (by omega)
            omega
/-- a list laid from a place on -/
def HL (Q : Nat → We → Prop) : Nat → List We → Prop
  | _, [] => True
  | i, e :: L => Q i e ∧ HL Q (i + 1) L
theorem HL_app {Q : Nat → We → Prop} : ∀ {A B : List We} {i : Nat}, HL Q i (A ++ B) ↔ HL Q i A ∧ HL Q (i + A.length) B
  | [], B, i => by simp [HL]
  | e :: A, B, i => by
    show (Q i e ∧ HL Q (i + 1) (A ++ B)) ↔ (Q i e ∧ HL Q (i + 1) A) ∧ HL Q (i + (A.length + 1)) B
    rw [HL_app, and_assoc, show i + 1 + A.length = i + (A.length + 1) by omega]
theorem HL_congr {Q Q' : Nat → We → Prop} : ∀ {L : List We} {i : Nat}, (∀ j e, i ≤ j → j < i + L.length → Q j e → Q' j e) → HL Q i L → HL Q' i L
  | [], _, _, _ => trivial
  | e :: L, i, h, hq => by
    refine ⟨h i e (Nat.le_refl _) (by rw [List.length_cons]; omega) hq.1, HL_congr (fun j e h1 h2 => h j e (by omega) (by rw [List.length_cons]; omega)) hq.2⟩
theorem HL_get {Q : Nat → We → Prop} : ∀ {L : List We} {i k : Nat} {e : We}, HL Q i L → L[k]? = some e → Q (i + k) e
  | [], _, _, _, _, h => by simp at h
  | x :: L, i, 0, e, hq, h => by
    rw [List.getElem?_cons_zero] at h
    cases h; exact hq.1
  | x :: L, i, k + 1, e, hq, h => by
    rw [List.getElem?_cons_succ] at h
    rw [show i + (k + 1) = i + 1 + k by omega]
    exact HL_get hq.2 h
def QM (M : Mm) (i : Nat) (e : We) : Prop := M.1 98 i = nI e.1 ∧ M.1 100 i = nI e.2.1 ∧ M.1 101 i = nI e.2.2.1 ∧ M.1 99 i = nI e.2.2.2
def BW (e : We) : Prop := e.1 < 1048576 ∧ e.2.1 < 16 ∧ e.2.2.1 < 16777216 ∧ e.2.2.2 < 16384
theorem Fm_isAhead_e {M : Mm} {a b : Nat} {x y : We} (ha : a < 5) (hb : b < 5) (hx : QM M a x) (hy : QM M b y) (bx : BW x) (by' : BW y) : Fm_isAhead (nI a) (nI b) M = some (ahB x y) := by
  obtain ⟨x1, x2, x3, x4⟩ := hx
  obtain ⟨y1, y2, y3, y4⟩ := hy
  obtain ⟨p1, p2, p3, p4⟩ := bx
  obtain ⟨q1, q2, q3, q4⟩ := by'
  unfold Fm_isAhead ahB
  simp (disch := omega) only [l_0, l_1, l_2, l_3, l_4, l_5, l_6, l_7, l_8, l_9, l_10, l_11, l_12, l_13, l_14, l_16, l_20, l_21, l_23, l_24, l_30, l_32, l_40, l_41, l_44, l_48, l_57, l_59, l_60, l_63, l_64, l_80, l_84, l_96, l_97, l_99, l_120, l_122, l_127, l_200, l_240, l_255, l_840, l_999, l_1000, l_1001, l_2400, l_3064, l_9999, l_10000, l_13849, l_16383, l_25173, l_65535, l_65536, l_99999, l_1000000000, neg_nI, pk_mul, nI_add, nI_subL, tn_nI, inb_t, grd_true, bnd_some, elS_l, elS_r, nI_ltI, nI_leI, nI_inj, fa_and, fa_or, m1_eq, eq_m1, m1_lt, m1_le, lt_m1, le_m1, m1_lt0, up2_at, up2_no, ite_true, ite_false, if_true, if_false, Bool.false_eq_true, reduceIte, reduceCtorEq, not_true_eq_false, not_false_eq_true, eq_self, decide_true, decide_false, le_tt, le_ff, lt_tt, lt_ff, eq_ff, and_true, true_and, and_false, false_and, or_true, true_or, or_false, false_or, ne_eq, decide_eq_true_eq, decide_eq_false_iff_not, Bool.not_true, Bool.not_false, Bool.and_true, Bool.true_and, Bool.and_false, Bool.false_and, gs_at, gs_no, oI_n, oI_s, x1, x2, x3, y1, y2, y3]
  by_cases h1 : x.1 = y.1
  · simp (disch := omega) only [l_0, l_1, l_2, l_3, l_4, l_5, l_6, l_7, l_8, l_9, l_10, l_11, l_12, l_13, l_14, l_16, l_20, l_21, l_23, l_24, l_30, l_32, l_40, l_41, l_44, l_48, l_57, l_59, l_60, l_63, l_64, l_80, l_84, l_96, l_97, l_99, l_120, l_122, l_127, l_200, l_240, l_255, l_840, l_999, l_1000, l_1001, l_2400, l_3064, l_9999, l_10000, l_13849, l_16383, l_25173, l_65535, l_65536, l_99999, l_1000000000, neg_nI, pk_mul, nI_add, nI_subL, tn_nI, inb_t, grd_true, bnd_some, elS_l, elS_r, nI_ltI, nI_leI, nI_inj, fa_and, fa_or, m1_eq, eq_m1, m1_lt, m1_le, lt_m1, le_m1, m1_lt0, up2_at, up2_no, ite_true, ite_false, if_true, if_false, Bool.false_eq_true, reduceIte, reduceCtorEq, not_true_eq_false, not_false_eq_true, eq_self, decide_true, decide_false, le_tt, le_ff, lt_tt, lt_ff, eq_ff, and_true, true_and, and_false, false_and, or_true, true_or, or_false, false_or, ne_eq, decide_eq_true_eq, decide_eq_false_iff_not, Bool.not_true, Bool.not_false, Bool.and_true, Bool.true_and, Bool.and_false, Bool.false_and, gs_at, gs_no, oI_n, oI_s, h1]
    by_cases h2 : x.2.1 = y.2.1
    · simp (disch := omega) only [l_0, l_1, l_2, l_3, l_4, l_5, l_6, l_7, l_8, l_9, l_10, l_11, l_12, l_13, l_14, l_16, l_20, l_21, l_23, l_24, l_30, l_32, l_40, l_41, l_44, l_48, l_57, l_59, l_60, l_63, l_64, l_80, l_84, l_96, l_97, l_99, l_120, l_122, l_127, l_200, l_240, l_255, l_840, l_999, l_1000, l_1001, l_2400, l_3064, l_9999, l_10000, l_13849, l_16383, l_25173, l_65535, l_65536, l_99999, l_1000000000, neg_nI, pk_mul, nI_add, nI_subL, tn_nI, inb_t, grd_true, bnd_some, elS_l, elS_r, nI_ltI, nI_leI, nI_inj, fa_and, fa_or, m1_eq, eq_m1, m1_lt, m1_le, lt_m1, le_m1, m1_lt0, up2_at, up2_no, ite_true, ite_false, if_true, if_false, Bool.false_eq_true, reduceIte, reduceCtorEq, not_true_eq_false, not_false_eq_true, eq_self, decide_true, decide_false, le_tt, le_ff, lt_tt, lt_ff, eq_ff, and_true, true_and, and_false, false_and, or_true, true_or, or_false, false_or, ne_eq, decide_eq_true_eq, decide_eq_false_iff_not, Bool.not_true, Bool.not_false, Bool.and_true, Bool.true_and, Bool.and_false, Bool.false_and, gs_at, gs_no, oI_n, oI_s, h2]
      by_cases h3 : y.2.2.1 ≤ x.2.2.1
      · simp (disch := omega) only [l_0, l_1, l_2, l_3, l_4, l_5, l_6, l_7, l_8, l_9, l_10, l_11, l_12, l_13, l_14, l_16, l_20, l_21, l_23, l_24, l_30, l_32, l_40, l_41, l_44, l_48, l_57, l_59, l_60, l_63, l_64, l_80, l_84, l_96, l_97, l_99, l_120, l_122, l_127, l_200, l_240, l_255, l_840, l_999, l_1000, l_1001, l_2400, l_3064, l_9999, l_10000, l_13849, l_16383, l_25173, l_65535, l_65536, l_99999, l_1000000000, neg_nI, pk_mul, nI_add, nI_subL, tn_nI, inb_t, grd_true, bnd_some, elS_l, elS_r, nI_ltI, nI_leI, nI_inj, fa_and, fa_or, m1_eq, eq_m1, m1_lt, m1_le, lt_m1, le_m1, m1_lt0, up2_at, up2_no, ite_true, ite_false, if_true, if_false, Bool.false_eq_true, reduceIte, reduceCtorEq, not_true_eq_false, not_false_eq_true, eq_self, decide_true, decide_false, le_tt, le_ff, lt_tt, lt_ff, eq_ff, and_true, true_and, and_false, false_and, or_true, true_or, or_false, false_or, ne_eq, decide_eq_true_eq, decide_eq_false_iff_not, Bool.not_true, Bool.not_false, Bool.and_true, Bool.true_and, Bool.and_false, Bool.false_and, gs_at, gs_no, oI_n, oI_s, Nat.lt_irrefl]
      · simp (disch := omega) only [l_0, l_1, l_2, l_3, l_4, l_5, l_6, l_7, l_8, l_9, l_10, l_11, l_12, l_13, l_14, l_16, l_20, l_21, l_23, l_24, l_30, l_32, l_40, l_41, l_44, l_48, l_57, l_59, l_60, l_63, l_64, l_80, l_84, l_96, l_97, l_99, l_120, l_122, l_127, l_200, l_240, l_255, l_840, l_999, l_1000, l_1001, l_2400, l_3064, l_9999, l_10000, l_13849, l_16383, l_25173, l_65535, l_65536, l_99999, l_1000000000, neg_nI, pk_mul, nI_add, nI_subL, tn_nI, inb_t, grd_true, bnd_some, elS_l, elS_r, nI_ltI, nI_leI, nI_inj, fa_and, fa_or, m1_eq, eq_m1, m1_lt, m1_le, lt_m1, le_m1, m1_lt0, up2_at, up2_no, ite_true, ite_false, if_true, if_false, Bool.false_eq_true, reduceIte, reduceCtorEq, not_true_eq_false, not_false_eq_true, eq_self, decide_true, decide_false, le_tt, le_ff, lt_tt, lt_ff, eq_ff, and_true, true_and, and_false, false_and, or_true, true_or, or_false, false_or, ne_eq, decide_eq_true_eq, decide_eq_false_iff_not, Bool.not_true, Bool.not_false, Bool.and_true, Bool.true_and, Bool.and_false, Bool.false_and, gs_at, gs_no, oI_n, oI_s, Nat.lt_irrefl]
    · simp (disch := omega) only [l_0, l_1, l_2, l_3, l_4, l_5, l_6, l_7, l_8, l_9, l_10, l_11, l_12, l_13, l_14, l_16, l_20, l_21, l_23, l_24, l_30, l_32, l_40, l_41, l_44, l_48, l_57, l_59, l_60, l_63, l_64, l_80, l_84, l_96, l_97, l_99, l_120, l_122, l_127, l_200, l_240, l_255, l_840, l_999, l_1000, l_1001, l_2400, l_3064, l_9999, l_10000, l_13849, l_16383, l_25173, l_65535, l_65536, l_99999, l_1000000000, neg_nI, pk_mul, nI_add, nI_subL, tn_nI, inb_t, grd_true, bnd_some, elS_l, elS_r, nI_ltI, nI_leI, nI_inj, fa_and, fa_or, m1_eq, eq_m1, m1_lt, m1_le, lt_m1, le_m1, m1_lt0, up2_at, up2_no, ite_true, ite_false, if_true, if_false, Bool.false_eq_true, reduceIte, reduceCtorEq, not_true_eq_false, not_false_eq_true, eq_self, decide_true, decide_false, le_tt, le_ff, lt_tt, lt_ff, eq_ff, and_true, true_and, and_false, false_and, or_true, true_or, or_false, false_or, ne_eq, decide_eq_true_eq, decide_eq_false_iff_not, Bool.not_true, Bool.not_false, Bool.and_true, Bool.true_and, Bool.and_false, Bool.false_and, gs_at, gs_no, oI_n, oI_s, h2]
      by_cases h3 : y.2.1 ≤ x.2.1
      · simp (disch := omega) only [l_0, l_1, l_2, l_3, l_4, l_5, l_6, l_7, l_8, l_9, l_10, l_11, l_12, l_13, l_14, l_16, l_20, l_21, l_23, l_24, l_30, l_32, l_40, l_41, l_44, l_48, l_57, l_59, l_60, l_63, l_64, l_80, l_84, l_96, l_97, l_99, l_120, l_122, l_127, l_200, l_240, l_255, l_840, l_999, l_1000, l_1001, l_2400, l_3064, l_9999, l_10000, l_13849, l_16383, l_25173, l_65535, l_65536, l_99999, l_1000000000, neg_nI, pk_mul, nI_add, nI_subL, tn_nI, inb_t, grd_true, bnd_some, elS_l, elS_r, nI_ltI, nI_leI, nI_inj, fa_and, fa_or, m1_eq, eq_m1, m1_lt, m1_le, lt_m1, le_m1, m1_lt0, up2_at, up2_no, ite_true, ite_false, if_true, if_false, Bool.false_eq_true, reduceIte, reduceCtorEq, not_true_eq_false, not_false_eq_true, eq_self, decide_true, decide_false, le_tt, le_ff, lt_tt, lt_ff, eq_ff, and_true, true_and, and_false, false_and, or_true, true_or, or_false, false_or, ne_eq, decide_eq_true_eq, decide_eq_false_iff_not, Bool.not_true, Bool.not_false, Bool.and_true, Bool.true_and, Bool.and_false, Bool.false_and, gs_at, gs_no, oI_n, oI_s, Nat.lt_irrefl]
      · simp (disch := omega) only [l_0, l_1, l_2, l_3, l_4, l_5, l_6, l_7, l_8, l_9, l_10, l_11, l_12, l_13, l_14, l_16, l_20, l_21, l_23, l_24, l_30, l_32, l_40, l_41, l_44, l_48, l_57, l_59, l_60, l_63, l_64, l_80, l_84, l_96, l_97, l_99, l_120, l_122, l_127, l_200, l_240, l_255, l_840, l_999, l_1000, l_1001, l_2400, l_3064, l_9999, l_10000, l_13849, l_16383, l_25173, l_65535, l_65536, l_99999, l_1000000000, neg_nI, pk_mul, nI_add, nI_subL, tn_nI, inb_t, grd_true, bnd_some, elS_l, elS_r, nI_ltI, nI_leI, nI_inj, fa_and, fa_or, m1_eq, eq_m1, m1_lt, m1_le, lt_m1, le_m1, m1_lt0, up2_at, up2_no, ite_true, ite_false, if_true, if_false, Bool.false_eq_true, reduceIte, reduceCtorEq, not_true_eq_false, not_false_eq_true, eq_self, decide_true, decide_false, le_tt, le_ff, lt_tt, lt_ff, eq_ff, and_true, true_and, and_false, false_and, or_true, true_or, or_false, false_or, ne_eq, decide_eq_true_eq, decide_eq_false_iff_not, Bool.not_true, Bool.not_false, Bool.and_true, Bool.true_and, Bool.and_false, Bool.false_and, gs_at, gs_no, oI_n, oI_s, Nat.lt_irrefl]
  · simp (disch := omega) only [l_0, l_1, l_2, l_3, l_4, l_5, l_6, l_7, l_8, l_9, l_10, l_11, l_12, l_13, l_14, l_16, l_20, l_21, l_23, l_24, l_30, l_32, l_40, l_41, l_44, l_48, l_57, l_59, l_60, l_63, l_64, l_80, l_84, l_96, l_97, l_99, l_120, l_122, l_127, l_200, l_240, l_255, l_840, l_999, l_1000, l_1001, l_2400, l_3064, l_9999, l_10000, l_13849, l_16383, l_25173, l_65535, l_65536, l_99999, l_1000000000, neg_nI, pk_mul, nI_add, nI_subL, tn_nI, inb_t, grd_true, bnd_some, elS_l, elS_r, nI_ltI, nI_leI, nI_inj, fa_and, fa_or, m1_eq, eq_m1, m1_lt, m1_le, lt_m1, le_m1, m1_lt0, up2_at, up2_no, ite_true, ite_false, if_true, if_false, Bool.false_eq_true, reduceIte, reduceCtorEq, not_true_eq_false, not_false_eq_true, eq_self, decide_true, decide_false, le_tt, le_ff, lt_tt, lt_ff, eq_ff, and_true, true_and, and_false, false_and, or_true, true_or, or_false, false_or, ne_eq, decide_eq_true_eq, decide_eq_false_iff_not, Bool.not_true, Bool.not_false, Bool.and_true, Bool.true_and, Bool.and_false, Bool.false_and, gs_at, gs_no, oI_n, oI_s, h1]
    by_cases h3 : y.1 ≤ x.1
    · simp (disch := omega) only [l_0, l_1, l_2, l_3, l_4, l_5, l_6, l_7, l_8, l_9, l_10, l_11, l_12, l_13, l_14, l_16, l_20, l_21, l_23, l_24, l_30, l_32, l_40, l_41, l_44, l_48, l_57, l_59, l_60, l_63, l_64, l_80, l_84, l_96, l_97, l_99, l_120, l_122, l_127, l_200, l_240, l_255, l_840, l_999, l_1000, l_1001, l_2400, l_3064, l_9999, l_10000, l_13849, l_16383, l_25173, l_65535, l_65536, l_99999, l_1000000000, neg_nI, pk_mul, nI_add, nI_subL, tn_nI, inb_t, grd_true, bnd_some, elS_l, elS_r, nI_ltI, nI_leI, nI_inj, fa_and, fa_or, m1_eq, eq_m1, m1_lt, m1_le, lt_m1, le_m1, m1_lt0, up2_at, up2_no, ite_true, ite_false, if_true, if_false, Bool.false_eq_true, reduceIte, reduceCtorEq, not_true_eq_false, not_false_eq_true, eq_self, decide_true, decide_false, le_tt, le_ff, lt_tt, lt_ff, eq_ff, and_true, true_and, and_false, false_and, or_true, true_or, or_false, false_or, ne_eq, decide_eq_true_eq, decide_eq_false_iff_not, Bool.not_true, Bool.not_false, Bool.and_true, Bool.true_and, Bool.and_false, Bool.false_and, gs_at, gs_no, oI_n, oI_s]
    · simp (disch := omega) only [l_0, l_1, l_2, l_3, l_4, l_5, l_6, l_7, l_8, l_9, l_10, l_11, l_12, l_13, l_14, l_16, l_20, l_21, l_23, l_24, l_30, l_32, l_40, l_41, l_44, l_48, l_57, l_59, l_60, l_63, l_64, l_80, l_84, l_96, l_97, l_99, l_120, l_122, l_127, l_200, l_240, l_255, l_840, l_999, l_1000, l_1001, l_2400, l_3064, l_9999, l_10000, l_13849, l_16383, l_25173, l_65535, l_65536, l_99999, l_1000000000, neg_nI, pk_mul, nI_add, nI_subL, tn_nI, inb_t, grd_true, bnd_some, elS_l, elS_r, nI_ltI, nI_leI, nI_inj, fa_and, fa_or, m1_eq, eq_m1, m1_lt, m1_le, lt_m1, le_m1, m1_lt0, up2_at, up2_no, ite_true, ite_false, if_true, if_false, Bool.false_eq_true, reduceIte, reduceCtorEq, not_true_eq_false, not_false_eq_true, eq_self, decide_true, decide_false, le_tt, le_ff, lt_tt, lt_ff, eq_ff, and_true, true_and, and_false, false_and, or_true, true_or, or_false, false_or, ne_eq, decide_eq_true_eq, decide_eq_false_iff_not, Bool.not_true, Bool.not_false, Bool.and_true, Bool.true_and, Bool.and_false, Bool.false_and, gs_at, gs_no, oI_n, oI_s]
