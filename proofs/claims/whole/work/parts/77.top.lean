/-! the top; calls: ifCut -/
def tpF (g : Nat → Nat) (l : Nat) : Nat → Option Nat
  | 0 => none
  | k + 1 => if g (64 + 10 * k + 3) = 0 ∧ g (64 + 10 * k + 6) &&& l ≠ 0 then some (max ((tpF g l k).getD 0) (g (64 + 10 * k + 4) + g (64 + 10 * k + 5) - 1)) else tpF g l k
theorem tp_s {g : Nat → Nat} {l k : Nat} : tpF g l (k + 1) = if g (64 + 10 * k + 3) = 0 ∧ g (64 + 10 * k + 6) &&& l ≠ 0 then some (max ((tpF g l k).getD 0) (g (64 + 10 * k + 4) + g (64 + 10 * k + 5) - 1)) else tpF g l k := rfl
theorem tp_spec {g : Nat → Nat} {l : Nat} (hL : LV g) : ∀ k, k ≤ g 7 → (tpF g l k = none → ∀ d, d < k → g (64 + 10 * d + 3) = 0 → g (64 + 10 * d + 6) &&& l = 0) ∧ ∀ t, tpF g l k = some t → (∃ d, d < k ∧ g (64 + 10 * d + 3) = 0 ∧ g (64 + 10 * d + 6) &&& l ≠ 0 ∧ t = g (64 + 10 * d + 4) + g (64 + 10 * d + 5) - 1) ∧ ∀ d, d < k → g (64 + 10 * d + 3) = 0 → g (64 + 10 * d + 6) &&& l ≠ 0 → g (64 + 10 * d + 4) + g (64 + 10 * d + 5) - 1 ≤ t
  | 0, _ => ⟨fun _ d hd => by omega, fun t ht => (by cases ht)⟩
  | k + 1, hk => by
    obtain ⟨h1, h2⟩ := tp_spec (l := l) hL k (by omega)
    rw [tp_s]
    by_cases c : g (64 + 10 * k + 3) = 0 ∧ g (64 + 10 * k + 6) &&& l ≠ 0
    · rw [if_pos c]
      refine ⟨fun h => (by cases h), fun t ht => ?_⟩
      cases ht
      cases hp : tpF g l k with
      | none =>
        simp only [Option.getD_none]
        refine ⟨⟨k, by omega, c.1, c.2, by omega⟩, fun d hd q1 q2 => ?_⟩
        by_cases e : d = k
        · subst e; omega
        · exact absurd (h1 hp d (by omega) q1) q2
      | some t =>
        simp only [Option.getD_some]
        obtain ⟨⟨d, x1, x2, x3, x4⟩, y⟩ := h2 t hp
        refine ⟨?_, fun d hd q1 q2 => ?_⟩
        · by_cases m : t ≤ g (64 + 10 * k + 4) + g (64 + 10 * k + 5) - 1
          · exact ⟨k, by omega, c.1, c.2, by omega⟩
          · exact ⟨d, by omega, x2, x3, by omega⟩
        · by_cases e : d = k
          · subst e; omega
          · have := y d (by omega) q1 q2
            omega
    · rw [if_neg c]
      refine ⟨fun h d hd q => ?_, fun t ht => ?_⟩
      · by_cases e : d = k
        · subst e
          rcases Nat.decEq (g (64 + 10 * d + 6) &&& l) 0 with w | w
          · exact absurd ⟨q, w⟩ c
          · exact w
        · exact h1 h d (by omega) q
      · obtain ⟨⟨d, x1, x2, x3, x4⟩, y⟩ := h2 t ht
        refine ⟨⟨d, by omega, x2, x3, x4⟩, fun e he q1 q2 => ?_⟩
        by_cases w : e = k
        · subst w; exact absurd ⟨q1, q2⟩ c
        · exact y e (by omega) q1 q2
theorem tp_oc {g : Nat → Nat} {l : Nat} (hL : LV g) : (tpF g l (g 7) = none → ∀ i, ¬ OC g l none i) ∧ ∀ t, tpF g l (g 7) = some t → OC g l none t ∧ ∀ i, OC g l none i → i ≤ t := by
  obtain ⟨h1, h2⟩ := tp_spec (l := l) hL (g 7) (Nat.le_refl _)
  refine ⟨fun h i => ?_, fun t ht => ?_⟩
  · rintro ⟨d, q1, q2, q3, q4, q5⟩
    exact q4 (h1 h d q1 q3)
  · obtain ⟨⟨d, x1, x2, x3, x4⟩, y⟩ := h2 t ht
    have := hL d x1 x2
    refine ⟨⟨d, x1, by simp, x2, x3, by omega, by omega⟩, ?_⟩
    rintro i ⟨e, q1, q2, q3, q4, q5⟩
    have := y e q1 q3 q4
    omega
theorem Fm_max_n {b : Nat} {M : Mm} (hb : b < 2 ^ 31) : Fm_max (ng 1) (nI b) M = some (nI b) := by
  unfold Fm_max
  simp (disch := omega) only [l_0, l_1, l_2, l_3, l_4, l_5, l_6, l_7, l_8, l_9, l_10, l_11, l_12, l_13, l_14, l_16, l_20, l_21, l_23, l_24, l_30, l_32, l_40, l_41, l_44, l_48, l_57, l_59, l_60, l_63, l_64, l_80, l_84, l_96, l_97, l_99, l_120, l_122, l_127, l_200, l_240, l_255, l_840, l_999, l_1000, l_1001, l_2400, l_3064, l_9999, l_10000, l_13849, l_16383, l_25173, l_65535, l_65536, l_99999, l_1000000000, neg_nI, pk_mul, nI_add, nI_subL, tn_nI, inb_t, grd_true, bnd_some, elS_l, elS_r, nI_ltI, nI_leI, nI_inj, fa_and, fa_or, m1_eq, eq_m1, m1_lt, m1_le, lt_m1, le_m1, m1_lt0, up2_at, up2_no, ite_true, ite_false, if_true, if_false, Bool.false_eq_true, reduceIte, reduceCtorEq, not_true_eq_false, not_false_eq_true, eq_self, decide_true, decide_false, le_tt, le_ff, lt_tt, lt_ff, eq_ff, and_true, true_and, and_false, false_and, or_true, true_or, or_false, false_or, ne_eq, decide_eq_true_eq, decide_eq_false_iff_not, Bool.not_true, Bool.not_false, Bool.and_true, Bool.true_and, Bool.and_false, Bool.false_and, gs_at, gs_no, oI_n, oI_s]
theorem tp_lt {g : Nat → Nat} {l t : Nat} (hN : NV g) (hL : LV g) (h : tpF g l (g 7) = some t) : t < 60 := by
  obtain ⟨d, x1, x2, x3, x4, x5, x6⟩ := ((tp_oc hL).2 t h).1
  have := hL d x1 x3
  have := hN.1
  omega
section
variable {M : Mm} {g : Nat → Nat} {n s : Nat}
theorem Fm_topOn_e {h : Nat → Int32} (hG : GB g) (hN : NV g) (hL : LV g) (hF : FK M g h) {l : Nat} (hn : 300 < n) : Fm_topOn n (nI l) M = some (oI (tpF g l (g 7))) := by
  have h300 := hG.2
  have hb1 := hN.1
  have h7 := hF.lo (k := 7) (by omega)
  have hlp : ∃ r, loop (fun s1 : Int32 × Int32 => Fm_topOn_b4 (nI l) M s1.1 s1.2) n (ng 1, nI 0) = some r ∧ r = oI (tpF g l (g 7)) := by
    refine loop_I0 (fun i (st : Int32 × Int32) => st = (oI (tpF g l i), nI i)) _ (g 7) rfl (by omega) ?_ ?_
    · rintro i ⟨s1, s2⟩ hi e
      cases e
      left
      refine ⟨(oI (tpF g l (i + 1)), nI (i + 1)), ?_, rfl⟩
      show Fm_topOn_b4 (nI l) M (oI (tpF g l i)) (nI i) = _
      have hil := Fm_isLit_e (hF.FR hG) hG (d := i) hi
      have o4 := hF.of (d := i) (w := 4) (by omega) (by omega) (by omega)
      have o5 := hF.of (d := i) (w := 5) (by omega) (by omega) (by omega)
      have o6 := hF.of (d := i) (w := 6) (by omega) (by omega) (by omega)
      have hand : g (64 + 10 * i + 6) &&& l < 2 ^ 31 := and_lt (Nat.lt_trans (hG.1 _) (by decide))
      by_cases z : g (64 + 10 * i + 3) = 0
      · have hlv := hL i hi z
        by_cases q : g (64 + 10 * i + 6) &&& l = 0
        · rw [tp_s, if_neg (fun w => w.2 q)]
          unfold Fm_topOn_b4 Fm_topOn_j55
          simp (disch := omega) only [l_0, l_1, l_2, l_3, l_4, l_5, l_6, l_7, l_8, l_9, l_10, l_11, l_12, l_13, l_14, l_16, l_20, l_21, l_23, l_24, l_30, l_32, l_40, l_41, l_44, l_48, l_57, l_59, l_60, l_63, l_64, l_80, l_84, l_96, l_97, l_99, l_120, l_122, l_127, l_200, l_240, l_255, l_840, l_999, l_1000, l_1001, l_2400, l_3064, l_9999, l_10000, l_13849, l_16383, l_25173, l_65535, l_65536, l_99999, l_1000000000, neg_nI, pk_mul, nI_add, nI_subL, tn_nI, inb_t, grd_true, bnd_some, elS_l, elS_r, nI_ltI, nI_leI, nI_inj, fa_and, fa_or, m1_eq, eq_m1, m1_lt, m1_le, lt_m1, le_m1, m1_lt0, up2_at, up2_no, ite_true, ite_false, if_true, if_false, Bool.false_eq_true, reduceIte, reduceCtorEq, not_true_eq_false, not_false_eq_true, eq_self, decide_true, decide_false, le_tt, le_ff, lt_tt, lt_ff, eq_ff, and_true, true_and, and_false, false_and, or_true, true_or, or_false, false_or, ne_eq, decide_eq_true_eq, decide_eq_false_iff_not, Bool.not_true, Bool.not_false, Bool.and_true, Bool.true_and, Bool.and_false, Bool.false_and, gs_at, gs_no, oI_n, oI_s, h7, hil, z, o6, q]
        · rw [tp_s, if_pos ⟨z, q⟩]
          unfold Fm_topOn_b4 Fm_topOn_j55
          cases hp : tpF g l i with
          | none =>
            simp (disch := omega) only [l_0, l_1, l_2, l_3, l_4, l_5, l_6, l_7, l_8, l_9, l_10, l_11, l_12, l_13, l_14, l_16, l_20, l_21, l_23, l_24, l_30, l_32, l_40, l_41, l_44, l_48, l_57, l_59, l_60, l_63, l_64, l_80, l_84, l_96, l_97, l_99, l_120, l_122, l_127, l_200, l_240, l_255, l_840, l_999, l_1000, l_1001, l_2400, l_3064, l_9999, l_10000, l_13849, l_16383, l_25173, l_65535, l_65536, l_99999, l_1000000000, neg_nI, pk_mul, nI_add, nI_subL, tn_nI, inb_t, grd_true, bnd_some, elS_l, elS_r, nI_ltI, nI_leI, nI_inj, fa_and, fa_or, m1_eq, eq_m1, m1_lt, m1_le, lt_m1, le_m1, m1_lt0, up2_at, up2_no, ite_true, ite_false, if_true, if_false, Bool.false_eq_true, reduceIte, reduceCtorEq, not_true_eq_false, not_false_eq_true, eq_self, decide_true, decide_false, le_tt, le_ff, lt_tt, lt_ff, eq_ff, and_true, true_and, and_false, false_and, or_true, true_or, or_false, false_or, ne_eq, decide_eq_true_eq, decide_eq_false_iff_not, Bool.not_true, Bool.not_false, Bool.and_true, Bool.true_and, Bool.and_false, Bool.false_and, gs_at, gs_no, oI_n, oI_s, h7, hil, z, o4, o5, o6, q, Fm_max_n, Option.getD_none, Nat.zero_max]
          | some t =>
            have ht : t < 100 := by
              obtain ⟨d, x1, x2, x3, x4⟩ := ((tp_spec hL i (by omega)).2 t hp).1
              have := hL d (by omega) x2
              omega
            simp (disch := omega) only [l_0, l_1, l_2, l_3, l_4, l_5, l_6, l_7, l_8, l_9, l_10, l_11, l_12, l_13, l_14, l_16, l_20, l_21, l_23, l_24, l_30, l_32, l_40, l_41, l_44, l_48, l_57, l_59, l_60, l_63, l_64, l_80, l_84, l_96, l_97, l_99, l_120, l_122, l_127, l_200, l_240, l_255, l_840, l_999, l_1000, l_1001, l_2400, l_3064, l_9999, l_10000, l_13849, l_16383, l_25173, l_65535, l_65536, l_99999, l_1000000000, neg_nI, pk_mul, nI_add, nI_subL, tn_nI, inb_t, grd_true, bnd_some, elS_l, elS_r, nI_ltI, nI_leI, nI_inj, fa_and, fa_or, m1_eq, eq_m1, m1_lt, m1_le, lt_m1, le_m1, m1_lt0, up2_at, up2_no, ite_true, ite_false, if_true, if_false, Bool.false_eq_true, reduceIte, reduceCtorEq, not_true_eq_false, not_false_eq_true, eq_self, decide_true, decide_false, le_tt, le_ff, lt_tt, lt_ff, eq_ff, and_true, true_and, and_false, false_and, or_true, true_or, or_false, false_or, ne_eq, decide_eq_true_eq, decide_eq_false_iff_not, Bool.not_true, Bool.not_false, Bool.and_true, Bool.true_and, Bool.and_false, Bool.false_and, gs_at, gs_no, oI_n, oI_s, h7, hil, z, o4, o5, o6, q, Fm_max_e, Option.getD_some]
      · rw [tp_s, if_neg (fun w => z w.1)]
        unfold Fm_topOn_b4 Fm_topOn_j55
        simp (disch := omega) only [l_0, l_1, l_2, l_3, l_4, l_5, l_6, l_7, l_8, l_9, l_10, l_11, l_12, l_13, l_14, l_16, l_20, l_21, l_23, l_24, l_30, l_32, l_40, l_41, l_44, l_48, l_57, l_59, l_60, l_63, l_64, l_80, l_84, l_96, l_97, l_99, l_120, l_122, l_127, l_200, l_240, l_255, l_840, l_999, l_1000, l_1001, l_2400, l_3064, l_9999, l_10000, l_13849, l_16383, l_25173, l_65535, l_65536, l_99999, l_1000000000, neg_nI, pk_mul, nI_add, nI_subL, tn_nI, inb_t, grd_true, bnd_some, elS_l, elS_r, nI_ltI, nI_leI, nI_inj, fa_and, fa_or, m1_eq, eq_m1, m1_lt, m1_le, lt_m1, le_m1, m1_lt0, up2_at, up2_no, ite_true, ite_false, if_true, if_false, Bool.false_eq_true, reduceIte, reduceCtorEq, not_true_eq_false, not_false_eq_true, eq_self, decide_true, decide_false, le_tt, le_ff, lt_tt, lt_ff, eq_ff, and_true, true_and, and_false, false_and, or_true, true_or, or_false, false_or, ne_eq, decide_eq_true_eq, decide_eq_false_iff_not, Bool.not_true, Bool.not_false, Bool.and_true, Bool.true_and, Bool.and_false, Bool.false_and, gs_at, gs_no, oI_n, oI_s, h7, hil, z]
    · rintro ⟨s1, s2⟩ e
      cases e
      refine ⟨_, ?_, rfl⟩
      show Fm_topOn_b4 (nI l) M _ (nI (g 7)) = _
      unfold Fm_topOn_b4
      simp (disch := omega) only [l_0, l_1, l_2, l_3, l_4, l_5, l_6, l_7, l_8, l_9, l_10, l_11, l_12, l_13, l_14, l_16, l_20, l_21, l_23, l_24, l_30, l_32, l_40, l_41, l_44, l_48, l_57, l_59, l_60, l_63, l_64, l_80, l_84, l_96, l_97, l_99, l_120, l_122, l_127, l_200, l_240, l_255, l_840, l_999, l_1000, l_1001, l_2400, l_3064, l_9999, l_10000, l_13849, l_16383, l_25173, l_65535, l_65536, l_99999, l_1000000000, neg_nI, pk_mul, nI_add, nI_subL, tn_nI, inb_t, grd_true, bnd_some, elS_l, elS_r, nI_ltI, nI_leI, nI_inj, fa_and, fa_or, m1_eq, eq_m1, m1_lt, m1_le, lt_m1, le_m1, m1_lt0, up2_at, up2_no, ite_true, ite_false, if_true, if_false, Bool.false_eq_true, reduceIte, reduceCtorEq, not_true_eq_false, not_false_eq_true, eq_self, decide_true, decide_false, le_tt, le_ff, lt_tt, lt_ff, eq_ff, and_true, true_and, and_false, false_and, or_true, true_or, or_false, false_or, ne_eq, decide_eq_true_eq, decide_eq_false_iff_not, Bool.not_true, Bool.not_false, Bool.and_true, Bool.true_and, Bool.and_false, Bool.false_and, gs_at, gs_no, oI_n, oI_s, h7]
  obtain ⟨r, r1, r2⟩ := hlp
  unfold Fm_topOn
  rw [show (-1 : Int32) = ng 1 from rfl, l_0, r1, r2]
  rfl
theorem Fm_top_e {h : Nat → Int32} (hG : GB g) (hN : NV g) (hL : LV g) (hF : FK M g h) (hn : 300 < n) : Fm_top n M = some (oI (tpF g 16383 (g 7))) := by
  unfold Fm_top
  rw [l_16383, Fm_topOn_e hG hN hL hF hn]
  rfl
theorem oc_all (hN : NV g) (hL : LV g) {i : Nat} : OC g 16383 none i ↔ ∃ l, l < g 3 ∧ OC g (2 ^ l) none i := by
  constructor
  · rintro ⟨d, h1, h2, h3, h4, h5⟩
    obtain ⟨k, k1, k2⟩ := and_ne.mp h4
    exact ⟨k, tb_lt (hL d h1 h3).2.2.2 k1, d, h1, h2, h3, and_bit.mpr k1, h5⟩
  · rintro ⟨l, hl, d, h1, h2, h3, h4, h5⟩
    refine ⟨d, h1, h2, h3, and_ne.mpr ⟨l, and_bit.mp h4, ?_⟩, h5⟩
    rw [show 16383 = 2 ^ 14 - 1 from rfl, Nat.testBit_two_pow_sub_one]
    have := hN.1
    exact decide_eq_true (by omega)
theorem high_oc {F l : Nat} (hL : LV g) (hF : F < 2 ^ 64) (hb : ∀ i, F.testBit i = true ↔ OC g l none i) (hn : 100 < n) : Fg_highest n (lN F) M = some (oI (tpF g l (g 7))) := by
  obtain ⟨t1, t2⟩ := tp_oc (g := g) (l := l) hL
  cases ht : tpF g l (g 7) with
  | none =>
    have : F = 0 := by
      apply Nat.eq_of_testBit_eq
      intro i
      rw [Nat.zero_testBit]
      cases h : F.testBit i with
      | false => rfl
      | true => exact absurd ((hb i).mp h) (t1 ht i)
    rw [this]
    exact Fg_highest_z hn
  | some t =>
    obtain ⟨x1, x2⟩ := t2 t ht
    have hne : F ≠ 0 := fun q => by
      have := (hb t).mpr x1
      rw [q, Nat.zero_testBit] at this
      cases this
    obtain ⟨k, k1, k2, k3, k4⟩ := Fg_highest_t (M := M) hne hF hn
    have e : k = t := by
      have h1 := x2 k ((hb k).mp k2)
      rcases Nat.lt_or_ge k t with q | q
      · have := k3 t q
        rw [(hb t).mpr x1] at this
        cases this
      · omega
    rw [k1, e]
    rfl
theorem St_top_e (hN : NV g) (hL : LV g) (hC : CN M (s + 1) g) (hU : UB M s g) (hn : 100 < n) : St_top n s M = some (oI (tpF g 16383 (g 7))) := by
  have b1 := hN.1
  have h3 : M.1 (s + 1) 3 = nI (g 3) := hC.1 3 (by omega)
  have hlp : ∃ r, loop (fun s1 : Int64 × Int32 => St_top_b4 s M s1.1 s1.2) n (lN 0, nI 0) = some r ∧ ∃ A, r = lN A ∧ A < 2 ^ 64 ∧ ∀ i, A.testBit i = true ↔ ∃ l, l < g 3 ∧ OC g (2 ^ l) none i := by
    refine loop_I0 (fun k (st : Int64 × Int32) => st.2 = nI k ∧ ∃ A, st.1 = lN A ∧ A < 2 ^ 64 ∧ ∀ i, A.testBit i = true ↔ ∃ l, l < k ∧ OC g (2 ^ l) none i) _ (g 3) ⟨rfl, 0, rfl, by decide, fun i => by rw [Nat.zero_testBit]; exact ⟨fun q => (by cases q), fun q => (by obtain ⟨l, q, _⟩ := q; omega)⟩⟩ (by omega) ?_ ?_
    · rintro k ⟨s1, s2⟩ hk ⟨e1, A, e2, e3, e4⟩
      simp only at e1 e2
      subst e1 e2
      left
      refine ⟨(lN (A ||| usN M s k), nI (k + 1)), ?_, rfl, _, rfl, Nat.or_lt_two_pow e3 (usN_lt _ _ _), fun i => ?_⟩
      · show St_top_b4 s M (lN A) (nI k) = _
        unfold St_top_b4
        simp (disch := omega) only [l_0, l_1, l_2, l_3, l_4, l_5, l_6, l_7, l_8, l_9, l_10, l_11, l_12, l_13, l_14, l_16, l_20, l_21, l_23, l_24, l_30, l_32, l_40, l_41, l_44, l_48, l_57, l_59, l_60, l_63, l_64, l_80, l_84, l_96, l_97, l_99, l_120, l_122, l_127, l_200, l_240, l_255, l_840, l_999, l_1000, l_1001, l_2400, l_3064, l_9999, l_10000, l_13849, l_16383, l_25173, l_65535, l_65536, l_99999, l_1000000000, neg_nI, pk_mul, nI_add, nI_subL, tn_nI, inb_t, grd_true, bnd_some, elS_l, elS_r, nI_ltI, nI_leI, nI_inj, fa_and, fa_or, m1_eq, eq_m1, m1_lt, m1_le, lt_m1, le_m1, m1_lt0, up2_at, up2_no, ite_true, ite_false, if_true, if_false, Bool.false_eq_true, reduceIte, reduceCtorEq, not_true_eq_false, not_false_eq_true, eq_self, decide_true, decide_false, le_tt, le_ff, lt_tt, lt_ff, eq_ff, and_true, true_and, and_false, false_and, or_true, true_or, or_false, false_or, ne_eq, decide_eq_true_eq, decide_eq_false_iff_not, Bool.not_true, Bool.not_false, Bool.and_true, Bool.true_and, Bool.and_false, Bool.false_and, gs_at, gs_no, oI_n, oI_s, h3, usN_e, lor_e]
      · rw [Nat.testBit_or, Bool.or_eq_true, e4, hU k hk]
        constructor
        · rintro (⟨l, q1, q2⟩ | q)
          · exact ⟨l, by omega, q2⟩
          · exact ⟨k, by omega, q⟩
        · rintro ⟨l, q1, q2⟩
          by_cases c : l = k
          · subst c; exact .inr q2
          · exact .inl ⟨l, by omega, q2⟩
    · rintro ⟨s1, s2⟩ ⟨e1, A, e2, e3, e4⟩
      simp only at e1 e2
      subst e1 e2
      refine ⟨lN A, ?_, A, rfl, e3, e4⟩
      show St_top_b4 s M (lN A) (nI (g 3)) = _
      unfold St_top_b4
      simp (disch := omega) only [l_0, l_1, l_2, l_3, l_4, l_5, l_6, l_7, l_8, l_9, l_10, l_11, l_12, l_13, l_14, l_16, l_20, l_21, l_23, l_24, l_30, l_32, l_40, l_41, l_44, l_48, l_57, l_59, l_60, l_63, l_64, l_80, l_84, l_96, l_97, l_99, l_120, l_122, l_127, l_200, l_240, l_255, l_840, l_999, l_1000, l_1001, l_2400, l_3064, l_9999, l_10000, l_13849, l_16383, l_25173, l_65535, l_65536, l_99999, l_1000000000, neg_nI, pk_mul, nI_add, nI_subL, tn_nI, inb_t, grd_true, bnd_some, elS_l, elS_r, nI_ltI, nI_leI, nI_inj, fa_and, fa_or, m1_eq, eq_m1, m1_lt, m1_le, lt_m1, le_m1, m1_lt0, up2_at, up2_no, ite_true, ite_false, if_true, if_false, Bool.false_eq_true, reduceIte, reduceCtorEq, not_true_eq_false, not_false_eq_true, eq_self, decide_true, decide_false, le_tt, le_ff, lt_tt, lt_ff, eq_ff, and_true, true_and, and_false, false_and, or_true, true_or, or_false, false_or, ne_eq, decide_eq_true_eq, decide_eq_false_iff_not, Bool.not_true, Bool.not_false, Bool.and_true, Bool.true_and, Bool.and_false, Bool.false_and, gs_at, gs_no, oI_n, oI_s, h3]
  obtain ⟨r, r1, A, r2, r3, r4⟩ := hlp
  unfold St_top
  rw [show (0 : Int64) = lN 0 from rfl, l_0, r1, r2, bnd_some, high_oc hL r3 (fun i => by rw [r4, oc_all hN hL]) hn]
  rfl
end
def icA (g : Nat → Nat) (l u w : Nat) : Int32 := if w = 0 then nI (cutG l g).2 else if w = 1 then nI (reF u (cutG l g).1 (g 7)).2 else oI (tpF (reF u (cutG l g).1 (g 7)).1 16383 (g 7))
theorem op_ifCut {n : Nat} (hn : 1099511627776 < n) (x y z : Int32) : T2 (Fg_ifCut n x y z) (Fm_ifCut n x y z) := by
  refine T2.id (fun g hg => ?_)
  have hG := hg.1.1
  have h40 := hg.2.2
  have b1 := hg.1.2.1.1
  have g12 := hG.1 12
  by_cases hx : (inb x (g 3) && inb y 4 && rg z 0 2) = true
  · rw [Bool.and_eq_true, Bool.and_eq_true] at hx
    obtain ⟨l, hl, rfl⟩ := (inb_iff (by omega)).mp hx.1.1
    obtain ⟨u, hu, rfl⟩ := (inb_iff (by decide)).mp hx.1.2
    obtain ⟨w, _, hw, rfl⟩ := (rg_iff (by decide)).mp hx.2
    cases hup : (g 12).testBit l with
    | false =>
      refine ⟨ng 2, fun M hS hA => TC.id hS hA ?_, fun M h hF => TM.id hF ?_⟩
      · unfold Fg_ifCut
        rw [St_hasLink_e (hS.1.1.1 3 (by omega)) (by omega), hx.1.1, Fg_isRule_e, hx.1.2, St_isUp_e hS.1.2.1 (by omega) (by omega), hup]
        simp (disch := omega) only [l_0, l_1, l_2, l_3, l_4, l_5, l_6, l_7, l_8, l_9, l_10, l_11, l_12, l_13, l_14, l_16, l_20, l_21, l_23, l_24, l_30, l_32, l_40, l_41, l_44, l_48, l_57, l_59, l_60, l_63, l_64, l_80, l_84, l_96, l_97, l_99, l_120, l_122, l_127, l_200, l_240, l_255, l_840, l_999, l_1000, l_1001, l_2400, l_3064, l_9999, l_10000, l_13849, l_16383, l_25173, l_65535, l_65536, l_99999, l_1000000000, neg_nI, pk_mul, nI_add, nI_subL, tn_nI, inb_t, grd_true, bnd_some, elS_l, elS_r, nI_ltI, nI_leI, nI_inj, fa_and, fa_or, m1_eq, eq_m1, m1_lt, m1_le, lt_m1, le_m1, m1_lt0, up2_at, up2_no, ite_true, ite_false, if_true, if_false, Bool.false_eq_true, reduceIte, reduceCtorEq, not_true_eq_false, not_false_eq_true, eq_self, decide_true, decide_false, le_tt, le_ff, lt_tt, lt_ff, eq_ff, and_true, true_and, and_false, false_and, or_true, true_or, or_false, false_or, ne_eq, decide_eq_true_eq, decide_eq_false_iff_not, Bool.not_true, Bool.not_false, Bool.and_true, Bool.true_and, Bool.and_false, Bool.false_and, gs_at, gs_no, oI_n, oI_s]
      · unfold Fm_ifCut
        rw [Fm_isLink_e (hF.lo (by omega)) (by omega), hx.1.1, Fm_isRule_e, hx.1.2, Fm_isUp_e hG hF (by omega), hup, l_0, l_2, Fm_in_x (by decide) (by decide), hx.2]
        simp (disch := omega) only [l_0, l_1, l_2, l_3, l_4, l_5, l_6, l_7, l_8, l_9, l_10, l_11, l_12, l_13, l_14, l_16, l_20, l_21, l_23, l_24, l_30, l_32, l_40, l_41, l_44, l_48, l_57, l_59, l_60, l_63, l_64, l_80, l_84, l_96, l_97, l_99, l_120, l_122, l_127, l_200, l_240, l_255, l_840, l_999, l_1000, l_1001, l_2400, l_3064, l_9999, l_10000, l_13849, l_16383, l_25173, l_65535, l_65536, l_99999, l_1000000000, neg_nI, pk_mul, nI_add, nI_subL, tn_nI, inb_t, grd_true, bnd_some, elS_l, elS_r, nI_ltI, nI_leI, nI_inj, fa_and, fa_or, m1_eq, eq_m1, m1_lt, m1_le, lt_m1, le_m1, m1_lt0, up2_at, up2_no, ite_true, ite_false, if_true, if_false, Bool.false_eq_true, reduceIte, reduceCtorEq, not_true_eq_false, not_false_eq_true, eq_self, decide_true, decide_false, le_tt, le_ff, lt_tt, lt_ff, eq_ff, and_true, true_and, and_false, false_and, or_true, true_or, or_false, false_or, ne_eq, decide_eq_true_eq, decide_eq_false_iff_not, Bool.not_true, Bool.not_false, Bool.and_true, Bool.true_and, Bool.and_false, Bool.false_and, gs_at, gs_no, oI_n, oI_s]
    | true =>
      obtain ⟨v1, v2, v3⟩ := cut_V (l := l) hg
      have e7 : (cutG l g).1 7 = g 7 := v2 7 (by omega) (by omega)
      obtain ⟨w1, w2, w3⟩ := reF_V (u := u) v1 (g 7) (by rw [e7]; exact Nat.le_refl _)
      have f7 : (reF u (cutG l g).1 (g 7)).1 7 = g 7 := (w2 7 (by omega)).trans e7
      refine ⟨icA g l u w, fun M hS hA => ?_, fun M h hF => ?_⟩
      · obtain ⟨M1, a1, a2, a3, a4⟩ := St_copy_e (s := 54) (o := 18) (by omega) b1.2.2.2.2.2.1 h40 hS
        have hA1 : CA M1 g := hA.fr a4 (fun j => by unfold fp_St_copy; omega)
        obtain ⟨M2, c1, c2, c3⟩ := St_sever_e hg a2 hl (n := n) (by omega)
        have hA2 : CA M2 g := hA1.fr c3 (fun j => by unfold fp_St_sever; omega)
        have hS2 : SV M2 18 g := a3.fr c3 (fun k j hk => by unfold fp_St_sever; omega)
        have F2 : Fr PC M M2 := (a4.mono (fun c j q => by unfold fp_St_copy at q; unfold PC; omega)).tr (c3.mono (fun c j q => by unfold fp_St_sever at q; unfold PC; omega))
        have hup' : ∀ M', SV M' 18 g → St_isUp 18 (nI l) M' = some true := fun M' hS' => by rw [St_isUp_e hS'.1.2.1 (by omega) (by omega), hup]
        by_cases h0 : w = 0
        · refine ⟨M2, ?_, hS2, hA2, F2⟩
          unfold Fg_ifCut icA
          rw [St_hasLink_e (hS.1.1.1 3 (by omega)) (by omega), hx.1.1, Fg_isRule_e, hx.1.2, hup' M hS]
          simp (disch := omega) only [l_0, l_1, l_2, l_3, l_4, l_5, l_6, l_7, l_8, l_9, l_10, l_11, l_12, l_13, l_14, l_16, l_20, l_21, l_23, l_24, l_30, l_32, l_40, l_41, l_44, l_48, l_57, l_59, l_60, l_63, l_64, l_80, l_84, l_96, l_97, l_99, l_120, l_122, l_127, l_200, l_240, l_255, l_840, l_999, l_1000, l_1001, l_2400, l_3064, l_9999, l_10000, l_13849, l_16383, l_25173, l_65535, l_65536, l_99999, l_1000000000, neg_nI, pk_mul, nI_add, nI_subL, tn_nI, inb_t, grd_true, bnd_some, elS_l, elS_r, nI_ltI, nI_leI, nI_inj, fa_and, fa_or, m1_eq, eq_m1, m1_lt, m1_le, lt_m1, le_m1, m1_lt0, up2_at, up2_no, ite_true, ite_false, if_true, if_false, Bool.false_eq_true, reduceIte, reduceCtorEq, not_true_eq_false, not_false_eq_true, eq_self, decide_true, decide_false, le_tt, le_ff, lt_tt, lt_ff, eq_ff, and_true, true_and, and_false, false_and, or_true, true_or, or_false, false_or, ne_eq, decide_eq_true_eq, decide_eq_false_iff_not, Bool.not_true, Bool.not_false, Bool.and_true, Bool.true_and, Bool.and_false, Bool.false_and, gs_at, gs_no, oI_n, oI_s, h0, a1, c1]
        · obtain ⟨M3, d1, d2, d3, d4⟩ := re_c v1 c2 (hA2.cong b1.2.2.2.2.2.1 (fun k h1 h2 h3 => v2 k h1 h3)) (by omega) hu (n := n) (by omega)
          rw [e7] at d1 d2 d3
          have hA3 : CA M3 g := d3.cong (by rw [(w2 3 (by omega)), v2 3 (by omega) (by omega)]; exact b1.2.2.2.2.2.1) (fun k h1 h2 h3 => by rw [w2 k h1, v2 k h1 h3])
          have htop : St_top n 54 M3 = some (oI (tpF (reF u (cutG l g).1 (g 7)).1 16383 (g 7))) := by
            rw [St_top_e w1.1.2.1 w1.1.2.2.2.1 d2.1.1 d2.2.2.2 (by omega), f7]
          refine ⟨M3, ?_, hS2.fr d4 (fun k j hk => by unfold fp_Fg_lightAll; omega), hA3, F2.tr (d4.mono (fun c j q => by unfold fp_Fg_lightAll at q; unfold PC; omega))⟩
          unfold Fg_ifCut icA
          rw [St_hasLink_e (hS.1.1.1 3 (by omega)) (by omega), hx.1.1, Fg_isRule_e, hx.1.2, hup' M hS]
          by_cases h1 : w = 1
          · simp (disch := omega) only [l_0, l_1, l_2, l_3, l_4, l_5, l_6, l_7, l_8, l_9, l_10, l_11, l_12, l_13, l_14, l_16, l_20, l_21, l_23, l_24, l_30, l_32, l_40, l_41, l_44, l_48, l_57, l_59, l_60, l_63, l_64, l_80, l_84, l_96, l_97, l_99, l_120, l_122, l_127, l_200, l_240, l_255, l_840, l_999, l_1000, l_1001, l_2400, l_3064, l_9999, l_10000, l_13849, l_16383, l_25173, l_65535, l_65536, l_99999, l_1000000000, neg_nI, pk_mul, nI_add, nI_subL, tn_nI, inb_t, grd_true, bnd_some, elS_l, elS_r, nI_ltI, nI_leI, nI_inj, fa_and, fa_or, m1_eq, eq_m1, m1_lt, m1_le, lt_m1, le_m1, m1_lt0, up2_at, up2_no, ite_true, ite_false, if_true, if_false, Bool.false_eq_true, reduceIte, reduceCtorEq, not_true_eq_false, not_false_eq_true, eq_self, decide_true, decide_false, le_tt, le_ff, lt_tt, lt_ff, eq_ff, and_true, true_and, and_false, false_and, or_true, true_or, or_false, false_or, ne_eq, decide_eq_true_eq, decide_eq_false_iff_not, Bool.not_true, Bool.not_false, Bool.and_true, Bool.true_and, Bool.and_false, Bool.false_and, gs_at, gs_no, oI_n, oI_s, h1, a1, c1, d1]
          · simp (disch := omega) only [l_0, l_1, l_2, l_3, l_4, l_5, l_6, l_7, l_8, l_9, l_10, l_11, l_12, l_13, l_14, l_16, l_20, l_21, l_23, l_24, l_30, l_32, l_40, l_41, l_44, l_48, l_57, l_59, l_60, l_63, l_64, l_80, l_84, l_96, l_97, l_99, l_120, l_122, l_127, l_200, l_240, l_255, l_840, l_999, l_1000, l_1001, l_2400, l_3064, l_9999, l_10000, l_13849, l_16383, l_25173, l_65535, l_65536, l_99999, l_1000000000, neg_nI, pk_mul, nI_add, nI_subL, tn_nI, inb_t, grd_true, bnd_some, elS_l, elS_r, nI_ltI, nI_leI, nI_inj, fa_and, fa_or, m1_eq, eq_m1, m1_lt, m1_le, lt_m1, le_m1, m1_lt0, up2_at, up2_no, ite_true, ite_false, if_true, if_false, Bool.false_eq_true, reduceIte, reduceCtorEq, not_true_eq_false, not_false_eq_true, eq_self, decide_true, decide_false, le_tt, le_ff, lt_tt, lt_ff, eq_ff, and_true, true_and, and_false, false_and, or_true, true_or, or_false, false_or, ne_eq, decide_eq_true_eq, decide_eq_false_iff_not, Bool.not_true, Bool.not_false, Bool.and_true, Bool.true_and, Bool.and_false, Bool.false_and, gs_at, gs_no, oI_n, oI_s, h0, h1, a1, c1, d1, htop]
      · obtain ⟨M1, h', a1, a2, a3, a4, a5⟩ := hF.out (b := 2) (n := n) (by omega) (by omega) (by omega)
        obtain ⟨M2, c1, c2, c3⟩ := Fm_cuts_e hg a2 hl (n := n) (by omega)
        obtain ⟨M3, d1, d2, d3⟩ := re_m v1 c2 hu hn
        rw [e7] at d1 d2
        have htop : Fm_top n M3 = some (oI (tpF (reF u (cutG l g).1 (g 7)).1 16383 (g 7))) := by
          rw [Fm_top_e w1.1.1 w1.1.2.1 w1.1.2.2.2.1 d2 (by omega), f7]
        obtain ⟨M4, f1, f2, f3⟩ := d2.back (b := 2) (n := n) (g' := g) (by omega) (by omega) a3 (by omega)
        refine ⟨M4, h', ?_, f2, fun j hj => a4 _ (by omega) (by omega), (((a5.mono (fun c j q => .inl q)).tr (c3.mono (fun c j q => .inl q))).tr (d3.mono (fun c j q => by unfold fp_Fm_relights at q; unfold PM; omega))).tr (f3.mono (fun c j q => .inl q))⟩
        unfold Fm_ifCut icA
        rw [Fm_isLink_e (hF.lo (by omega)) (by omega), hx.1.1, Fm_isRule_e, hx.1.2, Fm_isUp_e hG hF (by omega), hup, l_0, l_2, Fm_in_x (by decide) (by decide), hx.2]
        by_cases h0 : w = 0
        · simp (disch := omega) only [l_0, l_1, l_2, l_3, l_4, l_5, l_6, l_7, l_8, l_9, l_10, l_11, l_12, l_13, l_14, l_16, l_20, l_21, l_23, l_24, l_30, l_32, l_40, l_41, l_44, l_48, l_57, l_59, l_60, l_63, l_64, l_80, l_84, l_96, l_97, l_99, l_120, l_122, l_127, l_200, l_240, l_255, l_840, l_999, l_1000, l_1001, l_2400, l_3064, l_9999, l_10000, l_13849, l_16383, l_25173, l_65535, l_65536, l_99999, l_1000000000, neg_nI, pk_mul, nI_add, nI_subL, tn_nI, inb_t, grd_true, bnd_some, elS_l, elS_r, nI_ltI, nI_leI, nI_inj, fa_and, fa_or, m1_eq, eq_m1, m1_lt, m1_le, lt_m1, le_m1, m1_lt0, up2_at, up2_no, ite_true, ite_false, if_true, if_false, Bool.false_eq_true, reduceIte, reduceCtorEq, not_true_eq_false, not_false_eq_true, eq_self, decide_true, decide_false, le_tt, le_ff, lt_tt, lt_ff, eq_ff, and_true, true_and, and_false, false_and, or_true, true_or, or_false, false_or, ne_eq, decide_eq_true_eq, decide_eq_false_iff_not, Bool.not_true, Bool.not_false, Bool.and_true, Bool.true_and, Bool.and_false, Bool.false_and, gs_at, gs_no, oI_n, oI_s, h0, a1, c1, d1, htop, f1]
        · by_cases h1 : w = 1
          · simp (disch := omega) only [l_0, l_1, l_2, l_3, l_4, l_5, l_6, l_7, l_8, l_9, l_10, l_11, l_12, l_13, l_14, l_16, l_20, l_21, l_23, l_24, l_30, l_32, l_40, l_41, l_44, l_48, l_57, l_59, l_60, l_63, l_64, l_80, l_84, l_96, l_97, l_99, l_120, l_122, l_127, l_200, l_240, l_255, l_840, l_999, l_1000, l_1001, l_2400, l_3064, l_9999, l_10000, l_13849, l_16383, l_25173, l_65535, l_65536, l_99999, l_1000000000, neg_nI, pk_mul, nI_add, nI_subL, tn_nI, inb_t, grd_true, bnd_some, elS_l, elS_r, nI_ltI, nI_leI, nI_inj, fa_and, fa_or, m1_eq, eq_m1, m1_lt, m1_le, lt_m1, le_m1, m1_lt0, up2_at, up2_no, ite_true, ite_false, if_true, if_false, Bool.false_eq_true, reduceIte, reduceCtorEq, not_true_eq_false, not_false_eq_true, eq_self, decide_true, decide_false, le_tt, le_ff, lt_tt, lt_ff, eq_ff, and_true, true_and, and_false, false_and, or_true, true_or, or_false, false_or, ne_eq, decide_eq_true_eq, decide_eq_false_iff_not, Bool.not_true, Bool.not_false, Bool.and_true, Bool.true_and, Bool.and_false, Bool.false_and, gs_at, gs_no, oI_n, oI_s, h1, a1, c1, d1, htop, f1]
          · simp (disch := omega) only [l_0, l_1, l_2, l_3, l_4, l_5, l_6, l_7, l_8, l_9, l_10, l_11, l_12, l_13, l_14, l_16, l_20, l_21, l_23, l_24, l_30, l_32, l_40, l_41, l_44, l_48, l_57, l_59, l_60, l_63, l_64, l_80, l_84, l_96, l_97, l_99, l_120, l_122, l_127, l_200, l_240, l_255, l_840, l_999, l_1000, l_1001, l_2400, l_3064, l_9999, l_10000, l_13849, l_16383, l_25173, l_65535, l_65536, l_99999, l_1000000000, neg_nI, pk_mul, nI_add, nI_subL, tn_nI, inb_t, grd_true, bnd_some, elS_l, elS_r, nI_ltI, nI_leI, nI_inj, fa_and, fa_or, m1_eq, eq_m1, m1_lt, m1_le, lt_m1, le_m1, m1_lt0, up2_at, up2_no, ite_true, ite_false, if_true, if_false, Bool.false_eq_true, reduceIte, reduceCtorEq, not_true_eq_false, not_false_eq_true, eq_self, decide_true, decide_false, le_tt, le_ff, lt_tt, lt_ff, eq_ff, and_true, true_and, and_false, false_and, or_true, true_or, or_false, false_or, ne_eq, decide_eq_true_eq, decide_eq_false_iff_not, Bool.not_true, Bool.not_false, Bool.and_true, Bool.true_and, Bool.and_false, Bool.false_and, gs_at, gs_no, oI_n, oI_s, h0, h1, a1, c1, d1, htop, f1]
  · have hx' := ts_nt hx
    refine ⟨ng 1, fun M hS hA => TC.id hS hA ?_, fun M h hF => TM.id hF ?_⟩
    · unfold Fg_ifCut
      rw [St_hasLink_e (hS.1.1.1 3 (by omega)) (by omega), bnd_some]
      cases hp : inb x (g 3) with
      | false => rfl
      | true =>
        rw [hp, Bool.true_and] at hx'
        rw [Fg_isRule_e]
        cases hq : inb y 4 with
        | false => rfl
        | true =>
          rw [hq, Bool.true_and] at hx'
          rcases i32c z with ⟨w, hw, rfl⟩ | h
          · rw [rg_n hw] at hx'
            have := of_decide_eq_false hx'
            have : 2 < w := by omega
            simp (disch := omega) only [l_0, l_1, l_2, l_3, l_4, l_5, l_6, l_7, l_8, l_9, l_10, l_11, l_12, l_13, l_14, l_16, l_20, l_21, l_23, l_24, l_30, l_32, l_40, l_41, l_44, l_48, l_57, l_59, l_60, l_63, l_64, l_80, l_84, l_96, l_97, l_99, l_120, l_122, l_127, l_200, l_240, l_255, l_840, l_999, l_1000, l_1001, l_2400, l_3064, l_9999, l_10000, l_13849, l_16383, l_25173, l_65535, l_65536, l_99999, l_1000000000, neg_nI, pk_mul, nI_add, nI_subL, tn_nI, inb_t, grd_true, bnd_some, elS_l, elS_r, nI_ltI, nI_leI, nI_inj, fa_and, fa_or, m1_eq, eq_m1, m1_lt, m1_le, lt_m1, le_m1, m1_lt0, up2_at, up2_no, ite_true, ite_false, if_true, if_false, Bool.false_eq_true, reduceIte, reduceCtorEq, not_true_eq_false, not_false_eq_true, eq_self, decide_true, decide_false, le_tt, le_ff, lt_tt, lt_ff, eq_ff, and_true, true_and, and_false, false_and, or_true, true_or, or_false, false_or, ne_eq, decide_eq_true_eq, decide_eq_false_iff_not, Bool.not_true, Bool.not_false, Bool.and_true, Bool.true_and, Bool.and_false, Bool.false_and, gs_at, gs_no, oI_n, oI_s]
          · simp (disch := omega) only [l_0, l_1, l_2, l_3, l_4, l_5, l_6, l_7, l_8, l_9, l_10, l_11, l_12, l_13, l_14, l_16, l_20, l_21, l_23, l_24, l_30, l_32, l_40, l_41, l_44, l_48, l_57, l_59, l_60, l_63, l_64, l_80, l_84, l_96, l_97, l_99, l_120, l_122, l_127, l_200, l_240, l_255, l_840, l_999, l_1000, l_1001, l_2400, l_3064, l_9999, l_10000, l_13849, l_16383, l_25173, l_65535, l_65536, l_99999, l_1000000000, neg_nI, pk_mul, nI_add, nI_subL, tn_nI, inb_t, grd_true, bnd_some, elS_l, elS_r, nI_ltI, nI_leI, nI_inj, fa_and, fa_or, m1_eq, eq_m1, m1_lt, m1_le, lt_m1, le_m1, m1_lt0, up2_at, up2_no, ite_true, ite_false, if_true, if_false, Bool.false_eq_true, reduceIte, reduceCtorEq, not_true_eq_false, not_false_eq_true, eq_self, decide_true, decide_false, le_tt, le_ff, lt_tt, lt_ff, eq_ff, and_true, true_and, and_false, false_and, or_true, true_or, or_false, false_or, ne_eq, decide_eq_true_eq, decide_eq_false_iff_not, Bool.not_true, Bool.not_false, Bool.and_true, Bool.true_and, Bool.and_false, Bool.false_and, gs_at, gs_no, oI_n, oI_s, xlt h]
    · unfold Fm_ifCut
      rw [Fm_isLink_e (hF.lo (by omega)) (by omega), bnd_some]
      cases hp : inb x (g 3) with
      | false => rfl
      | true =>
        rw [hp, Bool.true_and] at hx'
        rw [Fm_isRule_e]
        cases hq : inb y 4 with
        | false => rfl
        | true =>
          rw [hq, Bool.true_and] at hx'
          rw [l_0, l_2, Fm_in_x (by decide) (by decide), hx']
          rfl
