/-! calls: relight, found -/
def re1 (u : Nat) (p : (Nat → Nat) × Nat) (k : Nat) : (Nat → Nat) × Nat := if p.1 (64 + 10 * k + 3) = 2 then (match fdW p.1 (p.1 (64 + 10 * k + 0)) (p.1 (64 + 10 * k + 1)) (p.1 (64 + 10 * k + 2)) u with
  | none => p
  | some q => (litG p.1 k (wkO (waysG p.1 (p.1 (64 + 10 * k + 0)) (p.1 (64 + 10 * k + 1))) q.1) q.2.1 q.2.2.1, p.2 + 1)) else p
def reF (u : Nat) (g : Nat → Nat) : Nat → (Nat → Nat) × Nat
  | 0 => (g, 0)
  | k + 1 => re1 u (reF u g k) k
theorem fit_none {g : Nat → Nat} {l f v d : Nat} (h : fitB g l f v none = true) : fitB g l f v (some d) = true := by
  rw [fit_iff] at h ⊢
  exact ⟨h.1, fun e h1 _ h3 h4 => h.2 e h1 (by simp) h3 h4⟩
theorem re1_V {u : Nat} {p : (Nat → Nat) × Nat} {k : Nat} (hg : GV p.1) (hk : k < p.1 7) : GV (re1 u p k).1 ∧ (∀ j, j < 64 → (re1 u p k).1 j = p.1 j) ∧ (re1 u p k).2 ≤ p.2 + 1 := by
  unfold re1
  split
  · next q =>
    obtain ⟨a1, a2, a3, a4, a5, a6, a7, a8⟩ := hg.2.1.2 k hk
    cases hf : fdW p.1 (p.1 (64 + 10 * k + 0)) (p.1 (64 + 10 * k + 1)) (p.1 (64 + 10 * k + 2)) u with
    | none => exact ⟨hg, fun _ _ => rfl, Nat.le_succ _⟩
    | some x =>
      obtain ⟨p1, p2, p3, p4, p5⟩ := fdW_ok hg.1.2.1 a1 a3 a4 a5 hf
      exact ⟨GV_lit hg hk p3.1 p2.1 p2.2 (fit_none p5) (.inr (.inl q)), fun j hj => lit_lo hj, Nat.le_refl _⟩
  · exact ⟨hg, fun _ _ => rfl, Nat.le_succ _⟩
theorem reF_V {u : Nat} {g : Nat → Nat} (hg : GV g) : ∀ k, k ≤ g 7 → GV (reF u g k).1 ∧ (∀ j, j < 64 → (reF u g k).1 j = g j) ∧ (reF u g k).2 ≤ k
  | 0, _ => ⟨hg, fun _ _ => rfl, Nat.le_refl _⟩
  | k + 1, h => by
    obtain ⟨h1, h2, h3⟩ := reF_V (u := u) hg k (by omega)
    have := re1_V (u := u) (k := k) h1 (by rw [h2 7 (by omega)]; omega)
    exact ⟨this.1, fun j hj => (this.2.1 j hj).trans (h2 j hj), by have := this.2.2; show (re1 u (reF u g k) k).2 ≤ _; omega⟩
section
variable {g : Nat → Nat} {n o u : Nat}
theorem re_c {M : Mm} (hg : GV g) (hS : SV M o g) (hA : CA M g) (ho : 18 ≤ o ∧ o < 90) (hu : u < 4) (hn : 100 < n) : ∃ M', Fg_lightAll n o (nI u) M = some (nI (reF u g (g 7)).2, M') ∧ SV M' o (reF u g (g 7)).1 ∧ CA M' (reF u g (g 7)).1 ∧ Fr (fp_Fg_lightAll o) M M' := by
  have h40 := hg.2.2
  have b1 := hg.1.2.1.1
  have hlp : ∃ r, loop (fun s1 : Int32 × Int32 × Mm => Fg_lightAll_b5 n o (nI u) s1.1 s1.2.1 s1.2.2) n (nI 0, nI 0, M) = some r ∧ (r.1 = nI (reF u g (g 7)).2 ∧ SV r.2 o (reF u g (g 7)).1 ∧ CA r.2 (reF u g (g 7)).1) := by
    refine loop_I0 (fun i (st : Int32 × Int32 × Mm) => st.1 = nI (reF u g i).2 ∧ st.2.1 = nI i ∧ SV st.2.2 o (reF u g i).1 ∧ CA st.2.2 (reF u g i).1) _ (g 7) ⟨rfl, rfl, hS, hA⟩ (by omega) ?_ ?_
    · rintro i ⟨s1, s2, M1⟩ hi ⟨e1, e2, e3, e4⟩
      simp only at e1 e2 e3 e4
      subst e1 e2
      left
      obtain ⟨v1, v2, v3⟩ := reF_V (u := u) hg i (by omega)
      have e7 : (reF u g i).1 7 = g 7 := v2 7 (by omega)
      have h4 := e3.2.1
      rw [e7] at h4
      show ∃ s', Fg_lightAll_b5 n o (nI u) (nI (reF u g i).2) (nI i) M1 = some (.inl s') ∧ (s'.1 = nI (re1 u (reF u g i) i).2 ∧ s'.2.1 = nI (i + 1) ∧ SV s'.2.2 o (re1 u (reF u g i) i).1 ∧ CA s'.2.2 (re1 u (reF u g i) i).1)
      have hi' : i < (reF u g i).1 7 := by rw [e7]; exact hi
      have w3 : (reF u g i).1 3 = g 3 := v2 3 (by omega)
      generalize reF u g i = p at *
      obtain ⟨c1, c2, c3, c4, c5, c6⟩ := e3.2.2.1 i hi'
      obtain ⟨a1, a2, a3, a4, a5, a6, a7, a8⟩ := v1.2.1.2 i hi'
      have q3 := v1.1.1.1 (64 + 10 * i + 3)
      unfold Fg_lightAll_b5 Fg_lightAll_j88 re1
      by_cases z : p.1 (64 + 10 * i + 3) = 2
      · rw [if_pos z]
        obtain ⟨M2, f1, f2, f3, f4⟩ := find_c v1.1 e3.1 e3.2.2.2 e4 ho (n := n) hn (rule := u) a1 a2 a3 a4 a5 hu
        have hS2 : SV M2 o p.1 := e3.fr f4 (fun k j hk => by unfold fp_Fi_find; omega)
        cases hf : fdW p.1 (p.1 (64 + 10 * i + 0)) (p.1 (64 + 10 * i + 1)) (p.1 (64 + 10 * i + 2)) u with
        | none =>
          rw [hf] at f1
          refine ⟨(nI p.2, nI (i + 1), M2), ?_, rfl, rfl, hS2, f3⟩
          simp (disch := omega) only [l_0, l_1, l_2, l_3, l_4, l_5, l_6, l_7, l_8, l_9, l_10, l_11, l_12, l_13, l_14, l_16, l_20, l_21, l_23, l_24, l_30, l_32, l_40, l_41, l_44, l_48, l_57, l_59, l_60, l_63, l_64, l_80, l_84, l_96, l_97, l_99, l_120, l_122, l_127, l_200, l_240, l_255, l_840, l_999, l_1000, l_1001, l_2400, l_3064, l_9999, l_10000, l_13849, l_16383, l_25173, l_65535, l_65536, l_99999, l_1000000000, neg_nI, pk_mul, nI_add, nI_subL, tn_nI, inb_t, grd_true, bnd_some, elS_l, elS_r, nI_ltI, nI_leI, nI_inj, fa_and, fa_or, m1_eq, eq_m1, m1_lt, m1_le, lt_m1, le_m1, m1_lt0, up2_at, up2_no, ite_true, ite_false, if_true, if_false, Bool.false_eq_true, reduceIte, reduceCtorEq, not_true_eq_false, not_false_eq_true, eq_self, decide_true, decide_false, le_tt, le_ff, lt_tt, lt_ff, eq_ff, and_true, true_and, and_false, false_and, or_true, true_or, or_false, false_or, ne_eq, decide_eq_true_eq, decide_eq_false_iff_not, Bool.not_true, Bool.not_false, Bool.and_true, Bool.true_and, Bool.and_false, Bool.false_and, gs_at, gs_no, oI_n, oI_s, h4, c1, c2, c3, c4, z, f1, Option.isSome_none]
        | some q =>
          rw [hf] at f1
          obtain ⟨p1, p2, p3, p4, p5⟩ := fdW_ok v1.1.2.1 a1 a3 a4 a5 hf
          obtain ⟨k1, k2, k3, k4⟩ := f2 q hf
          have b2 := v1.1.2.1.1
          obtain ⟨M3, d1, d2, d3⟩ := SV_put v1.1 v1.2.2 hS2 (n := n) (d := i) (on := wkO (waysG p.1 (p.1 (64 + 10 * i + 0)) (p.1 (64 + 10 * i + 1))) q.1) (f := q.2.1) (w := q.2.2.1) hi' (by omega) p2.2 (by omega) hn
          refine ⟨(nI (p.2 + 1), nI (i + 1), M3), ?_, rfl, rfl, d2, (f3.fr d3 (fun j => by unfold fp_St_put; omega)).cong (by omega) (fun k h1 h2 h3 => lit_lo h1)⟩
          simp (disch := omega) only [l_0, l_1, l_2, l_3, l_4, l_5, l_6, l_7, l_8, l_9, l_10, l_11, l_12, l_13, l_14, l_16, l_20, l_21, l_23, l_24, l_30, l_32, l_40, l_41, l_44, l_48, l_57, l_59, l_60, l_63, l_64, l_80, l_84, l_96, l_97, l_99, l_120, l_122, l_127, l_200, l_240, l_255, l_840, l_999, l_1000, l_1001, l_2400, l_3064, l_9999, l_10000, l_13849, l_16383, l_25173, l_65535, l_65536, l_99999, l_1000000000, neg_nI, pk_mul, nI_add, nI_subL, tn_nI, inb_t, grd_true, bnd_some, elS_l, elS_r, nI_ltI, nI_leI, nI_inj, fa_and, fa_or, m1_eq, eq_m1, m1_lt, m1_le, lt_m1, le_m1, m1_lt0, up2_at, up2_no, ite_true, ite_false, if_true, if_false, Bool.false_eq_true, reduceIte, reduceCtorEq, not_true_eq_false, not_false_eq_true, eq_self, decide_true, decide_false, le_tt, le_ff, lt_tt, lt_ff, eq_ff, and_true, true_and, and_false, false_and, or_true, true_or, or_false, false_or, ne_eq, decide_eq_true_eq, decide_eq_false_iff_not, Bool.not_true, Bool.not_false, Bool.and_true, Bool.true_and, Bool.and_false, Bool.false_and, gs_at, gs_no, oI_n, oI_s, h4, c1, c2, c3, c4, z, f1, Option.isSome_some, k2, k3, k4, d1]
      · rw [if_neg z]
        refine ⟨(nI p.2, nI (i + 1), M1), ?_, rfl, rfl, e3, e4⟩
        simp (disch := omega) only [l_0, l_1, l_2, l_3, l_4, l_5, l_6, l_7, l_8, l_9, l_10, l_11, l_12, l_13, l_14, l_16, l_20, l_21, l_23, l_24, l_30, l_32, l_40, l_41, l_44, l_48, l_57, l_59, l_60, l_63, l_64, l_80, l_84, l_96, l_97, l_99, l_120, l_122, l_127, l_200, l_240, l_255, l_840, l_999, l_1000, l_1001, l_2400, l_3064, l_9999, l_10000, l_13849, l_16383, l_25173, l_65535, l_65536, l_99999, l_1000000000, neg_nI, pk_mul, nI_add, nI_subL, tn_nI, inb_t, grd_true, bnd_some, elS_l, elS_r, nI_ltI, nI_leI, nI_inj, fa_and, fa_or, m1_eq, eq_m1, m1_lt, m1_le, lt_m1, le_m1, m1_lt0, up2_at, up2_no, ite_true, ite_false, if_true, if_false, Bool.false_eq_true, reduceIte, reduceCtorEq, not_true_eq_false, not_false_eq_true, eq_self, decide_true, decide_false, le_tt, le_ff, lt_tt, lt_ff, eq_ff, and_true, true_and, and_false, false_and, or_true, true_or, or_false, false_or, ne_eq, decide_eq_true_eq, decide_eq_false_iff_not, Bool.not_true, Bool.not_false, Bool.and_true, Bool.true_and, Bool.and_false, Bool.false_and, gs_at, gs_no, oI_n, oI_s, h4, c4, z]
    · rintro ⟨s1, s2, M1⟩ ⟨e1, e2, e3, e4⟩
      simp only at e1 e2 e3 e4
      subst e1 e2
      obtain ⟨v1, v2, v3⟩ := reF_V (u := u) hg (g 7) (Nat.le_refl _)
      have h4 := e3.2.1
      rw [v2 7 (by omega)] at h4
      refine ⟨(nI (reF u g (g 7)).2, M1), ?_, rfl, e3, e4⟩
      show Fg_lightAll_b5 n o (nI u) _ (nI (g 7)) M1 = _
      unfold Fg_lightAll_b5
      simp (disch := omega) only [l_0, l_1, l_2, l_3, l_4, l_5, l_6, l_7, l_8, l_9, l_10, l_11, l_12, l_13, l_14, l_16, l_20, l_21, l_23, l_24, l_30, l_32, l_40, l_41, l_44, l_48, l_57, l_59, l_60, l_63, l_64, l_80, l_84, l_96, l_97, l_99, l_120, l_122, l_127, l_200, l_240, l_255, l_840, l_999, l_1000, l_1001, l_2400, l_3064, l_9999, l_10000, l_13849, l_16383, l_25173, l_65535, l_65536, l_99999, l_1000000000, neg_nI, pk_mul, nI_add, nI_subL, tn_nI, inb_t, grd_true, bnd_some, elS_l, elS_r, nI_ltI, nI_leI, nI_inj, fa_and, fa_or, m1_eq, eq_m1, m1_lt, m1_le, lt_m1, le_m1, m1_lt0, up2_at, up2_no, ite_true, ite_false, if_true, if_false, Bool.false_eq_true, reduceIte, reduceCtorEq, not_true_eq_false, not_false_eq_true, eq_self, decide_true, decide_false, le_tt, le_ff, lt_tt, lt_ff, eq_ff, and_true, true_and, and_false, false_and, or_true, true_or, or_false, false_or, ne_eq, decide_eq_true_eq, decide_eq_false_iff_not, Bool.not_true, Bool.not_false, Bool.and_true, Bool.true_and, Bool.and_false, Bool.false_and, gs_at, gs_no, oI_n, oI_s, h4]
  obtain ⟨r, r1, r2, r3, r4⟩ := hlp
  have hrun : Fg_lightAll n o (nI u) M = some (nI (reF u g (g 7)).2, r.2) := by
    unfold Fg_lightAll
    simp (disch := omega) only [l_0, l_1, l_2, l_3, l_4, l_5, l_6, l_7, l_8, l_9, l_10, l_11, l_12, l_13, l_14, l_16, l_20, l_21, l_23, l_24, l_30, l_32, l_40, l_41, l_44, l_48, l_57, l_59, l_60, l_63, l_64, l_80, l_84, l_96, l_97, l_99, l_120, l_122, l_127, l_200, l_240, l_255, l_840, l_999, l_1000, l_1001, l_2400, l_3064, l_9999, l_10000, l_13849, l_16383, l_25173, l_65535, l_65536, l_99999, l_1000000000, neg_nI, pk_mul, nI_add, nI_subL, tn_nI, inb_t, grd_true, bnd_some, elS_l, elS_r, nI_ltI, nI_leI, nI_inj, fa_and, fa_or, m1_eq, eq_m1, m1_lt, m1_le, lt_m1, le_m1, m1_lt0, up2_at, up2_no, ite_true, ite_false, if_true, if_false, Bool.false_eq_true, reduceIte, reduceCtorEq, not_true_eq_false, not_false_eq_true, eq_self, decide_true, decide_false, le_tt, le_ff, lt_tt, lt_ff, eq_ff, and_true, true_and, and_false, false_and, or_true, true_or, or_false, false_or, ne_eq, decide_eq_true_eq, decide_eq_false_iff_not, Bool.not_true, Bool.not_false, Bool.and_true, Bool.true_and, Bool.and_false, Bool.false_and, gs_at, gs_no, oI_n, oI_s, r1, r2]
  have hfr := fr_Fg_lightAll hrun
  exact ⟨r.2, hrun, r3, r4, hfr⟩
theorem re_m {M : Mm} {h : Nat → Int32} (hg : GV g) (hF : FK M g h) (hu : u < 4) (hn : 1099511627776 < n) : ∃ M', Fm_relights n (nI u) M = some (nI (reF u g (g 7)).2, M') ∧ FK M' (reF u g (g 7)).1 h ∧ Fr fp_Fm_relights M M' := by
  have h40 := hg.2.2
  have b1 := hg.1.2.1.1
  have hlp : ∃ r, loop (fun s1 : Int32 × Int32 × Mm => Fm_relights_b4 n (nI u) s1.1 s1.2.1 s1.2.2) n (nI 0, nI 0, M) = some r ∧ (r.1 = nI (reF u g (g 7)).2 ∧ FK r.2 (reF u g (g 7)).1 h) := by
    refine loop_I0 (fun i (st : Int32 × Int32 × Mm) => st.1 = nI (reF u g i).2 ∧ st.2.1 = nI i ∧ FK st.2.2 (reF u g i).1 h) _ (g 7) ⟨rfl, rfl, hF⟩ (by omega) ?_ ?_
    · rintro i ⟨s1, s2, M1⟩ hi ⟨e1, e2, e3⟩
      simp only at e1 e2 e3
      subst e1 e2
      left
      obtain ⟨v1, v2, v3⟩ := reF_V (u := u) hg i (by omega)
      have e7 : (reF u g i).1 7 = g 7 := v2 7 (by omega)
      have h4 := e3.lo (k := 7) (by omega)
      rw [e7] at h4
      show ∃ s', Fm_relights_b4 n (nI u) (nI (reF u g i).2) (nI i) M1 = some (.inl s') ∧ (s'.1 = nI (re1 u (reF u g i) i).2 ∧ s'.2.1 = nI (i + 1) ∧ FK s'.2.2 (re1 u (reF u g i) i).1 h)
      have hi' : i < (reF u g i).1 7 := by rw [e7]; exact hi
      generalize reF u g i = p at *
      obtain ⟨a1, a2, a3, a4, a5, a6, a7, a8⟩ := v1.2.1.2 i hi'
      have o0 := e3.of (d := i) (w := 0) (by omega) (by omega) (by omega)
      have o1 := e3.of (d := i) (w := 1) (by omega) (by omega) (by omega)
      have o2 := e3.of (d := i) (w := 2) (by omega) (by omega) (by omega)
      have o3 := e3.of (d := i) (w := 3) (by omega) (by omega) (by omega)
      have q3 := v1.1.1.1 (64 + 10 * i + 3)
      unfold Fm_relights_b4 Fm_relights_j63 re1
      by_cases z : p.1 (64 + 10 * i + 3) = 2
      · rw [if_pos z]
        obtain ⟨M2, f1, f2, f3, f4⟩ := find_m v1.1 e3 hn (rule := u) a1 a2 a3 a4 a5 hu
        cases hf : fdW p.1 (p.1 (64 + 10 * i + 0)) (p.1 (64 + 10 * i + 1)) (p.1 (64 + 10 * i + 2)) u with
        | none =>
          rw [hf] at f1
          refine ⟨(nI p.2, nI (i + 1), M2), ?_, rfl, rfl, f3⟩
          simp (disch := omega) only [l_0, l_1, l_2, l_3, l_4, l_5, l_6, l_7, l_8, l_9, l_10, l_11, l_12, l_13, l_14, l_16, l_20, l_21, l_23, l_24, l_30, l_32, l_40, l_41, l_44, l_48, l_57, l_59, l_60, l_63, l_64, l_80, l_84, l_96, l_97, l_99, l_120, l_122, l_127, l_200, l_240, l_255, l_840, l_999, l_1000, l_1001, l_2400, l_3064, l_9999, l_10000, l_13849, l_16383, l_25173, l_65535, l_65536, l_99999, l_1000000000, neg_nI, pk_mul, nI_add, nI_subL, tn_nI, inb_t, grd_true, bnd_some, elS_l, elS_r, nI_ltI, nI_leI, nI_inj, fa_and, fa_or, m1_eq, eq_m1, m1_lt, m1_le, lt_m1, le_m1, m1_lt0, up2_at, up2_no, ite_true, ite_false, if_true, if_false, Bool.false_eq_true, reduceIte, reduceCtorEq, not_true_eq_false, not_false_eq_true, eq_self, decide_true, decide_false, le_tt, le_ff, lt_tt, lt_ff, eq_ff, and_true, true_and, and_false, false_and, or_true, true_or, or_false, false_or, ne_eq, decide_eq_true_eq, decide_eq_false_iff_not, Bool.not_true, Bool.not_false, Bool.and_true, Bool.true_and, Bool.and_false, Bool.false_and, gs_at, gs_no, oI_n, oI_s, h4, o0, o1, o2, o3, z, f1, Option.isSome_none]
        | some q =>
          rw [hf] at f1
          obtain ⟨p1, p2, p3, p4, p5⟩ := fdW_ok v1.1.2.1 a1 a3 a4 a5 hf
          obtain ⟨k1, k2, k3, k4⟩ := f2 q hf
          have hwl := ways_len (g := p.1) (a := p.1 (64 + 10 * i + 0)) (b := p.1 (64 + 10 * i + 1))
          obtain ⟨M3, d1, d2, d3⟩ := lights_m (d := i) f3 (by omega) (by omega) k1 k2 k3 k4
          refine ⟨(nI (p.2 + 1), nI (i + 1), M3), ?_, rfl, rfl, d2⟩
          simp (disch := omega) only [l_0, l_1, l_2, l_3, l_4, l_5, l_6, l_7, l_8, l_9, l_10, l_11, l_12, l_13, l_14, l_16, l_20, l_21, l_23, l_24, l_30, l_32, l_40, l_41, l_44, l_48, l_57, l_59, l_60, l_63, l_64, l_80, l_84, l_96, l_97, l_99, l_120, l_122, l_127, l_200, l_240, l_255, l_840, l_999, l_1000, l_1001, l_2400, l_3064, l_9999, l_10000, l_13849, l_16383, l_25173, l_65535, l_65536, l_99999, l_1000000000, neg_nI, pk_mul, nI_add, nI_subL, tn_nI, inb_t, grd_true, bnd_some, elS_l, elS_r, nI_ltI, nI_leI, nI_inj, fa_and, fa_or, m1_eq, eq_m1, m1_lt, m1_le, lt_m1, le_m1, m1_lt0, up2_at, up2_no, ite_true, ite_false, if_true, if_false, Bool.false_eq_true, reduceIte, reduceCtorEq, not_true_eq_false, not_false_eq_true, eq_self, decide_true, decide_false, le_tt, le_ff, lt_tt, lt_ff, eq_ff, and_true, true_and, and_false, false_and, or_true, true_or, or_false, false_or, ne_eq, decide_eq_true_eq, decide_eq_false_iff_not, Bool.not_true, Bool.not_false, Bool.and_true, Bool.true_and, Bool.and_false, Bool.false_and, gs_at, gs_no, oI_n, oI_s, h4, o0, o1, o2, o3, z, f1, Option.isSome_some, d1]
      · rw [if_neg z]
        refine ⟨(nI p.2, nI (i + 1), M1), ?_, rfl, rfl, e3⟩
        simp (disch := omega) only [l_0, l_1, l_2, l_3, l_4, l_5, l_6, l_7, l_8, l_9, l_10, l_11, l_12, l_13, l_14, l_16, l_20, l_21, l_23, l_24, l_30, l_32, l_40, l_41, l_44, l_48, l_57, l_59, l_60, l_63, l_64, l_80, l_84, l_96, l_97, l_99, l_120, l_122, l_127, l_200, l_240, l_255, l_840, l_999, l_1000, l_1001, l_2400, l_3064, l_9999, l_10000, l_13849, l_16383, l_25173, l_65535, l_65536, l_99999, l_1000000000, neg_nI, pk_mul, nI_add, nI_subL, tn_nI, inb_t, grd_true, bnd_some, elS_l, elS_r, nI_ltI, nI_leI, nI_inj, fa_and, fa_or, m1_eq, eq_m1, m1_lt, m1_le, lt_m1, le_m1, m1_lt0, up2_at, up2_no, ite_true, ite_false, if_true, if_false, Bool.false_eq_true, reduceIte, reduceCtorEq, not_true_eq_false, not_false_eq_true, eq_self, decide_true, decide_false, le_tt, le_ff, lt_tt, lt_ff, eq_ff, and_true, true_and, and_false, false_and, or_true, true_or, or_false, false_or, ne_eq, decide_eq_true_eq, decide_eq_false_iff_not, Bool.not_true, Bool.not_false, Bool.and_true, Bool.true_and, Bool.and_false, Bool.false_and, gs_at, gs_no, oI_n, oI_s, h4, o3, z]
    · rintro ⟨s1, s2, M1⟩ ⟨e1, e2, e3⟩
      simp only at e1 e2 e3
      subst e1 e2
      obtain ⟨v1, v2, v3⟩ := reF_V (u := u) hg (g 7) (Nat.le_refl _)
      have h4 := e3.lo (k := 7) (by omega)
      rw [v2 7 (by omega)] at h4
      refine ⟨(nI (reF u g (g 7)).2, M1), ?_, rfl, e3⟩
      show Fm_relights_b4 n (nI u) _ (nI (g 7)) M1 = _
      unfold Fm_relights_b4
      simp (disch := omega) only [l_0, l_1, l_2, l_3, l_4, l_5, l_6, l_7, l_8, l_9, l_10, l_11, l_12, l_13, l_14, l_16, l_20, l_21, l_23, l_24, l_30, l_32, l_40, l_41, l_44, l_48, l_57, l_59, l_60, l_63, l_64, l_80, l_84, l_96, l_97, l_99, l_120, l_122, l_127, l_200, l_240, l_255, l_840, l_999, l_1000, l_1001, l_2400, l_3064, l_9999, l_10000, l_13849, l_16383, l_25173, l_65535, l_65536, l_99999, l_1000000000, neg_nI, pk_mul, nI_add, nI_subL, tn_nI, inb_t, grd_true, bnd_some, elS_l, elS_r, nI_ltI, nI_leI, nI_inj, fa_and, fa_or, m1_eq, eq_m1, m1_lt, m1_le, lt_m1, le_m1, m1_lt0, up2_at, up2_no, ite_true, ite_false, if_true, if_false, Bool.false_eq_true, reduceIte, reduceCtorEq, not_true_eq_false, not_false_eq_true, eq_self, decide_true, decide_false, le_tt, le_ff, lt_tt, lt_ff, eq_ff, and_true, true_and, and_false, false_and, or_true, true_or, or_false, false_or, ne_eq, decide_eq_true_eq, decide_eq_false_iff_not, Bool.not_true, Bool.not_false, Bool.and_true, Bool.true_and, Bool.and_false, Bool.false_and, gs_at, gs_no, oI_n, oI_s, h4]
  obtain ⟨r, r1, r2, r3⟩ := hlp
  have hrun : Fm_relights n (nI u) M = some (nI (reF u g (g 7)).2, r.2) := by
    unfold Fm_relights
    simp (disch := omega) only [l_0, l_1, l_2, l_3, l_4, l_5, l_6, l_7, l_8, l_9, l_10, l_11, l_12, l_13, l_14, l_16, l_20, l_21, l_23, l_24, l_30, l_32, l_40, l_41, l_44, l_48, l_57, l_59, l_60, l_63, l_64, l_80, l_84, l_96, l_97, l_99, l_120, l_122, l_127, l_200, l_240, l_255, l_840, l_999, l_1000, l_1001, l_2400, l_3064, l_9999, l_10000, l_13849, l_16383, l_25173, l_65535, l_65536, l_99999, l_1000000000, neg_nI, pk_mul, nI_add, nI_subL, tn_nI, inb_t, grd_true, bnd_some, elS_l, elS_r, nI_ltI, nI_leI, nI_inj, fa_and, fa_or, m1_eq, eq_m1, m1_lt, m1_le, lt_m1, le_m1, m1_lt0, up2_at, up2_no, ite_true, ite_false, if_true, if_false, Bool.false_eq_true, reduceIte, reduceCtorEq, not_true_eq_false, not_false_eq_true, eq_self, decide_true, decide_false, le_tt, le_ff, lt_tt, lt_ff, eq_ff, and_true, true_and, and_false, false_and, or_true, true_or, or_false, false_or, ne_eq, decide_eq_true_eq, decide_eq_false_iff_not, Bool.not_true, Bool.not_false, Bool.and_true, Bool.true_and, Bool.and_false, Bool.false_and, gs_at, gs_no, oI_n, oI_s, r1, r2]
  have hfr := fr_Fm_relights hrun
  exact ⟨r.2, hrun, r3, hfr⟩
end
theorem op_relight {n : Nat} (hn : 1099511627776 < n) (x : Int32) : T2 (Fg_relight n x) (Fm_relight n x) := by
  intro g hg
  by_cases hx : inb x 4 = true
  · obtain ⟨u, hu, rfl⟩ := (inb_iff (by decide)).mp hx
    obtain ⟨v1, v2, v3⟩ := reF_V (u := u) hg (g 7) (Nat.le_refl _)
    refine ⟨nI (reF u g (g 7)).2, (reF u g (g 7)).1, v1, fun M hS hA => ?_, fun M h hF => ?_⟩
    · obtain ⟨M', a1, a2, a3, a4⟩ := re_c hg hS hA (by omega) hu (n := n) (by omega)
      refine ⟨M', ?_, a2, a3, a4.mono (fun c j q => by unfold fp_Fg_lightAll at q; unfold PC; omega)⟩
      unfold Fg_relight
      rw [Fg_isRule_e, hx]
      simp (disch := omega) only [l_0, l_1, l_2, l_3, l_4, l_5, l_6, l_7, l_8, l_9, l_10, l_11, l_12, l_13, l_14, l_16, l_20, l_21, l_23, l_24, l_30, l_32, l_40, l_41, l_44, l_48, l_57, l_59, l_60, l_63, l_64, l_80, l_84, l_96, l_97, l_99, l_120, l_122, l_127, l_200, l_240, l_255, l_840, l_999, l_1000, l_1001, l_2400, l_3064, l_9999, l_10000, l_13849, l_16383, l_25173, l_65535, l_65536, l_99999, l_1000000000, neg_nI, pk_mul, nI_add, nI_subL, tn_nI, inb_t, grd_true, bnd_some, elS_l, elS_r, nI_ltI, nI_leI, nI_inj, fa_and, fa_or, m1_eq, eq_m1, m1_lt, m1_le, lt_m1, le_m1, m1_lt0, up2_at, up2_no, ite_true, ite_false, if_true, if_false, Bool.false_eq_true, reduceIte, reduceCtorEq, not_true_eq_false, not_false_eq_true, eq_self, decide_true, decide_false, le_tt, le_ff, lt_tt, lt_ff, eq_ff, and_true, true_and, and_false, false_and, or_true, true_or, or_false, false_or, ne_eq, decide_eq_true_eq, decide_eq_false_iff_not, Bool.not_true, Bool.not_false, Bool.and_true, Bool.true_and, Bool.and_false, Bool.false_and, gs_at, gs_no, oI_n, oI_s, a1]
    · obtain ⟨M', a1, a2, a3⟩ := re_m hg hF hu hn
      refine TM.mk ?_ a2 a3 (fun c j q => by unfold fp_Fm_relights at q; unfold PM; omega)
      unfold Fm_relight
      rw [Fm_isRule_e, hx]
      simp (disch := omega) only [l_0, l_1, l_2, l_3, l_4, l_5, l_6, l_7, l_8, l_9, l_10, l_11, l_12, l_13, l_14, l_16, l_20, l_21, l_23, l_24, l_30, l_32, l_40, l_41, l_44, l_48, l_57, l_59, l_60, l_63, l_64, l_80, l_84, l_96, l_97, l_99, l_120, l_122, l_127, l_200, l_240, l_255, l_840, l_999, l_1000, l_1001, l_2400, l_3064, l_9999, l_10000, l_13849, l_16383, l_25173, l_65535, l_65536, l_99999, l_1000000000, neg_nI, pk_mul, nI_add, nI_subL, tn_nI, inb_t, grd_true, bnd_some, elS_l, elS_r, nI_ltI, nI_leI, nI_inj, fa_and, fa_or, m1_eq, eq_m1, m1_lt, m1_le, lt_m1, le_m1, m1_lt0, up2_at, up2_no, ite_true, ite_false, if_true, if_false, Bool.false_eq_true, reduceIte, reduceCtorEq, not_true_eq_false, not_false_eq_true, eq_self, decide_true, decide_false, le_tt, le_ff, lt_tt, lt_ff, eq_ff, and_true, true_and, and_false, false_and, or_true, true_or, or_false, false_or, ne_eq, decide_eq_true_eq, decide_eq_false_iff_not, Bool.not_true, Bool.not_false, Bool.and_true, Bool.true_and, Bool.and_false, Bool.false_and, gs_at, gs_no, oI_n, oI_s, a1]
  · have hx' := ts_nt hx
    refine ⟨ng 1, g, hg, fun M hS hA => TC.id hS hA ?_, fun M h hF => TM.id hF ?_⟩
    · unfold Fg_relight
      rw [Fg_isRule_e, hx']
      rfl
    · unfold Fm_relight
      rw [Fm_isRule_e, hx']
      rfl
def fdA (p : Option (Nat × Nat × Nat × Nat)) (w : Nat) : Int32 := match p with | none => ng 2 | some q => nI (if w = 0 then q.1 else if w = 1 then q.2.1 else q.2.2.1)
theorem op_found {n : Nat} (hn : 1099511627776 < n) (x y z u w : Int32) : T2 (Fg_found n x y z u w) (Fm_found n x y z u w) := by
  refine T2.id (fun g hg => ?_)
  have hG := hg.1.1
  have h40 := hg.2.2
  have b1 := hg.1.2.1.1
  by_cases hx : ((plB (g 0) x y && rg z 1 64 && inb u 4) && rg w 0 2) = true
  · have hx' := hx
    rw [Bool.and_eq_true, Bool.and_eq_true, Bool.and_eq_true] at hx
    obtain ⟨a, b, ha, hb, hab, rfl, rfl⟩ := (pl_iff (by omega)).mp hx.1.1.1
    obtain ⟨r, r1, r2, rfl⟩ := (rg_iff (by decide)).mp hx.1.1.2
    obtain ⟨ru, hu, rfl⟩ := (inb_iff (by decide)).mp hx.1.2
    obtain ⟨k, _, hk, rfl⟩ := (rg_iff (by decide)).mp hx.2
    refine ⟨fdA (fdW g a b r ru) k, fun M hS hA => ?_, fun M h hF => ?_⟩
    · obtain ⟨M2, c1, c2, c3, c4⟩ := find_c hg.1 hS.1 hS.2.2.2 hA (by omega) (n := n) (by omega) ha hb hab r1 r2 hu
      refine ⟨M2, ?_, hS.fr c4 (fun k j hk => by unfold fp_Fi_find; omega), c3, c4.mono (fun c j q => by unfold fp_Fi_find at q; unfold PC; omega)⟩
      unfold Fg_found
      rw [Fg_isWish_e (hS.1.1.1 0 (by omega)) (by omega), hx.1.1.1, hx.1.1.2, Fg_isRule_e, hx.1.2]
      cases hf : fdW g a b r ru with
      | none =>
        rw [hf] at c1
        simp (disch := omega) only [l_0, l_1, l_2, l_3, l_4, l_5, l_6, l_7, l_8, l_9, l_10, l_11, l_12, l_13, l_14, l_16, l_20, l_21, l_23, l_24, l_30, l_32, l_40, l_41, l_44, l_48, l_57, l_59, l_60, l_63, l_64, l_80, l_84, l_96, l_97, l_99, l_120, l_122, l_127, l_200, l_240, l_255, l_840, l_999, l_1000, l_1001, l_2400, l_3064, l_9999, l_10000, l_13849, l_16383, l_25173, l_65535, l_65536, l_99999, l_1000000000, neg_nI, pk_mul, nI_add, nI_subL, tn_nI, inb_t, grd_true, bnd_some, elS_l, elS_r, nI_ltI, nI_leI, nI_inj, fa_and, fa_or, m1_eq, eq_m1, m1_lt, m1_le, lt_m1, le_m1, m1_lt0, up2_at, up2_no, ite_true, ite_false, if_true, if_false, Bool.false_eq_true, reduceIte, reduceCtorEq, not_true_eq_false, not_false_eq_true, eq_self, decide_true, decide_false, le_tt, le_ff, lt_tt, lt_ff, eq_ff, and_true, true_and, and_false, false_and, or_true, true_or, or_false, false_or, ne_eq, decide_eq_true_eq, decide_eq_false_iff_not, Bool.not_true, Bool.not_false, Bool.and_true, Bool.true_and, Bool.and_false, Bool.false_and, gs_at, gs_no, oI_n, oI_s, c1, Option.isSome_none]
        rfl
      | some p =>
        rw [hf] at c1
        obtain ⟨k1, k2, k3, k4⟩ := c2 p hf
        unfold fdA
        by_cases h0 : k = 0
        · simp (disch := omega) only [l_0, l_1, l_2, l_3, l_4, l_5, l_6, l_7, l_8, l_9, l_10, l_11, l_12, l_13, l_14, l_16, l_20, l_21, l_23, l_24, l_30, l_32, l_40, l_41, l_44, l_48, l_57, l_59, l_60, l_63, l_64, l_80, l_84, l_96, l_97, l_99, l_120, l_122, l_127, l_200, l_240, l_255, l_840, l_999, l_1000, l_1001, l_2400, l_3064, l_9999, l_10000, l_13849, l_16383, l_25173, l_65535, l_65536, l_99999, l_1000000000, neg_nI, pk_mul, nI_add, nI_subL, tn_nI, inb_t, grd_true, bnd_some, elS_l, elS_r, nI_ltI, nI_leI, nI_inj, fa_and, fa_or, m1_eq, eq_m1, m1_lt, m1_le, lt_m1, le_m1, m1_lt0, up2_at, up2_no, ite_true, ite_false, if_true, if_false, Bool.false_eq_true, reduceIte, reduceCtorEq, not_true_eq_false, not_false_eq_true, eq_self, decide_true, decide_false, le_tt, le_ff, lt_tt, lt_ff, eq_ff, and_true, true_and, and_false, false_and, or_true, true_or, or_false, false_or, ne_eq, decide_eq_true_eq, decide_eq_false_iff_not, Bool.not_true, Bool.not_false, Bool.and_true, Bool.true_and, Bool.and_false, Bool.false_and, gs_at, gs_no, oI_n, oI_s, c1, Option.isSome_some, h0, k1]
        · by_cases h1 : k = 1
          · simp (disch := omega) only [l_0, l_1, l_2, l_3, l_4, l_5, l_6, l_7, l_8, l_9, l_10, l_11, l_12, l_13, l_14, l_16, l_20, l_21, l_23, l_24, l_30, l_32, l_40, l_41, l_44, l_48, l_57, l_59, l_60, l_63, l_64, l_80, l_84, l_96, l_97, l_99, l_120, l_122, l_127, l_200, l_240, l_255, l_840, l_999, l_1000, l_1001, l_2400, l_3064, l_9999, l_10000, l_13849, l_16383, l_25173, l_65535, l_65536, l_99999, l_1000000000, neg_nI, pk_mul, nI_add, nI_subL, tn_nI, inb_t, grd_true, bnd_some, elS_l, elS_r, nI_ltI, nI_leI, nI_inj, fa_and, fa_or, m1_eq, eq_m1, m1_lt, m1_le, lt_m1, le_m1, m1_lt0, up2_at, up2_no, ite_true, ite_false, if_true, if_false, Bool.false_eq_true, reduceIte, reduceCtorEq, not_true_eq_false, not_false_eq_true, eq_self, decide_true, decide_false, le_tt, le_ff, lt_tt, lt_ff, eq_ff, and_true, true_and, and_false, false_and, or_true, true_or, or_false, false_or, ne_eq, decide_eq_true_eq, decide_eq_false_iff_not, Bool.not_true, Bool.not_false, Bool.and_true, Bool.true_and, Bool.and_false, Bool.false_and, gs_at, gs_no, oI_n, oI_s, c1, Option.isSome_some, h1, k3]
          · simp (disch := omega) only [l_0, l_1, l_2, l_3, l_4, l_5, l_6, l_7, l_8, l_9, l_10, l_11, l_12, l_13, l_14, l_16, l_20, l_21, l_23, l_24, l_30, l_32, l_40, l_41, l_44, l_48, l_57, l_59, l_60, l_63, l_64, l_80, l_84, l_96, l_97, l_99, l_120, l_122, l_127, l_200, l_240, l_255, l_840, l_999, l_1000, l_1001, l_2400, l_3064, l_9999, l_10000, l_13849, l_16383, l_25173, l_65535, l_65536, l_99999, l_1000000000, neg_nI, pk_mul, nI_add, nI_subL, tn_nI, inb_t, grd_true, bnd_some, elS_l, elS_r, nI_ltI, nI_leI, nI_inj, fa_and, fa_or, m1_eq, eq_m1, m1_lt, m1_le, lt_m1, le_m1, m1_lt0, up2_at, up2_no, ite_true, ite_false, if_true, if_false, Bool.false_eq_true, reduceIte, reduceCtorEq, not_true_eq_false, not_false_eq_true, eq_self, decide_true, decide_false, le_tt, le_ff, lt_tt, lt_ff, eq_ff, and_true, true_and, and_false, false_and, or_true, true_or, or_false, false_or, ne_eq, decide_eq_true_eq, decide_eq_false_iff_not, Bool.not_true, Bool.not_false, Bool.and_true, Bool.true_and, Bool.and_false, Bool.false_and, gs_at, gs_no, oI_n, oI_s, c1, Option.isSome_some, h0, h1, k4]
    · obtain ⟨M2, c1, c2, c3, c4⟩ := find_m hg.1 hF hn ha hb hab r1 r2 hu
      refine TM.mk (M2 := M2) ?_ c3 c4 (fun c j q => by unfold fp_Fm_findsFor at q; unfold PM; omega)
      unfold Fm_found
      rw [Fm_isAsked_e (hF.lo (by omega)) (by omega), hx.1.1.1, hx.1.1.2, hx.1.2, l_0, l_2, Fm_in_x (by decide) (by decide), hx.2]
      cases hf : fdW g a b r ru with
      | none =>
        rw [hf] at c1
        simp (disch := omega) only [l_0, l_1, l_2, l_3, l_4, l_5, l_6, l_7, l_8, l_9, l_10, l_11, l_12, l_13, l_14, l_16, l_20, l_21, l_23, l_24, l_30, l_32, l_40, l_41, l_44, l_48, l_57, l_59, l_60, l_63, l_64, l_80, l_84, l_96, l_97, l_99, l_120, l_122, l_127, l_200, l_240, l_255, l_840, l_999, l_1000, l_1001, l_2400, l_3064, l_9999, l_10000, l_13849, l_16383, l_25173, l_65535, l_65536, l_99999, l_1000000000, neg_nI, pk_mul, nI_add, nI_subL, tn_nI, inb_t, grd_true, bnd_some, elS_l, elS_r, nI_ltI, nI_leI, nI_inj, fa_and, fa_or, m1_eq, eq_m1, m1_lt, m1_le, lt_m1, le_m1, m1_lt0, up2_at, up2_no, ite_true, ite_false, if_true, if_false, Bool.false_eq_true, reduceIte, reduceCtorEq, not_true_eq_false, not_false_eq_true, eq_self, decide_true, decide_false, le_tt, le_ff, lt_tt, lt_ff, eq_ff, and_true, true_and, and_false, false_and, or_true, true_or, or_false, false_or, ne_eq, decide_eq_true_eq, decide_eq_false_iff_not, Bool.not_true, Bool.not_false, Bool.and_true, Bool.true_and, Bool.and_false, Bool.false_and, gs_at, gs_no, oI_n, oI_s, c1, Option.isSome_none]
        rfl
      | some p =>
        rw [hf] at c1
        obtain ⟨k1, k2, k3, k4⟩ := c2 p hf
        unfold fdA
        by_cases h0 : k = 0
        · simp (disch := omega) only [l_0, l_1, l_2, l_3, l_4, l_5, l_6, l_7, l_8, l_9, l_10, l_11, l_12, l_13, l_14, l_16, l_20, l_21, l_23, l_24, l_30, l_32, l_40, l_41, l_44, l_48, l_57, l_59, l_60, l_63, l_64, l_80, l_84, l_96, l_97, l_99, l_120, l_122, l_127, l_200, l_240, l_255, l_840, l_999, l_1000, l_1001, l_2400, l_3064, l_9999, l_10000, l_13849, l_16383, l_25173, l_65535, l_65536, l_99999, l_1000000000, neg_nI, pk_mul, nI_add, nI_subL, tn_nI, inb_t, grd_true, bnd_some, elS_l, elS_r, nI_ltI, nI_leI, nI_inj, fa_and, fa_or, m1_eq, eq_m1, m1_lt, m1_le, lt_m1, le_m1, m1_lt0, up2_at, up2_no, ite_true, ite_false, if_true, if_false, Bool.false_eq_true, reduceIte, reduceCtorEq, not_true_eq_false, not_false_eq_true, eq_self, decide_true, decide_false, le_tt, le_ff, lt_tt, lt_ff, eq_ff, and_true, true_and, and_false, false_and, or_true, true_or, or_false, false_or, ne_eq, decide_eq_true_eq, decide_eq_false_iff_not, Bool.not_true, Bool.not_false, Bool.and_true, Bool.true_and, Bool.and_false, Bool.false_and, gs_at, gs_no, oI_n, oI_s, c1, Option.isSome_some, h0, k1]
        · by_cases h1 : k = 1
          · simp (disch := omega) only [l_0, l_1, l_2, l_3, l_4, l_5, l_6, l_7, l_8, l_9, l_10, l_11, l_12, l_13, l_14, l_16, l_20, l_21, l_23, l_24, l_30, l_32, l_40, l_41, l_44, l_48, l_57, l_59, l_60, l_63, l_64, l_80, l_84, l_96, l_97, l_99, l_120, l_122, l_127, l_200, l_240, l_255, l_840, l_999, l_1000, l_1001, l_2400, l_3064, l_9999, l_10000, l_13849, l_16383, l_25173, l_65535, l_65536, l_99999, l_1000000000, neg_nI, pk_mul, nI_add, nI_subL, tn_nI, inb_t, grd_true, bnd_some, elS_l, elS_r, nI_ltI, nI_leI, nI_inj, fa_and, fa_or, m1_eq, eq_m1, m1_lt, m1_le, lt_m1, le_m1, m1_lt0, up2_at, up2_no, ite_true, ite_false, if_true, if_false, Bool.false_eq_true, reduceIte, reduceCtorEq, not_true_eq_false, not_false_eq_true, eq_self, decide_true, decide_false, le_tt, le_ff, lt_tt, lt_ff, eq_ff, and_true, true_and, and_false, false_and, or_true, true_or, or_false, false_or, ne_eq, decide_eq_true_eq, decide_eq_false_iff_not, Bool.not_true, Bool.not_false, Bool.and_true, Bool.true_and, Bool.and_false, Bool.false_and, gs_at, gs_no, oI_n, oI_s, c1, Option.isSome_some, h1, k2]
          · simp (disch := omega) only [l_0, l_1, l_2, l_3, l_4, l_5, l_6, l_7, l_8, l_9, l_10, l_11, l_12, l_13, l_14, l_16, l_20, l_21, l_23, l_24, l_30, l_32, l_40, l_41, l_44, l_48, l_57, l_59, l_60, l_63, l_64, l_80, l_84, l_96, l_97, l_99, l_120, l_122, l_127, l_200, l_240, l_255, l_840, l_999, l_1000, l_1001, l_2400, l_3064, l_9999, l_10000, l_13849, l_16383, l_25173, l_65535, l_65536, l_99999, l_1000000000, neg_nI, pk_mul, nI_add, nI_subL, tn_nI, inb_t, grd_true, bnd_some, elS_l, elS_r, nI_ltI, nI_leI, nI_inj, fa_and, fa_or, m1_eq, eq_m1, m1_lt, m1_le, lt_m1, le_m1, m1_lt0, up2_at, up2_no, ite_true, ite_false, if_true, if_false, Bool.false_eq_true, reduceIte, reduceCtorEq, not_true_eq_false, not_false_eq_true, eq_self, decide_true, decide_false, le_tt, le_ff, lt_tt, lt_ff, eq_ff, and_true, true_and, and_false, false_and, or_true, true_or, or_false, false_or, ne_eq, decide_eq_true_eq, decide_eq_false_iff_not, Bool.not_true, Bool.not_false, Bool.and_true, Bool.true_and, Bool.and_false, Bool.false_and, gs_at, gs_no, oI_n, oI_s, c1, Option.isSome_some, h0, h1, k3]
  · have hx' := ts_nt hx
    refine ⟨ng 1, fun M hS hA => TC.id hS hA ?_, fun M h hF => TM.id hF ?_⟩
    · unfold Fg_found
      rw [Fg_isWish_e (hS.1.1.1 0 (by omega)) (by omega), bnd_some]
      cases hw : (plB (g 0) x y && rg z 1 64) with
      | false => rfl
      | true =>
        rw [hw, Bool.true_and] at hx'
        rw [Fg_isRule_e]
        cases hu : inb u 4 with
        | false => rfl
        | true =>
          rw [hu, Bool.true_and] at hx'
          rcases i32c w with ⟨k, hk, rfl⟩ | h
          · rw [rg_n hk] at hx'
            have := of_decide_eq_false hx'
            have : 2 < k := by omega
            simp (disch := omega) only [l_0, l_1, l_2, l_3, l_4, l_5, l_6, l_7, l_8, l_9, l_10, l_11, l_12, l_13, l_14, l_16, l_20, l_21, l_23, l_24, l_30, l_32, l_40, l_41, l_44, l_48, l_57, l_59, l_60, l_63, l_64, l_80, l_84, l_96, l_97, l_99, l_120, l_122, l_127, l_200, l_240, l_255, l_840, l_999, l_1000, l_1001, l_2400, l_3064, l_9999, l_10000, l_13849, l_16383, l_25173, l_65535, l_65536, l_99999, l_1000000000, neg_nI, pk_mul, nI_add, nI_subL, tn_nI, inb_t, grd_true, bnd_some, elS_l, elS_r, nI_ltI, nI_leI, nI_inj, fa_and, fa_or, m1_eq, eq_m1, m1_lt, m1_le, lt_m1, le_m1, m1_lt0, up2_at, up2_no, ite_true, ite_false, if_true, if_false, Bool.false_eq_true, reduceIte, reduceCtorEq, not_true_eq_false, not_false_eq_true, eq_self, decide_true, decide_false, le_tt, le_ff, lt_tt, lt_ff, eq_ff, and_true, true_and, and_false, false_and, or_true, true_or, or_false, false_or, ne_eq, decide_eq_true_eq, decide_eq_false_iff_not, Bool.not_true, Bool.not_false, Bool.and_true, Bool.true_and, Bool.and_false, Bool.false_and, gs_at, gs_no, oI_n, oI_s]
          · simp (disch := omega) only [l_0, l_1, l_2, l_3, l_4, l_5, l_6, l_7, l_8, l_9, l_10, l_11, l_12, l_13, l_14, l_16, l_20, l_21, l_23, l_24, l_30, l_32, l_40, l_41, l_44, l_48, l_57, l_59, l_60, l_63, l_64, l_80, l_84, l_96, l_97, l_99, l_120, l_122, l_127, l_200, l_240, l_255, l_840, l_999, l_1000, l_1001, l_2400, l_3064, l_9999, l_10000, l_13849, l_16383, l_25173, l_65535, l_65536, l_99999, l_1000000000, neg_nI, pk_mul, nI_add, nI_subL, tn_nI, inb_t, grd_true, bnd_some, elS_l, elS_r, nI_ltI, nI_leI, nI_inj, fa_and, fa_or, m1_eq, eq_m1, m1_lt, m1_le, lt_m1, le_m1, m1_lt0, up2_at, up2_no, ite_true, ite_false, if_true, if_false, Bool.false_eq_true, reduceIte, reduceCtorEq, not_true_eq_false, not_false_eq_true, eq_self, decide_true, decide_false, le_tt, le_ff, lt_tt, lt_ff, eq_ff, and_true, true_and, and_false, false_and, or_true, true_or, or_false, false_or, ne_eq, decide_eq_true_eq, decide_eq_false_iff_not, Bool.not_true, Bool.not_false, Bool.and_true, Bool.true_and, Bool.and_false, Bool.false_and, gs_at, gs_no, oI_n, oI_s, xlt h]
    · unfold Fm_found
      rw [Fm_isAsked_e (hF.lo (by omega)) (by omega), bnd_some]
      cases hw : (plB (g 0) x y && rg z 1 64 && inb u 4) with
      | false => rfl
      | true =>
        rw [hw, Bool.true_and] at hx'
        rw [l_0, l_2, Fm_in_x (by decide) (by decide), hx']
        rfl
