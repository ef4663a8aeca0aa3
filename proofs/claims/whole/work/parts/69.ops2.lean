/-! calls: feed, check, count -/
theorem by_ex (x : Int32) : ∃ m, m < 256 ∧ x &&& nI 255 = nI m := by
  obtain ⟨k, _, rfl⟩ := wb_of32 x
  exact ⟨k % 2 ^ 8, Nat.mod_lt _ (by decide), fa_mask k 8⟩
def byN (v : Int32) (k : Nat) : Nat := tn (ushr v (nI (8 * k)) &&& nI 255)
theorem by_e (v : Int32) (k : Nat) : ushr v (nI (8 * k)) &&& nI 255 = nI (byN v k) := by
  obtain ⟨m, h1, h2⟩ := by_ex (ushr v (nI (8 * k)))
  unfold byN
  rw [h2, tn_nI (by omega)]
theorem by_lt (v : Int32) (k : Nat) : byN v k < 256 := by
  obtain ⟨m, h1, h2⟩ := by_ex (ushr v (nI (8 * k)))
  unfold byN
  rw [h2, tn_nI (by omega)]
  exact h1
theorem sh_same (x : Int32) {n : Nat} (hn : n ≤ 24) : x >>> (nI n &&& 31) &&& nI 255 = ushr x (nI n) &&& nI 255 := b_ext fun i hi => by
  rw [b_and, b_and, show (nI 255) = (255 : Int32) from rfl, b_255]
  by_cases c : i < 8
  · rw [b_sshr n (by omega) x hi, if_pos (by omega)]
    unfold ushr
    rw [b_ushr n (by omega) x i]
  · rw [decide_eq_false c, Bool.and_false, Bool.and_false]
theorem nar_b (y : Int32) : vp_nar .byte y = y.toInt8.toInt32 := rfl
theorem bp_b' (x : Int32) : x.toInt8.toInt32 &&& nI 255 = x &&& nI 255 := bp_b x
def apT (b : Nat → Nat) (t : Nat) (v : Int32) : Nat → Nat := gs (gs (gs (gs b t (byN v 3)) (t + 1) (byN v 2)) (t + 2) (byN v 1)) (t + 3) (byN v 0)
theorem apT_lt {b : Nat → Nat} {t : Nat} {v : Int32} (h : ∀ i, b i < 256) : ∀ i, apT b t v i < 256 := fun i => by
  have h0 := by_lt v 0
  have h1 := by_lt v 1
  have h2 := by_lt v 2
  have h3 := by_lt v 3
  have h4 := h i
  unfold apT gs
  split
  · exact h0
  · split
    · exact h1
    · split
      · exact h2
      · split
        · exact h3
        · exact h4
def TPc (M : Mm) (t : Nat) (b : Nat → Nat) : Prop := M.1 1 1 = nI t ∧ ∀ i, i < 240 → M.1 2 i = nI (b i)
def TPm (M : Mm) (t : Nat) (b : Nat → Nat) : Prop := M.1 94 4 = nI t ∧ ∀ i, i < 240 → M.1 97 i &&& nI 255 = nI (b i)
theorem Tp_step {M : Mm} {t k : Nat} {b : Nat → Nat} {v : Int32} (h : TPc M t b) (ht : t < 240) (hk : k < 4) : ∃ M', Tp_append_b3 v (nI (8 * k)) M = some (.inl (nI (8 * k) + ng 8, M')) ∧ TPc M' (t + 1) (gs b t (byN v k)) := by
  obtain ⟨h1, h2⟩ := h
  refine ⟨(up2 (up2 M.1 2 t (nI (byN v k))) 1 1 (nI (t + 1)), M.2), ?_, ?_, fun i hi => ?_⟩
  · unfold Tp_append_b3
    simp (disch := omega) only [l_0, l_1, l_2, l_3, l_4, l_5, l_6, l_7, l_8, l_9, l_10, l_11, l_12, l_13, l_14, l_16, l_20, l_21, l_23, l_24, l_30, l_32, l_40, l_41, l_44, l_48, l_57, l_59, l_60, l_63, l_64, l_80, l_84, l_96, l_97, l_99, l_120, l_122, l_127, l_200, l_240, l_255, l_840, l_999, l_1000, l_1001, l_2400, l_3064, l_9999, l_10000, l_13849, l_16383, l_25173, l_65535, l_65536, l_99999, l_1000000000, neg_nI, pk_mul, nI_add, nI_subL, tn_nI, inb_t, grd_true, bnd_some, elS_l, elS_r, nI_ltI, nI_leI, nI_inj, fa_and, fa_or, m1_eq, eq_m1, m1_lt, m1_le, lt_m1, le_m1, m1_lt0, up2_at, up2_no, ite_true, ite_false, if_true, if_false, Bool.false_eq_true, reduceIte, reduceCtorEq, not_true_eq_false, not_false_eq_true, eq_self, decide_true, decide_false, le_tt, le_ff, lt_tt, lt_ff, eq_ff, and_true, true_and, and_false, false_and, or_true, true_or, or_false, false_or, ne_eq, decide_eq_true_eq, decide_eq_false_iff_not, Bool.not_true, Bool.not_false, Bool.and_true, Bool.true_and, Bool.and_false, Bool.false_and, gs_at, gs_no, oI_n, oI_s, h1, by_e]
  · show up2 (up2 M.1 2 t (nI (byN v k))) 1 1 (nI (t + 1)) 1 1 = _; exact up2_at
  · show up2 (up2 M.1 2 t (nI (byN v k))) 1 1 (nI (t + 1)) 2 i = _
    rw [up2_no (by omega)]
    by_cases c : i = t
    · subst c; rw [up2_at, gs_at]
    · rw [up2_no (by omega), gs_no c]; exact h2 i hi
theorem Tp_append_e {M : Mm} {t n : Nat} {b : Nat → Nat} {v : Int32} (h : TPc M t b) (ht : t + 4 ≤ 240) (hn : 10 < n) : ∃ M', Tp_append n v M = some M' ∧ TPc M' (t + 4) (apT b t v) := by
  obtain ⟨M1, a1, a2⟩ := Tp_step (v := v) h (k := 3) (by omega) (by omega)
  obtain ⟨M2, b1, b2⟩ := Tp_step (v := v) a2 (k := 2) (by omega) (by omega)
  obtain ⟨M3, c1, c2⟩ := Tp_step (v := v) b2 (k := 1) (by omega) (by omega)
  obtain ⟨M4, d1, d2⟩ := Tp_step (v := v) c2 (k := 0) (by omega) (by omega)
  refine ⟨M4, ?_, d2⟩
  have e5 : Tp_append_b3 v (nI (8 * 0) + ng 8) M4 = some (.inr M4) := by
    unfold Tp_append_b3
    rw [if_pos (by decide)]
  unfold Tp_append
  refine bnd_e (a := M4) ?_
  rw [loop_inl (s' := (nI (8 * 2), M1)) a1 (by omega), loop_inl (s' := (nI (8 * 1), M2)) b1 (by omega), loop_inl (s' := (nI (8 * 0), M3)) c1 (by omega), loop_inl (s' := (nI (8 * 0) + ng 8, M4)) d1 (by omega), loop_inr (r := M4) e5 (by omega)]
theorem Ty_step {M : Mm} {t k : Nat} {b : Nat → Nat} {v : Int32} (h : TPm M t b) (ht : t < 240) (hk : k < 4) : ∃ M', Fm_types_b2 v (nI k) M = some (.inl (nI k + ng 1, M')) ∧ TPm M' (t + 1) (gs b t (byN v k)) := by
  obtain ⟨h1, h2⟩ := h
  refine ⟨(up2 (up2 M.1 97 t (vp_nar .byte ((v >>> (nI (8 * k) &&& 31)).toInt8.toInt32))) 94 4 (nI (t + 1)), M.2), ?_, ?_, fun i hi => ?_⟩
  · unfold Fm_types_b2
    simp (disch := omega) only [l_0, l_1, l_2, l_3, l_4, l_5, l_6, l_7, l_8, l_9, l_10, l_11, l_12, l_13, l_14, l_16, l_20, l_21, l_23, l_24, l_30, l_32, l_40, l_41, l_44, l_48, l_57, l_59, l_60, l_63, l_64, l_80, l_84, l_96, l_97, l_99, l_120, l_122, l_127, l_200, l_240, l_255, l_840, l_999, l_1000, l_1001, l_2400, l_3064, l_9999, l_10000, l_13849, l_16383, l_25173, l_65535, l_65536, l_99999, l_1000000000, neg_nI, pk_mul, nI_add, nI_subL, tn_nI, inb_t, grd_true, bnd_some, elS_l, elS_r, nI_ltI, nI_leI, nI_inj, fa_and, fa_or, m1_eq, eq_m1, m1_lt, m1_le, lt_m1, le_m1, m1_lt0, up2_at, up2_no, ite_true, ite_false, if_true, if_false, Bool.false_eq_true, reduceIte, reduceCtorEq, not_true_eq_false, not_false_eq_true, eq_self, decide_true, decide_false, le_tt, le_ff, lt_tt, lt_ff, eq_ff, and_true, true_and, and_false, false_and, or_true, true_or, or_false, false_or, ne_eq, decide_eq_true_eq, decide_eq_false_iff_not, Bool.not_true, Bool.not_false, Bool.and_true, Bool.true_and, Bool.and_false, Bool.false_and, gs_at, gs_no, oI_n, oI_s, h1]
  · show up2 (up2 M.1 97 t (vp_nar .byte ((v >>> (nI (8 * k) &&& 31)).toInt8.toInt32))) 94 4 (nI (t + 1)) 94 4 = _; exact up2_at
  · show up2 (up2 M.1 97 t (vp_nar .byte ((v >>> (nI (8 * k) &&& 31)).toInt8.toInt32))) 94 4 (nI (t + 1)) 97 i &&& nI 255 = _
    rw [up2_no (by omega)]
    by_cases c : i = t
    · subst c
      rw [up2_at, gs_at, nar_b, bp_b', bp_b', sh_same v (by omega), by_e]
    · rw [up2_no (by omega), gs_no c]; exact h2 i hi
theorem Fm_types_e {M : Mm} {t n : Nat} {b : Nat → Nat} {v : Int32} (h : TPm M t b) (ht : t + 4 ≤ 240) (hn : 10 < n) : ∃ M', Fm_types n v M = some M' ∧ TPm M' (t + 4) (apT b t v) := by
  obtain ⟨M1, a1, a2⟩ := Ty_step (v := v) h (k := 3) (by omega) (by omega)
  obtain ⟨M2, b1, b2⟩ := Ty_step (v := v) a2 (k := 2) (by omega) (by omega)
  obtain ⟨M3, c1, c2⟩ := Ty_step (v := v) b2 (k := 1) (by omega) (by omega)
  obtain ⟨M4, d1, d2⟩ := Ty_step (v := v) c2 (k := 0) (by omega) (by omega)
  refine ⟨M4, ?_, d2⟩
  have e5 : Fm_types_b2 v (nI 0 + ng 1) M4 = some (.inr M4) := by
    unfold Fm_types_b2
    rw [if_pos (by decide)]
  unfold Fm_types
  refine bnd_e (a := M4) ?_
  rw [loop_inl (s' := (nI 2, M1)) a1 (by omega), loop_inl (s' := (nI 1, M2)) b1 (by omega), loop_inl (s' := (nI 0, M3)) c1 (by omega), loop_inl (s' := (nI 0 + ng 1, M4)) d1 (by omega), loop_inr (r := M4) e5 (by omega)]
theorem op_feed {n : Nat} (hn : 10 < n) (v1 v2 v3 v4 v5 : Int32) : OK2 (Fg_feed n v1 v2 v3 v4 v5) (Fm_feed n v1 v2 v3 v4 v5) := by
  intro A M hv hc hm
  have hv' := hv
  obtain ⟨hg, hk, ht, hb⟩ := hv
  obtain ⟨g, k, t, b⟩ := A
  simp only at ht hb
  by_cases c : t + 20 ≤ 240
  · have htp : TPc M t b := hc.2.1
    obtain ⟨M1, a1, a2⟩ := Tp_append_e (v := v1) (n := n) htp (by omega) hn
    obtain ⟨M2, b1, b2⟩ := Tp_append_e (v := v2) (n := n) a2 (by omega) hn
    obtain ⟨M3, c1, c2⟩ := Tp_append_e (v := v3) (n := n) b2 (by omega) hn
    obtain ⟨M4, d1, d2⟩ := Tp_append_e (v := v4) (n := n) c2 (by omega) hn
    obtain ⟨M5, e1, e2⟩ := Tp_append_e (v := v5) (n := n) d2 (by omega) hn
    have hr : Fg_feed n v1 v2 v3 v4 v5 M = some (nI (t + 20), M5) := by
      unfold Fg_feed
      simp (disch := omega) only [l_0, l_1, l_2, l_3, l_4, l_5, l_6, l_7, l_8, l_9, l_10, l_11, l_12, l_13, l_14, l_16, l_20, l_21, l_23, l_24, l_30, l_32, l_40, l_41, l_44, l_48, l_57, l_59, l_60, l_63, l_64, l_80, l_84, l_96, l_97, l_99, l_120, l_122, l_127, l_200, l_240, l_255, l_840, l_999, l_1000, l_1001, l_2400, l_3064, l_9999, l_10000, l_13849, l_16383, l_25173, l_65535, l_65536, l_99999, l_1000000000, neg_nI, pk_mul, nI_add, nI_subL, tn_nI, inb_t, grd_true, bnd_some, elS_l, elS_r, nI_ltI, nI_leI, nI_inj, fa_and, fa_or, m1_eq, eq_m1, m1_lt, m1_le, lt_m1, le_m1, m1_lt0, up2_at, up2_no, ite_true, ite_false, if_true, if_false, Bool.false_eq_true, reduceIte, reduceCtorEq, not_true_eq_false, not_false_eq_true, eq_self, decide_true, decide_false, le_tt, le_ff, lt_tt, lt_ff, eq_ff, and_true, true_and, and_false, false_and, or_true, true_or, or_false, false_or, ne_eq, decide_eq_true_eq, decide_eq_false_iff_not, Bool.not_true, Bool.not_false, Bool.and_true, Bool.true_and, Bool.and_false, Bool.false_and, gs_at, gs_no, oI_n, oI_s, show M.1 1 1 = nI t from hc.2.1.1, a1, b1, c1, d1, e1, e2.1]
    have hf := fr_Fg_feed hr
    have hm5 := hm.fr hf (fun c j q => by unfold fp_Fg_feed at q; omega)
    have htm : TPm M5 t b := hm5.2
    obtain ⟨N1, p1, p2⟩ := Fm_types_e (v := v1) (n := n) htm (by omega) hn
    obtain ⟨N2, q1, q2⟩ := Fm_types_e (v := v2) (n := n) p2 (by omega) hn
    obtain ⟨N3, r1, r2⟩ := Fm_types_e (v := v3) (n := n) q2 (by omega) hn
    obtain ⟨N4, s1, s2⟩ := Fm_types_e (v := v4) (n := n) r2 (by omega) hn
    obtain ⟨N5, t1, t2⟩ := Fm_types_e (v := v5) (n := n) s2 (by omega) hn
    have hr2 : Fm_feed n v1 v2 v3 v4 v5 M5 = some (nI (t + 20), N5) := by
      unfold Fm_feed
      simp (disch := omega) only [l_0, l_1, l_2, l_3, l_4, l_5, l_6, l_7, l_8, l_9, l_10, l_11, l_12, l_13, l_14, l_16, l_20, l_21, l_23, l_24, l_30, l_32, l_40, l_41, l_44, l_48, l_57, l_59, l_60, l_63, l_64, l_80, l_84, l_96, l_97, l_99, l_120, l_122, l_127, l_200, l_240, l_255, l_840, l_999, l_1000, l_1001, l_2400, l_3064, l_9999, l_10000, l_13849, l_16383, l_25173, l_65535, l_65536, l_99999, l_1000000000, neg_nI, pk_mul, nI_add, nI_subL, tn_nI, inb_t, grd_true, bnd_some, elS_l, elS_r, nI_ltI, nI_leI, nI_inj, fa_and, fa_or, m1_eq, eq_m1, m1_lt, m1_le, lt_m1, le_m1, m1_lt0, up2_at, up2_no, ite_true, ite_false, if_true, if_false, Bool.false_eq_true, reduceIte, reduceCtorEq, not_true_eq_false, not_false_eq_true, eq_self, decide_true, decide_false, le_tt, le_ff, lt_tt, lt_ff, eq_ff, and_true, true_and, and_false, false_and, or_true, true_or, or_false, false_or, ne_eq, decide_eq_true_eq, decide_eq_false_iff_not, Bool.not_true, Bool.not_false, Bool.and_true, Bool.true_and, Bool.and_false, Bool.false_and, gs_at, gs_no, oI_n, oI_s, show M5.1 94 4 = nI t from hm5.2.1, p1, q1, r1, s1, t1, t2.1]
    have hf2 := fr_Fm_feed hr2
    refine ⟨nI (t + 20), M5, N5, (g, k, t + 20, apT (apT (apT (apT (apT b t v1) (t + 4) v2) (t + 4 + 4) v3) (t + 4 + 4 + 4) v4) (t + 4 + 4 + 4 + 4) v5), hr, hr2, ⟨hg, hk, c, apT_lt (apT_lt (apT_lt (apT_lt (apT_lt hb))))⟩, ?_, ?_⟩
    · refine KC.fr (M := M5) ⟨⟨hc.1.1.fr hf (fun k j hk => by unfold fp_Fg_feed; omega), hc.1.2.fr hf (fun j => by unfold fp_Fg_feed; omega)⟩, e2, hc.2.2.fr hf (fun c j hc => by unfold fp_Fg_feed; omega)⟩ hf2 (fun c j q => by unfold fp_Fm_feed at q; omega)
    · obtain ⟨⟨h0, m1, m2⟩, m3⟩ := hm5
      exact ⟨⟨h0, m1.fr hf2 (fun j => by unfold fp_Fm_feed; omega), m2.fr hf2 (by unfold fp_Fm_feed; omega) (fun _ _ => rfl)⟩, t2⟩
  · refine ⟨ng 1, M, M, (g, k, t, b), ?_, ?_, hv', hc, hm⟩
    · unfold Fg_feed
      simp (disch := omega) only [l_0, l_1, l_2, l_3, l_4, l_5, l_6, l_7, l_8, l_9, l_10, l_11, l_12, l_13, l_14, l_16, l_20, l_21, l_23, l_24, l_30, l_32, l_40, l_41, l_44, l_48, l_57, l_59, l_60, l_63, l_64, l_80, l_84, l_96, l_97, l_99, l_120, l_122, l_127, l_200, l_240, l_255, l_840, l_999, l_1000, l_1001, l_2400, l_3064, l_9999, l_10000, l_13849, l_16383, l_25173, l_65535, l_65536, l_99999, l_1000000000, neg_nI, pk_mul, nI_add, nI_subL, tn_nI, inb_t, grd_true, bnd_some, elS_l, elS_r, nI_ltI, nI_leI, nI_inj, fa_and, fa_or, m1_eq, eq_m1, m1_lt, m1_le, lt_m1, le_m1, m1_lt0, up2_at, up2_no, ite_true, ite_false, if_true, if_false, Bool.false_eq_true, reduceIte, reduceCtorEq, not_true_eq_false, not_false_eq_true, eq_self, decide_true, decide_false, le_tt, le_ff, lt_tt, lt_ff, eq_ff, and_true, true_and, and_false, false_and, or_true, true_or, or_false, false_or, ne_eq, decide_eq_true_eq, decide_eq_false_iff_not, Bool.not_true, Bool.not_false, Bool.and_true, Bool.true_and, Bool.and_false, Bool.false_and, gs_at, gs_no, oI_n, oI_s, show M.1 1 1 = nI t from hc.2.1.1]
    · unfold Fm_feed
      simp (disch := omega) only [l_0, l_1, l_2, l_3, l_4, l_5, l_6, l_7, l_8, l_9, l_10, l_11, l_12, l_13, l_14, l_16, l_20, l_21, l_23, l_24, l_30, l_32, l_40, l_41, l_44, l_48, l_57, l_59, l_60, l_63, l_64, l_80, l_84, l_96, l_97, l_99, l_120, l_122, l_127, l_200, l_240, l_255, l_840, l_999, l_1000, l_1001, l_2400, l_3064, l_9999, l_10000, l_13849, l_16383, l_25173, l_65535, l_65536, l_99999, l_1000000000, neg_nI, pk_mul, nI_add, nI_subL, tn_nI, inb_t, grd_true, bnd_some, elS_l, elS_r, nI_ltI, nI_leI, nI_inj, fa_and, fa_or, m1_eq, eq_m1, m1_lt, m1_le, lt_m1, le_m1, m1_lt0, up2_at, up2_no, ite_true, ite_false, if_true, if_false, Bool.false_eq_true, reduceIte, reduceCtorEq, not_true_eq_false, not_false_eq_true, eq_self, decide_true, decide_false, le_tt, le_ff, lt_tt, lt_ff, eq_ff, and_true, true_and, and_false, false_and, or_true, true_or, or_false, false_or, ne_eq, decide_eq_true_eq, decide_eq_false_iff_not, Bool.not_true, Bool.not_false, Bool.and_true, Bool.true_and, Bool.and_false, Bool.false_and, gs_at, gs_no, oI_n, oI_s, show M.1 94 4 = nI t from hm.2.1]
/-- down by one -/
def dI (k : Nat) : Int32 := match k with | 0 => ng 1 | k + 1 => nI k
theorem dI_a (k : Nat) : nI k + ng 1 = dI k := by
  cases k with
  | zero => rfl
  | succ k => exact nI_addm (by omega)
theorem dI_s (k : Nat) : nI k - nI 1 = dI k := by
  cases k with
  | zero => rfl
  | succ k => exact nI_subL (by omega)
def fbN (g : Nat → Nat) (i : Nat) : Nat := if g (64 + 10 * i + 3) = 0 then g (64 + 10 * i + 4) else 255
def ckP (g b : Nat → Nat) (i : Nat) : Bool := decide (g 7 ≤ i ∨ b i ≠ fbN g i)
theorem op_check {n : Nat} (hn : 100 < n) (x : Int32) : OK2 (Fg_check n x) (Fm_check n x) := by
  intro A M hv hc hm
  have hv' := hv
  obtain ⟨hg, hk, ht, hb⟩ := hv
  obtain ⟨g, k, t, b⟩ := A
  simp only at ht hb hg
  have hG := hg.1.1
  have h40 := hg.2.2
  have hb1 := hg.1.2.1.1
  have hfb : ∀ i, i < g 7 → fbN g i < 256 := fun i hi => by
    unfold fbN
    split
    · next q => have := hg.1.2.2.2.1 i hi q; omega
    · omega
  have t1 : M.1 1 1 = nI t := hc.2.1.1
  have t2 : M.1 94 4 = nI t := hm.2.1
  by_cases hx : ∃ N, N ≤ 40 ∧ N ≤ t ∧ x = nI N
  · obtain ⟨N, hN, hNt, rfl⟩ := hx
    have hr : Fg_check n (nI N) M = some (oI (fstP (ckP g b) 0 N), (up2 M.1 1 1 (nI 0), M.2)) := by
      have hf : Fr (fun c j => c = 1) M (up2 M.1 1 1 (nI 0), M.2) := Fr.I Fr.rf rfl
      have hS : SV (up2 M.1 1 1 (nI 0), M.2) 18 g := hc.1.1.fr hf (fun k j hk => by omega)
      have hfby : ∀ i, i < g 7 → Fg_firstByte (nI i) (up2 M.1 1 1 (nI 0), M.2) = some (nI (fbN g i)) := fun i hi => by
        unfold Fg_firstByte fbN
        rw [St_isLit_e hG h40 hS]
        by_cases q : g (64 + 10 * i + 3) = 0
        · have : ltB g (nI i) = true := (lt_iff h40).mpr ⟨i, hi, rfl, q⟩
          have c := ((hS.2.2.1 i hi).2.2.2.2.2 q).2.1
          rw [if_pos q, this]
          simp (disch := omega) only [l_0, l_1, l_2, l_3, l_4, l_5, l_6, l_7, l_8, l_9, l_10, l_11, l_12, l_13, l_14, l_16, l_20, l_21, l_23, l_24, l_30, l_32, l_40, l_41, l_44, l_48, l_57, l_59, l_60, l_63, l_64, l_80, l_84, l_96, l_97, l_99, l_120, l_122, l_127, l_200, l_240, l_255, l_840, l_999, l_1000, l_1001, l_2400, l_3064, l_9999, l_10000, l_13849, l_16383, l_25173, l_65535, l_65536, l_99999, l_1000000000, neg_nI, pk_mul, nI_add, nI_subL, tn_nI, inb_t, grd_true, bnd_some, elS_l, elS_r, nI_ltI, nI_leI, nI_inj, fa_and, fa_or, m1_eq, eq_m1, m1_lt, m1_le, lt_m1, le_m1, m1_lt0, up2_at, up2_no, ite_true, ite_false, if_true, if_false, Bool.false_eq_true, reduceIte, reduceCtorEq, not_true_eq_false, not_false_eq_true, eq_self, decide_true, decide_false, le_tt, le_ff, lt_tt, lt_ff, eq_ff, and_true, true_and, and_false, false_and, or_true, true_or, or_false, false_or, ne_eq, decide_eq_true_eq, decide_eq_false_iff_not, Bool.not_true, Bool.not_false, Bool.and_true, Bool.true_and, Bool.and_false, Bool.false_and, gs_at, gs_no, oI_n, oI_s, show M.1 31 i = nI (g (64 + 10 * i + 4)) from ((hc.1.1.2.2.1 i hi).2.2.2.2.2 q).2.1]
        · have : ltB g (nI i) = false := by
            rw [← Bool.not_eq_true, lt_iff h40]
            rintro ⟨d, h1, h2, h3⟩
            rw [← (nI_inj (by omega) (by omega)).mp h2] at h3
            exact q h3
          rw [if_neg q, this]
          rfl
      have h4 : M.1 18 4 = nI (g 7) := hc.1.1.2.1
      have hl := loop_fst (body := fun s1 : Int32 => Fg_check_b34 (nI N) (up2 M.1 1 1 (nI 0), M.2) s1) (fun i => nI i) (ckP g b) N (.inl ()) (fun i => .inr (nI i, (up2 M.1 1 1 (nI 0), M.2))) (fun i hi hp => by
          have hp' := of_decide_eq_false hp
          have hi7 : i < g 7 := by omega
          have hbb : b i = fbN g i := by
            rcases Nat.decEq (b i) (fbN g i) with q | q
            · exact absurd (.inr q) hp'
            · exact q
          have h2i : M.1 2 i = nI (b i) := hc.2.1.2 i (by omega)
          unfold Fg_check_b34
          simp (disch := omega) only [l_0, l_1, l_2, l_3, l_4, l_5, l_6, l_7, l_8, l_9, l_10, l_11, l_12, l_13, l_14, l_16, l_20, l_21, l_23, l_24, l_30, l_32, l_40, l_41, l_44, l_48, l_57, l_59, l_60, l_63, l_64, l_80, l_84, l_96, l_97, l_99, l_120, l_122, l_127, l_200, l_240, l_255, l_840, l_999, l_1000, l_1001, l_2400, l_3064, l_9999, l_10000, l_13849, l_16383, l_25173, l_65535, l_65536, l_99999, l_1000000000, neg_nI, pk_mul, nI_add, nI_subL, tn_nI, inb_t, grd_true, bnd_some, elS_l, elS_r, nI_ltI, nI_leI, nI_inj, fa_and, fa_or, m1_eq, eq_m1, m1_lt, m1_le, lt_m1, le_m1, m1_lt0, up2_at, up2_no, ite_true, ite_false, if_true, if_false, Bool.false_eq_true, reduceIte, reduceCtorEq, not_true_eq_false, not_false_eq_true, eq_self, decide_true, decide_false, le_tt, le_ff, lt_tt, lt_ff, eq_ff, and_true, true_and, and_false, false_and, or_true, true_or, or_false, false_or, ne_eq, decide_eq_true_eq, decide_eq_false_iff_not, Bool.not_true, Bool.not_false, Bool.and_true, Bool.true_and, Bool.and_false, Bool.false_and, gs_at, gs_no, oI_n, oI_s, h4, hfby i hi7, h2i, hbb]) (fun i hi hp => by
          have hp' := of_decide_eq_true hp
          have h2i : M.1 2 i = nI (b i) := hc.2.1.2 i (by omega)
          have := hb i
          unfold Fg_check_b34
          by_cases hi7 : g 7 ≤ i
          · simp (disch := omega) only [l_0, l_1, l_2, l_3, l_4, l_5, l_6, l_7, l_8, l_9, l_10, l_11, l_12, l_13, l_14, l_16, l_20, l_21, l_23, l_24, l_30, l_32, l_40, l_41, l_44, l_48, l_57, l_59, l_60, l_63, l_64, l_80, l_84, l_96, l_97, l_99, l_120, l_122, l_127, l_200, l_240, l_255, l_840, l_999, l_1000, l_1001, l_2400, l_3064, l_9999, l_10000, l_13849, l_16383, l_25173, l_65535, l_65536, l_99999, l_1000000000, neg_nI, pk_mul, nI_add, nI_subL, tn_nI, inb_t, grd_true, bnd_some, elS_l, elS_r, nI_ltI, nI_leI, nI_inj, fa_and, fa_or, m1_eq, eq_m1, m1_lt, m1_le, lt_m1, le_m1, m1_lt0, up2_at, up2_no, ite_true, ite_false, if_true, if_false, Bool.false_eq_true, reduceIte, reduceCtorEq, not_true_eq_false, not_false_eq_true, eq_self, decide_true, decide_false, le_tt, le_ff, lt_tt, lt_ff, eq_ff, and_true, true_and, and_false, false_and, or_true, true_or, or_false, false_or, ne_eq, decide_eq_true_eq, decide_eq_false_iff_not, Bool.not_true, Bool.not_false, Bool.and_true, Bool.true_and, Bool.and_false, Bool.false_and, gs_at, gs_no, oI_n, oI_s, h4]
          · have hne : b i ≠ fbN g i := by
              rcases hp' with q | q
              · exact absurd q hi7
              · exact q
            have := hfb i (by omega)
            simp (disch := omega) only [l_0, l_1, l_2, l_3, l_4, l_5, l_6, l_7, l_8, l_9, l_10, l_11, l_12, l_13, l_14, l_16, l_20, l_21, l_23, l_24, l_30, l_32, l_40, l_41, l_44, l_48, l_57, l_59, l_60, l_63, l_64, l_80, l_84, l_96, l_97, l_99, l_120, l_122, l_127, l_200, l_240, l_255, l_840, l_999, l_1000, l_1001, l_2400, l_3064, l_9999, l_10000, l_13849, l_16383, l_25173, l_65535, l_65536, l_99999, l_1000000000, neg_nI, pk_mul, nI_add, nI_subL, tn_nI, inb_t, grd_true, bnd_some, elS_l, elS_r, nI_ltI, nI_leI, nI_inj, fa_and, fa_or, m1_eq, eq_m1, m1_lt, m1_le, lt_m1, le_m1, m1_lt0, up2_at, up2_no, ite_true, ite_false, if_true, if_false, Bool.false_eq_true, reduceIte, reduceCtorEq, not_true_eq_false, not_false_eq_true, eq_self, decide_true, decide_false, le_tt, le_ff, lt_tt, lt_ff, eq_ff, and_true, true_and, and_false, false_and, or_true, true_or, or_false, false_or, ne_eq, decide_eq_true_eq, decide_eq_false_iff_not, Bool.not_true, Bool.not_false, Bool.and_true, Bool.true_and, Bool.and_false, Bool.false_and, gs_at, gs_no, oI_n, oI_s, h4, hfby i (by omega), h2i, hne]) (by
          unfold Fg_check_b34
          simp (disch := omega) only [l_0, l_1, l_2, l_3, l_4, l_5, l_6, l_7, l_8, l_9, l_10, l_11, l_12, l_13, l_14, l_16, l_20, l_21, l_23, l_24, l_30, l_32, l_40, l_41, l_44, l_48, l_57, l_59, l_60, l_63, l_64, l_80, l_84, l_96, l_97, l_99, l_120, l_122, l_127, l_200, l_240, l_255, l_840, l_999, l_1000, l_1001, l_2400, l_3064, l_9999, l_10000, l_13849, l_16383, l_25173, l_65535, l_65536, l_99999, l_1000000000, neg_nI, pk_mul, nI_add, nI_subL, tn_nI, inb_t, grd_true, bnd_some, elS_l, elS_r, nI_ltI, nI_leI, nI_inj, fa_and, fa_or, m1_eq, eq_m1, m1_lt, m1_le, lt_m1, le_m1, m1_lt0, up2_at, up2_no, ite_true, ite_false, if_true, if_false, Bool.false_eq_true, reduceIte, reduceCtorEq, not_true_eq_false, not_false_eq_true, eq_self, decide_true, decide_false, le_tt, le_ff, lt_tt, lt_ff, eq_ff, and_true, true_and, and_false, false_and, or_true, true_or, or_false, false_or, ne_eq, decide_eq_true_eq, decide_eq_false_iff_not, Bool.not_true, Bool.not_false, Bool.and_true, Bool.true_and, Bool.and_false, Bool.false_and, gs_at, gs_no, oI_n, oI_s]) N 0 n (by omega) (by omega)
      unfold Fg_check
      rw [l_0]
      simp (disch := omega) only [l_0, l_1, l_2, l_3, l_4, l_5, l_6, l_7, l_8, l_9, l_10, l_11, l_12, l_13, l_14, l_16, l_20, l_21, l_23, l_24, l_30, l_32, l_40, l_41, l_44, l_48, l_57, l_59, l_60, l_63, l_64, l_80, l_84, l_96, l_97, l_99, l_120, l_122, l_127, l_200, l_240, l_255, l_840, l_999, l_1000, l_1001, l_2400, l_3064, l_9999, l_10000, l_13849, l_16383, l_25173, l_65535, l_65536, l_99999, l_1000000000, neg_nI, pk_mul, nI_add, nI_subL, tn_nI, inb_t, grd_true, bnd_some, elS_l, elS_r, nI_ltI, nI_leI, nI_inj, fa_and, fa_or, m1_eq, eq_m1, m1_lt, m1_le, lt_m1, le_m1, m1_lt0, up2_at, up2_no, ite_true, ite_false, if_true, if_false, Bool.false_eq_true, reduceIte, reduceCtorEq, not_true_eq_false, not_false_eq_true, eq_self, decide_true, decide_false, le_tt, le_ff, lt_tt, lt_ff, eq_ff, and_true, true_and, and_false, false_and, or_true, true_or, or_false, false_or, ne_eq, decide_eq_true_eq, decide_eq_false_iff_not, Bool.not_true, Bool.not_false, Bool.and_true, Bool.true_and, Bool.and_false, Bool.false_and, gs_at, gs_no, oI_n, oI_s, t1]
      rw [bnd_e hl]
      cases fstP (ckP g b) 0 N with
      | none => rfl
      | some j => rfl
    have hfr := fr_Fg_check hr
    have hm1 := hm.fr hfr (fun c j q => by unfold fp_Fg_check at q; omega)
    obtain ⟨⟨h0, m1', m2⟩, m3, m4⟩ := hm1
    have m1 : FK (up2 M.1 1 1 (nI 0), M.2) g h0 := m1'
    have hFR := m1.FR hG
    have hr2 : Fm_check n (nI N) (up2 M.1 1 1 (nI 0), M.2) = some (oI (fstP (ckP g b) 0 N), (up2 (up2 M.1 1 1 (nI 0)) 94 4 (nI 0), M.2)) := by
      have hl : ∃ r, loop (fun s1 : Int32 × Int32 => Fm_check_b27 (up2 M.1 1 1 (nI 0), M.2) s1.1 s1.2) n (ng 1, dI N) = some r ∧ r = oI (fstP (ckP g b) 0 N) := by
        refine loop_I0 (fun j (st : Int32 × Int32) => st = (oI (fstP (ckP g b) (N - j) j), dI (N - j))) _ N rfl (by omega) ?_ ?_
        · rintro j ⟨s1, s2⟩ hj e
          cases e
          left
          obtain ⟨i, hi⟩ : ∃ i, N - j = i + 1 := ⟨N - j - 1, by omega⟩
          have hi2 : N - (j + 1) = i := by omega
          refine ⟨_, ?_, rfl⟩
          rw [hi, hi2, ← dI_a i]
          show Fm_check_b27 _ (oI (fstP (ckP g b) (i + 1) j)) (nI i) = some (.inl (oI (fstP (ckP g b) i (j + 1)), nI i + ng 1))
          have h7 : M.1 95 7 = nI (g 7) := by
            obtain ⟨⟨hh, k1, k2⟩, k3⟩ := hm
            exact k1.lo (by omega)
          have h97 : M.1 97 i &&& nI 255 = nI (b i) := hm.2.2 i (by omega)
          have hbi := hb i
          have hfs : fstP (ckP g b) i (j + 1) = if ckP g b i = true then some i else fstP (ckP g b) (i + 1) j := rfl
          rw [hfs]
          unfold Fm_check_b27 Fm_check_j75 Fm_check_j72
          by_cases hi7 : g 7 ≤ i
          · have : ckP g b i = true := decide_eq_true (.inl hi7)
            rw [this]
            unfold Fm_check_j77
            simp (disch := omega) only [l_0, l_1, l_2, l_3, l_4, l_5, l_6, l_7, l_8, l_9, l_10, l_11, l_12, l_13, l_14, l_16, l_20, l_21, l_23, l_24, l_30, l_32, l_40, l_41, l_44, l_48, l_57, l_59, l_60, l_63, l_64, l_80, l_84, l_96, l_97, l_99, l_120, l_122, l_127, l_200, l_240, l_255, l_840, l_999, l_1000, l_1001, l_2400, l_3064, l_9999, l_10000, l_13849, l_16383, l_25173, l_65535, l_65536, l_99999, l_1000000000, neg_nI, pk_mul, nI_add, nI_subL, tn_nI, inb_t, grd_true, bnd_some, elS_l, elS_r, nI_ltI, nI_leI, nI_inj, fa_and, fa_or, m1_eq, eq_m1, m1_lt, m1_le, lt_m1, le_m1, m1_lt0, up2_at, up2_no, ite_true, ite_false, if_true, if_false, Bool.false_eq_true, reduceIte, reduceCtorEq, not_true_eq_false, not_false_eq_true, eq_self, decide_true, decide_false, le_tt, le_ff, lt_tt, lt_ff, eq_ff, and_true, true_and, and_false, false_and, or_true, true_or, or_false, false_or, ne_eq, decide_eq_true_eq, decide_eq_false_iff_not, Bool.not_true, Bool.not_false, Bool.and_true, Bool.true_and, Bool.and_false, Bool.false_and, gs_at, gs_no, oI_n, oI_s, h7]
          · have hil := Fm_isLit_e hFR hG (d := i) (by omega)
            have hof := m1.of (d := i) (w := 4) (by omega) (by omega) (by omega)
            have hfi := hfb i (by omega)
            have g4 := hG.1 (64 + 10 * i + 4)
            by_cases q : g (64 + 10 * i + 3) = 0
            · have e : fbN g i = g (64 + 10 * i + 4) := if_pos q
              by_cases q2 : b i = g (64 + 10 * i + 4)
              · have : ckP g b i = false := decide_eq_false (by omega)
                rw [this]
                unfold Fm_check_j77
                simp (disch := omega) only [l_0, l_1, l_2, l_3, l_4, l_5, l_6, l_7, l_8, l_9, l_10, l_11, l_12, l_13, l_14, l_16, l_20, l_21, l_23, l_24, l_30, l_32, l_40, l_41, l_44, l_48, l_57, l_59, l_60, l_63, l_64, l_80, l_84, l_96, l_97, l_99, l_120, l_122, l_127, l_200, l_240, l_255, l_840, l_999, l_1000, l_1001, l_2400, l_3064, l_9999, l_10000, l_13849, l_16383, l_25173, l_65535, l_65536, l_99999, l_1000000000, neg_nI, pk_mul, nI_add, nI_subL, tn_nI, inb_t, grd_true, bnd_some, elS_l, elS_r, nI_ltI, nI_leI, nI_inj, fa_and, fa_or, m1_eq, eq_m1, m1_lt, m1_le, lt_m1, le_m1, m1_lt0, up2_at, up2_no, ite_true, ite_false, if_true, if_false, Bool.false_eq_true, reduceIte, reduceCtorEq, not_true_eq_false, not_false_eq_true, eq_self, decide_true, decide_false, le_tt, le_ff, lt_tt, lt_ff, eq_ff, and_true, true_and, and_false, false_and, or_true, true_or, or_false, false_or, ne_eq, decide_eq_true_eq, decide_eq_false_iff_not, Bool.not_true, Bool.not_false, Bool.and_true, Bool.true_and, Bool.and_false, Bool.false_and, gs_at, gs_no, oI_n, oI_s, h7, hil, q, hof, h97, q2]
              · have : ckP g b i = true := decide_eq_true (by omega)
                rw [this]
                unfold Fm_check_j75 Fm_check_j77
                simp (disch := omega) only [l_0, l_1, l_2, l_3, l_4, l_5, l_6, l_7, l_8, l_9, l_10, l_11, l_12, l_13, l_14, l_16, l_20, l_21, l_23, l_24, l_30, l_32, l_40, l_41, l_44, l_48, l_57, l_59, l_60, l_63, l_64, l_80, l_84, l_96, l_97, l_99, l_120, l_122, l_127, l_200, l_240, l_255, l_840, l_999, l_1000, l_1001, l_2400, l_3064, l_9999, l_10000, l_13849, l_16383, l_25173, l_65535, l_65536, l_99999, l_1000000000, neg_nI, pk_mul, nI_add, nI_subL, tn_nI, inb_t, grd_true, bnd_some, elS_l, elS_r, nI_ltI, nI_leI, nI_inj, fa_and, fa_or, m1_eq, eq_m1, m1_lt, m1_le, lt_m1, le_m1, m1_lt0, up2_at, up2_no, ite_true, ite_false, if_true, if_false, Bool.false_eq_true, reduceIte, reduceCtorEq, not_true_eq_false, not_false_eq_true, eq_self, decide_true, decide_false, le_tt, le_ff, lt_tt, lt_ff, eq_ff, and_true, true_and, and_false, false_and, or_true, true_or, or_false, false_or, ne_eq, decide_eq_true_eq, decide_eq_false_iff_not, Bool.not_true, Bool.not_false, Bool.and_true, Bool.true_and, Bool.and_false, Bool.false_and, gs_at, gs_no, oI_n, oI_s, h7, hil, q, hof, h97, q2]
            · have e : fbN g i = 255 := if_neg q
              by_cases q2 : b i = 255
              · have : ckP g b i = false := decide_eq_false (by omega)
                rw [this]
                unfold Fm_check_j77
                simp (disch := omega) only [l_0, l_1, l_2, l_3, l_4, l_5, l_6, l_7, l_8, l_9, l_10, l_11, l_12, l_13, l_14, l_16, l_20, l_21, l_23, l_24, l_30, l_32, l_40, l_41, l_44, l_48, l_57, l_59, l_60, l_63, l_64, l_80, l_84, l_96, l_97, l_99, l_120, l_122, l_127, l_200, l_240, l_255, l_840, l_999, l_1000, l_1001, l_2400, l_3064, l_9999, l_10000, l_13849, l_16383, l_25173, l_65535, l_65536, l_99999, l_1000000000, neg_nI, pk_mul, nI_add, nI_subL, tn_nI, inb_t, grd_true, bnd_some, elS_l, elS_r, nI_ltI, nI_leI, nI_inj, fa_and, fa_or, m1_eq, eq_m1, m1_lt, m1_le, lt_m1, le_m1, m1_lt0, up2_at, up2_no, ite_true, ite_false, if_true, if_false, Bool.false_eq_true, reduceIte, reduceCtorEq, not_true_eq_false, not_false_eq_true, eq_self, decide_true, decide_false, le_tt, le_ff, lt_tt, lt_ff, eq_ff, and_true, true_and, and_false, false_and, or_true, true_or, or_false, false_or, ne_eq, decide_eq_true_eq, decide_eq_false_iff_not, Bool.not_true, Bool.not_false, Bool.and_true, Bool.true_and, Bool.and_false, Bool.false_and, gs_at, gs_no, oI_n, oI_s, h7, hil, q, hof, h97, q2]
              · have : ckP g b i = true := decide_eq_true (by omega)
                rw [this]
                unfold Fm_check_j75 Fm_check_j77
                simp (disch := omega) only [l_0, l_1, l_2, l_3, l_4, l_5, l_6, l_7, l_8, l_9, l_10, l_11, l_12, l_13, l_14, l_16, l_20, l_21, l_23, l_24, l_30, l_32, l_40, l_41, l_44, l_48, l_57, l_59, l_60, l_63, l_64, l_80, l_84, l_96, l_97, l_99, l_120, l_122, l_127, l_200, l_240, l_255, l_840, l_999, l_1000, l_1001, l_2400, l_3064, l_9999, l_10000, l_13849, l_16383, l_25173, l_65535, l_65536, l_99999, l_1000000000, neg_nI, pk_mul, nI_add, nI_subL, tn_nI, inb_t, grd_true, bnd_some, elS_l, elS_r, nI_ltI, nI_leI, nI_inj, fa_and, fa_or, m1_eq, eq_m1, m1_lt, m1_le, lt_m1, le_m1, m1_lt0, up2_at, up2_no, ite_true, ite_false, if_true, if_false, Bool.false_eq_true, reduceIte, reduceCtorEq, not_true_eq_false, not_false_eq_true, eq_self, decide_true, decide_false, le_tt, le_ff, lt_tt, lt_ff, eq_ff, and_true, true_and, and_false, false_and, or_true, true_or, or_false, false_or, ne_eq, decide_eq_true_eq, decide_eq_false_iff_not, Bool.not_true, Bool.not_false, Bool.and_true, Bool.true_and, Bool.and_false, Bool.false_and, gs_at, gs_no, oI_n, oI_s, h7, hil, q, hof, h97, q2]
        · rintro ⟨s1, s2⟩ e
          cases e
          rw [Nat.sub_self]
          refine ⟨_, ?_, rfl⟩
          show Fm_check_b27 _ _ (ng 1) = _
          unfold Fm_check_b27
          rw [if_pos (by decide)]
      obtain ⟨r, l1, l2⟩ := hl
      unfold Fm_check
      rw [l_0, l_40, Fm_in_x (by decide) (by decide), rg_n (by omega), decide_eq_true (show 0 ≤ N ∧ N ≤ 40 by omega)]
      simp (disch := omega) only [l_0, l_1, l_2, l_3, l_4, l_5, l_6, l_7, l_8, l_9, l_10, l_11, l_12, l_13, l_14, l_16, l_20, l_21, l_23, l_24, l_30, l_32, l_40, l_41, l_44, l_48, l_57, l_59, l_60, l_63, l_64, l_80, l_84, l_96, l_97, l_99, l_120, l_122, l_127, l_200, l_240, l_255, l_840, l_999, l_1000, l_1001, l_2400, l_3064, l_9999, l_10000, l_13849, l_16383, l_25173, l_65535, l_65536, l_99999, l_1000000000, neg_nI, pk_mul, nI_add, nI_subL, tn_nI, inb_t, grd_true, bnd_some, elS_l, elS_r, nI_ltI, nI_leI, nI_inj, fa_and, fa_or, m1_eq, eq_m1, m1_lt, m1_le, lt_m1, le_m1, m1_lt0, up2_at, up2_no, ite_true, ite_false, if_true, if_false, Bool.false_eq_true, reduceIte, reduceCtorEq, not_true_eq_false, not_false_eq_true, eq_self, decide_true, decide_false, le_tt, le_ff, lt_tt, lt_ff, eq_ff, and_true, true_and, and_false, false_and, or_true, true_or, or_false, false_or, ne_eq, decide_eq_true_eq, decide_eq_false_iff_not, Bool.not_true, Bool.not_false, Bool.and_true, Bool.true_and, Bool.and_false, Bool.false_and, gs_at, gs_no, oI_n, oI_s, t2, dI_s, l1, l2]
    refine ⟨_, _, _, (g, k, 0, b), hr, hr2, ⟨hg, hk, Nat.zero_le _, hb⟩, ?_, ?_⟩
    · refine KC.fr (M := (up2 M.1 1 1 (nI 0), M.2)) (P := fun c _ => c = 94) ⟨⟨hc.1.1.fr hfr (fun k j hk => by unfold fp_Fg_check; omega), hc.1.2.fr hfr (fun j => by unfold fp_Fg_check; omega)⟩, ⟨(show up2 M.1 1 1 (nI 0) 1 1 = _ from up2_at), fun i hi => ?_⟩, hc.2.2.fr hfr (fun c j hc => by unfold fp_Fg_check; omega)⟩ (Fr.I Fr.rf rfl) (fun c j q => by omega)
      rw [(hfr 2 i (by unfold fp_Fg_check; omega)).1]
      exact hc.2.1.2 i hi
    · have hf3 : Fr (fun c j => c = 94 ∧ j = 4) (up2 M.1 1 1 (nI 0), M.2) (up2 (up2 M.1 1 1 (nI 0)) 94 4 (nI 0), M.2) := Fr.I Fr.rf ⟨rfl, rfl⟩
      refine ⟨⟨h0, m1.fr hf3 (fun j => by omega), m2.fr hf3 (by omega) (fun _ _ => rfl)⟩, (show up2 (up2 M.1 1 1 (nI 0)) 94 4 (nI 0) 94 4 = _ from up2_at), fun i hi => ?_⟩
      rw [(hf3 97 i (by omega)).1]
      exact m4 i hi
  · refine ⟨ng 2, M, M, (g, k, t, b), ?_, ?_, hv', hc, hm⟩
    · unfold Fg_check
      rcases i32c x with ⟨N, hN, rfl⟩ | h
      · by_cases c : 40 < N
        · simp (disch := omega) only [l_0, l_1, l_2, l_3, l_4, l_5, l_6, l_7, l_8, l_9, l_10, l_11, l_12, l_13, l_14, l_16, l_20, l_21, l_23, l_24, l_30, l_32, l_40, l_41, l_44, l_48, l_57, l_59, l_60, l_63, l_64, l_80, l_84, l_96, l_97, l_99, l_120, l_122, l_127, l_200, l_240, l_255, l_840, l_999, l_1000, l_1001, l_2400, l_3064, l_9999, l_10000, l_13849, l_16383, l_25173, l_65535, l_65536, l_99999, l_1000000000, neg_nI, pk_mul, nI_add, nI_subL, tn_nI, inb_t, grd_true, bnd_some, elS_l, elS_r, nI_ltI, nI_leI, nI_inj, fa_and, fa_or, m1_eq, eq_m1, m1_lt, m1_le, lt_m1, le_m1, m1_lt0, up2_at, up2_no, ite_true, ite_false, if_true, if_false, Bool.false_eq_true, reduceIte, reduceCtorEq, not_true_eq_false, not_false_eq_true, eq_self, decide_true, decide_false, le_tt, le_ff, lt_tt, lt_ff, eq_ff, and_true, true_and, and_false, false_and, or_true, true_or, or_false, false_or, ne_eq, decide_eq_true_eq, decide_eq_false_iff_not, Bool.not_true, Bool.not_false, Bool.and_true, Bool.true_and, Bool.and_false, Bool.false_and, gs_at, gs_no, oI_n, oI_s]
        · have : t < N := by
            rcases Nat.lt_or_ge t N with q | q
            · exact q
            · exact absurd ⟨N, by omega, q, rfl⟩ hx
          simp (disch := omega) only [l_0, l_1, l_2, l_3, l_4, l_5, l_6, l_7, l_8, l_9, l_10, l_11, l_12, l_13, l_14, l_16, l_20, l_21, l_23, l_24, l_30, l_32, l_40, l_41, l_44, l_48, l_57, l_59, l_60, l_63, l_64, l_80, l_84, l_96, l_97, l_99, l_120, l_122, l_127, l_200, l_240, l_255, l_840, l_999, l_1000, l_1001, l_2400, l_3064, l_9999, l_10000, l_13849, l_16383, l_25173, l_65535, l_65536, l_99999, l_1000000000, neg_nI, pk_mul, nI_add, nI_subL, tn_nI, inb_t, grd_true, bnd_some, elS_l, elS_r, nI_ltI, nI_leI, nI_inj, fa_and, fa_or, m1_eq, eq_m1, m1_lt, m1_le, lt_m1, le_m1, m1_lt0, up2_at, up2_no, ite_true, ite_false, if_true, if_false, Bool.false_eq_true, reduceIte, reduceCtorEq, not_true_eq_false, not_false_eq_true, eq_self, decide_true, decide_false, le_tt, le_ff, lt_tt, lt_ff, eq_ff, and_true, true_and, and_false, false_and, or_true, true_or, or_false, false_or, ne_eq, decide_eq_true_eq, decide_eq_false_iff_not, Bool.not_true, Bool.not_false, Bool.and_true, Bool.true_and, Bool.and_false, Bool.false_and, gs_at, gs_no, oI_n, oI_s, t1]
      · simp (disch := omega) only [l_0, l_1, l_2, l_3, l_4, l_5, l_6, l_7, l_8, l_9, l_10, l_11, l_12, l_13, l_14, l_16, l_20, l_21, l_23, l_24, l_30, l_32, l_40, l_41, l_44, l_48, l_57, l_59, l_60, l_63, l_64, l_80, l_84, l_96, l_97, l_99, l_120, l_122, l_127, l_200, l_240, l_255, l_840, l_999, l_1000, l_1001, l_2400, l_3064, l_9999, l_10000, l_13849, l_16383, l_25173, l_65535, l_65536, l_99999, l_1000000000, neg_nI, pk_mul, nI_add, nI_subL, tn_nI, inb_t, grd_true, bnd_some, elS_l, elS_r, nI_ltI, nI_leI, nI_inj, fa_and, fa_or, m1_eq, eq_m1, m1_lt, m1_le, lt_m1, le_m1, m1_lt0, up2_at, up2_no, ite_true, ite_false, if_true, if_false, Bool.false_eq_true, reduceIte, reduceCtorEq, not_true_eq_false, not_false_eq_true, eq_self, decide_true, decide_false, le_tt, le_ff, lt_tt, lt_ff, eq_ff, and_true, true_and, and_false, false_and, or_true, true_or, or_false, false_or, ne_eq, decide_eq_true_eq, decide_eq_false_iff_not, Bool.not_true, Bool.not_false, Bool.and_true, Bool.true_and, Bool.and_false, Bool.false_and, gs_at, gs_no, oI_n, oI_s, xlt h]
    · unfold Fm_check
      rw [l_0, l_40, Fm_in_x (by decide) (by decide)]
      rcases i32c x with ⟨N, hN, rfl⟩ | h
      · rw [rg_n hN]
        by_cases c : 40 < N
        · rw [decide_eq_false (by omega)]
          rfl
        · have : t < N := by
            rcases Nat.lt_or_ge t N with q | q
            · exact q
            · exact absurd ⟨N, by omega, q, rfl⟩ hx
          rw [decide_eq_true (by omega)]
          simp (disch := omega) only [l_0, l_1, l_2, l_3, l_4, l_5, l_6, l_7, l_8, l_9, l_10, l_11, l_12, l_13, l_14, l_16, l_20, l_21, l_23, l_24, l_30, l_32, l_40, l_41, l_44, l_48, l_57, l_59, l_60, l_63, l_64, l_80, l_84, l_96, l_97, l_99, l_120, l_122, l_127, l_200, l_240, l_255, l_840, l_999, l_1000, l_1001, l_2400, l_3064, l_9999, l_10000, l_13849, l_16383, l_25173, l_65535, l_65536, l_99999, l_1000000000, neg_nI, pk_mul, nI_add, nI_subL, tn_nI, inb_t, grd_true, bnd_some, elS_l, elS_r, nI_ltI, nI_leI, nI_inj, fa_and, fa_or, m1_eq, eq_m1, m1_lt, m1_le, lt_m1, le_m1, m1_lt0, up2_at, up2_no, ite_true, ite_false, if_true, if_false, Bool.false_eq_true, reduceIte, reduceCtorEq, not_true_eq_false, not_false_eq_true, eq_self, decide_true, decide_false, le_tt, le_ff, lt_tt, lt_ff, eq_ff, and_true, true_and, and_false, false_and, or_true, true_or, or_false, false_or, ne_eq, decide_eq_true_eq, decide_eq_false_iff_not, Bool.not_true, Bool.not_false, Bool.and_true, Bool.true_and, Bool.and_false, Bool.false_and, gs_at, gs_no, oI_n, oI_s, t2]
      · rw [xrg h]
        rfl
theorem op_count {A : Ab} {M M' : Mm} {x : Int32} (hc : KC M A) (hm : KM M' A) : ∃ r, Fg_count x M = some r ∧ Fm_count x M' = some r := by
  obtain ⟨⟨h0, m1, m2⟩, m3, m4⟩ := hm
  unfold Fg_count Fm_count
  by_cases c0 : x = nI 0
  · exact ⟨nI (A.1 7), by simp (disch := omega) only [l_0, l_1, l_2, l_3, l_4, l_5, l_6, l_7, l_8, l_9, l_10, l_11, l_12, l_13, l_14, l_16, l_20, l_21, l_23, l_24, l_30, l_32, l_40, l_41, l_44, l_48, l_57, l_59, l_60, l_63, l_64, l_80, l_84, l_96, l_97, l_99, l_120, l_122, l_127, l_200, l_240, l_255, l_840, l_999, l_1000, l_1001, l_2400, l_3064, l_9999, l_10000, l_13849, l_16383, l_25173, l_65535, l_65536, l_99999, l_1000000000, neg_nI, pk_mul, nI_add, nI_subL, tn_nI, inb_t, grd_true, bnd_some, elS_l, elS_r, nI_ltI, nI_leI, nI_inj, fa_and, fa_or, m1_eq, eq_m1, m1_lt, m1_le, lt_m1, le_m1, m1_lt0, up2_at, up2_no, ite_true, ite_false, if_true, if_false, Bool.false_eq_true, reduceIte, reduceCtorEq, not_true_eq_false, not_false_eq_true, eq_self, decide_true, decide_false, le_tt, le_ff, lt_tt, lt_ff, eq_ff, and_true, true_and, and_false, false_and, or_true, true_or, or_false, false_or, ne_eq, decide_eq_true_eq, decide_eq_false_iff_not, Bool.not_true, Bool.not_false, Bool.and_true, Bool.true_and, Bool.and_false, Bool.false_and, gs_at, gs_no, oI_n, oI_s, c0, hc.1.1.2.1], by simp (disch := omega) only [l_0, l_1, l_2, l_3, l_4, l_5, l_6, l_7, l_8, l_9, l_10, l_11, l_12, l_13, l_14, l_16, l_20, l_21, l_23, l_24, l_30, l_32, l_40, l_41, l_44, l_48, l_57, l_59, l_60, l_63, l_64, l_80, l_84, l_96, l_97, l_99, l_120, l_122, l_127, l_200, l_240, l_255, l_840, l_999, l_1000, l_1001, l_2400, l_3064, l_9999, l_10000, l_13849, l_16383, l_25173, l_65535, l_65536, l_99999, l_1000000000, neg_nI, pk_mul, nI_add, nI_subL, tn_nI, inb_t, grd_true, bnd_some, elS_l, elS_r, nI_ltI, nI_leI, nI_inj, fa_and, fa_or, m1_eq, eq_m1, m1_lt, m1_le, lt_m1, le_m1, m1_lt0, up2_at, up2_no, ite_true, ite_false, if_true, if_false, Bool.false_eq_true, reduceIte, reduceCtorEq, not_true_eq_false, not_false_eq_true, eq_self, decide_true, decide_false, le_tt, le_ff, lt_tt, lt_ff, eq_ff, and_true, true_and, and_false, false_and, or_true, true_or, or_false, false_or, ne_eq, decide_eq_true_eq, decide_eq_false_iff_not, Bool.not_true, Bool.not_false, Bool.and_true, Bool.true_and, Bool.and_false, Bool.false_and, gs_at, gs_no, oI_n, oI_s, c0, m1.lo]⟩
  · by_cases c1 : x = nI 1
    · exact ⟨nI A.2.2.1, by simp (disch := omega) only [l_0, l_1, l_2, l_3, l_4, l_5, l_6, l_7, l_8, l_9, l_10, l_11, l_12, l_13, l_14, l_16, l_20, l_21, l_23, l_24, l_30, l_32, l_40, l_41, l_44, l_48, l_57, l_59, l_60, l_63, l_64, l_80, l_84, l_96, l_97, l_99, l_120, l_122, l_127, l_200, l_240, l_255, l_840, l_999, l_1000, l_1001, l_2400, l_3064, l_9999, l_10000, l_13849, l_16383, l_25173, l_65535, l_65536, l_99999, l_1000000000, neg_nI, pk_mul, nI_add, nI_subL, tn_nI, inb_t, grd_true, bnd_some, elS_l, elS_r, nI_ltI, nI_leI, nI_inj, fa_and, fa_or, m1_eq, eq_m1, m1_lt, m1_le, lt_m1, le_m1, m1_lt0, up2_at, up2_no, ite_true, ite_false, if_true, if_false, Bool.false_eq_true, reduceIte, reduceCtorEq, not_true_eq_false, not_false_eq_true, eq_self, decide_true, decide_false, le_tt, le_ff, lt_tt, lt_ff, eq_ff, and_true, true_and, and_false, false_and, or_true, true_or, or_false, false_or, ne_eq, decide_eq_true_eq, decide_eq_false_iff_not, Bool.not_true, Bool.not_false, Bool.and_true, Bool.true_and, Bool.and_false, Bool.false_and, gs_at, gs_no, oI_n, oI_s, c1, hc.2.1.1], by simp (disch := omega) only [l_0, l_1, l_2, l_3, l_4, l_5, l_6, l_7, l_8, l_9, l_10, l_11, l_12, l_13, l_14, l_16, l_20, l_21, l_23, l_24, l_30, l_32, l_40, l_41, l_44, l_48, l_57, l_59, l_60, l_63, l_64, l_80, l_84, l_96, l_97, l_99, l_120, l_122, l_127, l_200, l_240, l_255, l_840, l_999, l_1000, l_1001, l_2400, l_3064, l_9999, l_10000, l_13849, l_16383, l_25173, l_65535, l_65536, l_99999, l_1000000000, neg_nI, pk_mul, nI_add, nI_subL, tn_nI, inb_t, grd_true, bnd_some, elS_l, elS_r, nI_ltI, nI_leI, nI_inj, fa_and, fa_or, m1_eq, eq_m1, m1_lt, m1_le, lt_m1, le_m1, m1_lt0, up2_at, up2_no, ite_true, ite_false, if_true, if_false, Bool.false_eq_true, reduceIte, reduceCtorEq, not_true_eq_false, not_false_eq_true, eq_self, decide_true, decide_false, le_tt, le_ff, lt_tt, lt_ff, eq_ff, and_true, true_and, and_false, false_and, or_true, true_or, or_false, false_or, ne_eq, decide_eq_true_eq, decide_eq_false_iff_not, Bool.not_true, Bool.not_false, Bool.and_true, Bool.true_and, Bool.and_false, Bool.false_and, gs_at, gs_no, oI_n, oI_s, c1, m3]⟩
    · by_cases c2 : x = nI 2
      · exact ⟨nI (A.1 4), by simp (disch := omega) only [l_0, l_1, l_2, l_3, l_4, l_5, l_6, l_7, l_8, l_9, l_10, l_11, l_12, l_13, l_14, l_16, l_20, l_21, l_23, l_24, l_30, l_32, l_40, l_41, l_44, l_48, l_57, l_59, l_60, l_63, l_64, l_80, l_84, l_96, l_97, l_99, l_120, l_122, l_127, l_200, l_240, l_255, l_840, l_999, l_1000, l_1001, l_2400, l_3064, l_9999, l_10000, l_13849, l_16383, l_25173, l_65535, l_65536, l_99999, l_1000000000, neg_nI, pk_mul, nI_add, nI_subL, tn_nI, inb_t, grd_true, bnd_some, elS_l, elS_r, nI_ltI, nI_leI, nI_inj, fa_and, fa_or, m1_eq, eq_m1, m1_lt, m1_le, lt_m1, le_m1, m1_lt0, up2_at, up2_no, ite_true, ite_false, if_true, if_false, Bool.false_eq_true, reduceIte, reduceCtorEq, not_true_eq_false, not_false_eq_true, eq_self, decide_true, decide_false, le_tt, le_ff, lt_tt, lt_ff, eq_ff, and_true, true_and, and_false, false_and, or_true, true_or, or_false, false_or, ne_eq, decide_eq_true_eq, decide_eq_false_iff_not, Bool.not_true, Bool.not_false, Bool.and_true, Bool.true_and, Bool.and_false, Bool.false_and, gs_at, gs_no, oI_n, oI_s, c2, hc.1.1.1.1.1], by simp (disch := omega) only [l_0, l_1, l_2, l_3, l_4, l_5, l_6, l_7, l_8, l_9, l_10, l_11, l_12, l_13, l_14, l_16, l_20, l_21, l_23, l_24, l_30, l_32, l_40, l_41, l_44, l_48, l_57, l_59, l_60, l_63, l_64, l_80, l_84, l_96, l_97, l_99, l_120, l_122, l_127, l_200, l_240, l_255, l_840, l_999, l_1000, l_1001, l_2400, l_3064, l_9999, l_10000, l_13849, l_16383, l_25173, l_65535, l_65536, l_99999, l_1000000000, neg_nI, pk_mul, nI_add, nI_subL, tn_nI, inb_t, grd_true, bnd_some, elS_l, elS_r, nI_ltI, nI_leI, nI_inj, fa_and, fa_or, m1_eq, eq_m1, m1_lt, m1_le, lt_m1, le_m1, m1_lt0, up2_at, up2_no, ite_true, ite_false, if_true, if_false, Bool.false_eq_true, reduceIte, reduceCtorEq, not_true_eq_false, not_false_eq_true, eq_self, decide_true, decide_false, le_tt, le_ff, lt_tt, lt_ff, eq_ff, and_true, true_and, and_false, false_and, or_true, true_or, or_false, false_or, ne_eq, decide_eq_true_eq, decide_eq_false_iff_not, Bool.not_true, Bool.not_false, Bool.and_true, Bool.true_and, Bool.and_false, Bool.false_and, gs_at, gs_no, oI_n, oI_s, c2, m1.lo]⟩
      · exact ⟨ng 1, by simp (disch := omega) only [l_0, l_1, l_2, l_3, l_4, l_5, l_6, l_7, l_8, l_9, l_10, l_11, l_12, l_13, l_14, l_16, l_20, l_21, l_23, l_24, l_30, l_32, l_40, l_41, l_44, l_48, l_57, l_59, l_60, l_63, l_64, l_80, l_84, l_96, l_97, l_99, l_120, l_122, l_127, l_200, l_240, l_255, l_840, l_999, l_1000, l_1001, l_2400, l_3064, l_9999, l_10000, l_13849, l_16383, l_25173, l_65535, l_65536, l_99999, l_1000000000, neg_nI, pk_mul, nI_add, nI_subL, tn_nI, inb_t, grd_true, bnd_some, elS_l, elS_r, nI_ltI, nI_leI, nI_inj, fa_and, fa_or, m1_eq, eq_m1, m1_lt, m1_le, lt_m1, le_m1, m1_lt0, up2_at, up2_no, ite_true, ite_false, if_true, if_false, Bool.false_eq_true, reduceIte, reduceCtorEq, not_true_eq_false, not_false_eq_true, eq_self, decide_true, decide_false, le_tt, le_ff, lt_tt, lt_ff, eq_ff, and_true, true_and, and_false, false_and, or_true, true_or, or_false, false_or, ne_eq, decide_eq_true_eq, decide_eq_false_iff_not, Bool.not_true, Bool.not_false, Bool.and_true, Bool.true_and, Bool.and_false, Bool.false_and, gs_at, gs_no, oI_n, oI_s, c0, c1, c2], by simp (disch := omega) only [l_0, l_1, l_2, l_3, l_4, l_5, l_6, l_7, l_8, l_9, l_10, l_11, l_12, l_13, l_14, l_16, l_20, l_21, l_23, l_24, l_30, l_32, l_40, l_41, l_44, l_48, l_57, l_59, l_60, l_63, l_64, l_80, l_84, l_96, l_97, l_99, l_120, l_122, l_127, l_200, l_240, l_255, l_840, l_999, l_1000, l_1001, l_2400, l_3064, l_9999, l_10000, l_13849, l_16383, l_25173, l_65535, l_65536, l_99999, l_1000000000, neg_nI, pk_mul, nI_add, nI_subL, tn_nI, inb_t, grd_true, bnd_some, elS_l, elS_r, nI_ltI, nI_leI, nI_inj, fa_and, fa_or, m1_eq, eq_m1, m1_lt, m1_le, lt_m1, le_m1, m1_lt0, up2_at, up2_no, ite_true, ite_false, if_true, if_false, Bool.false_eq_true, reduceIte, reduceCtorEq, not_true_eq_false, not_false_eq_true, eq_self, decide_true, decide_false, le_tt, le_ff, lt_tt, lt_ff, eq_ff, and_true, true_and, and_false, false_and, or_true, true_or, or_false, false_or, ne_eq, decide_eq_true_eq, decide_eq_false_iff_not, Bool.not_true, Bool.not_false, Bool.and_true, Bool.true_and, Bool.and_false, Bool.false_and, gs_at, gs_no, oI_n, oI_s, c0, c1, c2]⟩
