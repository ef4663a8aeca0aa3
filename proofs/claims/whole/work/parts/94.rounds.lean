/-! who goes round -/
def WW (R : Nat → Nat → Bool) : Nat → Nat → Nat → Bool
  | 0, a, b => R a b
  | k + 1, a, b => WW R k a b || (WW R k a k && WW R k k b)
section
variable {R R' : Nat → Nat → Bool} {k a b c N : Nat}
theorem ww_s : WW R (k + 1) a b = true ↔ WW R k a b = true ∨ (WW R k a k = true ∧ WW R k k b = true) := by
  show (WW R k a b || (WW R k a k && WW R k k b)) = true ↔ _
  rw [Bool.or_eq_true, Bool.and_eq_true]
theorem ww_l : WW R (k + 1) a k = WW R k a k := by
  show (WW R k a k || (WW R k a k && WW R k k k)) = _
  cases WW R k a k <;> rfl
theorem ww_r : WW R (k + 1) k b = WW R k k b := by
  show (WW R k k b || (WW R k k k && WW R k k b)) = _
  cases WW R k k b <;> cases WW R k k k <;> rfl
theorem ww_up (h : WW R k a b = true) : WW R (k + 1) a b = true := ww_s.mpr (.inl h)
theorem ww_ups : ∀ {j : Nat}, WW R k a b = true → WW R (k + j) a b = true
  | 0, h => h
  | _ + 1, h => ww_up (ww_ups h)
theorem ww_tr : ∀ {k a b c : Nat}, c < k → WW R k a c = true → WW R k c b = true → WW R k a b = true
  | 0, _, _, _, h, _, _ => by omega
  | k + 1, a, b, c, h, h1, h2 => by
    by_cases e : c = k
    · subst e
      rw [ww_l] at h1
      rw [ww_r] at h2
      exact ww_s.mpr (.inr ⟨h1, h2⟩)
    · have hc : c < k := by omega
      rcases ww_s.mp h1 with p | ⟨p1, p2⟩ <;> rcases ww_s.mp h2 with q | ⟨q1, q2⟩
      · exact ww_up (ww_tr hc p q)
      · exact ww_s.mpr (.inr ⟨ww_tr hc p q1, q2⟩)
      · exact ww_s.mpr (.inr ⟨p1, ww_tr hc p2 q⟩)
      · exact ww_s.mpr (.inr ⟨p1, q2⟩)
theorem ww_1 : ∀ {k a b : Nat}, WW R k a b = true → R a b = true ∨ ∃ y, y < k ∧ R a y = true ∧ WW R k y b = true
  | 0, _, _, h => .inl h
  | k + 1, a, b, h => by
    rcases ww_s.mp h with p | ⟨p1, p2⟩
    · rcases ww_1 p with q | ⟨y, q1, q2, q3⟩
      · exact .inl q
      · exact .inr ⟨y, by omega, q2, ww_up q3⟩
    · rcases ww_1 p1 with q | ⟨y, q1, q2, q3⟩
      · exact .inr ⟨k, by omega, q, ww_up p2⟩
      · exact .inr ⟨y, by omega, q2, ww_s.mpr (.inr ⟨q3, p2⟩)⟩
theorem ww_mono (h : ∀ a b, R' a b = true → R a b = true) : ∀ {k a b : Nat}, WW R' k a b = true → WW R k a b = true
  | 0, _, _, q => h _ _ q
  | k + 1, _, _, q => by
    rcases ww_s.mp q with p | ⟨p1, p2⟩
    · exact ww_up (ww_mono h p)
    · exact ww_s.mpr (.inr ⟨ww_mono h p1, ww_mono h p2⟩)
/-- the diagonal: what a round needs stays -/
theorem ww_dia {lf' : Nat → Bool} (h1 : ∀ a b, R' a b = true → R a b = true) (h2 : ∀ a b, R a b = true → lf' a = true → lf' b = true → R' a b = true) (h3 : ∀ C : Nat → Bool, (∀ x, C x = true → ∃ y, y < N ∧ C y = true ∧ R x y = true) → ∀ x, C x = true → lf' x = true) (ha : a < N) : WW R N a a = WW R' N a a := by
  refine Bool.eq_iff_iff.mpr ⟨fun q => ?_, ww_mono h1⟩
  have hC : ∀ x, (decide (x < N) && (WW R N a x && WW R N x a)) = true ↔ x < N ∧ WW R N a x = true ∧ WW R N x a = true := fun x => by
    rw [Bool.and_eq_true, Bool.and_eq_true, decide_eq_true_eq]
  have hL := h3 (fun x => decide (x < N) && (WW R N a x && WW R N x a)) (fun x hx => by
    obtain ⟨c1, c2, c3⟩ := (hC x).mp hx
    rcases ww_1 c3 with p | ⟨y, p1, p2, p3⟩
    · exact ⟨a, ha, (hC a).mpr ⟨ha, q, q⟩, p⟩
    · have : WW R N x y = true := by
        have := ww_ups (k := 0) (j := N) (R := R) (a := x) (b := y) p2
        rw [Nat.zero_add] at this
        exact this
      exact ⟨y, p1, (hC y).mpr ⟨p1, ww_tr c1 c2 this, p3⟩, p2⟩)
  have key : ∀ k x y, k ≤ N → x < N → y < N → WW R N a x = true → WW R N x a = true → WW R N a y = true → WW R N y a = true → WW R k x y = true → WW R' k x y = true := by
    intro k
    induction k with
    | zero => exact fun x y _ hx hy x1 x2 y1 y2 h => h2 x y h (hL x ((hC x).mpr ⟨hx, x1, x2⟩)) (hL y ((hC y).mpr ⟨hy, y1, y2⟩))
    | succ k ih =>
      intro x y hk hx hy x1 x2 y1 y2 h
      have up : ∀ u v, WW R k u v = true → WW R N u v = true := fun u v q => by
        have := ww_ups (j := N - k) q
        rw [show k + (N - k) = N by omega] at this
        exact this
      rcases ww_s.mp h with p | ⟨p1, p2⟩
      · exact ww_up (ih x y (by omega) hx hy x1 x2 y1 y2 p)
      · have k1 : WW R N a k = true := ww_tr hx x1 (up _ _ p1)
        have k2 : WW R N k a = true := ww_tr hy (up _ _ p2) y2
        exact ww_s.mpr (.inr ⟨ih x k (by omega) hx (by omega) x1 x2 k1 k2 p1, ih k y (by omega) (by omega) hy k1 k2 y1 y2 p2⟩)
  exact key N a a (Nat.le_refl _) ha ha q q q q q
theorem LB_or2 {x y : Int64} {P Q : Nat → Bool} (h : LB x P) (h' : LB y Q) : LB (x ||| y) (fun b => P b || Q b) := by
  obtain ⟨W, rfl, h2, h3⟩ := h
  obtain ⟨V, rfl, g2, g3⟩ := h'
  refine ⟨W ||| V, by rw [lor_e], Nat.or_lt_two_pow h2 g2, fun b => ?_⟩
  rw [Nat.testBit_or, h3, g3]
variable {M : Mm} {n : Nat}
theorem going_k (hN : N ≤ 40) (hk : k < N) (h4 : M.1 54 4 = nI N) (hr : ∀ d, d < N → LB (M.2 91 d) (WW R k d)) (hn : 100 < n) : ∃ M', loop (fun s1 : Int32 × Mm => Rp_goingRound_b15 (nI k) s1.1 s1.2) n (nI 0, M) = some M' ∧ (M'.1 = M.1 ∧ ∀ d, d < N → LB (M'.2 91 d) (WW R (k + 1) d)) := by
  refine loop_I0 (fun i (st : Int32 × Mm) => st.1 = nI i ∧ st.2.1 = M.1 ∧ ∀ d, d < N → LB (st.2.2 91 d) (fun b => if d < i then WW R (k + 1) d b else WW R k d b)) _ N ⟨rfl, rfl, fun d hd => LB_cong (hr d hd) (fun b => by rw [if_neg (by omega)])⟩ (by omega) ?_ ?_
  · rintro i ⟨s1, M1⟩ hi ⟨e1, e2, e3⟩
    simp only at e1 e2 e3
    subst e1
    left
    have h4' : M1.1 54 4 = nI N := by rw [e2]; exact h4
    have hi' : LB (M1.2 91 i) (WW R k i) := LB_cong (e3 i hi) (fun b => by rw [if_neg (by omega)])
    have hk' : LB (M1.2 91 k) (WW R k k) := LB_cong (e3 k hk) (fun b => by
      by_cases c : k < i
      · rw [if_pos c, ww_r]
      · rw [if_neg c])
    have hb := LB_bit hi' (d := k) (by omega)
    show ∃ s', Rp_goingRound_b15 (nI k) (nI i) M1 = some (.inl s') ∧ _
    cases hw : WW R k i k with
    | false =>
      rw [hw] at hb
      refine ⟨(nI (i + 1), M1), ?_, rfl, e2, fun d hd => LB_cong (e3 d hd) (fun b => ?_)⟩
      · unfold Rp_goingRound_b15 Rp_goingRound_j56
        simp (disch := omega) only [l_0, l_1, l_2, l_3, l_4, l_5, l_6, l_7, l_8, l_9, l_10, l_11, l_12, l_13, l_14, l_16, l_20, l_21, l_23, l_24, l_30, l_32, l_40, l_41, l_44, l_48, l_57, l_59, l_60, l_63, l_64, l_80, l_84, l_96, l_97, l_99, l_120, l_122, l_127, l_200, l_240, l_255, l_840, l_999, l_1000, l_1001, l_2400, l_3064, l_9999, l_10000, l_13849, l_16383, l_25173, l_65535, l_65536, l_99999, l_1000000000, neg_nI, pk_mul, nI_add, nI_subL, tn_nI, inb_t, grd_true, bnd_some, elS_l, elS_r, nI_ltI, nI_leI, nI_inj, fa_and, fa_or, m1_eq, eq_m1, m1_lt, m1_le, lt_m1, le_m1, m1_lt0, up2_at, up2_no, ite_true, ite_false, if_true, if_false, Bool.false_eq_true, reduceIte, reduceCtorEq, not_true_eq_false, not_false_eq_true, eq_self, decide_true, decide_false, le_tt, le_ff, lt_tt, lt_ff, eq_ff, and_true, true_and, and_false, false_and, or_true, true_or, or_false, false_or, ne_eq, decide_eq_true_eq, decide_eq_false_iff_not, Bool.not_true, Bool.not_false, Bool.and_true, Bool.true_and, Bool.and_false, Bool.false_and, gs_at, gs_no, oI_n, oI_s, h4', hb]
      · by_cases c : d = i
        · subst c
          rw [if_neg (by omega), if_pos (by omega)]
          show _ = (WW R k d b || (WW R k d k && WW R k k b))
          rw [hw, Bool.false_and, Bool.or_false]
        · by_cases c2 : d < i
          · rw [if_pos c2, if_pos (by omega)]
          · rw [if_neg c2, if_neg (by omega)]
    | true =>
      rw [hw] at hb
      refine ⟨(nI (i + 1), (M1.1, up2 M1.2 91 i (M1.2 91 i ||| M1.2 91 k))), ?_, rfl, e2, fun d hd => ?_⟩
      · unfold Rp_goingRound_b15 Rp_goingRound_j56
        simp (disch := omega) only [l_0, l_1, l_2, l_3, l_4, l_5, l_6, l_7, l_8, l_9, l_10, l_11, l_12, l_13, l_14, l_16, l_20, l_21, l_23, l_24, l_30, l_32, l_40, l_41, l_44, l_48, l_57, l_59, l_60, l_63, l_64, l_80, l_84, l_96, l_97, l_99, l_120, l_122, l_127, l_200, l_240, l_255, l_840, l_999, l_1000, l_1001, l_2400, l_3064, l_9999, l_10000, l_13849, l_16383, l_25173, l_65535, l_65536, l_99999, l_1000000000, neg_nI, pk_mul, nI_add, nI_subL, tn_nI, inb_t, grd_true, bnd_some, elS_l, elS_r, nI_ltI, nI_leI, nI_inj, fa_and, fa_or, m1_eq, eq_m1, m1_lt, m1_le, lt_m1, le_m1, m1_lt0, up2_at, up2_no, ite_true, ite_false, if_true, if_false, Bool.false_eq_true, reduceIte, reduceCtorEq, not_true_eq_false, not_false_eq_true, eq_self, decide_true, decide_false, le_tt, le_ff, lt_tt, lt_ff, eq_ff, and_true, true_and, and_false, false_and, or_true, true_or, or_false, false_or, ne_eq, decide_eq_true_eq, decide_eq_false_iff_not, Bool.not_true, Bool.not_false, Bool.and_true, Bool.true_and, Bool.and_false, Bool.false_and, gs_at, gs_no, oI_n, oI_s, h4', hb]
      · show LB (up2 M1.2 91 i (M1.2 91 i ||| M1.2 91 k) 91 d) _
        by_cases c : d = i
        · subst c
          rw [up2_at]
          refine LB_cong (LB_or2 hi' hk') (fun b => ?_)
          rw [if_pos (by omega)]
          show _ = (WW R k d b || (WW R k d k && WW R k k b))
          rw [hw, Bool.true_and]
        · rw [up2_no (by omega)]
          refine LB_cong (e3 d hd) (fun b => ?_)
          by_cases c2 : d < i
          · rw [if_pos c2, if_pos (by omega)]
          · rw [if_neg c2, if_neg (by omega)]
  · rintro ⟨s1, M1⟩ ⟨e1, e2, e3⟩
    simp only at e1 e2 e3
    subst e1
    have h4' : M1.1 54 4 = nI N := by rw [e2]; exact h4
    refine ⟨M1, ?_, e2, fun d hd => LB_cong (e3 d hd) (fun b => by rw [if_pos hd])⟩
    show Rp_goingRound_b15 (nI k) (nI N) M1 = _
    unfold Rp_goingRound_b15
    simp (disch := omega) only [l_0, l_1, l_2, l_3, l_4, l_5, l_6, l_7, l_8, l_9, l_10, l_11, l_12, l_13, l_14, l_16, l_20, l_21, l_23, l_24, l_30, l_32, l_40, l_41, l_44, l_48, l_57, l_59, l_60, l_63, l_64, l_80, l_84, l_96, l_97, l_99, l_120, l_122, l_127, l_200, l_240, l_255, l_840, l_999, l_1000, l_1001, l_2400, l_3064, l_9999, l_10000, l_13849, l_16383, l_25173, l_65535, l_65536, l_99999, l_1000000000, neg_nI, pk_mul, nI_add, nI_subL, tn_nI, inb_t, grd_true, bnd_some, elS_l, elS_r, nI_ltI, nI_leI, nI_inj, fa_and, fa_or, m1_eq, eq_m1, m1_lt, m1_le, lt_m1, le_m1, m1_lt0, up2_at, up2_no, ite_true, ite_false, if_true, if_false, Bool.false_eq_true, reduceIte, reduceCtorEq, not_true_eq_false, not_false_eq_true, eq_self, decide_true, decide_false, le_tt, le_ff, lt_tt, lt_ff, eq_ff, and_true, true_and, and_false, false_and, or_true, true_or, or_false, false_or, ne_eq, decide_eq_true_eq, decide_eq_false_iff_not, Bool.not_true, Bool.not_false, Bool.and_true, Bool.true_and, Bool.and_false, Bool.false_and, gs_at, gs_no, oI_n, oI_s, h4']
theorem going_c (hN : N ≤ 40) (h4 : M.1 54 4 = nI N) (hr : ∀ d, d < N → LB (M.2 91 d) (R d)) (hn : 100 < n) : ∃ M', Rp_goingRound n M = some (nI (fb_ct (fun d => WW R N d d) N), M') ∧ Fr fp_Rp_goingRound M M' := by
  have hlp : ∃ q, loop (fun s1 : Int32 × Mm => Rp_goingRound_b2 n s1.1 s1.2) n (nI 0, M) = some q ∧ (q.1 = M.1 ∧ ∀ d, d < N → LB (q.2 91 d) (WW R N d)) := by
    refine loop_I0 (fun i (st : Int32 × Mm) => st.1 = nI i ∧ st.2.1 = M.1 ∧ ∀ d, d < N → LB (st.2.2 91 d) (WW R i d)) _ N ⟨rfl, rfl, hr⟩ (by omega) ?_ ?_
    · rintro i ⟨s1, M1⟩ hi ⟨e1, e2, e3⟩
      simp only at e1 e2 e3
      subst e1
      left
      have h4' : M1.1 54 4 = nI N := by rw [e2]; exact h4
      obtain ⟨M2, q1, q2, q3⟩ := going_k (n := n) hN hi h4' e3 hn
      refine ⟨(nI (i + 1), M2), ?_, rfl, q2.trans e2, q3⟩
      show Rp_goingRound_b2 n (nI i) M1 = _
      unfold Rp_goingRound_b2
      simp (disch := omega) only [l_0, l_1, l_2, l_3, l_4, l_5, l_6, l_7, l_8, l_9, l_10, l_11, l_12, l_13, l_14, l_16, l_20, l_21, l_23, l_24, l_30, l_32, l_40, l_41, l_44, l_48, l_57, l_59, l_60, l_63, l_64, l_80, l_84, l_96, l_97, l_99, l_120, l_122, l_127, l_200, l_240, l_255, l_840, l_999, l_1000, l_1001, l_2400, l_3064, l_9999, l_10000, l_13849, l_16383, l_25173, l_65535, l_65536, l_99999, l_1000000000, neg_nI, pk_mul, nI_add, nI_subL, tn_nI, inb_t, grd_true, bnd_some, elS_l, elS_r, nI_ltI, nI_leI, nI_inj, fa_and, fa_or, m1_eq, eq_m1, m1_lt, m1_le, lt_m1, le_m1, m1_lt0, up2_at, up2_no, ite_true, ite_false, if_true, if_false, Bool.false_eq_true, reduceIte, reduceCtorEq, not_true_eq_false, not_false_eq_true, eq_self, decide_true, decide_false, le_tt, le_ff, lt_tt, lt_ff, eq_ff, and_true, true_and, and_false, false_and, or_true, true_or, or_false, false_or, ne_eq, decide_eq_true_eq, decide_eq_false_iff_not, Bool.not_true, Bool.not_false, Bool.and_true, Bool.true_and, Bool.and_false, Bool.false_and, gs_at, gs_no, oI_n, oI_s, h4', q1]
    · rintro ⟨s1, M1⟩ ⟨e1, e2, e3⟩
      simp only at e1 e2 e3
      subst e1
      have h4' : M1.1 54 4 = nI N := by rw [e2]; exact h4
      refine ⟨M1, ?_, e2, e3⟩
      show Rp_goingRound_b2 n (nI N) M1 = _
      unfold Rp_goingRound_b2
      simp (disch := omega) only [l_0, l_1, l_2, l_3, l_4, l_5, l_6, l_7, l_8, l_9, l_10, l_11, l_12, l_13, l_14, l_16, l_20, l_21, l_23, l_24, l_30, l_32, l_40, l_41, l_44, l_48, l_57, l_59, l_60, l_63, l_64, l_80, l_84, l_96, l_97, l_99, l_120, l_122, l_127, l_200, l_240, l_255, l_840, l_999, l_1000, l_1001, l_2400, l_3064, l_9999, l_10000, l_13849, l_16383, l_25173, l_65535, l_65536, l_99999, l_1000000000, neg_nI, pk_mul, nI_add, nI_subL, tn_nI, inb_t, grd_true, bnd_some, elS_l, elS_r, nI_ltI, nI_leI, nI_inj, fa_and, fa_or, m1_eq, eq_m1, m1_lt, m1_le, lt_m1, le_m1, m1_lt0, up2_at, up2_no, ite_true, ite_false, if_true, if_false, Bool.false_eq_true, reduceIte, reduceCtorEq, not_true_eq_false, not_false_eq_true, eq_self, decide_true, decide_false, le_tt, le_ff, lt_tt, lt_ff, eq_ff, and_true, true_and, and_false, false_and, or_true, true_or, or_false, false_or, ne_eq, decide_eq_true_eq, decide_eq_false_iff_not, Bool.not_true, Bool.not_false, Bool.and_true, Bool.true_and, Bool.and_false, Bool.false_and, gs_at, gs_no, oI_n, oI_s, h4']
  obtain ⟨q, q1, q2, q3⟩ := hlp
  have h4' : q.1 54 4 = nI N := by rw [q2]; exact h4
  have hl2 := loop_zero (body := fun s1 : Int32 × Int32 => Rp_goingRound_b72 q s1.1 s1.2) (fun i => (nI (fb_ct (fun d => WW R N d d) i), nI i)) N (nI (fb_ct (fun d => WW R N d d) N)) (fun i hi => by
      have hb := LB_bit (q3 i hi) (d := i) (by omega)
      have hct := fb_ct_le (fun d => WW R N d d) i
      rw [fb_ct_succ]
      show Rp_goingRound_b72 q (nI (fb_ct (fun d => WW R N d d) i)) (nI i) = _
      generalize fb_ct (fun d => WW R N d d) i = z at hct ⊢
      unfold Rp_goingRound_b72 Rp_goingRound_j101
      cases hc : WW R N i i with
      | true => rw [hc] at hb; simp (disch := omega) only [l_0, l_1, l_2, l_3, l_4, l_5, l_6, l_7, l_8, l_9, l_10, l_11, l_12, l_13, l_14, l_16, l_20, l_21, l_23, l_24, l_30, l_32, l_40, l_41, l_44, l_48, l_57, l_59, l_60, l_63, l_64, l_80, l_84, l_96, l_97, l_99, l_120, l_122, l_127, l_200, l_240, l_255, l_840, l_999, l_1000, l_1001, l_2400, l_3064, l_9999, l_10000, l_13849, l_16383, l_25173, l_65535, l_65536, l_99999, l_1000000000, neg_nI, pk_mul, nI_add, nI_subL, tn_nI, inb_t, grd_true, bnd_some, elS_l, elS_r, nI_ltI, nI_leI, nI_inj, fa_and, fa_or, m1_eq, eq_m1, m1_lt, m1_le, lt_m1, le_m1, m1_lt0, up2_at, up2_no, ite_true, ite_false, if_true, if_false, Bool.false_eq_true, reduceIte, reduceCtorEq, not_true_eq_false, not_false_eq_true, eq_self, decide_true, decide_false, le_tt, le_ff, lt_tt, lt_ff, eq_ff, and_true, true_and, and_false, false_and, or_true, true_or, or_false, false_or, ne_eq, decide_eq_true_eq, decide_eq_false_iff_not, Bool.not_true, Bool.not_false, Bool.and_true, Bool.true_and, Bool.and_false, Bool.false_and, gs_at, gs_no, oI_n, oI_s, h4', hb]
      | false => rw [hc] at hb; simp (disch := omega) only [l_0, l_1, l_2, l_3, l_4, l_5, l_6, l_7, l_8, l_9, l_10, l_11, l_12, l_13, l_14, l_16, l_20, l_21, l_23, l_24, l_30, l_32, l_40, l_41, l_44, l_48, l_57, l_59, l_60, l_63, l_64, l_80, l_84, l_96, l_97, l_99, l_120, l_122, l_127, l_200, l_240, l_255, l_840, l_999, l_1000, l_1001, l_2400, l_3064, l_9999, l_10000, l_13849, l_16383, l_25173, l_65535, l_65536, l_99999, l_1000000000, neg_nI, pk_mul, nI_add, nI_subL, tn_nI, inb_t, grd_true, bnd_some, elS_l, elS_r, nI_ltI, nI_leI, nI_inj, fa_and, fa_or, m1_eq, eq_m1, m1_lt, m1_le, lt_m1, le_m1, m1_lt0, up2_at, up2_no, ite_true, ite_false, if_true, if_false, Bool.false_eq_true, reduceIte, reduceCtorEq, not_true_eq_false, not_false_eq_true, eq_self, decide_true, decide_false, le_tt, le_ff, lt_tt, lt_ff, eq_ff, and_true, true_and, and_false, false_and, or_true, true_or, or_false, false_or, ne_eq, decide_eq_true_eq, decide_eq_false_iff_not, Bool.not_true, Bool.not_false, Bool.and_true, Bool.true_and, Bool.and_false, Bool.false_and, gs_at, gs_no, oI_n, oI_s, h4', hb, Nat.add_zero]) (by
      show Rp_goingRound_b72 q _ (nI N) = _
      unfold Rp_goingRound_b72
      simp (disch := omega) only [l_0, l_1, l_2, l_3, l_4, l_5, l_6, l_7, l_8, l_9, l_10, l_11, l_12, l_13, l_14, l_16, l_20, l_21, l_23, l_24, l_30, l_32, l_40, l_41, l_44, l_48, l_57, l_59, l_60, l_63, l_64, l_80, l_84, l_96, l_97, l_99, l_120, l_122, l_127, l_200, l_240, l_255, l_840, l_999, l_1000, l_1001, l_2400, l_3064, l_9999, l_10000, l_13849, l_16383, l_25173, l_65535, l_65536, l_99999, l_1000000000, neg_nI, pk_mul, nI_add, nI_subL, tn_nI, inb_t, grd_true, bnd_some, elS_l, elS_r, nI_ltI, nI_leI, nI_inj, fa_and, fa_or, m1_eq, eq_m1, m1_lt, m1_le, lt_m1, le_m1, m1_lt0, up2_at, up2_no, ite_true, ite_false, if_true, if_false, Bool.false_eq_true, reduceIte, reduceCtorEq, not_true_eq_false, not_false_eq_true, eq_self, decide_true, decide_false, le_tt, le_ff, lt_tt, lt_ff, eq_ff, and_true, true_and, and_false, false_and, or_true, true_or, or_false, false_or, ne_eq, decide_eq_true_eq, decide_eq_false_iff_not, Bool.not_true, Bool.not_false, Bool.and_true, Bool.true_and, Bool.and_false, Bool.false_and, gs_at, gs_no, oI_n, oI_s, h4']) (n := n) (by omega)
  have hl2' : loop (fun s1 : Int32 × Int32 => Rp_goingRound_b72 q s1.1 s1.2) n (nI 0, nI 0) = some (nI (fb_ct (fun d => WW R N d d) N)) := hl2
  have hrun : Rp_goingRound n M = some (nI (fb_ct (fun d => WW R N d d) N), q) := by
    unfold Rp_goingRound
    rw [l_0, q1, bnd_some, hl2', bnd_some]
  exact ⟨q, hrun, fr_Rp_goingRound hrun⟩
end
