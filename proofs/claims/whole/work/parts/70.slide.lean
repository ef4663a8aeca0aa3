/-! calls: slide, jump, cut -/
theorem nsub_le {a b : Nat} (h : a ≤ b) : nI a - nI b = ng (b - a) := by
  unfold ng
  rw [← nI_subL h, Int32.neg_sub]
theorem ng_add1 {c : Nat} (h : 1 ≤ c) : ng c + nI 1 = ng (c - 1) := by
  unfold ng
  rw [← nI_subL h, Int32.neg_sub, Int32.add_comm, ← Int32.sub_eq_add_neg]
theorem dnS_P {P : Nat → Bool} : ∀ s, dnS P s < s → P (dnS P s) = true
  | 0, h => by omega
  | s + 1, h => by
    unfold dnS at h ⊢
    by_cases q : P s = true
    · rw [if_pos q] at h ⊢
      by_cases c : dnS P s < s
      · exact dnS_P s c
      · have := dnS_le P s
        rw [show dnS P s = s by omega]
        exact q
    · rw [if_neg q] at h; omega
def lowS (g : Nat → Nat) (d : Nat) : Nat := dnS (fun i => fitB g (g (64 + 10 * d + 6)) i (g (64 + 10 * d + 5)) (some d)) (g (64 + 10 * d + 4))
def slG (g : Nat → Nat) (d : Nat) : Nat → Nat := gs g (64 + 10 * d + 4) (lowS g d)
theorem lit_same {g : Nat → Nat} {d f : Nat} (h : g (64 + 10 * d + 3) = 0) : litG g d (g (64 + 10 * d + 6)) f (g (64 + 10 * d + 5)) = gs g (64 + 10 * d + 4) f := by
  funext k
  unfold litG gs
  by_cases h6 : k = 64 + 10 * d + 6
  · subst h6; rw [if_pos rfl, if_neg (by omega)]
  · rw [if_neg h6]
    by_cases h5 : k = 64 + 10 * d + 5
    · subst h5; rw [if_pos rfl, if_neg (by omega)]
    · rw [if_neg h5]
      by_cases h4 : k = 64 + 10 * d + 4
      · rw [if_pos h4, if_pos h4]
      · rw [if_neg h4, if_neg h4]
        by_cases h3 : k = 64 + 10 * d + 3
        · rw [if_pos h3, h3, h]
        · rw [if_neg h3]
theorem low_le {g : Nat → Nat} {d : Nat} : lowS g d ≤ g (64 + 10 * d + 4) := dnS_le _ _
section
variable {M : Mm} {g : Nat → Nat} {n s d : Nat}
theorem fit_self (hL : LV g) (hO : NOV g) (hd : d < g 7) (hl : g (64 + 10 * d + 3) = 0) : fitB g (g (64 + 10 * d + 6)) (g (64 + 10 * d + 4)) (g (64 + 10 * d + 5)) (some d) = true := by
  obtain ⟨h1, h2, h3, h4⟩ := hL d hd hl
  refine fit_iff.mpr ⟨h2, fun e he hne hel hs => ?_⟩
  rcases hO e d he hd (fun q => hne (by rw [q])) hel hl hs with w | w
  · left; omega
  · right; omega
theorem low_fit (hL : LV g) (hO : NOV g) (hd : d < g 7) (hl : g (64 + 10 * d + 3) = 0) : fitB g (g (64 + 10 * d + 6)) (lowS g d) (g (64 + 10 * d + 5)) (some d) = true := by
  by_cases c : lowS g d < g (64 + 10 * d + 4)
  · exact dnS_P (P := fun i => fitB g (g (64 + 10 * d + 6)) i (g (64 + 10 * d + 5)) (some d)) _ c
  · have : lowS g d = g (64 + 10 * d + 4) := by have := low_le (g := g) (d := d); omega
    rw [this]
    exact fit_self hL hO hd hl
theorem GV_sl (hg : GV g) (hd : d < g 7) (hl : g (64 + 10 * d + 3) = 0) : GV (slG g d) := by
  obtain ⟨h1, h2, h3, h4⟩ := hg.1.2.2.2.1 d hd hl
  unfold slG
  rw [← lit_same hl]
  exact GV_lit hg hd h1 h3 h4 (low_fit hg.1.2.2.2.1 hg.1.2.2.2.2 hd hl) (.inl hl)
theorem St_fit_d (hg : GV g) (hS : SV M s g) (hd : d < g 7) (hl : g (64 + 10 * d + 3) = 0) (hn : 100 < n) : ∃ F, St_fitting n s (nI (g (64 + 10 * d + 6))) (nI (g (64 + 10 * d + 5))) (nI d) M = some (lN F) ∧ F < 2 ^ 60 ∧ ∀ f, F.testBit f = fitB g (g (64 + 10 * d + 6)) f (g (64 + 10 * d + 5)) (some d) := by
  obtain ⟨hG, hN, hU, hL, hO⟩ := hg.1
  obtain ⟨h1, h2, h3, h4⟩ := hL d hd hl
  obtain ⟨c1, c2, c3, c4, c5, c6⟩ := hS.2.2.1 d hd
  have b1 := hN.1
  exact St_fitting_of hN hL hS.1.1 h1 (by omega) hn (St_busy_some hN hL hO hS.1.1 hS.2.2.2 hd hg.2.2 (by rw [c4, hl]) hl (c6 hl) h4 hn)
theorem dn_loop {F : Nat} (hF : F < 2 ^ 64) : ∀ k n, k < 64 → k < n → loop (fun s1 : Int32 => St_slideRoom_b26 (lN F) s1) n (nI k) = some (nI (dnS (fun i => F.testBit i) k))
  | 0, n, _, hn => by
    refine loop_inr (r := nI 0) ?_ hn
    unfold St_slideRoom_b26
    simp (disch := omega) only [l_0, l_1, l_2, l_3, l_4, l_5, l_6, l_7, l_8, l_9, l_10, l_11, l_12, l_13, l_14, l_16, l_20, l_21, l_23, l_24, l_30, l_32, l_40, l_41, l_44, l_48, l_57, l_59, l_60, l_63, l_64, l_80, l_84, l_96, l_97, l_99, l_120, l_122, l_127, l_200, l_240, l_255, l_840, l_999, l_1000, l_1001, l_2400, l_3064, l_9999, l_10000, l_13849, l_16383, l_25173, l_65535, l_65536, l_99999, l_1000000000, neg_nI, pk_mul, nI_add, nI_subL, tn_nI, inb_t, grd_true, bnd_some, elS_l, elS_r, nI_ltI, nI_leI, nI_inj, fa_and, fa_or, m1_eq, eq_m1, m1_lt, m1_le, lt_m1, le_m1, m1_lt0, up2_at, up2_no, ite_true, ite_false, if_true, if_false, Bool.false_eq_true, reduceIte, reduceCtorEq, not_true_eq_false, not_false_eq_true, eq_self, decide_true, decide_false, le_tt, le_ff, lt_tt, lt_ff, eq_ff, and_true, true_and, and_false, false_and, or_true, true_or, or_false, false_or, ne_eq, decide_eq_true_eq, decide_eq_false_iff_not, Bool.not_true, Bool.not_false, Bool.and_true, Bool.true_and, Bool.and_false, Bool.false_and, gs_at, gs_no, oI_n, oI_s]
  | k + 1, n, hk, hn => by
    unfold dnS
    cases hb : F.testBit k with
    | true =>
      rw [if_pos rfl, loop_inl (s' := nI k) ?_ (by omega)]
      · exact dn_loop hF k (n - 1) (by omega) (by omega)
      · unfold St_slideRoom_b26
        simp (disch := omega) only [l_0, l_1, l_2, l_3, l_4, l_5, l_6, l_7, l_8, l_9, l_10, l_11, l_12, l_13, l_14, l_16, l_20, l_21, l_23, l_24, l_30, l_32, l_40, l_41, l_44, l_48, l_57, l_59, l_60, l_63, l_64, l_80, l_84, l_96, l_97, l_99, l_120, l_122, l_127, l_200, l_240, l_255, l_840, l_999, l_1000, l_1001, l_2400, l_3064, l_9999, l_10000, l_13849, l_16383, l_25173, l_65535, l_65536, l_99999, l_1000000000, neg_nI, pk_mul, nI_add, nI_subL, tn_nI, inb_t, grd_true, bnd_some, elS_l, elS_r, nI_ltI, nI_leI, nI_inj, fa_and, fa_or, m1_eq, eq_m1, m1_lt, m1_le, lt_m1, le_m1, m1_lt0, up2_at, up2_no, ite_true, ite_false, if_true, if_false, Bool.false_eq_true, reduceIte, reduceCtorEq, not_true_eq_false, not_false_eq_true, eq_self, decide_true, decide_false, le_tt, le_ff, lt_tt, lt_ff, eq_ff, and_true, true_and, and_false, false_and, or_true, true_or, or_false, false_or, ne_eq, decide_eq_true_eq, decide_eq_false_iff_not, Bool.not_true, Bool.not_false, Bool.and_true, Bool.true_and, Bool.and_false, Bool.false_and, gs_at, gs_no, oI_n, oI_s, lb0, hb, nI_addm, Nat.add_sub_cancel]
    | false =>
      rw [if_neg (by simp)]
      refine loop_inr (r := nI (k + 1)) ?_ (by omega)
      unfold St_slideRoom_b26
      simp (disch := omega) only [l_0, l_1, l_2, l_3, l_4, l_5, l_6, l_7, l_8, l_9, l_10, l_11, l_12, l_13, l_14, l_16, l_20, l_21, l_23, l_24, l_30, l_32, l_40, l_41, l_44, l_48, l_57, l_59, l_60, l_63, l_64, l_80, l_84, l_96, l_97, l_99, l_120, l_122, l_127, l_200, l_240, l_255, l_840, l_999, l_1000, l_1001, l_2400, l_3064, l_9999, l_10000, l_13849, l_16383, l_25173, l_65535, l_65536, l_99999, l_1000000000, neg_nI, pk_mul, nI_add, nI_subL, tn_nI, inb_t, grd_true, bnd_some, elS_l, elS_r, nI_ltI, nI_leI, nI_inj, fa_and, fa_or, m1_eq, eq_m1, m1_lt, m1_le, lt_m1, le_m1, m1_lt0, up2_at, up2_no, ite_true, ite_false, if_true, if_false, Bool.false_eq_true, reduceIte, reduceCtorEq, not_true_eq_false, not_false_eq_true, eq_self, decide_true, decide_false, le_tt, le_ff, lt_tt, lt_ff, eq_ff, and_true, true_and, and_false, false_and, or_true, true_or, or_false, false_or, ne_eq, decide_eq_true_eq, decide_eq_false_iff_not, Bool.not_true, Bool.not_false, Bool.and_true, Bool.true_and, Bool.and_false, Bool.false_and, gs_at, gs_no, oI_n, oI_s, lb0, hb, Nat.add_sub_cancel]
theorem St_slideRoom_e (hg : GV g) (hS : SV M s g) (hd : d < g 7) (hl : g (64 + 10 * d + 3) = 0) (hn : 100 < n) : St_slideRoom n s (nI d) M = some (nI (g (64 + 10 * d + 4) - lowS g d)) := by
  obtain ⟨F, f1, f2, f3⟩ := St_fit_d hg hS hd hl hn
  obtain ⟨h1, h2, h3, h4⟩ := hg.1.2.2.2.1 d hd hl
  obtain ⟨c1, c2, c3, c4⟩ := (hS.2.2.1 d hd).2.2.2.2.2 hl
  have b1 := hg.1.2.1.1
  have h40 := hg.2.2
  have hlow := low_le (g := g) (d := d)
  have e : dnS (fun i => F.testBit i) (g (64 + 10 * d + 4)) = lowS g d := by
    unfold lowS
    congr 1
    funext i
    exact f3 i
  unfold St_slideRoom St_slideRoom_j50
  simp (disch := omega) only [l_0, l_1, l_2, l_3, l_4, l_5, l_6, l_7, l_8, l_9, l_10, l_11, l_12, l_13, l_14, l_16, l_20, l_21, l_23, l_24, l_30, l_32, l_40, l_41, l_44, l_48, l_57, l_59, l_60, l_63, l_64, l_80, l_84, l_96, l_97, l_99, l_120, l_122, l_127, l_200, l_240, l_255, l_840, l_999, l_1000, l_1001, l_2400, l_3064, l_9999, l_10000, l_13849, l_16383, l_25173, l_65535, l_65536, l_99999, l_1000000000, neg_nI, pk_mul, nI_add, nI_subL, tn_nI, inb_t, grd_true, bnd_some, elS_l, elS_r, nI_ltI, nI_leI, nI_inj, fa_and, fa_or, m1_eq, eq_m1, m1_lt, m1_le, lt_m1, le_m1, m1_lt0, up2_at, up2_no, ite_true, ite_false, if_true, if_false, Bool.false_eq_true, reduceIte, reduceCtorEq, not_true_eq_false, not_false_eq_true, eq_self, decide_true, decide_false, le_tt, le_ff, lt_tt, lt_ff, eq_ff, and_true, true_and, and_false, false_and, or_true, true_or, or_false, false_or, ne_eq, decide_eq_true_eq, decide_eq_false_iff_not, Bool.not_true, Bool.not_false, Bool.and_true, Bool.true_and, Bool.and_false, Bool.false_and, gs_at, gs_no, oI_n, oI_s, c1, c2, c3, f1]
  rw [bnd_e (dn_loop (Nat.lt_trans f2 (by decide)) _ n (by omega) (by omega)), e]
  simp (disch := omega) only [l_0, l_1, l_2, l_3, l_4, l_5, l_6, l_7, l_8, l_9, l_10, l_11, l_12, l_13, l_14, l_16, l_20, l_21, l_23, l_24, l_30, l_32, l_40, l_41, l_44, l_48, l_57, l_59, l_60, l_63, l_64, l_80, l_84, l_96, l_97, l_99, l_120, l_122, l_127, l_200, l_240, l_255, l_840, l_999, l_1000, l_1001, l_2400, l_3064, l_9999, l_10000, l_13849, l_16383, l_25173, l_65535, l_65536, l_99999, l_1000000000, neg_nI, pk_mul, nI_add, nI_subL, tn_nI, inb_t, grd_true, bnd_some, elS_l, elS_r, nI_ltI, nI_leI, nI_inj, fa_and, fa_or, m1_eq, eq_m1, m1_lt, m1_le, lt_m1, le_m1, m1_lt0, up2_at, up2_no, ite_true, ite_false, if_true, if_false, Bool.false_eq_true, reduceIte, reduceCtorEq, not_true_eq_false, not_false_eq_true, eq_self, decide_true, decide_false, le_tt, le_ff, lt_tt, lt_ff, eq_ff, and_true, true_and, and_false, false_and, or_true, true_or, or_false, false_or, ne_eq, decide_eq_true_eq, decide_eq_false_iff_not, Bool.not_true, Bool.not_false, Bool.and_true, Bool.true_and, Bool.and_false, Bool.false_and, gs_at, gs_no, oI_n, oI_s]
theorem slide_c (hg : GV g) (hS : SV M 18 g) (hd : d < g 7) (hl : g (64 + 10 * d + 3) = 0) (hn : 100 < n) : ∃ M', Fg_slideDown n (nI d) M = some (nI (g (64 + 10 * d + 4) - lowS g d), M') ∧ SV M' 18 (slG g d) ∧ Fr fp_Fg_slideDown M M' := by
  have hr := St_slideRoom_e hg hS hd hl hn
  obtain ⟨h1, h2, h3, h4⟩ := hg.1.2.2.2.1 d hd hl
  obtain ⟨c1, c2, c3, c4⟩ := (hS.2.2.1 d hd).2.2.2.2.2 hl
  have b1 := hg.1.2.1.1
  have h40 := hg.2.2
  have hlow := low_le (g := g) (d := d)
  by_cases c : lowS g d < g (64 + 10 * d + 4)
  · obtain ⟨M', a1, a2, a3⟩ := SV_move hg.1 h40 hS hd (on := g (64 + 10 * d + 6)) (f := lowS g d) (w := g (64 + 10 * d + 5)) h4 (by omega) hn
    have hrun : Fg_slideDown n (nI d) M = some (nI (g (64 + 10 * d + 4) - lowS g d), M') := by
      unfold Fg_slideDown
      simp (disch := omega) only [l_0, l_1, l_2, l_3, l_4, l_5, l_6, l_7, l_8, l_9, l_10, l_11, l_12, l_13, l_14, l_16, l_20, l_21, l_23, l_24, l_30, l_32, l_40, l_41, l_44, l_48, l_57, l_59, l_60, l_63, l_64, l_80, l_84, l_96, l_97, l_99, l_120, l_122, l_127, l_200, l_240, l_255, l_840, l_999, l_1000, l_1001, l_2400, l_3064, l_9999, l_10000, l_13849, l_16383, l_25173, l_65535, l_65536, l_99999, l_1000000000, neg_nI, pk_mul, nI_add, nI_subL, tn_nI, inb_t, grd_true, bnd_some, elS_l, elS_r, nI_ltI, nI_leI, nI_inj, fa_and, fa_or, m1_eq, eq_m1, m1_lt, m1_le, lt_m1, le_m1, m1_lt0, up2_at, up2_no, ite_true, ite_false, if_true, if_false, Bool.false_eq_true, reduceIte, reduceCtorEq, not_true_eq_false, not_false_eq_true, eq_self, decide_true, decide_false, le_tt, le_ff, lt_tt, lt_ff, eq_ff, and_true, true_and, and_false, false_and, or_true, true_or, or_false, false_or, ne_eq, decide_eq_true_eq, decide_eq_false_iff_not, Bool.not_true, Bool.not_false, Bool.and_true, Bool.true_and, Bool.and_false, Bool.false_and, gs_at, gs_no, oI_n, oI_s, hr, c1, c2, c3, show g (64 + 10 * d + 4) - (g (64 + 10 * d + 4) - lowS g d) = lowS g d by omega, a1]
    refine ⟨M', hrun, ?_, fr_Fg_slideDown hrun⟩
    unfold slG
    rw [← lit_same hl]
    exact a2
  · have e : lowS g d = g (64 + 10 * d + 4) := by omega
    refine ⟨M, ?_, ?_, Fr.rf⟩
    · unfold Fg_slideDown
      simp (disch := omega) only [l_0, l_1, l_2, l_3, l_4, l_5, l_6, l_7, l_8, l_9, l_10, l_11, l_12, l_13, l_14, l_16, l_20, l_21, l_23, l_24, l_30, l_32, l_40, l_41, l_44, l_48, l_57, l_59, l_60, l_63, l_64, l_80, l_84, l_96, l_97, l_99, l_120, l_122, l_127, l_200, l_240, l_255, l_840, l_999, l_1000, l_1001, l_2400, l_3064, l_9999, l_10000, l_13849, l_16383, l_25173, l_65535, l_65536, l_99999, l_1000000000, neg_nI, pk_mul, nI_add, nI_subL, tn_nI, inb_t, grd_true, bnd_some, elS_l, elS_r, nI_ltI, nI_leI, nI_inj, fa_and, fa_or, m1_eq, eq_m1, m1_lt, m1_le, lt_m1, le_m1, m1_lt0, up2_at, up2_no, ite_true, ite_false, if_true, if_false, Bool.false_eq_true, reduceIte, reduceCtorEq, not_true_eq_false, not_false_eq_true, eq_self, decide_true, decide_false, le_tt, le_ff, lt_tt, lt_ff, eq_ff, and_true, true_and, and_false, false_and, or_true, true_or, or_false, false_or, ne_eq, decide_eq_true_eq, decide_eq_false_iff_not, Bool.not_true, Bool.not_false, Bool.and_true, Bool.true_and, Bool.and_false, Bool.false_and, gs_at, gs_no, oI_n, oI_s, hr, e, Nat.sub_self]
    · unfold slG
      rw [e, gs_self]
      exact hS
theorem Fm_fits_neg {l v x : Int32} : Fm_fits n l (ng 1) v x M = some false := by
  unfold Fm_fits
  rw [if_pos (by decide)]
theorem Fm_lowest_e {h : Nat → Int32} (hg : GV g) (hF : FK M g h) (hd : d < g 7) (hl : g (64 + 10 * d + 3) = 0) (hn : 300 < n) : Fm_lowest n (nI d) M = some (nI (lowS g d)) := by
  have hG := hg.1.1
  have hFR := hF.FR hG
  have b1 := hg.1.2.1.1
  have h40 := hg.2.2
  obtain ⟨h1, h2, h3, h4⟩ := hg.1.2.2.2.1 d hd hl
  have o4 := hF.of (d := d) (w := 4) (by omega) (by omega) (by omega)
  have o5 := hF.of (d := d) (w := 5) (by omega) (by omega) (by omega)
  have o6 := hF.of (d := d) (w := 6) (by omega) (by omega) (by omega)
  have lp : ∀ k m, k < 64 → k < m → loop (fun s1 : Int32 => Fm_lowest_b7 n (nI d) M s1) m (nI k) = some (nI (dnS (fun i => fitB g (g (64 + 10 * d + 6)) i (g (64 + 10 * d + 5)) (some d)) k)) := by
    intro k
    induction k with
    | zero =>
      intro m _ hm
      refine loop_inr (r := nI 0) ?_ hm
      unfold Fm_lowest_b7
      rw [l_6, l_5, l_1, o5, o6, bnd_some, bnd_some, z0m1, Fm_fits_neg, bnd_some]
      rfl
    | succ k ih =>
      intro m hk hm
      have hf := Fm_fits_e hFR hG (l := g (64 + 10 * d + 6)) (s := k) (v := g (64 + 10 * d + 5)) (n := n) (but := some d) (fun j q => by cases q; omega) (by omega) (by omega) hn
      rw [oI_s] at hf
      unfold dnS
      cases hb : fitB g (g (64 + 10 * d + 6)) k (g (64 + 10 * d + 5)) (some d) with
      | true =>
        rw [if_pos rfl, loop_inl (s' := nI k) ?_ (by omega)]
        · exact ih (m - 1) (by omega) (by omega)
        · unfold Fm_lowest_b7
          simp (disch := omega) only [l_0, l_1, l_2, l_3, l_4, l_5, l_6, l_7, l_8, l_9, l_10, l_11, l_12, l_13, l_14, l_16, l_20, l_21, l_23, l_24, l_30, l_32, l_40, l_41, l_44, l_48, l_57, l_59, l_60, l_63, l_64, l_80, l_84, l_96, l_97, l_99, l_120, l_122, l_127, l_200, l_240, l_255, l_840, l_999, l_1000, l_1001, l_2400, l_3064, l_9999, l_10000, l_13849, l_16383, l_25173, l_65535, l_65536, l_99999, l_1000000000, neg_nI, pk_mul, nI_add, nI_subL, tn_nI, inb_t, grd_true, bnd_some, elS_l, elS_r, nI_ltI, nI_leI, nI_inj, fa_and, fa_or, m1_eq, eq_m1, m1_lt, m1_le, lt_m1, le_m1, m1_lt0, up2_at, up2_no, ite_true, ite_false, if_true, if_false, Bool.false_eq_true, reduceIte, reduceCtorEq, not_true_eq_false, not_false_eq_true, eq_self, decide_true, decide_false, le_tt, le_ff, lt_tt, lt_ff, eq_ff, and_true, true_and, and_false, false_and, or_true, true_or, or_false, false_or, ne_eq, decide_eq_true_eq, decide_eq_false_iff_not, Bool.not_true, Bool.not_false, Bool.and_true, Bool.true_and, Bool.and_false, Bool.false_and, gs_at, gs_no, oI_n, oI_s, o5, o6, Nat.add_sub_cancel, hf, hb]
      | false =>
        rw [if_neg (by simp)]
        refine loop_inr (r := nI (k + 1)) ?_ (by omega)
        unfold Fm_lowest_b7
        simp (disch := omega) only [l_0, l_1, l_2, l_3, l_4, l_5, l_6, l_7, l_8, l_9, l_10, l_11, l_12, l_13, l_14, l_16, l_20, l_21, l_23, l_24, l_30, l_32, l_40, l_41, l_44, l_48, l_57, l_59, l_60, l_63, l_64, l_80, l_84, l_96, l_97, l_99, l_120, l_122, l_127, l_200, l_240, l_255, l_840, l_999, l_1000, l_1001, l_2400, l_3064, l_9999, l_10000, l_13849, l_16383, l_25173, l_65535, l_65536, l_99999, l_1000000000, neg_nI, pk_mul, nI_add, nI_subL, tn_nI, inb_t, grd_true, bnd_some, elS_l, elS_r, nI_ltI, nI_leI, nI_inj, fa_and, fa_or, m1_eq, eq_m1, m1_lt, m1_le, lt_m1, le_m1, m1_lt0, up2_at, up2_no, ite_true, ite_false, if_true, if_false, Bool.false_eq_true, reduceIte, reduceCtorEq, not_true_eq_false, not_false_eq_true, eq_self, decide_true, decide_false, le_tt, le_ff, lt_tt, lt_ff, eq_ff, and_true, true_and, and_false, false_and, or_true, true_or, or_false, false_or, ne_eq, decide_eq_true_eq, decide_eq_false_iff_not, Bool.not_true, Bool.not_false, Bool.and_true, Bool.true_and, Bool.and_false, Bool.false_and, gs_at, gs_no, oI_n, oI_s, o5, o6, Nat.add_sub_cancel, hf, hb]
  unfold Fm_lowest
  simp (disch := omega) only [l_0, l_1, l_2, l_3, l_4, l_5, l_6, l_7, l_8, l_9, l_10, l_11, l_12, l_13, l_14, l_16, l_20, l_21, l_23, l_24, l_30, l_32, l_40, l_41, l_44, l_48, l_57, l_59, l_60, l_63, l_64, l_80, l_84, l_96, l_97, l_99, l_120, l_122, l_127, l_200, l_240, l_255, l_840, l_999, l_1000, l_1001, l_2400, l_3064, l_9999, l_10000, l_13849, l_16383, l_25173, l_65535, l_65536, l_99999, l_1000000000, neg_nI, pk_mul, nI_add, nI_subL, tn_nI, inb_t, grd_true, bnd_some, elS_l, elS_r, nI_ltI, nI_leI, nI_inj, fa_and, fa_or, m1_eq, eq_m1, m1_lt, m1_le, lt_m1, le_m1, m1_lt0, up2_at, up2_no, ite_true, ite_false, if_true, if_false, Bool.false_eq_true, reduceIte, reduceCtorEq, not_true_eq_false, not_false_eq_true, eq_self, decide_true, decide_false, le_tt, le_ff, lt_tt, lt_ff, eq_ff, and_true, true_and, and_false, false_and, or_true, true_or, or_false, false_or, ne_eq, decide_eq_true_eq, decide_eq_false_iff_not, Bool.not_true, Bool.not_false, Bool.and_true, Bool.true_and, Bool.and_false, Bool.false_and, gs_at, gs_no, oI_n, oI_s, o4]
  rw [bnd_e (lp _ n (by omega) (by omega))]
  rfl
theorem slide_m {h : Nat → Int32} (hg : GV g) (hF : FK M g h) (hd : d < g 7) (hl : g (64 + 10 * d + 3) = 0) (hn : 300 < n) : ∃ M', Fm_slides n (nI d) M = some (nI (g (64 + 10 * d + 4) - lowS g d), M') ∧ FK M' (slG g d) h ∧ Fr (fun c _ => c = 95) M M' := by
  have h40 := hg.2.2
  have hlow := low_le (g := g) (d := d)
  have o4 := hF.of (d := d) (w := 4) (by omega) (by omega) (by omega)
  have hl2 := Fm_lowest_e hg hF hd hl hn
  obtain ⟨M', a1, a2, a3⟩ := hF.sets (d := d) (w := 4) (v := lowS g d) (by omega) (by omega) (by omega)
  refine ⟨M', ?_, a2, a3⟩
  unfold Fm_slides
  simp (disch := omega) only [l_0, l_1, l_2, l_3, l_4, l_5, l_6, l_7, l_8, l_9, l_10, l_11, l_12, l_13, l_14, l_16, l_20, l_21, l_23, l_24, l_30, l_32, l_40, l_41, l_44, l_48, l_57, l_59, l_60, l_63, l_64, l_80, l_84, l_96, l_97, l_99, l_120, l_122, l_127, l_200, l_240, l_255, l_840, l_999, l_1000, l_1001, l_2400, l_3064, l_9999, l_10000, l_13849, l_16383, l_25173, l_65535, l_65536, l_99999, l_1000000000, neg_nI, pk_mul, nI_add, nI_subL, tn_nI, inb_t, grd_true, bnd_some, elS_l, elS_r, nI_ltI, nI_leI, nI_inj, fa_and, fa_or, m1_eq, eq_m1, m1_lt, m1_le, lt_m1, le_m1, m1_lt0, up2_at, up2_no, ite_true, ite_false, if_true, if_false, Bool.false_eq_true, reduceIte, reduceCtorEq, not_true_eq_false, not_false_eq_true, eq_self, decide_true, decide_false, le_tt, le_ff, lt_tt, lt_ff, eq_ff, and_true, true_and, and_false, false_and, or_true, true_or, or_false, false_or, ne_eq, decide_eq_true_eq, decide_eq_false_iff_not, Bool.not_true, Bool.not_false, Bool.and_true, Bool.true_and, Bool.and_false, Bool.false_and, gs_at, gs_no, oI_n, oI_s, o4, hl2, show g (64 + 10 * d + 4) - (g (64 + 10 * d + 4) - lowS g d) = lowS g d by omega, a1]
end
theorem op_slide {n : Nat} (hn : 300 < n) (x : Int32) : T2 (Fg_slide n x) (Fm_slide n x) := by
  intro g hg
  have hG := hg.1.1
  have h40 := hg.2.2
  by_cases hx : ltB g x = true
  · obtain ⟨d, hd, rfl, hl⟩ := (lt_iff h40).mp hx
    refine ⟨nI (g (64 + 10 * d + 4) - lowS g d), slG g d, GV_sl hg hd hl, fun M hS hA => ?_, fun M h hF => ?_⟩
    · obtain ⟨M', a1, a2, a3⟩ := slide_c hg hS hd hl (n := n) (by omega)
      refine TC.mk hg hA ?_ a2 a3 (fun c j q => by unfold fp_Fg_slideDown at q; unfold PC; omega) (fun j h1 h2 h3 => gs_no (by omega))
      unfold Fg_slide
      rw [St_isLit_e hG h40 hS, hx]
      simp (disch := omega) only [l_0, l_1, l_2, l_3, l_4, l_5, l_6, l_7, l_8, l_9, l_10, l_11, l_12, l_13, l_14, l_16, l_20, l_21, l_23, l_24, l_30, l_32, l_40, l_41, l_44, l_48, l_57, l_59, l_60, l_63, l_64, l_80, l_84, l_96, l_97, l_99, l_120, l_122, l_127, l_200, l_240, l_255, l_840, l_999, l_1000, l_1001, l_2400, l_3064, l_9999, l_10000, l_13849, l_16383, l_25173, l_65535, l_65536, l_99999, l_1000000000, neg_nI, pk_mul, nI_add, nI_subL, tn_nI, inb_t, grd_true, bnd_some, elS_l, elS_r, nI_ltI, nI_leI, nI_inj, fa_and, fa_or, m1_eq, eq_m1, m1_lt, m1_le, lt_m1, le_m1, m1_lt0, up2_at, up2_no, ite_true, ite_false, if_true, if_false, Bool.false_eq_true, reduceIte, reduceCtorEq, not_true_eq_false, not_false_eq_true, eq_self, decide_true, decide_false, le_tt, le_ff, lt_tt, lt_ff, eq_ff, and_true, true_and, and_false, false_and, or_true, true_or, or_false, false_or, ne_eq, decide_eq_true_eq, decide_eq_false_iff_not, Bool.not_true, Bool.not_false, Bool.and_true, Bool.true_and, Bool.and_false, Bool.false_and, gs_at, gs_no, oI_n, oI_s, a1]
    · obtain ⟨M', a1, a2, a3⟩ := slide_m hg hF hd hl hn
      refine TM.mk ?_ a2 a3 (fun c j q => .inl q)
      unfold Fm_slide
      simp (disch := omega) only [l_0, l_1, l_2, l_3, l_4, l_5, l_6, l_7, l_8, l_9, l_10, l_11, l_12, l_13, l_14, l_16, l_20, l_21, l_23, l_24, l_30, l_32, l_40, l_41, l_44, l_48, l_57, l_59, l_60, l_63, l_64, l_80, l_84, l_96, l_97, l_99, l_120, l_122, l_127, l_200, l_240, l_255, l_840, l_999, l_1000, l_1001, l_2400, l_3064, l_9999, l_10000, l_13849, l_16383, l_25173, l_65535, l_65536, l_99999, l_1000000000, neg_nI, pk_mul, nI_add, nI_subL, tn_nI, inb_t, grd_true, bnd_some, elS_l, elS_r, nI_ltI, nI_leI, nI_inj, fa_and, fa_or, m1_eq, eq_m1, m1_lt, m1_le, lt_m1, le_m1, m1_lt0, up2_at, up2_no, ite_true, ite_false, if_true, if_false, Bool.false_eq_true, reduceIte, reduceCtorEq, not_true_eq_false, not_false_eq_true, eq_self, decide_true, decide_false, le_tt, le_ff, lt_tt, lt_ff, eq_ff, and_true, true_and, and_false, false_and, or_true, true_or, or_false, false_or, ne_eq, decide_eq_true_eq, decide_eq_false_iff_not, Bool.not_true, Bool.not_false, Bool.and_true, Bool.true_and, Bool.and_false, Bool.false_and, gs_at, gs_no, oI_n, oI_s, Fm_isDemand_e (hF.lo (show 7 < 64 by omega)), Fm_isLit_e (hF.FR hG) hG hd, hl, a1]
  · refine ⟨ng 1, g, hg, fun M hS hA => TC.id hS hA ?_, fun M h hF => TM.id hF ?_⟩
    · unfold Fg_slide
      rw [St_isLit_e hG h40 hS, ts_nt hx]
      rfl
    · unfold Fm_slide
      rw [Fm_isDemand_e (hF.lo (show 7 < 64 by omega)) (by omega), bnd_some]
      cases hi : inb x (g 7) with
      | false => rfl
      | true =>
        obtain ⟨d, hd, rfl⟩ := (inb_iff (by omega)).mp hi
        have : ¬ g (64 + 10 * d + 3) = 0 := fun q => hx ((lt_iff h40).mpr ⟨d, hd, rfl, q⟩)
        simp (disch := omega) only [l_0, l_1, l_2, l_3, l_4, l_5, l_6, l_7, l_8, l_9, l_10, l_11, l_12, l_13, l_14, l_16, l_20, l_21, l_23, l_24, l_30, l_32, l_40, l_41, l_44, l_48, l_57, l_59, l_60, l_63, l_64, l_80, l_84, l_96, l_97, l_99, l_120, l_122, l_127, l_200, l_240, l_255, l_840, l_999, l_1000, l_1001, l_2400, l_3064, l_9999, l_10000, l_13849, l_16383, l_25173, l_65535, l_65536, l_99999, l_1000000000, neg_nI, pk_mul, nI_add, nI_subL, tn_nI, inb_t, grd_true, bnd_some, elS_l, elS_r, nI_ltI, nI_leI, nI_inj, fa_and, fa_or, m1_eq, eq_m1, m1_lt, m1_le, lt_m1, le_m1, m1_lt0, up2_at, up2_no, ite_true, ite_false, if_true, if_false, Bool.false_eq_true, reduceIte, reduceCtorEq, not_true_eq_false, not_false_eq_true, eq_self, decide_true, decide_false, le_tt, le_ff, lt_tt, lt_ff, eq_ff, and_true, true_and, and_false, false_and, or_true, true_or, or_false, false_or, ne_eq, decide_eq_true_eq, decide_eq_false_iff_not, Bool.not_true, Bool.not_false, Bool.and_true, Bool.true_and, Bool.and_false, Bool.false_and, gs_at, gs_no, oI_n, oI_s, Fm_isLit_e (hF.FR hG) hG hd, this]
/-! jump -/
def cjB (g : Nat → Nat) (d f : Nat) : Bool := fitB g (g (64 + 10 * d + 6)) f (g (64 + 10 * d + 5)) (some d) && decide (g (64 + 10 * d + 4) + g (64 + 10 * d + 5) ≤ f ∨ f + g (64 + 10 * d + 5) ≤ g (64 + 10 * d + 4))
section
variable {M : Mm} {g : Nat → Nat} {n s d : Nat}
theorem imx_sub {a b : Nat} (ha : a < 100) (hb : b < 100) : imx (nI 0) (nI a - nI b + nI 1) = nI (a + 1 - b) := by
  by_cases c : b ≤ a
  · rw [nI_subL c, nI_add, imx_e (by omega) (by omega)]
    congr 1
    omega
  · rw [nsub_le (by omega), ng_add1 (by omega)]
    unfold imx
    rw [if_neg (by rw [lt_m1 (by omega) (by omega)]; exact id)]
    congr 1
    omega
theorem St_landings_e (hg : GV g) (hS : SV M s g) (hd : d < g 7) (hl : g (64 + 10 * d + 3) = 0) (hn : 100 < n) : ∃ F, St_landings n s (nI d) M = some (lN F) ∧ F < 2 ^ 60 ∧ ∀ f, F.testBit f = cjB g d f := by
  obtain ⟨F, f1, f2, f3⟩ := St_fit_d hg hS hd hl hn
  obtain ⟨h1, h2, h3, h4⟩ := hg.1.2.2.2.1 d hd hl
  obtain ⟨c1, c2, c3, c4⟩ := (hS.2.2.1 d hd).2.2.2.2.2 hl
  have b1 := hg.1.2.1.1
  have h40 := hg.2.2
  refine ⟨dl F (2 ^ (g (64 + 10 * d + 4) + g (64 + 10 * d + 5)) - 2 ^ (g (64 + 10 * d + 4) + 1 - g (64 + 10 * d + 5))), ?_, dl_lt f2, fun f => ?_⟩
  · unfold St_landings
    simp (disch := omega) only [l_0, l_1, l_2, l_3, l_4, l_5, l_6, l_7, l_8, l_9, l_10, l_11, l_12, l_13, l_14, l_16, l_20, l_21, l_23, l_24, l_30, l_32, l_40, l_41, l_44, l_48, l_57, l_59, l_60, l_63, l_64, l_80, l_84, l_96, l_97, l_99, l_120, l_122, l_127, l_200, l_240, l_255, l_840, l_999, l_1000, l_1001, l_2400, l_3064, l_9999, l_10000, l_13849, l_16383, l_25173, l_65535, l_65536, l_99999, l_1000000000, neg_nI, pk_mul, nI_add, nI_subL, tn_nI, inb_t, grd_true, bnd_some, elS_l, elS_r, nI_ltI, nI_leI, nI_inj, fa_and, fa_or, m1_eq, eq_m1, m1_lt, m1_le, lt_m1, le_m1, m1_lt0, up2_at, up2_no, ite_true, ite_false, if_true, if_false, Bool.false_eq_true, reduceIte, reduceCtorEq, not_true_eq_false, not_false_eq_true, eq_self, decide_true, decide_false, le_tt, le_ff, lt_tt, lt_ff, eq_ff, and_true, true_and, and_false, false_and, or_true, true_or, or_false, false_or, ne_eq, decide_eq_true_eq, decide_eq_false_iff_not, Bool.not_true, Bool.not_false, Bool.and_true, Bool.true_and, Bool.and_false, Bool.false_and, gs_at, gs_no, oI_n, oI_s, c1, c2, c3, imx_sub, Fg_span_e, f1, landnot_e]
  · rw [dl_tb, span_tb (by omega), f3 f]
    unfold cjB
    congr 1
    rw [← decide_not]
    exact decide_eq_decide.mpr (by omega)
theorem Fm_canJump_e {h : Nat → Int32} (hg : GV g) (hF : FK M g h) (hd : d < g 7) (hl : g (64 + 10 * d + 3) = 0) {f : Nat} (hf : f < 100) (hn : 300 < n) : Fm_canJump n (nI d) (nI f) M = some (cjB g d f) := by
  have hG := hg.1.1
  have hFR := hF.FR hG
  have b1 := hg.1.2.1.1
  have h40 := hg.2.2
  obtain ⟨h1, h2, h3, h4⟩ := hg.1.2.2.2.1 d hd hl
  have o4 := hF.of (d := d) (w := 4) (by omega) (by omega) (by omega)
  have o5 := hF.of (d := d) (w := 5) (by omega) (by omega) (by omega)
  have o6 := hF.of (d := d) (w := 6) (by omega) (by omega) (by omega)
  have hft := Fm_fits_e hFR hG (l := g (64 + 10 * d + 6)) (s := f) (v := g (64 + 10 * d + 5)) (n := n) (but := some d) (fun j q => by cases q; omega) (by omega) (by omega) hn
  rw [oI_s] at hft
  unfold Fm_canJump Fm_canJump_j48 cjB
  simp (disch := omega) only [l_0, l_1, l_2, l_3, l_4, l_5, l_6, l_7, l_8, l_9, l_10, l_11, l_12, l_13, l_14, l_16, l_20, l_21, l_23, l_24, l_30, l_32, l_40, l_41, l_44, l_48, l_57, l_59, l_60, l_63, l_64, l_80, l_84, l_96, l_97, l_99, l_120, l_122, l_127, l_200, l_240, l_255, l_840, l_999, l_1000, l_1001, l_2400, l_3064, l_9999, l_10000, l_13849, l_16383, l_25173, l_65535, l_65536, l_99999, l_1000000000, neg_nI, pk_mul, nI_add, nI_subL, tn_nI, inb_t, grd_true, bnd_some, elS_l, elS_r, nI_ltI, nI_leI, nI_inj, fa_and, fa_or, m1_eq, eq_m1, m1_lt, m1_le, lt_m1, le_m1, m1_lt0, up2_at, up2_no, ite_true, ite_false, if_true, if_false, Bool.false_eq_true, reduceIte, reduceCtorEq, not_true_eq_false, not_false_eq_true, eq_self, decide_true, decide_false, le_tt, le_ff, lt_tt, lt_ff, eq_ff, and_true, true_and, and_false, false_and, or_true, true_or, or_false, false_or, ne_eq, decide_eq_true_eq, decide_eq_false_iff_not, Bool.not_true, Bool.not_false, Bool.and_true, Bool.true_and, Bool.and_false, Bool.false_and, gs_at, gs_no, oI_n, oI_s, o4, o5, o6, hft]
  cases fitB g (g (64 + 10 * d + 6)) f (g (64 + 10 * d + 5)) (some d) with
  | false => rfl
  | true =>
    by_cases q1 : g (64 + 10 * d + 4) + g (64 + 10 * d + 5) ≤ f
    · simp (disch := omega) only [l_0, l_1, l_2, l_3, l_4, l_5, l_6, l_7, l_8, l_9, l_10, l_11, l_12, l_13, l_14, l_16, l_20, l_21, l_23, l_24, l_30, l_32, l_40, l_41, l_44, l_48, l_57, l_59, l_60, l_63, l_64, l_80, l_84, l_96, l_97, l_99, l_120, l_122, l_127, l_200, l_240, l_255, l_840, l_999, l_1000, l_1001, l_2400, l_3064, l_9999, l_10000, l_13849, l_16383, l_25173, l_65535, l_65536, l_99999, l_1000000000, neg_nI, pk_mul, nI_add, nI_subL, tn_nI, inb_t, grd_true, bnd_some, elS_l, elS_r, nI_ltI, nI_leI, nI_inj, fa_and, fa_or, m1_eq, eq_m1, m1_lt, m1_le, lt_m1, le_m1, m1_lt0, up2_at, up2_no, ite_true, ite_false, if_true, if_false, Bool.false_eq_true, reduceIte, reduceCtorEq, not_true_eq_false, not_false_eq_true, eq_self, decide_true, decide_false, le_tt, le_ff, lt_tt, lt_ff, eq_ff, and_true, true_and, and_false, false_and, or_true, true_or, or_false, false_or, ne_eq, decide_eq_true_eq, decide_eq_false_iff_not, Bool.not_true, Bool.not_false, Bool.and_true, Bool.true_and, Bool.and_false, Bool.false_and, gs_at, gs_no, oI_n, oI_s, q1]
    · by_cases q2 : f + g (64 + 10 * d + 5) ≤ g (64 + 10 * d + 4)
      · simp (disch := omega) only [l_0, l_1, l_2, l_3, l_4, l_5, l_6, l_7, l_8, l_9, l_10, l_11, l_12, l_13, l_14, l_16, l_20, l_21, l_23, l_24, l_30, l_32, l_40, l_41, l_44, l_48, l_57, l_59, l_60, l_63, l_64, l_80, l_84, l_96, l_97, l_99, l_120, l_122, l_127, l_200, l_240, l_255, l_840, l_999, l_1000, l_1001, l_2400, l_3064, l_9999, l_10000, l_13849, l_16383, l_25173, l_65535, l_65536, l_99999, l_1000000000, neg_nI, pk_mul, nI_add, nI_subL, tn_nI, inb_t, grd_true, bnd_some, elS_l, elS_r, nI_ltI, nI_leI, nI_inj, fa_and, fa_or, m1_eq, eq_m1, m1_lt, m1_le, lt_m1, le_m1, m1_lt0, up2_at, up2_no, ite_true, ite_false, if_true, if_false, Bool.false_eq_true, reduceIte, reduceCtorEq, not_true_eq_false, not_false_eq_true, eq_self, decide_true, decide_false, le_tt, le_ff, lt_tt, lt_ff, eq_ff, and_true, true_and, and_false, false_and, or_true, true_or, or_false, false_or, ne_eq, decide_eq_true_eq, decide_eq_false_iff_not, Bool.not_true, Bool.not_false, Bool.and_true, Bool.true_and, Bool.and_false, Bool.false_and, gs_at, gs_no, oI_n, oI_s, q1, q2]
      · simp (disch := omega) only [l_0, l_1, l_2, l_3, l_4, l_5, l_6, l_7, l_8, l_9, l_10, l_11, l_12, l_13, l_14, l_16, l_20, l_21, l_23, l_24, l_30, l_32, l_40, l_41, l_44, l_48, l_57, l_59, l_60, l_63, l_64, l_80, l_84, l_96, l_97, l_99, l_120, l_122, l_127, l_200, l_240, l_255, l_840, l_999, l_1000, l_1001, l_2400, l_3064, l_9999, l_10000, l_13849, l_16383, l_25173, l_65535, l_65536, l_99999, l_1000000000, neg_nI, pk_mul, nI_add, nI_subL, tn_nI, inb_t, grd_true, bnd_some, elS_l, elS_r, nI_ltI, nI_leI, nI_inj, fa_and, fa_or, m1_eq, eq_m1, m1_lt, m1_le, lt_m1, le_m1, m1_lt0, up2_at, up2_no, ite_true, ite_false, if_true, if_false, Bool.false_eq_true, reduceIte, reduceCtorEq, not_true_eq_false, not_false_eq_true, eq_self, decide_true, decide_false, le_tt, le_ff, lt_tt, lt_ff, eq_ff, and_true, true_and, and_false, false_and, or_true, true_or, or_false, false_or, ne_eq, decide_eq_true_eq, decide_eq_false_iff_not, Bool.not_true, Bool.not_false, Bool.and_true, Bool.true_and, Bool.and_false, Bool.false_and, gs_at, gs_no, oI_n, oI_s, q1, q2]
end
theorem op_jump {n : Nat} (hn : 300 < n) (x y : Int32) : T2 (Fg_jump n x y) (Fm_jump n x y) := by
  intro g hg
  have hG := hg.1.1
  have h40 := hg.2.2
  have b1 := hg.1.2.1.1
  by_cases hx : ltB g x = true
  · obtain ⟨d, hd, rfl, hl⟩ := (lt_iff h40).mp hx
    obtain ⟨h1, h2, h3, h4⟩ := hg.1.2.2.2.1 d hd hl
    by_cases hy : ∃ f, f + g (64 + 10 * d + 5) ≤ g 1 ∧ y = nI f
    · obtain ⟨f, hf, rfl⟩ := hy
      cases hj : cjB g d f with
      | true =>
        have hfit : fitB g (g (64 + 10 * d + 6)) f (g (64 + 10 * d + 5)) (some d) = true := by
          unfold cjB at hj
          rw [Bool.and_eq_true] at hj
          exact hj.1
        refine ⟨nI (g (64 + 10 * d + 4)) - nI f, gs g (64 + 10 * d + 4) f, ?_, fun M hS hA => ?_, fun M h hF => ?_⟩
        · rw [← lit_same hl]
          exact GV_lit hg hd h1 h3 h4 hfit (.inl hl)
        · obtain ⟨c1, c2, c3, c4⟩ := (hS.2.2.1 d hd).2.2.2.2.2 hl
          obtain ⟨M', a1, a2, a3⟩ := SV_move hg.1 h40 hS hd (n := n) (on := g (64 + 10 * d + 6)) (f := f) (w := g (64 + 10 * d + 5)) h4 (by omega) (by omega)
          obtain ⟨F, f1, f2, f3⟩ := St_landings_e hg hS hd hl (n := n) (by omega)
          rw [lit_same hl] at a2
          refine TC.mk hg hA ?_ a2 a3 (fun c j q => by unfold fp_St_move at q; unfold PC; omega) (fun j h1 h2 h3 => gs_no (by omega))
          have hb0 : (lushr (lN F) (nI f) &&& (1 : Int64) = (0 : Int64)) = (F.testBit f = false) := lb0 (Nat.lt_trans f2 (by decide)) (by omega)
          unfold Fg_jump
          rw [St_isLit_e hG h40 hS, hx]
          simp (disch := omega) only [l_0, l_1, l_2, l_3, l_4, l_5, l_6, l_7, l_8, l_9, l_10, l_11, l_12, l_13, l_14, l_16, l_20, l_21, l_23, l_24, l_30, l_32, l_40, l_41, l_44, l_48, l_57, l_59, l_60, l_63, l_64, l_80, l_84, l_96, l_97, l_99, l_120, l_122, l_127, l_200, l_240, l_255, l_840, l_999, l_1000, l_1001, l_2400, l_3064, l_9999, l_10000, l_13849, l_16383, l_25173, l_65535, l_65536, l_99999, l_1000000000, neg_nI, pk_mul, nI_add, nI_subL, tn_nI, inb_t, grd_true, bnd_some, elS_l, elS_r, nI_ltI, nI_leI, nI_inj, fa_and, fa_or, m1_eq, eq_m1, m1_lt, m1_le, lt_m1, le_m1, m1_lt0, up2_at, up2_no, ite_true, ite_false, if_true, if_false, Bool.false_eq_true, reduceIte, reduceCtorEq, not_true_eq_false, not_false_eq_true, eq_self, decide_true, decide_false, le_tt, le_ff, lt_tt, lt_ff, eq_ff, and_true, true_and, and_false, false_and, or_true, true_or, or_false, false_or, ne_eq, decide_eq_true_eq, decide_eq_false_iff_not, Bool.not_true, Bool.not_false, Bool.and_true, Bool.true_and, Bool.and_false, Bool.false_and, gs_at, gs_no, oI_n, oI_s, show M.1 19 1 = nI (g 1) from hS.1.1.1 1 (by omega), show M.1 30 d = nI (g (64 + 10 * d + 6)) from c1, show M.1 31 d = nI (g (64 + 10 * d + 4)) from c2, show M.1 32 d = nI (g (64 + 10 * d + 5)) from c3, f1, hb0, f3 f, hj, a1]
        · obtain ⟨M', a1, a2, a3⟩ := hF.sets (d := d) (w := 4) (v := f) (by omega) (by omega) (by omega)
          refine TM.mk ?_ a2 a3 (fun c j q => .inl q)
          unfold Fm_jump
          simp (disch := omega) only [l_0, l_1, l_2, l_3, l_4, l_5, l_6, l_7, l_8, l_9, l_10, l_11, l_12, l_13, l_14, l_16, l_20, l_21, l_23, l_24, l_30, l_32, l_40, l_41, l_44, l_48, l_57, l_59, l_60, l_63, l_64, l_80, l_84, l_96, l_97, l_99, l_120, l_122, l_127, l_200, l_240, l_255, l_840, l_999, l_1000, l_1001, l_2400, l_3064, l_9999, l_10000, l_13849, l_16383, l_25173, l_65535, l_65536, l_99999, l_1000000000, neg_nI, pk_mul, nI_add, nI_subL, tn_nI, inb_t, grd_true, bnd_some, elS_l, elS_r, nI_ltI, nI_leI, nI_inj, fa_and, fa_or, m1_eq, eq_m1, m1_lt, m1_le, lt_m1, le_m1, m1_lt0, up2_at, up2_no, ite_true, ite_false, if_true, if_false, Bool.false_eq_true, reduceIte, reduceCtorEq, not_true_eq_false, not_false_eq_true, eq_self, decide_true, decide_false, le_tt, le_ff, lt_tt, lt_ff, eq_ff, and_true, true_and, and_false, false_and, or_true, true_or, or_false, false_or, ne_eq, decide_eq_true_eq, decide_eq_false_iff_not, Bool.not_true, Bool.not_false, Bool.and_true, Bool.true_and, Bool.and_false, Bool.false_and, gs_at, gs_no, oI_n, oI_s, Fm_isDemand_e (hF.lo (show 7 < 64 by omega)), Fm_isLit_e (hF.FR hG) hG hd, hl, hF.of, hF.lo, Fm_canJump_e hg hF hd hl (show f < 100 by omega) hn, hj, a1]
      | false =>
        refine ⟨ng 1001, g, hg, fun M hS hA => TC.id hS hA ?_, fun M h hF => TM.id hF ?_⟩
        · obtain ⟨c1, c2, c3, c4⟩ := (hS.2.2.1 d hd).2.2.2.2.2 hl
          obtain ⟨F, f1, f2, f3⟩ := St_landings_e hg hS hd hl (n := n) (by omega)
          have hb0 : (lushr (lN F) (nI f) &&& (1 : Int64) = (0 : Int64)) = (F.testBit f = false) := lb0 (Nat.lt_trans f2 (by decide)) (by omega)
          unfold Fg_jump
          rw [St_isLit_e hG h40 hS, hx]
          simp (disch := omega) only [l_0, l_1, l_2, l_3, l_4, l_5, l_6, l_7, l_8, l_9, l_10, l_11, l_12, l_13, l_14, l_16, l_20, l_21, l_23, l_24, l_30, l_32, l_40, l_41, l_44, l_48, l_57, l_59, l_60, l_63, l_64, l_80, l_84, l_96, l_97, l_99, l_120, l_122, l_127, l_200, l_240, l_255, l_840, l_999, l_1000, l_1001, l_2400, l_3064, l_9999, l_10000, l_13849, l_16383, l_25173, l_65535, l_65536, l_99999, l_1000000000, neg_nI, pk_mul, nI_add, nI_subL, tn_nI, inb_t, grd_true, bnd_some, elS_l, elS_r, nI_ltI, nI_leI, nI_inj, fa_and, fa_or, m1_eq, eq_m1, m1_lt, m1_le, lt_m1, le_m1, m1_lt0, up2_at, up2_no, ite_true, ite_false, if_true, if_false, Bool.false_eq_true, reduceIte, reduceCtorEq, not_true_eq_false, not_false_eq_true, eq_self, decide_true, decide_false, le_tt, le_ff, lt_tt, lt_ff, eq_ff, and_true, true_and, and_false, false_and, or_true, true_or, or_false, false_or, ne_eq, decide_eq_true_eq, decide_eq_false_iff_not, Bool.not_true, Bool.not_false, Bool.and_true, Bool.true_and, Bool.and_false, Bool.false_and, gs_at, gs_no, oI_n, oI_s, show M.1 19 1 = nI (g 1) from hS.1.1.1 1 (by omega), show M.1 32 d = nI (g (64 + 10 * d + 5)) from c3, f1, hb0, f3 f, hj]
        · unfold Fm_jump
          simp (disch := omega) only [l_0, l_1, l_2, l_3, l_4, l_5, l_6, l_7, l_8, l_9, l_10, l_11, l_12, l_13, l_14, l_16, l_20, l_21, l_23, l_24, l_30, l_32, l_40, l_41, l_44, l_48, l_57, l_59, l_60, l_63, l_64, l_80, l_84, l_96, l_97, l_99, l_120, l_122, l_127, l_200, l_240, l_255, l_840, l_999, l_1000, l_1001, l_2400, l_3064, l_9999, l_10000, l_13849, l_16383, l_25173, l_65535, l_65536, l_99999, l_1000000000, neg_nI, pk_mul, nI_add, nI_subL, tn_nI, inb_t, grd_true, bnd_some, elS_l, elS_r, nI_ltI, nI_leI, nI_inj, fa_and, fa_or, m1_eq, eq_m1, m1_lt, m1_le, lt_m1, le_m1, m1_lt0, up2_at, up2_no, ite_true, ite_false, if_true, if_false, Bool.false_eq_true, reduceIte, reduceCtorEq, not_true_eq_false, not_false_eq_true, eq_self, decide_true, decide_false, le_tt, le_ff, lt_tt, lt_ff, eq_ff, and_true, true_and, and_false, false_and, or_true, true_or, or_false, false_or, ne_eq, decide_eq_true_eq, decide_eq_false_iff_not, Bool.not_true, Bool.not_false, Bool.and_true, Bool.true_and, Bool.and_false, Bool.false_and, gs_at, gs_no, oI_n, oI_s, Fm_isDemand_e (hF.lo (show 7 < 64 by omega)), Fm_isLit_e (hF.FR hG) hG hd, hl, hF.of, hF.lo, Fm_canJump_e hg hF hd hl (show f < 100 by omega) hn, hj]
    · refine ⟨ng 1000, g, hg, fun M hS hA => TC.id hS hA ?_, fun M h hF => TM.id hF ?_⟩
      · obtain ⟨c1, c2, c3, c4⟩ := (hS.2.2.1 d hd).2.2.2.2.2 hl
        unfold Fg_jump Fg_jump_j29
        rw [St_isLit_e hG h40 hS, hx]
        rcases i32c y with ⟨f, hf, rfl⟩ | h
        · have hc : g 1 < f + g (64 + 10 * d + 5) := by
            rcases Nat.lt_or_ge (g 1) (f + g (64 + 10 * d + 5)) with q | q
            · exact q
            · exact absurd ⟨f, q, rfl⟩ hy
          by_cases q : f < g 1
          · simp (disch := omega) only [l_0, l_1, l_2, l_3, l_4, l_5, l_6, l_7, l_8, l_9, l_10, l_11, l_12, l_13, l_14, l_16, l_20, l_21, l_23, l_24, l_30, l_32, l_40, l_41, l_44, l_48, l_57, l_59, l_60, l_63, l_64, l_80, l_84, l_96, l_97, l_99, l_120, l_122, l_127, l_200, l_240, l_255, l_840, l_999, l_1000, l_1001, l_2400, l_3064, l_9999, l_10000, l_13849, l_16383, l_25173, l_65535, l_65536, l_99999, l_1000000000, neg_nI, pk_mul, nI_add, nI_subL, tn_nI, inb_t, grd_true, bnd_some, elS_l, elS_r, nI_ltI, nI_leI, nI_inj, fa_and, fa_or, m1_eq, eq_m1, m1_lt, m1_le, lt_m1, le_m1, m1_lt0, up2_at, up2_no, ite_true, ite_false, if_true, if_false, Bool.false_eq_true, reduceIte, reduceCtorEq, not_true_eq_false, not_false_eq_true, eq_self, decide_true, decide_false, le_tt, le_ff, lt_tt, lt_ff, eq_ff, and_true, true_and, and_false, false_and, or_true, true_or, or_false, false_or, ne_eq, decide_eq_true_eq, decide_eq_false_iff_not, Bool.not_true, Bool.not_false, Bool.and_true, Bool.true_and, Bool.and_false, Bool.false_and, gs_at, gs_no, oI_n, oI_s, show M.1 19 1 = nI (g 1) from hS.1.1.1 1 (by omega), show M.1 32 d = nI (g (64 + 10 * d + 5)) from c3]
          · simp (disch := omega) only [l_0, l_1, l_2, l_3, l_4, l_5, l_6, l_7, l_8, l_9, l_10, l_11, l_12, l_13, l_14, l_16, l_20, l_21, l_23, l_24, l_30, l_32, l_40, l_41, l_44, l_48, l_57, l_59, l_60, l_63, l_64, l_80, l_84, l_96, l_97, l_99, l_120, l_122, l_127, l_200, l_240, l_255, l_840, l_999, l_1000, l_1001, l_2400, l_3064, l_9999, l_10000, l_13849, l_16383, l_25173, l_65535, l_65536, l_99999, l_1000000000, neg_nI, pk_mul, nI_add, nI_subL, tn_nI, inb_t, grd_true, bnd_some, elS_l, elS_r, nI_ltI, nI_leI, nI_inj, fa_and, fa_or, m1_eq, eq_m1, m1_lt, m1_le, lt_m1, le_m1, m1_lt0, up2_at, up2_no, ite_true, ite_false, if_true, if_false, Bool.false_eq_true, reduceIte, reduceCtorEq, not_true_eq_false, not_false_eq_true, eq_self, decide_true, decide_false, le_tt, le_ff, lt_tt, lt_ff, eq_ff, and_true, true_and, and_false, false_and, or_true, true_or, or_false, false_or, ne_eq, decide_eq_true_eq, decide_eq_false_iff_not, Bool.not_true, Bool.not_false, Bool.and_true, Bool.true_and, Bool.and_false, Bool.false_and, gs_at, gs_no, oI_n, oI_s, show M.1 19 1 = nI (g 1) from hS.1.1.1 1 (by omega), show M.1 32 d = nI (g (64 + 10 * d + 5)) from c3]
        · simp (disch := omega) only [l_0, l_1, l_2, l_3, l_4, l_5, l_6, l_7, l_8, l_9, l_10, l_11, l_12, l_13, l_14, l_16, l_20, l_21, l_23, l_24, l_30, l_32, l_40, l_41, l_44, l_48, l_57, l_59, l_60, l_63, l_64, l_80, l_84, l_96, l_97, l_99, l_120, l_122, l_127, l_200, l_240, l_255, l_840, l_999, l_1000, l_1001, l_2400, l_3064, l_9999, l_10000, l_13849, l_16383, l_25173, l_65535, l_65536, l_99999, l_1000000000, neg_nI, pk_mul, nI_add, nI_subL, tn_nI, inb_t, grd_true, bnd_some, elS_l, elS_r, nI_ltI, nI_leI, nI_inj, fa_and, fa_or, m1_eq, eq_m1, m1_lt, m1_le, lt_m1, le_m1, m1_lt0, up2_at, up2_no, ite_true, ite_false, if_true, if_false, Bool.false_eq_true, reduceIte, reduceCtorEq, not_true_eq_false, not_false_eq_true, eq_self, decide_true, decide_false, le_tt, le_ff, lt_tt, lt_ff, eq_ff, and_true, true_and, and_false, false_and, or_true, true_or, or_false, false_or, ne_eq, decide_eq_true_eq, decide_eq_false_iff_not, Bool.not_true, Bool.not_false, Bool.and_true, Bool.true_and, Bool.and_false, Bool.false_and, gs_at, gs_no, oI_n, oI_s, xlt h]
      · unfold Fm_jump Fm_jump_j37
        simp (disch := omega) only [l_0, l_1, l_2, l_3, l_4, l_5, l_6, l_7, l_8, l_9, l_10, l_11, l_12, l_13, l_14, l_16, l_20, l_21, l_23, l_24, l_30, l_32, l_40, l_41, l_44, l_48, l_57, l_59, l_60, l_63, l_64, l_80, l_84, l_96, l_97, l_99, l_120, l_122, l_127, l_200, l_240, l_255, l_840, l_999, l_1000, l_1001, l_2400, l_3064, l_9999, l_10000, l_13849, l_16383, l_25173, l_65535, l_65536, l_99999, l_1000000000, neg_nI, pk_mul, nI_add, nI_subL, tn_nI, inb_t, grd_true, bnd_some, elS_l, elS_r, nI_ltI, nI_leI, nI_inj, fa_and, fa_or, m1_eq, eq_m1, m1_lt, m1_le, lt_m1, le_m1, m1_lt0, up2_at, up2_no, ite_true, ite_false, if_true, if_false, Bool.false_eq_true, reduceIte, reduceCtorEq, not_true_eq_false, not_false_eq_true, eq_self, decide_true, decide_false, le_tt, le_ff, lt_tt, lt_ff, eq_ff, and_true, true_and, and_false, false_and, or_true, true_or, or_false, false_or, ne_eq, decide_eq_true_eq, decide_eq_false_iff_not, Bool.not_true, Bool.not_false, Bool.and_true, Bool.true_and, Bool.and_false, Bool.false_and, gs_at, gs_no, oI_n, oI_s, Fm_isDemand_e (hF.lo (show 7 < 64 by omega)), Fm_isLit_e (hF.FR hG) hG hd, hl]
        rcases i32c y with ⟨f, hf, rfl⟩ | h
        · have hc : g 1 < f + g (64 + 10 * d + 5) := by
            rcases Nat.lt_or_ge (g 1) (f + g (64 + 10 * d + 5)) with q | q
            · exact q
            · exact absurd ⟨f, q, rfl⟩ hy
          simp (disch := omega) only [l_0, l_1, l_2, l_3, l_4, l_5, l_6, l_7, l_8, l_9, l_10, l_11, l_12, l_13, l_14, l_16, l_20, l_21, l_23, l_24, l_30, l_32, l_40, l_41, l_44, l_48, l_57, l_59, l_60, l_63, l_64, l_80, l_84, l_96, l_97, l_99, l_120, l_122, l_127, l_200, l_240, l_255, l_840, l_999, l_1000, l_1001, l_2400, l_3064, l_9999, l_10000, l_13849, l_16383, l_25173, l_65535, l_65536, l_99999, l_1000000000, neg_nI, pk_mul, nI_add, nI_subL, tn_nI, inb_t, grd_true, bnd_some, elS_l, elS_r, nI_ltI, nI_leI, nI_inj, fa_and, fa_or, m1_eq, eq_m1, m1_lt, m1_le, lt_m1, le_m1, m1_lt0, up2_at, up2_no, ite_true, ite_false, if_true, if_false, Bool.false_eq_true, reduceIte, reduceCtorEq, not_true_eq_false, not_false_eq_true, eq_self, decide_true, decide_false, le_tt, le_ff, lt_tt, lt_ff, eq_ff, and_true, true_and, and_false, false_and, or_true, true_or, or_false, false_or, ne_eq, decide_eq_true_eq, decide_eq_false_iff_not, Bool.not_true, Bool.not_false, Bool.and_true, Bool.true_and, Bool.and_false, Bool.false_and, gs_at, gs_no, oI_n, oI_s, hF.of, hF.lo]
        · simp (disch := omega) only [l_0, l_1, l_2, l_3, l_4, l_5, l_6, l_7, l_8, l_9, l_10, l_11, l_12, l_13, l_14, l_16, l_20, l_21, l_23, l_24, l_30, l_32, l_40, l_41, l_44, l_48, l_57, l_59, l_60, l_63, l_64, l_80, l_84, l_96, l_97, l_99, l_120, l_122, l_127, l_200, l_240, l_255, l_840, l_999, l_1000, l_1001, l_2400, l_3064, l_9999, l_10000, l_13849, l_16383, l_25173, l_65535, l_65536, l_99999, l_1000000000, neg_nI, pk_mul, nI_add, nI_subL, tn_nI, inb_t, grd_true, bnd_some, elS_l, elS_r, nI_ltI, nI_leI, nI_inj, fa_and, fa_or, m1_eq, eq_m1, m1_lt, m1_le, lt_m1, le_m1, m1_lt0, up2_at, up2_no, ite_true, ite_false, if_true, if_false, Bool.false_eq_true, reduceIte, reduceCtorEq, not_true_eq_false, not_false_eq_true, eq_self, decide_true, decide_false, le_tt, le_ff, lt_tt, lt_ff, eq_ff, and_true, true_and, and_false, false_and, or_true, true_or, or_false, false_or, ne_eq, decide_eq_true_eq, decide_eq_false_iff_not, Bool.not_true, Bool.not_false, Bool.and_true, Bool.true_and, Bool.and_false, Bool.false_and, gs_at, gs_no, oI_n, oI_s, xlt h]
  · refine ⟨ng 1000, g, hg, fun M hS hA => TC.id hS hA ?_, fun M h hF => TM.id hF ?_⟩
    · unfold Fg_jump
      rw [St_isLit_e hG h40 hS, ts_nt hx]
      rfl
    · unfold Fm_jump
      rw [Fm_isDemand_e (hF.lo (show 7 < 64 by omega)) (by omega), bnd_some]
      cases hi : inb x (g 7) with
      | false => rfl
      | true =>
        obtain ⟨d, hd, rfl⟩ := (inb_iff (by omega)).mp hi
        have : ¬ g (64 + 10 * d + 3) = 0 := fun q => hx ((lt_iff h40).mpr ⟨d, hd, rfl, q⟩)
        unfold Fm_jump_j37
        simp (disch := omega) only [l_0, l_1, l_2, l_3, l_4, l_5, l_6, l_7, l_8, l_9, l_10, l_11, l_12, l_13, l_14, l_16, l_20, l_21, l_23, l_24, l_30, l_32, l_40, l_41, l_44, l_48, l_57, l_59, l_60, l_63, l_64, l_80, l_84, l_96, l_97, l_99, l_120, l_122, l_127, l_200, l_240, l_255, l_840, l_999, l_1000, l_1001, l_2400, l_3064, l_9999, l_10000, l_13849, l_16383, l_25173, l_65535, l_65536, l_99999, l_1000000000, neg_nI, pk_mul, nI_add, nI_subL, tn_nI, inb_t, grd_true, bnd_some, elS_l, elS_r, nI_ltI, nI_leI, nI_inj, fa_and, fa_or, m1_eq, eq_m1, m1_lt, m1_le, lt_m1, le_m1, m1_lt0, up2_at, up2_no, ite_true, ite_false, if_true, if_false, Bool.false_eq_true, reduceIte, reduceCtorEq, not_true_eq_false, not_false_eq_true, eq_self, decide_true, decide_false, le_tt, le_ff, lt_tt, lt_ff, eq_ff, and_true, true_and, and_false, false_and, or_true, true_or, or_false, false_or, ne_eq, decide_eq_true_eq, decide_eq_false_iff_not, Bool.not_true, Bool.not_false, Bool.and_true, Bool.true_and, Bool.and_false, Bool.false_and, gs_at, gs_no, oI_n, oI_s, Fm_isLit_e (hF.FR hG) hG hd, this]
/-! cut -/
def cuF (l : Nat) (g : Nat → Nat) : Nat → (Nat → Nat) × Nat
  | 0 => (g, 0)
  | k + 1 => if (cuF l g k).1 (64 + 10 * k + 3) = 0 ∧ ((cuF l g k).1 (64 + 10 * k + 6)).testBit l = true then (offG (cuF l g k).1 k 2, (cuF l g k).2 + 1) else cuF l g k
def cutG (l : Nat) (g : Nat → Nat) : (Nat → Nat) × Nat := cuF l (gs g 12 (dl (g 12) (2 ^ l))) (g 7)
theorem cuF_V {l : Nat} {g : Nat → Nat} (hg : GV g) : ∀ k, GV (cuF l g k).1 ∧ (∀ j, j < 64 → (cuF l g k).1 j = g j) ∧ (cuF l g k).2 ≤ k
  | 0 => ⟨hg, fun _ _ => rfl, Nat.le_refl _⟩
  | k + 1 => by
    obtain ⟨h1, h2, h3⟩ := cuF_V (l := l) hg k
    unfold cuF
    by_cases c : (cuF l g k).1 (64 + 10 * k + 3) = 0 ∧ ((cuF l g k).1 (64 + 10 * k + 6)).testBit l = true
    · rw [if_pos c]
      exact ⟨GV_off h1 (by omega) (by omega) (fun _ => .inl c.1), fun j hj => (off_lo hj).trans (h2 j hj), by show _ + 1 ≤ _; omega⟩
    · rw [if_neg c]
      exact ⟨h1, h2, by omega⟩
theorem cut_V {l : Nat} {g : Nat → Nat} (hg : GV g) : GV (cutG l g).1 ∧ (∀ j, j < 64 → j ≠ 12 → (cutG l g).1 j = g j) ∧ (cutG l g).2 ≤ 40 := by
  have h := cuF_V (l := l) (GV_up hg (u := dl (g 12) (2 ^ l)) (dl_lt hg.1.2.1.1.2.2.2.2.2.2)) (g 7)
  exact ⟨h.1, fun j hj hj2 => (h.2.1 j hj).trans (gs_no hj2), Nat.le_trans h.2.2 hg.2.2⟩
theorem St_sever_e {M : Mm} {g : Nat → Nat} {n s l : Nat} (hg : GV g) (hS : SV M s g) (hl : l < g 3) (hn : 100 < n) : ∃ M', St_sever n s (nI l) M = some (nI (cutG l g).2, M') ∧ SV M' s (cutG l g).1 ∧ Fr (fp_St_sever s) M M' := by
  have b1 := hg.1.2.1.1
  have g12 := hg.1.1.1 12
  have h40 := hg.2.2
  have hV := GV_up hg (u := dl (g 12) (2 ^ l)) (dl_lt b1.2.2.2.2.2.2)
  have hlp : ∃ r, loop (fun s1 : Int32 × Int32 × Mm => St_sever_b18 n s (nI l) s1.1 s1.2.1 s1.2.2) n (nI 0, nI 0, (up2 M.1 s 1 (nI (dl (g 12) (2 ^ l))), M.2)) = some r ∧ (r.1 = nI (cutG l g).2 ∧ SV r.2 s (cutG l g).1) := by
    refine loop_I0 (fun i (st : Int32 × Int32 × Mm) => st.1 = nI (cuF l (gs g 12 (dl (g 12) (2 ^ l))) i).2 ∧ st.2.1 = nI i ∧ SV st.2.2 s (cuF l (gs g 12 (dl (g 12) (2 ^ l))) i).1) _ (g 7) ⟨rfl, rfl, SV_up hg hS⟩ (by omega) ?_ ?_
    · rintro i ⟨s1, s2, M1⟩ hi ⟨e1, e2, e3⟩
      simp only at e1 e2 e3
      subst e1 e2
      left
      obtain ⟨v1, v2, v3⟩ := cuF_V (l := l) hV i
      have e7 : (cuF l (gs g 12 (dl (g 12) (2 ^ l))) i).1 7 = g 7 := (v2 7 (by omega)).trans (gs_no (by omega))
      have h4 := e3.2.1
      rw [e7] at h4
      obtain ⟨c1, c2, c3, c4, c5, c6⟩ := e3.2.2.1 i (by rw [e7]; exact hi)
      show ∃ s', St_sever_b18 n s (nI l) (nI (cuF l (gs g 12 (dl (g 12) (2 ^ l))) i).2) (nI i) M1 = some (.inl s') ∧ _
      have q3 := v1.1.1.1 (64 + 10 * i + 3)
      have q6 := v1.1.1.1 (64 + 10 * i + 6)
      generalize hp : cuF l (gs g 12 (dl (g 12) (2 ^ l))) i = p at *
      have hs : cuF l (gs g 12 (dl (g 12) (2 ^ l))) (i + 1) = if p.1 (64 + 10 * i + 3) = 0 ∧ (p.1 (64 + 10 * i + 6)).testBit l = true then (offG p.1 i 2, p.2 + 1) else p := by
        rw [← hp]; rfl
      rw [hs]
      unfold St_sever_b18 St_sever_j57
      by_cases z : p.1 (64 + 10 * i + 3) = 0
      · have x1 := (c6 z).1
        cases hb : (p.1 (64 + 10 * i + 6)).testBit l with
        | true =>
          obtain ⟨M2, a1, a2, a3⟩ := SV_takeOff v1.1 (by rw [e7]; exact h40) e3 (d := i) (st := 2) (by rw [e7]; exact hi) (by omega) (by omega) hn
          refine ⟨(nI (p.2 + 1), nI (i + 1), M2), ?_, ?_⟩
          · simp (disch := omega) only [l_0, l_1, l_2, l_3, l_4, l_5, l_6, l_7, l_8, l_9, l_10, l_11, l_12, l_13, l_14, l_16, l_20, l_21, l_23, l_24, l_30, l_32, l_40, l_41, l_44, l_48, l_57, l_59, l_60, l_63, l_64, l_80, l_84, l_96, l_97, l_99, l_120, l_122, l_127, l_200, l_240, l_255, l_840, l_999, l_1000, l_1001, l_2400, l_3064, l_9999, l_10000, l_13849, l_16383, l_25173, l_65535, l_65536, l_99999, l_1000000000, neg_nI, pk_mul, nI_add, nI_subL, tn_nI, inb_t, grd_true, bnd_some, elS_l, elS_r, nI_ltI, nI_leI, nI_inj, fa_and, fa_or, m1_eq, eq_m1, m1_lt, m1_le, lt_m1, le_m1, m1_lt0, up2_at, up2_no, ite_true, ite_false, if_true, if_false, Bool.false_eq_true, reduceIte, reduceCtorEq, not_true_eq_false, not_false_eq_true, eq_self, decide_true, decide_false, le_tt, le_ff, lt_tt, lt_ff, eq_ff, and_true, true_and, and_false, false_and, or_true, true_or, or_false, false_or, ne_eq, decide_eq_true_eq, decide_eq_false_iff_not, Bool.not_true, Bool.not_false, Bool.and_true, Bool.true_and, Bool.and_false, Bool.false_and, gs_at, gs_no, oI_n, oI_s, h4, c4, z, x1, bt0, hb, a1]
          · rw [if_pos ⟨z, rfl⟩]
            exact ⟨rfl, rfl, a2⟩
        | false =>
          refine ⟨(nI p.2, nI (i + 1), M1), ?_, ?_⟩
          · simp (disch := omega) only [l_0, l_1, l_2, l_3, l_4, l_5, l_6, l_7, l_8, l_9, l_10, l_11, l_12, l_13, l_14, l_16, l_20, l_21, l_23, l_24, l_30, l_32, l_40, l_41, l_44, l_48, l_57, l_59, l_60, l_63, l_64, l_80, l_84, l_96, l_97, l_99, l_120, l_122, l_127, l_200, l_240, l_255, l_840, l_999, l_1000, l_1001, l_2400, l_3064, l_9999, l_10000, l_13849, l_16383, l_25173, l_65535, l_65536, l_99999, l_1000000000, neg_nI, pk_mul, nI_add, nI_subL, tn_nI, inb_t, grd_true, bnd_some, elS_l, elS_r, nI_ltI, nI_leI, nI_inj, fa_and, fa_or, m1_eq, eq_m1, m1_lt, m1_le, lt_m1, le_m1, m1_lt0, up2_at, up2_no, ite_true, ite_false, if_true, if_false, Bool.false_eq_true, reduceIte, reduceCtorEq, not_true_eq_false, not_false_eq_true, eq_self, decide_true, decide_false, le_tt, le_ff, lt_tt, lt_ff, eq_ff, and_true, true_and, and_false, false_and, or_true, true_or, or_false, false_or, ne_eq, decide_eq_true_eq, decide_eq_false_iff_not, Bool.not_true, Bool.not_false, Bool.and_true, Bool.true_and, Bool.and_false, Bool.false_and, gs_at, gs_no, oI_n, oI_s, h4, c4, z, x1, bt0, hb]
          · rw [if_neg (by simp)]
            exact ⟨rfl, rfl, e3⟩
      · refine ⟨(nI p.2, nI (i + 1), M1), ?_, ?_⟩
        · simp (disch := omega) only [l_0, l_1, l_2, l_3, l_4, l_5, l_6, l_7, l_8, l_9, l_10, l_11, l_12, l_13, l_14, l_16, l_20, l_21, l_23, l_24, l_30, l_32, l_40, l_41, l_44, l_48, l_57, l_59, l_60, l_63, l_64, l_80, l_84, l_96, l_97, l_99, l_120, l_122, l_127, l_200, l_240, l_255, l_840, l_999, l_1000, l_1001, l_2400, l_3064, l_9999, l_10000, l_13849, l_16383, l_25173, l_65535, l_65536, l_99999, l_1000000000, neg_nI, pk_mul, nI_add, nI_subL, tn_nI, inb_t, grd_true, bnd_some, elS_l, elS_r, nI_ltI, nI_leI, nI_inj, fa_and, fa_or, m1_eq, eq_m1, m1_lt, m1_le, lt_m1, le_m1, m1_lt0, up2_at, up2_no, ite_true, ite_false, if_true, if_false, Bool.false_eq_true, reduceIte, reduceCtorEq, not_true_eq_false, not_false_eq_true, eq_self, decide_true, decide_false, le_tt, le_ff, lt_tt, lt_ff, eq_ff, and_true, true_and, and_false, false_and, or_true, true_or, or_false, false_or, ne_eq, decide_eq_true_eq, decide_eq_false_iff_not, Bool.not_true, Bool.not_false, Bool.and_true, Bool.true_and, Bool.and_false, Bool.false_and, gs_at, gs_no, oI_n, oI_s, h4, c4, z]
        · rw [if_neg (fun q => z q.1)]
          exact ⟨rfl, rfl, e3⟩
    · rintro ⟨s1, s2, M1⟩ ⟨e1, e2, e3⟩
      simp only at e1 e2 e3
      subst e1 e2
      obtain ⟨v1, v2, v3⟩ := cuF_V (l := l) hV (g 7)
      have e7 : (cuF l (gs g 12 (dl (g 12) (2 ^ l))) (g 7)).1 7 = g 7 := (v2 7 (by omega)).trans (gs_no (by omega))
      have h4 := e3.2.1
      rw [e7] at h4
      refine ⟨(nI (cutG l g).2, M1), ?_, rfl, e3⟩
      show St_sever_b18 n s (nI l) _ (nI (g 7)) M1 = _
      unfold St_sever_b18
      simp (disch := omega) only [l_0, l_1, l_2, l_3, l_4, l_5, l_6, l_7, l_8, l_9, l_10, l_11, l_12, l_13, l_14, l_16, l_20, l_21, l_23, l_24, l_30, l_32, l_40, l_41, l_44, l_48, l_57, l_59, l_60, l_63, l_64, l_80, l_84, l_96, l_97, l_99, l_120, l_122, l_127, l_200, l_240, l_255, l_840, l_999, l_1000, l_1001, l_2400, l_3064, l_9999, l_10000, l_13849, l_16383, l_25173, l_65535, l_65536, l_99999, l_1000000000, neg_nI, pk_mul, nI_add, nI_subL, tn_nI, inb_t, grd_true, bnd_some, elS_l, elS_r, nI_ltI, nI_leI, nI_inj, fa_and, fa_or, m1_eq, eq_m1, m1_lt, m1_le, lt_m1, le_m1, m1_lt0, up2_at, up2_no, ite_true, ite_false, if_true, if_false, Bool.false_eq_true, reduceIte, reduceCtorEq, not_true_eq_false, not_false_eq_true, eq_self, decide_true, decide_false, le_tt, le_ff, lt_tt, lt_ff, eq_ff, and_true, true_and, and_false, false_and, or_true, true_or, or_false, false_or, ne_eq, decide_eq_true_eq, decide_eq_false_iff_not, Bool.not_true, Bool.not_false, Bool.and_true, Bool.true_and, Bool.and_false, Bool.false_and, gs_at, gs_no, oI_n, oI_s, h4]
      rfl
  obtain ⟨r, r1, r2, r3⟩ := hlp
  have hrun : St_sever n s (nI l) M = some (nI (cutG l g).2, r.2) := by
    unfold St_sever
    simp (disch := omega) only [l_0, l_1, l_2, l_3, l_4, l_5, l_6, l_7, l_8, l_9, l_10, l_11, l_12, l_13, l_14, l_16, l_20, l_21, l_23, l_24, l_30, l_32, l_40, l_41, l_44, l_48, l_57, l_59, l_60, l_63, l_64, l_80, l_84, l_96, l_97, l_99, l_120, l_122, l_127, l_200, l_240, l_255, l_840, l_999, l_1000, l_1001, l_2400, l_3064, l_9999, l_10000, l_13849, l_16383, l_25173, l_65535, l_65536, l_99999, l_1000000000, neg_nI, pk_mul, nI_add, nI_subL, tn_nI, inb_t, grd_true, bnd_some, elS_l, elS_r, nI_ltI, nI_leI, nI_inj, fa_and, fa_or, m1_eq, eq_m1, m1_lt, m1_le, lt_m1, le_m1, m1_lt0, up2_at, up2_no, ite_true, ite_false, if_true, if_false, Bool.false_eq_true, reduceIte, reduceCtorEq, not_true_eq_false, not_false_eq_true, eq_self, decide_true, decide_false, le_tt, le_ff, lt_tt, lt_ff, eq_ff, and_true, true_and, and_false, false_and, or_true, true_or, or_false, false_or, ne_eq, decide_eq_true_eq, decide_eq_false_iff_not, Bool.not_true, Bool.not_false, Bool.and_true, Bool.true_and, Bool.and_false, Bool.false_and, gs_at, gs_no, oI_n, oI_s, hS.1.2.1, shl_e, andnot_e, r1, r2]
  have hfr := fr_St_sever hrun
  exact ⟨r.2, hrun, r3, hfr⟩
theorem Fm_cuts_e {M : Mm} {g : Nat → Nat} {h : Nat → Int32} {n l : Nat} (hg : GV g) (hF : FK M g h) (hl : l < g 3) (hn : 100 < n) : ∃ M', Fm_cuts n (nI l) M = some (nI (cutG l g).2, M') ∧ FK M' (cutG l g).1 h ∧ Fr (fun c _ => c = 95) M M' := by
  have b1 := hg.1.2.1.1
  have g12 := hg.1.1.1 12
  have h40 := hg.2.2
  have hV := GV_up hg (u := dl (g 12) (2 ^ l)) (dl_lt b1.2.2.2.2.2.2)
  have hlp : ∃ r, loop (fun s1 : Int32 × Int32 × Mm => Fm_cuts_b24 (nI l) s1.1 s1.2.1 s1.2.2) n (nI 0, nI 0, (up2 M.1 95 12 (nI (dl (g 12) (2 ^ l))), M.2)) = some r ∧ (r.1 = nI (cutG l g).2 ∧ FK r.2 (cutG l g).1 h) := by
    refine loop_I0 (fun i (st : Int32 × Int32 × Mm) => st.1 = nI (cuF l (gs g 12 (dl (g 12) (2 ^ l))) i).2 ∧ st.2.1 = nI i ∧ FK st.2.2 (cuF l (gs g 12 (dl (g 12) (2 ^ l))) i).1 h) _ (g 7) ⟨rfl, rfl, hF.set (by omega) (by rw [iv_lo (by omega), gs_at])⟩ (by omega) ?_ ?_
    · rintro i ⟨s1, s2, M1⟩ hi ⟨e1, e2, e3⟩
      simp only at e1 e2 e3
      subst e1 e2
      left
      obtain ⟨v1, v2, v3⟩ := cuF_V (l := l) hV i
      have e7 : (cuF l (gs g 12 (dl (g 12) (2 ^ l))) i).1 7 = g 7 := (v2 7 (by omega)).trans (gs_no (by omega))
      have h4 := e3.lo (k := 7) (by omega)
      rw [e7] at h4
      have q3 := v1.1.1.1 (64 + 10 * i + 3)
      have q6 := v1.1.1.1 (64 + 10 * i + 6)
      show ∃ s', Fm_cuts_b24 (nI l) (nI (cuF l (gs g 12 (dl (g 12) (2 ^ l))) i).2) (nI i) M1 = some (.inl s') ∧ _
      generalize hp : cuF l (gs g 12 (dl (g 12) (2 ^ l))) i = p at *
      have hil := Fm_isLit_e (e3.FR v1.1.1) v1.1.1 (d := i) (by rw [e7]; exact hi)
      have o6 := e3.of (d := i) (w := 6) (by omega) (by omega) (by omega)
      have hs : cuF l (gs g 12 (dl (g 12) (2 ^ l))) (i + 1) = if p.1 (64 + 10 * i + 3) = 0 ∧ (p.1 (64 + 10 * i + 6)).testBit l = true then (offG p.1 i 2, p.2 + 1) else p := by
        rw [← hp]; rfl
      rw [hs]
      unfold Fm_cuts_b24 Fm_cuts_j71
      by_cases z : p.1 (64 + 10 * i + 3) = 0
      · cases hb : (p.1 (64 + 10 * i + 6)).testBit l with
        | true =>
          obtain ⟨M2, a1, a2, a3⟩ := e3.sets (d := i) (w := 3) (v := 2) (by omega) (by omega) (by omega)
          refine ⟨(nI (p.2 + 1), nI (i + 1), M2), ?_, ?_⟩
          · simp (disch := omega) only [l_0, l_1, l_2, l_3, l_4, l_5, l_6, l_7, l_8, l_9, l_10, l_11, l_12, l_13, l_14, l_16, l_20, l_21, l_23, l_24, l_30, l_32, l_40, l_41, l_44, l_48, l_57, l_59, l_60, l_63, l_64, l_80, l_84, l_96, l_97, l_99, l_120, l_122, l_127, l_200, l_240, l_255, l_840, l_999, l_1000, l_1001, l_2400, l_3064, l_9999, l_10000, l_13849, l_16383, l_25173, l_65535, l_65536, l_99999, l_1000000000, neg_nI, pk_mul, nI_add, nI_subL, tn_nI, inb_t, grd_true, bnd_some, elS_l, elS_r, nI_ltI, nI_leI, nI_inj, fa_and, fa_or, m1_eq, eq_m1, m1_lt, m1_le, lt_m1, le_m1, m1_lt0, up2_at, up2_no, ite_true, ite_false, if_true, if_false, Bool.false_eq_true, reduceIte, reduceCtorEq, not_true_eq_false, not_false_eq_true, eq_self, decide_true, decide_false, le_tt, le_ff, lt_tt, lt_ff, eq_ff, and_true, true_and, and_false, false_and, or_true, true_or, or_false, false_or, ne_eq, decide_eq_true_eq, decide_eq_false_iff_not, Bool.not_true, Bool.not_false, Bool.and_true, Bool.true_and, Bool.and_false, Bool.false_and, gs_at, gs_no, oI_n, oI_s, h4, hil, z, o6, has_e, hb, a1]
          · rw [if_pos ⟨z, rfl⟩]
            exact ⟨rfl, rfl, a2⟩
        | false =>
          refine ⟨(nI p.2, nI (i + 1), M1), ?_, ?_⟩
          · simp (disch := omega) only [l_0, l_1, l_2, l_3, l_4, l_5, l_6, l_7, l_8, l_9, l_10, l_11, l_12, l_13, l_14, l_16, l_20, l_21, l_23, l_24, l_30, l_32, l_40, l_41, l_44, l_48, l_57, l_59, l_60, l_63, l_64, l_80, l_84, l_96, l_97, l_99, l_120, l_122, l_127, l_200, l_240, l_255, l_840, l_999, l_1000, l_1001, l_2400, l_3064, l_9999, l_10000, l_13849, l_16383, l_25173, l_65535, l_65536, l_99999, l_1000000000, neg_nI, pk_mul, nI_add, nI_subL, tn_nI, inb_t, grd_true, bnd_some, elS_l, elS_r, nI_ltI, nI_leI, nI_inj, fa_and, fa_or, m1_eq, eq_m1, m1_lt, m1_le, lt_m1, le_m1, m1_lt0, up2_at, up2_no, ite_true, ite_false, if_true, if_false, Bool.false_eq_true, reduceIte, reduceCtorEq, not_true_eq_false, not_false_eq_true, eq_self, decide_true, decide_false, le_tt, le_ff, lt_tt, lt_ff, eq_ff, and_true, true_and, and_false, false_and, or_true, true_or, or_false, false_or, ne_eq, decide_eq_true_eq, decide_eq_false_iff_not, Bool.not_true, Bool.not_false, Bool.and_true, Bool.true_and, Bool.and_false, Bool.false_and, gs_at, gs_no, oI_n, oI_s, h4, hil, z, o6, has_e, hb]
          · rw [if_neg (by simp)]
            exact ⟨rfl, rfl, e3⟩
      · refine ⟨(nI p.2, nI (i + 1), M1), ?_, ?_⟩
        · simp (disch := omega) only [l_0, l_1, l_2, l_3, l_4, l_5, l_6, l_7, l_8, l_9, l_10, l_11, l_12, l_13, l_14, l_16, l_20, l_21, l_23, l_24, l_30, l_32, l_40, l_41, l_44, l_48, l_57, l_59, l_60, l_63, l_64, l_80, l_84, l_96, l_97, l_99, l_120, l_122, l_127, l_200, l_240, l_255, l_840, l_999, l_1000, l_1001, l_2400, l_3064, l_9999, l_10000, l_13849, l_16383, l_25173, l_65535, l_65536, l_99999, l_1000000000, neg_nI, pk_mul, nI_add, nI_subL, tn_nI, inb_t, grd_true, bnd_some, elS_l, elS_r, nI_ltI, nI_leI, nI_inj, fa_and, fa_or, m1_eq, eq_m1, m1_lt, m1_le, lt_m1, le_m1, m1_lt0, up2_at, up2_no, ite_true, ite_false, if_true, if_false, Bool.false_eq_true, reduceIte, reduceCtorEq, not_true_eq_false, not_false_eq_true, eq_self, decide_true, decide_false, le_tt, le_ff, lt_tt, lt_ff, eq_ff, and_true, true_and, and_false, false_and, or_true, true_or, or_false, false_or, ne_eq, decide_eq_true_eq, decide_eq_false_iff_not, Bool.not_true, Bool.not_false, Bool.and_true, Bool.true_and, Bool.and_false, Bool.false_and, gs_at, gs_no, oI_n, oI_s, h4, hil, z]
        · rw [if_neg (fun q => z q.1)]
          exact ⟨rfl, rfl, e3⟩
    · rintro ⟨s1, s2, M1⟩ ⟨e1, e2, e3⟩
      simp only at e1 e2 e3
      subst e1 e2
      obtain ⟨v1, v2, v3⟩ := cuF_V (l := l) hV (g 7)
      have e7 : (cuF l (gs g 12 (dl (g 12) (2 ^ l))) (g 7)).1 7 = g 7 := (v2 7 (by omega)).trans (gs_no (by omega))
      have h4 := e3.lo (k := 7) (by omega)
      rw [e7] at h4
      refine ⟨(nI (cutG l g).2, M1), ?_, rfl, e3⟩
      show Fm_cuts_b24 (nI l) _ (nI (g 7)) M1 = _
      unfold Fm_cuts_b24
      simp (disch := omega) only [l_0, l_1, l_2, l_3, l_4, l_5, l_6, l_7, l_8, l_9, l_10, l_11, l_12, l_13, l_14, l_16, l_20, l_21, l_23, l_24, l_30, l_32, l_40, l_41, l_44, l_48, l_57, l_59, l_60, l_63, l_64, l_80, l_84, l_96, l_97, l_99, l_120, l_122, l_127, l_200, l_240, l_255, l_840, l_999, l_1000, l_1001, l_2400, l_3064, l_9999, l_10000, l_13849, l_16383, l_25173, l_65535, l_65536, l_99999, l_1000000000, neg_nI, pk_mul, nI_add, nI_subL, tn_nI, inb_t, grd_true, bnd_some, elS_l, elS_r, nI_ltI, nI_leI, nI_inj, fa_and, fa_or, m1_eq, eq_m1, m1_lt, m1_le, lt_m1, le_m1, m1_lt0, up2_at, up2_no, ite_true, ite_false, if_true, if_false, Bool.false_eq_true, reduceIte, reduceCtorEq, not_true_eq_false, not_false_eq_true, eq_self, decide_true, decide_false, le_tt, le_ff, lt_tt, lt_ff, eq_ff, and_true, true_and, and_false, false_and, or_true, true_or, or_false, false_or, ne_eq, decide_eq_true_eq, decide_eq_false_iff_not, Bool.not_true, Bool.not_false, Bool.and_true, Bool.true_and, Bool.and_false, Bool.false_and, gs_at, gs_no, oI_n, oI_s, h4]
      rfl
  obtain ⟨r, r1, r2, r3⟩ := hlp
  have hrun : Fm_cuts n (nI l) M = some (nI (cutG l g).2, r.2) := by
    unfold Fm_cuts
    simp (disch := omega) only [l_0, l_1, l_2, l_3, l_4, l_5, l_6, l_7, l_8, l_9, l_10, l_11, l_12, l_13, l_14, l_16, l_20, l_21, l_23, l_24, l_30, l_32, l_40, l_41, l_44, l_48, l_57, l_59, l_60, l_63, l_64, l_80, l_84, l_96, l_97, l_99, l_120, l_122, l_127, l_200, l_240, l_255, l_840, l_999, l_1000, l_1001, l_2400, l_3064, l_9999, l_10000, l_13849, l_16383, l_25173, l_65535, l_65536, l_99999, l_1000000000, neg_nI, pk_mul, nI_add, nI_subL, tn_nI, inb_t, grd_true, bnd_some, elS_l, elS_r, nI_ltI, nI_leI, nI_inj, fa_and, fa_or, m1_eq, eq_m1, m1_lt, m1_le, lt_m1, le_m1, m1_lt0, up2_at, up2_no, ite_true, ite_false, if_true, if_false, Bool.false_eq_true, reduceIte, reduceCtorEq, not_true_eq_false, not_false_eq_true, eq_self, decide_true, decide_false, le_tt, le_ff, lt_tt, lt_ff, eq_ff, and_true, true_and, and_false, false_and, or_true, true_or, or_false, false_or, ne_eq, decide_eq_true_eq, decide_eq_false_iff_not, Bool.not_true, Bool.not_false, Bool.and_true, Bool.true_and, Bool.and_false, Bool.false_and, gs_at, gs_no, oI_n, oI_s, hF.lo, shl_e, andnot_e, r1, r2]
  have hfr := fr_Fm_cuts hrun
  exact ⟨r.2, hrun, r3, hfr⟩
theorem op_cut {n : Nat} (hn : 300 < n) (x : Int32) : T2 (Fg_cut n x) (Fm_cut n x) := by
  intro g hg
  have hG := hg.1.1
  have b := hg.1.2.1.1
  have g12 := hG.1 12
  by_cases hx : inb x (g 3) = true
  · obtain ⟨l, hl, rfl⟩ := (inb_iff (by omega)).mp hx
    cases hu : (g 12).testBit l with
    | false =>
      refine ⟨ng 2, g, hg, fun M hS hA => TC.id hS hA ?_, fun M h hF => TM.id hF ?_⟩
      · unfold Fg_cut
        rw [St_hasLink_e (hS.1.1.1 3 (by omega)) (by omega), hx, bnd_some, St_isUp_e hS.1.2.1 (by omega) (by omega), hu]
        rfl
      · unfold Fm_cut
        rw [Fm_isLink_e (hF.lo (by omega)) (by omega), hx, bnd_some, Fm_isUp_e hG hF (by omega), hu]
        rfl
    | true =>
      refine ⟨nI (cutG l g).2, (cutG l g).1, (cut_V hg).1, fun M hS hA => ?_, fun M h hF => ?_⟩
      · obtain ⟨M', a1, a2, a3⟩ := St_sever_e hg hS hl (n := n) (by omega)
        refine TC.mk hg hA ?_ a2 a3 (fun c j q => by unfold fp_St_sever at q; unfold PC; omega) (fun j h1 h2 h3 => (cut_V hg).2.1 j h1 h3)
        unfold Fg_cut
        rw [St_hasLink_e (hS.1.1.1 3 (by omega)) (by omega), hx, bnd_some, St_isUp_e hS.1.2.1 (by omega) (by omega), hu]
        simp (disch := omega) only [l_0, l_1, l_2, l_3, l_4, l_5, l_6, l_7, l_8, l_9, l_10, l_11, l_12, l_13, l_14, l_16, l_20, l_21, l_23, l_24, l_30, l_32, l_40, l_41, l_44, l_48, l_57, l_59, l_60, l_63, l_64, l_80, l_84, l_96, l_97, l_99, l_120, l_122, l_127, l_200, l_240, l_255, l_840, l_999, l_1000, l_1001, l_2400, l_3064, l_9999, l_10000, l_13849, l_16383, l_25173, l_65535, l_65536, l_99999, l_1000000000, neg_nI, pk_mul, nI_add, nI_subL, tn_nI, inb_t, grd_true, bnd_some, elS_l, elS_r, nI_ltI, nI_leI, nI_inj, fa_and, fa_or, m1_eq, eq_m1, m1_lt, m1_le, lt_m1, le_m1, m1_lt0, up2_at, up2_no, ite_true, ite_false, if_true, if_false, Bool.false_eq_true, reduceIte, reduceCtorEq, not_true_eq_false, not_false_eq_true, eq_self, decide_true, decide_false, le_tt, le_ff, lt_tt, lt_ff, eq_ff, and_true, true_and, and_false, false_and, or_true, true_or, or_false, false_or, ne_eq, decide_eq_true_eq, decide_eq_false_iff_not, Bool.not_true, Bool.not_false, Bool.and_true, Bool.true_and, Bool.and_false, Bool.false_and, gs_at, gs_no, oI_n, oI_s, a1]
      · obtain ⟨M', a1, a2, a3⟩ := Fm_cuts_e hg hF hl (n := n) (by omega)
        refine TM.mk ?_ a2 a3 (fun c j q => .inl q)
        unfold Fm_cut
        rw [Fm_isLink_e (hF.lo (by omega)) (by omega), hx, bnd_some, Fm_isUp_e hG hF (by omega), hu]
        simp (disch := omega) only [l_0, l_1, l_2, l_3, l_4, l_5, l_6, l_7, l_8, l_9, l_10, l_11, l_12, l_13, l_14, l_16, l_20, l_21, l_23, l_24, l_30, l_32, l_40, l_41, l_44, l_48, l_57, l_59, l_60, l_63, l_64, l_80, l_84, l_96, l_97, l_99, l_120, l_122, l_127, l_200, l_240, l_255, l_840, l_999, l_1000, l_1001, l_2400, l_3064, l_9999, l_10000, l_13849, l_16383, l_25173, l_65535, l_65536, l_99999, l_1000000000, neg_nI, pk_mul, nI_add, nI_subL, tn_nI, inb_t, grd_true, bnd_some, elS_l, elS_r, nI_ltI, nI_leI, nI_inj, fa_and, fa_or, m1_eq, eq_m1, m1_lt, m1_le, lt_m1, le_m1, m1_lt0, up2_at, up2_no, ite_true, ite_false, if_true, if_false, Bool.false_eq_true, reduceIte, reduceCtorEq, not_true_eq_false, not_false_eq_true, eq_self, decide_true, decide_false, le_tt, le_ff, lt_tt, lt_ff, eq_ff, and_true, true_and, and_false, false_and, or_true, true_or, or_false, false_or, ne_eq, decide_eq_true_eq, decide_eq_false_iff_not, Bool.not_true, Bool.not_false, Bool.and_true, Bool.true_and, Bool.and_false, Bool.false_and, gs_at, gs_no, oI_n, oI_s, a1]
  · have hx' := ts_nt hx
    refine ⟨ng 1, g, hg, fun M hS hA => TC.id hS hA ?_, fun M h hF => TM.id hF ?_⟩
    · unfold Fg_cut
      rw [St_hasLink_e (hS.1.1.1 3 (by omega)) (by omega), hx']
      rfl
    · unfold Fm_cut
      rw [Fm_isLink_e (hF.lo (by omega)) (by omega), hx']
      rfl
