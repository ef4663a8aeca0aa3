/-! calls: parts -/
theorem fdI_keep {slots rule w l v : Nat} {ft : Nat → Nat → Nat → Bool} {rw' : Nat → Nat → Nat → Nat} {b : Option (Nat × Nat × Nat × Nat)} (h : b.isSome = true) : ∀ K, (fdI slots ft rw' rule w l v b K).isSome = true
  | 0 => h
  | K + 1 => by
    rw [fdI_s]
    split
    · rfl
    · exact fdI_keep h K
theorem fdI_has {slots rule w l v : Nat} {ft : Nat → Nat → Nat → Bool} {rw' : Nat → Nat → Nat → Nat} {b : Option (Nat × Nat × Nat × Nat)} {k : Nat} (h : ft l (fdK slots rule v k) v = true) : ∀ K, k < K → (fdI slots ft rw' rule w l v b K).isSome = true
  | 0, hk => by omega
  | K + 1, hk => by
    rw [fdI_s]
    by_cases c : k = K
    · subst c
      rw [h, Bool.true_and]
      cases hp : fdI slots ft rw' rule w l v b k with
      | none => rfl
      | some q => split <;> rfl
    · have := fdI_has (rw' := rw') (b := b) (w := w) h K (by omega)
      split
      · rfl
      · exact this
theorem fdG_has {g : Nat → Nat} {wl wk : Nat → Nat} {rate rule k v f : Nat} (hv : wdS g rate (wl k) = some v) (hf : fitB g (wk k) f v none = true) : ∀ c, k < c → (fdG g wl wk rate rule c).isSome = true
  | 0, hk => by omega
  | c + 1, hk => by
    rw [fdG_s]
    by_cases e : k = c
    · subst e
      rw [hv]
      simp only
      split
      · next q =>
        rw [Bool.and_eq_true] at q
        exact q.1
      · have hb := (fit_iff.mp hf).1
        by_cases r3 : rule = 3
        · refine fdI_has (k := g 1 - v - f) ?_ _ (by omega)
          unfold fdK
          rw [if_pos r3, show g 1 - v - (g 1 - v - f) = f by omega]
          exact hf
        · refine fdI_has (k := f) ?_ _ (by omega)
          unfold fdK
          rw [if_neg r3]
          exact hf
    · have ih := fdG_has (wl := wl) (wk := wk) (rule := rule) hv hf c (by omega)
      cases wdS g rate (wl c) with
      | none => exact ih
      | some x =>
        simp only
        split
        · exact ih
        · exact fdI_keep ih _
theorem fdW_mono {g g' : Nat → Nat} (h3 : g 3 ≤ 14) (hL : LV g) (hL' : LV g') (lo : ∀ k, k < 64 → k < 4 ∨ 7 < k → g' k = g k) (hO : ∀ l i, OC g l none i → OC g' l none i) {a b rate rule : Nat} (hr : 1 ≤ rate) (hf : fdW g a b rate rule = none) : fdW g' a b rate rule = none := by
  cases hh : fdW g' a b rate rule with
  | none => rfl
  | some p =>
    obtain ⟨h1, h2, h4⟩ := fdG_ok hh
    rw [ways_same h3 lo] at h1 h2 h4
    have hwd : wdS g' rate = wdS g rate := funext fun len => by
      unfold wdS fmS
      rw [fmA_same lo len 4 (by omega)]
    rw [hwd] at h2
    have hvp := wdS_pos h2 hr
    have hfit : fitB g (wkO (waysG g a b) p.1) p.2.1 p.2.2.1 none = true := by
      rw [fit_oc hL' hvp.1, lo 1 (by omega) (by omega), lo 2 (by omega) (by omega)] at h4
      rw [fit_oc hL hvp.1]
      intro k hk
      refine ⟨(h4 k hk).1, ?_⟩
      rintro ⟨i, q1, q2⟩
      exact (h4 k hk).2 ⟨i, hO _ _ q1, q2⟩
    have := fdG_has (wl := wlO (waysG g a b)) (wk := wkO (waysG g a b)) (rule := rule) h2 hfit (waysG g a b).length h1
    have hf' : fdG g (wlO (waysG g a b)) (wkO (waysG g a b)) rate rule (waysG g a b).length = none := hf
    rw [hf'] at this
    cases this
def gfS (g : Nat → Nat) (a b u : Nat) : Nat → Nat
  | 0 => 0
  | r + 1 => if (fdW g a b (r + 1) u).isSome = true then r + 1 else gfS g a b u r
section
variable {g : Nat → Nat} {a b u : Nat}
theorem gf_s {r : Nat} : gfS g a b u (r + 1) = if (fdW g a b (r + 1) u).isSome = true then r + 1 else gfS g a b u r := rfl
theorem gf_le : ∀ r, gfS g a b u r ≤ r
  | 0 => Nat.le_refl _
  | r + 1 => by
    have := gf_le r
    rw [gf_s]
    split <;> omega
theorem gf_no : ∀ r x, gfS g a b u r < x → x ≤ r → fdW g a b x u = none
  | 0, x, h1, h2 => by omega
  | r + 1, x, h1, h2 => by
    rw [gf_s] at h1
    by_cases c : (fdW g a b (r + 1) u).isSome = true
    · rw [if_pos c] at h1; omega
    · rw [if_neg c] at h1
      by_cases e : x = r + 1
      · rw [e]
        cases hf : fdW g a b (r + 1) u with
        | none => rfl
        | some p => rw [hf] at c; exact absurd rfl c
      · exact gf_no r x h1 (by omega)
theorem gf_min {m : Nat} : ∀ R, m ≤ R → (∀ x, m < x → x ≤ R → fdW g a b x u = none) → gfS g a b u R = gfS g a b u m
  | 0, h, _ => by rw [show m = 0 by omega]
  | R + 1, h, hn => by
    by_cases c : m = R + 1
    · rw [c]
    · rw [gf_s, hn (R + 1) (by omega) (Nat.le_refl _), if_neg (by simp)]
      exact gf_min R (by omega) (fun x h1 h2 => hn x h1 (by omega))
theorem gf_c {n : Nat} (hW : GW g) (ha : a < g 0) (hb : b < g 0) (hab : a ≠ b) (hu : u < 4) (hn : 100 < n) : ∀ (R m : Nat) (M : Mm), R ≤ 64 → R < m → SN M 54 g → UB M 54 g → CA M g → ∃ (y : Mm ⊕ (Int32 × Mm)) (M' : Mm), loop (fun s1 : Int32 × Mm => Fg_greatestFitting_b3 n (nI a) (nI b) (nI u) s1.1 s1.2) m (nI R, M) = some y ∧ ((gfS g a b u R = 0 ∧ y = .inl M') ∨ (0 < gfS g a b u R ∧ y = .inr (nI (gfS g a b u R), M') ∧ ∃ p, fdW g a b (gfS g a b u R) u = some p ∧ M'.1 12 2 = nI (wkO (waysG g a b) p.1) ∧ M'.1 12 3 = nI p.2.1 ∧ M'.1 12 4 = nI p.2.2.1)) ∧ SN M' 54 g ∧ UB M' 54 g ∧ CA M' g
  | 0, m, M, _, hm, hS, hU, hA => by
    refine ⟨.inl M, M, loop_inr ?_ hm, .inl ⟨rfl, rfl⟩, hS, hU, hA⟩
    show Fg_greatestFitting_b3 n (nI a) (nI b) (nI u) (nI 0) M = _
    unfold Fg_greatestFitting_b3
    rw [if_pos (show nI 0 ≤ (0 : Int32) by decide)]
  | R + 1, m, M, hR, hm, hS, hU, hA => by
    obtain ⟨M2, c1, c2, c3, c4⟩ := find_c hW hS hU hA (by omega) (n := n) hn ha hb hab (rate := R + 1) (by omega) hR hu
    have hS2 : SN M2 54 g := hS.fr c4 (fun k j hk q => by unfold fp_Fi_find at q; omega) (fun j hj q => by unfold fp_Fi_find at q; omega)
    have hU2 : UB M2 54 g := hU.fr c4 (fun j => by unfold fp_Fi_find; omega)
    rw [gf_s]
    cases hf : fdW g a b (R + 1) u with
    | some p =>
      rw [hf] at c1
      obtain ⟨k1, k2, k3, k4⟩ := c2 p hf
      rw [if_pos (show (some p).isSome = true from rfl)]
      refine ⟨.inr (nI (R + 1), M2), M2, loop_inr ?_ (by omega), .inr ⟨by omega, rfl, p, hf, k2, k3, k4⟩, hS2, hU2, c3⟩
      show Fg_greatestFitting_b3 n (nI a) (nI b) (nI u) (nI (R + 1)) M = _
      unfold Fg_greatestFitting_b3
      simp (disch := omega) only [l_0, l_1, l_2, l_3, l_4, l_5, l_6, l_7, l_8, l_9, l_10, l_11, l_12, l_13, l_14, l_16, l_20, l_21, l_23, l_24, l_30, l_32, l_40, l_41, l_44, l_48, l_57, l_59, l_60, l_63, l_64, l_80, l_84, l_96, l_97, l_99, l_120, l_122, l_127, l_200, l_240, l_255, l_840, l_999, l_1000, l_1001, l_2400, l_3064, l_9999, l_10000, l_13849, l_16383, l_25173, l_65535, l_65536, l_99999, l_1000000000, neg_nI, pk_mul, nI_add, nI_subL, tn_nI, inb_t, grd_true, bnd_some, elS_l, elS_r, nI_ltI, nI_leI, nI_inj, fa_and, fa_or, m1_eq, eq_m1, m1_lt, m1_le, lt_m1, le_m1, m1_lt0, up2_at, up2_no, ite_true, ite_false, if_true, if_false, Bool.false_eq_true, reduceIte, reduceCtorEq, not_true_eq_false, not_false_eq_true, eq_self, decide_true, decide_false, le_tt, le_ff, lt_tt, lt_ff, eq_ff, and_true, true_and, and_false, false_and, or_true, true_or, or_false, false_or, ne_eq, decide_eq_true_eq, decide_eq_false_iff_not, Bool.not_true, Bool.not_false, Bool.and_true, Bool.true_and, Bool.and_false, Bool.false_and, gs_at, gs_no, oI_n, oI_s, c1, Option.isSome_some]
    | none =>
      rw [hf] at c1
      rw [if_neg (by simp)]
      obtain ⟨y, M', d1, d2⟩ := gf_c hW ha hb hab hu hn R (m - 1) M2 (by omega) (by omega) hS2 hU2 c3
      refine ⟨y, M', ?_, d2⟩
      rw [← d1]
      refine loop_inl ?_ (by omega)
      show Fg_greatestFitting_b3 n (nI a) (nI b) (nI u) (nI (R + 1)) M = _
      unfold Fg_greatestFitting_b3
      simp (disch := omega) only [l_0, l_1, l_2, l_3, l_4, l_5, l_6, l_7, l_8, l_9, l_10, l_11, l_12, l_13, l_14, l_16, l_20, l_21, l_23, l_24, l_30, l_32, l_40, l_41, l_44, l_48, l_57, l_59, l_60, l_63, l_64, l_80, l_84, l_96, l_97, l_99, l_120, l_122, l_127, l_200, l_240, l_255, l_840, l_999, l_1000, l_1001, l_2400, l_3064, l_9999, l_10000, l_13849, l_16383, l_25173, l_65535, l_65536, l_99999, l_1000000000, neg_nI, pk_mul, nI_add, nI_subL, tn_nI, inb_t, grd_true, bnd_some, elS_l, elS_r, nI_ltI, nI_leI, nI_inj, fa_and, fa_or, m1_eq, eq_m1, m1_lt, m1_le, lt_m1, le_m1, m1_lt0, up2_at, up2_no, ite_true, ite_false, if_true, if_false, Bool.false_eq_true, reduceIte, reduceCtorEq, not_true_eq_false, not_false_eq_true, eq_self, decide_true, decide_false, le_tt, le_ff, lt_tt, lt_ff, eq_ff, and_true, true_and, and_false, false_and, or_true, true_or, or_false, false_or, ne_eq, decide_eq_true_eq, decide_eq_false_iff_not, Bool.not_true, Bool.not_false, Bool.and_true, Bool.true_and, Bool.and_false, Bool.false_and, gs_at, gs_no, oI_n, oI_s, c1, Option.isSome_none, nI_addm, Nat.add_sub_cancel]
theorem gf_m {n : Nat} {h : Nat → Int32} (hW : GW g) (hu : u < 4) (hn : 300 < n) : ∀ (R m : Nat) (M : Mm), R ≤ 64 → R < m → FK M g h → WY M (waysG g a b).length (wlO (waysG g a b)) (wkO (waysG g a b)) → ∃ (y : Mm ⊕ (Int32 × Mm)) (M' : Mm), loop (fun s1 : Int32 × Mm => Fm_partOf_b2 n (nI u) s1.1 s1.2) m (nI R, M) = some y ∧ ((gfS g a b u R = 0 ∧ y = .inl M') ∨ (0 < gfS g a b u R ∧ y = .inr (nI (gfS g a b u R), M') ∧ ∃ p, fdW g a b (gfS g a b u R) u = some p ∧ M'.1 94 20 = nI p.1 ∧ M'.1 94 21 = nI p.2.1 ∧ M'.1 94 22 = nI p.2.2.1 ∧ M'.1 99 p.1 = nI (wkO (waysG g a b) p.1))) ∧ FK M' g h ∧ WY M' (waysG g a b).length (wlO (waysG g a b)) (wkO (waysG g a b)) ∧ Fr fp_Fm_finds M M'
  | 0, m, M, _, hm, hF, hY => by
    refine ⟨.inl M, M, loop_inr ?_ hm, .inl ⟨rfl, rfl⟩, hF, hY, Fr.rf⟩
    show Fm_partOf_b2 n (nI u) (nI 0) M = _
    unfold Fm_partOf_b2
    rw [if_pos (show nI 0 ≤ (0 : Int32) by decide)]
  | R + 1, m, M, hR, hm, hF, hY => by
    obtain ⟨M2, c1, c2, c3⟩ := Fm_finds_e (n := n) (rate := R + 1) (rule := u) hW.1 hW.2.1 hW.2.2.2.1 (M := M) ⟨hF.FR hW.1, hY⟩ (by omega) hu (by omega) hR
    have hF2 : FK M2 g h := hF.fr c3 (fun j => by unfold fp_Fm_finds; omega)
    have hY2 : WY M2 (waysG g a b).length (wlO (waysG g a b)) (wkO (waysG g a b)) := hY.fr c3 (fun j => by unfold fp_Fm_finds; omega) (by unfold fp_Fm_finds; omega)
    rw [gf_s]
    cases hf : fdW g a b (R + 1) u with
    | some p =>
      have e : fdG g (wlO (waysG g a b)) (wkO (waysG g a b)) (R + 1) u (waysG g a b).length = some p := hf
      rw [e] at c1 c2
      rw [if_pos (show (some p).isSome = true from rfl)]
      refine ⟨.inr (nI (R + 1), M2), M2, loop_inr ?_ (by omega), .inr ⟨by omega, rfl, p, hf, c2.1, c2.2.1, c2.2.2.1, (hY2.2.2 p.1 (fdG_ok e).1).2.1⟩, hF2, hY2, c3⟩
      show Fm_partOf_b2 n (nI u) (nI (R + 1)) M = _
      unfold Fm_partOf_b2
      simp (disch := omega) only [l_0, l_1, l_2, l_3, l_4, l_5, l_6, l_7, l_8, l_9, l_10, l_11, l_12, l_13, l_14, l_16, l_20, l_21, l_23, l_24, l_30, l_32, l_40, l_41, l_44, l_48, l_57, l_59, l_60, l_63, l_64, l_80, l_84, l_96, l_97, l_99, l_120, l_122, l_127, l_200, l_240, l_255, l_840, l_999, l_1000, l_1001, l_2400, l_3064, l_9999, l_10000, l_13849, l_16383, l_25173, l_65535, l_65536, l_99999, l_1000000000, neg_nI, pk_mul, nI_add, nI_subL, tn_nI, inb_t, grd_true, bnd_some, elS_l, elS_r, nI_ltI, nI_leI, nI_inj, fa_and, fa_or, m1_eq, eq_m1, m1_lt, m1_le, lt_m1, le_m1, m1_lt0, up2_at, up2_no, ite_true, ite_false, if_true, if_false, Bool.false_eq_true, reduceIte, reduceCtorEq, not_true_eq_false, not_false_eq_true, eq_self, decide_true, decide_false, le_tt, le_ff, lt_tt, lt_ff, eq_ff, and_true, true_and, and_false, false_and, or_true, true_or, or_false, false_or, ne_eq, decide_eq_true_eq, decide_eq_false_iff_not, Bool.not_true, Bool.not_false, Bool.and_true, Bool.true_and, Bool.and_false, Bool.false_and, gs_at, gs_no, oI_n, oI_s, c1, Option.isSome_some]
    | none =>
      have e : fdG g (wlO (waysG g a b)) (wkO (waysG g a b)) (R + 1) u (waysG g a b).length = none := hf
      rw [e] at c1
      rw [if_neg (by simp)]
      obtain ⟨y, M', d1, d2, d3, d4, d5⟩ := gf_m hW hu hn R (m - 1) M2 (by omega) (by omega) hF2 hY2
      refine ⟨y, M', ?_, d2, d3, d4, c3.tr d5⟩
      rw [← d1]
      refine loop_inl ?_ (by omega)
      show Fm_partOf_b2 n (nI u) (nI (R + 1)) M = _
      unfold Fm_partOf_b2
      simp (disch := omega) only [l_0, l_1, l_2, l_3, l_4, l_5, l_6, l_7, l_8, l_9, l_10, l_11, l_12, l_13, l_14, l_16, l_20, l_21, l_23, l_24, l_30, l_32, l_40, l_41, l_44, l_48, l_57, l_59, l_60, l_63, l_64, l_80, l_84, l_96, l_97, l_99, l_120, l_122, l_127, l_200, l_240, l_255, l_840, l_999, l_1000, l_1001, l_2400, l_3064, l_9999, l_10000, l_13849, l_16383, l_25173, l_65535, l_65536, l_99999, l_1000000000, neg_nI, pk_mul, nI_add, nI_subL, tn_nI, inb_t, grd_true, bnd_some, elS_l, elS_r, nI_ltI, nI_leI, nI_inj, fa_and, fa_or, m1_eq, eq_m1, m1_lt, m1_le, lt_m1, le_m1, m1_lt0, up2_at, up2_no, ite_true, ite_false, if_true, if_false, Bool.false_eq_true, reduceIte, reduceCtorEq, not_true_eq_false, not_false_eq_true, eq_self, decide_true, decide_false, le_tt, le_ff, lt_tt, lt_ff, eq_ff, and_true, true_and, and_false, false_and, or_true, true_or, or_false, false_or, ne_eq, decide_eq_true_eq, decide_eq_false_iff_not, Bool.not_true, Bool.not_false, Bool.and_true, Bool.true_and, Bool.and_false, Bool.false_and, gs_at, gs_no, oI_n, oI_s, c1, Option.isSome_none, nI_addm, Nat.add_sub_cancel]
theorem Fm_partOf_e {n R : Nat} {h : Nat → Int32} {M : Mm} (hW : GW g) (hu : u < 4) (hn : 300 < n) (hR : R ≤ 64) (hF : FK M g h) (hY : WY M (waysG g a b).length (wlO (waysG g a b)) (wkO (waysG g a b))) : ∃ M', Fm_partOf n (nI R) (nI u) M = some (nI (gfS g a b u R), M') ∧ (0 < gfS g a b u R → ∃ p, fdW g a b (gfS g a b u R) u = some p ∧ M'.1 94 20 = nI p.1 ∧ M'.1 94 21 = nI p.2.1 ∧ M'.1 94 22 = nI p.2.2.1 ∧ M'.1 99 p.1 = nI (wkO (waysG g a b) p.1)) ∧ FK M' g h ∧ WY M' (waysG g a b).length (wlO (waysG g a b)) (wkO (waysG g a b)) ∧ Fr PM M M' := by
  obtain ⟨y, M', d1, d2, d3, d4, d5⟩ := gf_m (a := a) (b := b) hW hu hn R n M hR (by omega) hF hY
  refine ⟨M', ?_, fun hp => ?_, d3, d4, d5.mono (fun c j q => by unfold fp_Fm_finds at q; unfold PM; omega)⟩
  · unfold Fm_partOf
    rw [bnd_e d1]
    rcases d2 with ⟨q1, q2⟩ | ⟨q1, q2, q3⟩
    · rw [q2, q1]; rfl
    · rw [q2]; rfl
  · rcases d2 with ⟨q1, q2⟩ | ⟨q1, q2, q3⟩
    · omega
    · exact q3
theorem Fg_greatest_e {n R : Nat} {M : Mm} (hW : GW g) (ha : a < g 0) (hb : b < g 0) (hab : a ≠ b) (hu : u < 4) (hn : 100 < n) (hR : R ≤ 64) (hS : SN M 54 g) (hU : UB M 54 g) (hA : CA M g) : ∃ M', Fg_greatestFitting n (nI a) (nI b) (nI R) (nI u) M = some (nI (gfS g a b u R), M') ∧ (0 < gfS g a b u R → ∃ p, fdW g a b (gfS g a b u R) u = some p ∧ M'.1 12 2 = nI (wkO (waysG g a b) p.1) ∧ M'.1 12 3 = nI p.2.1 ∧ M'.1 12 4 = nI p.2.2.1) ∧ SN M' 54 g ∧ UB M' 54 g ∧ CA M' g := by
  obtain ⟨y, M', d1, d2, d3⟩ := gf_c hW ha hb hab hu hn R n M hR (by omega) hS hU hA
  refine ⟨M', ?_, fun hp => ?_, d3⟩
  · unfold Fg_greatestFitting
    rw [bnd_e d1]
    rcases d2 with ⟨q1, q2⟩ | ⟨q1, q2, q3⟩
    · rw [q2, q1]; rfl
    · rw [q2]; rfl
  · rcases d2 with ⟨q1, q2⟩ | ⟨q1, q2, q3⟩
    · omega
    · exact q3
end
theorem parts_k {n a b u : Nat} (hn : 1099511627776 < n) (hab : a ≠ b) (hu : u < 4) : ∀ (k i left most : Nat) (g : Nat → Nat), i + k = 20 → GW g → a < g 0 → b < g 0 → g 7 + k < 300 → left ≤ 64 → most ≤ 64 → (∀ x, min most left < x → x ≤ left → fdW g a b x u = none) → ∃ ans : Int32, (∀ m M, k < m → SN M 54 g → UB M 54 g → CA M g → ∃ y M', loop (fun s1 : Int32 × Int32 × Int32 × Mm => Fg_parts_b40 n (nI a) (nI b) (nI u) s1.1 s1.2.1 s1.2.2.1 s1.2.2.2) m (nI left, nI most, nI i, M) = some y ∧ elS y (fun x19 => Fg_parts_j129 x19.1 x19.2.1 x19.2.2) (fun e20 => some e20) = some (ans, M') ∧ CA M' g) ∧ (∀ m M h, k < m → FK M g h → WY M (waysG g a b).length (wlO (waysG g a b)) (wkO (waysG g a b)) → (0 < gfS g a b u left → ∃ p, fdW g a b (gfS g a b u left) u = some p ∧ M.1 94 20 = nI p.1 ∧ M.1 94 21 = nI p.2.1 ∧ M.1 94 22 = nI p.2.2.1 ∧ M.1 99 p.1 = nI (wkO (waysG g a b) p.1)) → ∃ l' i' M' g', loop (fun s1 : Int32 × Int32 × Int32 × Mm => Fm_parts_b42 n (nI a) (nI b) (nI u) s1.1 s1.2.1 s1.2.2.1 s1.2.2.2) m (nI left, nI i, nI (gfS g a b u left), M) = some (l', i', M') ∧ (if l' ≤ nI 0 then i' else ng 2) = ans ∧ FK M' g' h ∧ Fr PM M M') := by
  intro k
  induction k with
  | zero =>
    intro i left most g hi hW ha hb h7 hl hm hno
    refine ⟨if left = 0 then nI i else ng 2, fun m M hm hS hU hA => ?_, fun m M h hm hF hY hp => ?_⟩
    · refine ⟨.inl (nI left, nI i, M), M, loop_inr ?_ hm, ?_, hA⟩
      · show Fg_parts_b40 n (nI a) (nI b) (nI u) (nI left) (nI most) (nI i) M = _
        unfold Fg_parts_b40
        by_cases c : left = 0
        · simp (disch := omega) only [l_0, l_1, l_2, l_3, l_4, l_5, l_6, l_7, l_8, l_9, l_10, l_11, l_12, l_13, l_14, l_16, l_20, l_21, l_23, l_24, l_30, l_32, l_40, l_41, l_44, l_48, l_57, l_59, l_60, l_63, l_64, l_80, l_84, l_96, l_97, l_99, l_120, l_122, l_127, l_200, l_240, l_255, l_840, l_999, l_1000, l_1001, l_2400, l_3064, l_9999, l_10000, l_13849, l_16383, l_25173, l_65535, l_65536, l_99999, l_1000000000, neg_nI, pk_mul, nI_add, nI_subL, tn_nI, inb_t, grd_true, bnd_some, elS_l, elS_r, nI_ltI, nI_leI, nI_inj, fa_and, fa_or, m1_eq, eq_m1, m1_lt, m1_le, lt_m1, le_m1, m1_lt0, up2_at, up2_no, ite_true, ite_false, if_true, if_false, Bool.false_eq_true, reduceIte, reduceCtorEq, not_true_eq_false, not_false_eq_true, eq_self, decide_true, decide_false, le_tt, le_ff, lt_tt, lt_ff, eq_ff, and_true, true_and, and_false, false_and, or_true, true_or, or_false, false_or, ne_eq, decide_eq_true_eq, decide_eq_false_iff_not, Bool.not_true, Bool.not_false, Bool.and_true, Bool.true_and, Bool.and_false, Bool.false_and, gs_at, gs_no, oI_n, oI_s, c]
        · simp (disch := omega) only [l_0, l_1, l_2, l_3, l_4, l_5, l_6, l_7, l_8, l_9, l_10, l_11, l_12, l_13, l_14, l_16, l_20, l_21, l_23, l_24, l_30, l_32, l_40, l_41, l_44, l_48, l_57, l_59, l_60, l_63, l_64, l_80, l_84, l_96, l_97, l_99, l_120, l_122, l_127, l_200, l_240, l_255, l_840, l_999, l_1000, l_1001, l_2400, l_3064, l_9999, l_10000, l_13849, l_16383, l_25173, l_65535, l_65536, l_99999, l_1000000000, neg_nI, pk_mul, nI_add, nI_subL, tn_nI, inb_t, grd_true, bnd_some, elS_l, elS_r, nI_ltI, nI_leI, nI_inj, fa_and, fa_or, m1_eq, eq_m1, m1_lt, m1_le, lt_m1, le_m1, m1_lt0, up2_at, up2_no, ite_true, ite_false, if_true, if_false, Bool.false_eq_true, reduceIte, reduceCtorEq, not_true_eq_false, not_false_eq_true, eq_self, decide_true, decide_false, le_tt, le_ff, lt_tt, lt_ff, eq_ff, and_true, true_and, and_false, false_and, or_true, true_or, or_false, false_or, ne_eq, decide_eq_true_eq, decide_eq_false_iff_not, Bool.not_true, Bool.not_false, Bool.and_true, Bool.true_and, Bool.and_false, Bool.false_and, gs_at, gs_no, oI_n, oI_s, c]
      · rw [elS_l]
        unfold Fg_parts_j129
        by_cases c : left = 0
        · simp (disch := omega) only [l_0, l_1, l_2, l_3, l_4, l_5, l_6, l_7, l_8, l_9, l_10, l_11, l_12, l_13, l_14, l_16, l_20, l_21, l_23, l_24, l_30, l_32, l_40, l_41, l_44, l_48, l_57, l_59, l_60, l_63, l_64, l_80, l_84, l_96, l_97, l_99, l_120, l_122, l_127, l_200, l_240, l_255, l_840, l_999, l_1000, l_1001, l_2400, l_3064, l_9999, l_10000, l_13849, l_16383, l_25173, l_65535, l_65536, l_99999, l_1000000000, neg_nI, pk_mul, nI_add, nI_subL, tn_nI, inb_t, grd_true, bnd_some, elS_l, elS_r, nI_ltI, nI_leI, nI_inj, fa_and, fa_or, m1_eq, eq_m1, m1_lt, m1_le, lt_m1, le_m1, m1_lt0, up2_at, up2_no, ite_true, ite_false, if_true, if_false, Bool.false_eq_true, reduceIte, reduceCtorEq, not_true_eq_false, not_false_eq_true, eq_self, decide_true, decide_false, le_tt, le_ff, lt_tt, lt_ff, eq_ff, and_true, true_and, and_false, false_and, or_true, true_or, or_false, false_or, ne_eq, decide_eq_true_eq, decide_eq_false_iff_not, Bool.not_true, Bool.not_false, Bool.and_true, Bool.true_and, Bool.and_false, Bool.false_and, gs_at, gs_no, oI_n, oI_s, c]
        · simp (disch := omega) only [l_0, l_1, l_2, l_3, l_4, l_5, l_6, l_7, l_8, l_9, l_10, l_11, l_12, l_13, l_14, l_16, l_20, l_21, l_23, l_24, l_30, l_32, l_40, l_41, l_44, l_48, l_57, l_59, l_60, l_63, l_64, l_80, l_84, l_96, l_97, l_99, l_120, l_122, l_127, l_200, l_240, l_255, l_840, l_999, l_1000, l_1001, l_2400, l_3064, l_9999, l_10000, l_13849, l_16383, l_25173, l_65535, l_65536, l_99999, l_1000000000, neg_nI, pk_mul, nI_add, nI_subL, tn_nI, inb_t, grd_true, bnd_some, elS_l, elS_r, nI_ltI, nI_leI, nI_inj, fa_and, fa_or, m1_eq, eq_m1, m1_lt, m1_le, lt_m1, le_m1, m1_lt0, up2_at, up2_no, ite_true, ite_false, if_true, if_false, Bool.false_eq_true, reduceIte, reduceCtorEq, not_true_eq_false, not_false_eq_true, eq_self, decide_true, decide_false, le_tt, le_ff, lt_tt, lt_ff, eq_ff, and_true, true_and, and_false, false_and, or_true, true_or, or_false, false_or, ne_eq, decide_eq_true_eq, decide_eq_false_iff_not, Bool.not_true, Bool.not_false, Bool.and_true, Bool.true_and, Bool.and_false, Bool.false_and, gs_at, gs_no, oI_n, oI_s, c]
    · have hg := gf_le (g := g) (a := a) (b := b) (u := u) left
      refine ⟨nI left, nI i, M, g, loop_inr (r := (nI left, nI i, M)) ?_ hm, ?_, hF, Fr.rf⟩
      · show Fm_parts_b42 n (nI a) (nI b) (nI u) (nI left) (nI i) (nI (gfS g a b u left)) M = _
        unfold Fm_parts_b42
        simp (disch := omega) only [l_0, l_1, l_2, l_3, l_4, l_5, l_6, l_7, l_8, l_9, l_10, l_11, l_12, l_13, l_14, l_16, l_20, l_21, l_23, l_24, l_30, l_32, l_40, l_41, l_44, l_48, l_57, l_59, l_60, l_63, l_64, l_80, l_84, l_96, l_97, l_99, l_120, l_122, l_127, l_200, l_240, l_255, l_840, l_999, l_1000, l_1001, l_2400, l_3064, l_9999, l_10000, l_13849, l_16383, l_25173, l_65535, l_65536, l_99999, l_1000000000, neg_nI, pk_mul, nI_add, nI_subL, tn_nI, inb_t, grd_true, bnd_some, elS_l, elS_r, nI_ltI, nI_leI, nI_inj, fa_and, fa_or, m1_eq, eq_m1, m1_lt, m1_le, lt_m1, le_m1, m1_lt0, up2_at, up2_no, ite_true, ite_false, if_true, if_false, Bool.false_eq_true, reduceIte, reduceCtorEq, not_true_eq_false, not_false_eq_true, eq_self, decide_true, decide_false, le_tt, le_ff, lt_tt, lt_ff, eq_ff, and_true, true_and, and_false, false_and, or_true, true_or, or_false, false_or, ne_eq, decide_eq_true_eq, decide_eq_false_iff_not, Bool.not_true, Bool.not_false, Bool.and_true, Bool.true_and, Bool.and_false, Bool.false_and, gs_at, gs_no, oI_n, oI_s]
      · by_cases c : left = 0
        · simp (disch := omega) only [l_0, l_1, l_2, l_3, l_4, l_5, l_6, l_7, l_8, l_9, l_10, l_11, l_12, l_13, l_14, l_16, l_20, l_21, l_23, l_24, l_30, l_32, l_40, l_41, l_44, l_48, l_57, l_59, l_60, l_63, l_64, l_80, l_84, l_96, l_97, l_99, l_120, l_122, l_127, l_200, l_240, l_255, l_840, l_999, l_1000, l_1001, l_2400, l_3064, l_9999, l_10000, l_13849, l_16383, l_25173, l_65535, l_65536, l_99999, l_1000000000, neg_nI, pk_mul, nI_add, nI_subL, tn_nI, inb_t, grd_true, bnd_some, elS_l, elS_r, nI_ltI, nI_leI, nI_inj, fa_and, fa_or, m1_eq, eq_m1, m1_lt, m1_le, lt_m1, le_m1, m1_lt0, up2_at, up2_no, ite_true, ite_false, if_true, if_false, Bool.false_eq_true, reduceIte, reduceCtorEq, not_true_eq_false, not_false_eq_true, eq_self, decide_true, decide_false, le_tt, le_ff, lt_tt, lt_ff, eq_ff, and_true, true_and, and_false, false_and, or_true, true_or, or_false, false_or, ne_eq, decide_eq_true_eq, decide_eq_false_iff_not, Bool.not_true, Bool.not_false, Bool.and_true, Bool.true_and, Bool.and_false, Bool.false_and, gs_at, gs_no, oI_n, oI_s, c]
        · simp (disch := omega) only [l_0, l_1, l_2, l_3, l_4, l_5, l_6, l_7, l_8, l_9, l_10, l_11, l_12, l_13, l_14, l_16, l_20, l_21, l_23, l_24, l_30, l_32, l_40, l_41, l_44, l_48, l_57, l_59, l_60, l_63, l_64, l_80, l_84, l_96, l_97, l_99, l_120, l_122, l_127, l_200, l_240, l_255, l_840, l_999, l_1000, l_1001, l_2400, l_3064, l_9999, l_10000, l_13849, l_16383, l_25173, l_65535, l_65536, l_99999, l_1000000000, neg_nI, pk_mul, nI_add, nI_subL, tn_nI, inb_t, grd_true, bnd_some, elS_l, elS_r, nI_ltI, nI_leI, nI_inj, fa_and, fa_or, m1_eq, eq_m1, m1_lt, m1_le, lt_m1, le_m1, m1_lt0, up2_at, up2_no, ite_true, ite_false, if_true, if_false, Bool.false_eq_true, reduceIte, reduceCtorEq, not_true_eq_false, not_false_eq_true, eq_self, decide_true, decide_false, le_tt, le_ff, lt_tt, lt_ff, eq_ff, and_true, true_and, and_false, false_and, or_true, true_or, or_false, false_or, ne_eq, decide_eq_true_eq, decide_eq_false_iff_not, Bool.not_true, Bool.not_false, Bool.and_true, Bool.true_and, Bool.and_false, Bool.false_and, gs_at, gs_no, oI_n, oI_s, c]
  | succ k ih =>
    intro i left most g hi hW ha hb h7 hl hm hno
    by_cases c : left = 0
    · subst c
      refine ⟨nI i, fun m M hm hS hU hA => ?_, fun m M h hm hF hY hp => ?_⟩
      · refine ⟨.inl (nI 0, nI i, M), M, loop_inr ?_ (by omega), ?_, hA⟩
        · show Fg_parts_b40 n (nI a) (nI b) (nI u) (nI 0) (nI most) (nI i) M = _
          unfold Fg_parts_b40
          simp (disch := omega) only [l_0, l_1, l_2, l_3, l_4, l_5, l_6, l_7, l_8, l_9, l_10, l_11, l_12, l_13, l_14, l_16, l_20, l_21, l_23, l_24, l_30, l_32, l_40, l_41, l_44, l_48, l_57, l_59, l_60, l_63, l_64, l_80, l_84, l_96, l_97, l_99, l_120, l_122, l_127, l_200, l_240, l_255, l_840, l_999, l_1000, l_1001, l_2400, l_3064, l_9999, l_10000, l_13849, l_16383, l_25173, l_65535, l_65536, l_99999, l_1000000000, neg_nI, pk_mul, nI_add, nI_subL, tn_nI, inb_t, grd_true, bnd_some, elS_l, elS_r, nI_ltI, nI_leI, nI_inj, fa_and, fa_or, m1_eq, eq_m1, m1_lt, m1_le, lt_m1, le_m1, m1_lt0, up2_at, up2_no, ite_true, ite_false, if_true, if_false, Bool.false_eq_true, reduceIte, reduceCtorEq, not_true_eq_false, not_false_eq_true, eq_self, decide_true, decide_false, le_tt, le_ff, lt_tt, lt_ff, eq_ff, and_true, true_and, and_false, false_and, or_true, true_or, or_false, false_or, ne_eq, decide_eq_true_eq, decide_eq_false_iff_not, Bool.not_true, Bool.not_false, Bool.and_true, Bool.true_and, Bool.and_false, Bool.false_and, gs_at, gs_no, oI_n, oI_s]
        · rw [elS_l]
          unfold Fg_parts_j129
          simp (disch := omega) only [l_0, l_1, l_2, l_3, l_4, l_5, l_6, l_7, l_8, l_9, l_10, l_11, l_12, l_13, l_14, l_16, l_20, l_21, l_23, l_24, l_30, l_32, l_40, l_41, l_44, l_48, l_57, l_59, l_60, l_63, l_64, l_80, l_84, l_96, l_97, l_99, l_120, l_122, l_127, l_200, l_240, l_255, l_840, l_999, l_1000, l_1001, l_2400, l_3064, l_9999, l_10000, l_13849, l_16383, l_25173, l_65535, l_65536, l_99999, l_1000000000, neg_nI, pk_mul, nI_add, nI_subL, tn_nI, inb_t, grd_true, bnd_some, elS_l, elS_r, nI_ltI, nI_leI, nI_inj, fa_and, fa_or, m1_eq, eq_m1, m1_lt, m1_le, lt_m1, le_m1, m1_lt0, up2_at, up2_no, ite_true, ite_false, if_true, if_false, Bool.false_eq_true, reduceIte, reduceCtorEq, not_true_eq_false, not_false_eq_true, eq_self, decide_true, decide_false, le_tt, le_ff, lt_tt, lt_ff, eq_ff, and_true, true_and, and_false, false_and, or_true, true_or, or_false, false_or, ne_eq, decide_eq_true_eq, decide_eq_false_iff_not, Bool.not_true, Bool.not_false, Bool.and_true, Bool.true_and, Bool.and_false, Bool.false_and, gs_at, gs_no, oI_n, oI_s]
      · refine ⟨nI 0, nI i, M, g, loop_inr (r := (nI 0, nI i, M)) ?_ (by omega), ?_, hF, Fr.rf⟩
        · show Fm_parts_b42 n (nI a) (nI b) (nI u) (nI 0) (nI i) (nI 0) M = _
          unfold Fm_parts_b42
          simp (disch := omega) only [l_0, l_1, l_2, l_3, l_4, l_5, l_6, l_7, l_8, l_9, l_10, l_11, l_12, l_13, l_14, l_16, l_20, l_21, l_23, l_24, l_30, l_32, l_40, l_41, l_44, l_48, l_57, l_59, l_60, l_63, l_64, l_80, l_84, l_96, l_97, l_99, l_120, l_122, l_127, l_200, l_240, l_255, l_840, l_999, l_1000, l_1001, l_2400, l_3064, l_9999, l_10000, l_13849, l_16383, l_25173, l_65535, l_65536, l_99999, l_1000000000, neg_nI, pk_mul, nI_add, nI_subL, tn_nI, inb_t, grd_true, bnd_some, elS_l, elS_r, nI_ltI, nI_leI, nI_inj, fa_and, fa_or, m1_eq, eq_m1, m1_lt, m1_le, lt_m1, le_m1, m1_lt0, up2_at, up2_no, ite_true, ite_false, if_true, if_false, Bool.false_eq_true, reduceIte, reduceCtorEq, not_true_eq_false, not_false_eq_true, eq_self, decide_true, decide_false, le_tt, le_ff, lt_tt, lt_ff, eq_ff, and_true, true_and, and_false, false_and, or_true, true_or, or_false, false_or, ne_eq, decide_eq_true_eq, decide_eq_false_iff_not, Bool.not_true, Bool.not_false, Bool.and_true, Bool.true_and, Bool.and_false, Bool.false_and, gs_at, gs_no, oI_n, oI_s]
        · simp (disch := omega) only [l_0, l_1, l_2, l_3, l_4, l_5, l_6, l_7, l_8, l_9, l_10, l_11, l_12, l_13, l_14, l_16, l_20, l_21, l_23, l_24, l_30, l_32, l_40, l_41, l_44, l_48, l_57, l_59, l_60, l_63, l_64, l_80, l_84, l_96, l_97, l_99, l_120, l_122, l_127, l_200, l_240, l_255, l_840, l_999, l_1000, l_1001, l_2400, l_3064, l_9999, l_10000, l_13849, l_16383, l_25173, l_65535, l_65536, l_99999, l_1000000000, neg_nI, pk_mul, nI_add, nI_subL, tn_nI, inb_t, grd_true, bnd_some, elS_l, elS_r, nI_ltI, nI_leI, nI_inj, fa_and, fa_or, m1_eq, eq_m1, m1_lt, m1_le, lt_m1, le_m1, m1_lt0, up2_at, up2_no, ite_true, ite_false, if_true, if_false, Bool.false_eq_true, reduceIte, reduceCtorEq, not_true_eq_false, not_false_eq_true, eq_self, decide_true, decide_false, le_tt, le_ff, lt_tt, lt_ff, eq_ff, and_true, true_and, and_false, false_and, or_true, true_or, or_false, false_or, ne_eq, decide_eq_true_eq, decide_eq_false_iff_not, Bool.not_true, Bool.not_false, Bool.and_true, Bool.true_and, Bool.and_false, Bool.false_and, gs_at, gs_no, oI_n, oI_s]
    · have hgm : gfS g a b u left = gfS g a b u (min most left) := gf_min left (by omega) hno
      have hgle := gf_le (g := g) (a := a) (b := b) (u := u) left
      by_cases z : gfS g a b u left = 0
      · refine ⟨ng 2, fun m M hm hS hU hA => ?_, fun m M h hm hF hY hp => ?_⟩
        · obtain ⟨M1, d1, d2, d3, d4, d5⟩ := Fg_greatest_e hW ha hb hab hu (n := n) (by omega) (R := min most left) (by omega) hS hU hA
          rw [← hgm, z] at d1
          refine ⟨.inr (ng 2, M1), M1, loop_inr ?_ (by omega), rfl, d5⟩
          show Fg_parts_b40 n (nI a) (nI b) (nI u) (nI left) (nI most) (nI i) M = _
          unfold Fg_parts_b40
          simp (disch := omega) only [l_0, l_1, l_2, l_3, l_4, l_5, l_6, l_7, l_8, l_9, l_10, l_11, l_12, l_13, l_14, l_16, l_20, l_21, l_23, l_24, l_30, l_32, l_40, l_41, l_44, l_48, l_57, l_59, l_60, l_63, l_64, l_80, l_84, l_96, l_97, l_99, l_120, l_122, l_127, l_200, l_240, l_255, l_840, l_999, l_1000, l_1001, l_2400, l_3064, l_9999, l_10000, l_13849, l_16383, l_25173, l_65535, l_65536, l_99999, l_1000000000, neg_nI, pk_mul, nI_add, nI_subL, tn_nI, inb_t, grd_true, bnd_some, elS_l, elS_r, nI_ltI, nI_leI, nI_inj, fa_and, fa_or, m1_eq, eq_m1, m1_lt, m1_le, lt_m1, le_m1, m1_lt0, up2_at, up2_no, ite_true, ite_false, if_true, if_false, Bool.false_eq_true, reduceIte, reduceCtorEq, not_true_eq_false, not_false_eq_true, eq_self, decide_true, decide_false, le_tt, le_ff, lt_tt, lt_ff, eq_ff, and_true, true_and, and_false, false_and, or_true, true_or, or_false, false_or, ne_eq, decide_eq_true_eq, decide_eq_false_iff_not, Bool.not_true, Bool.not_false, Bool.and_true, Bool.true_and, Bool.and_false, Bool.false_and, gs_at, gs_no, oI_n, oI_s, c, imn_e, d1]
        · refine ⟨nI left, nI i, M, g, loop_inr (r := (nI left, nI i, M)) ?_ (by omega), ?_, hF, Fr.rf⟩
          · show Fm_parts_b42 n (nI a) (nI b) (nI u) (nI left) (nI i) (nI (gfS g a b u left)) M = _
            unfold Fm_parts_b42
            simp (disch := omega) only [l_0, l_1, l_2, l_3, l_4, l_5, l_6, l_7, l_8, l_9, l_10, l_11, l_12, l_13, l_14, l_16, l_20, l_21, l_23, l_24, l_30, l_32, l_40, l_41, l_44, l_48, l_57, l_59, l_60, l_63, l_64, l_80, l_84, l_96, l_97, l_99, l_120, l_122, l_127, l_200, l_240, l_255, l_840, l_999, l_1000, l_1001, l_2400, l_3064, l_9999, l_10000, l_13849, l_16383, l_25173, l_65535, l_65536, l_99999, l_1000000000, neg_nI, pk_mul, nI_add, nI_subL, tn_nI, inb_t, grd_true, bnd_some, elS_l, elS_r, nI_ltI, nI_leI, nI_inj, fa_and, fa_or, m1_eq, eq_m1, m1_lt, m1_le, lt_m1, le_m1, m1_lt0, up2_at, up2_no, ite_true, ite_false, if_true, if_false, Bool.false_eq_true, reduceIte, reduceCtorEq, not_true_eq_false, not_false_eq_true, eq_self, decide_true, decide_false, le_tt, le_ff, lt_tt, lt_ff, eq_ff, and_true, true_and, and_false, false_and, or_true, true_or, or_false, false_or, ne_eq, decide_eq_true_eq, decide_eq_false_iff_not, Bool.not_true, Bool.not_false, Bool.and_true, Bool.true_and, Bool.and_false, Bool.false_and, gs_at, gs_no, oI_n, oI_s, z]
          · simp (disch := omega) only [l_0, l_1, l_2, l_3, l_4, l_5, l_6, l_7, l_8, l_9, l_10, l_11, l_12, l_13, l_14, l_16, l_20, l_21, l_23, l_24, l_30, l_32, l_40, l_41, l_44, l_48, l_57, l_59, l_60, l_63, l_64, l_80, l_84, l_96, l_97, l_99, l_120, l_122, l_127, l_200, l_240, l_255, l_840, l_999, l_1000, l_1001, l_2400, l_3064, l_9999, l_10000, l_13849, l_16383, l_25173, l_65535, l_65536, l_99999, l_1000000000, neg_nI, pk_mul, nI_add, nI_subL, tn_nI, inb_t, grd_true, bnd_some, elS_l, elS_r, nI_ltI, nI_leI, nI_inj, fa_and, fa_or, m1_eq, eq_m1, m1_lt, m1_le, lt_m1, le_m1, m1_lt0, up2_at, up2_no, ite_true, ite_false, if_true, if_false, Bool.false_eq_true, reduceIte, reduceCtorEq, not_true_eq_false, not_false_eq_true, eq_self, decide_true, decide_false, le_tt, le_ff, lt_tt, lt_ff, eq_ff, and_true, true_and, and_false, false_and, or_true, true_or, or_false, false_or, ne_eq, decide_eq_true_eq, decide_eq_false_iff_not, Bool.not_true, Bool.not_false, Bool.and_true, Bool.true_and, Bool.and_false, Bool.false_and, gs_at, gs_no, oI_n, oI_s, c]
      · obtain ⟨p, hf⟩ : ∃ p, fdW g a b (gfS g a b u left) u = some p := by
          cases hh : fdW g a b (gfS g a b u left) u with
          | some p => exact ⟨p, rfl⟩
          | none =>
            exfalso
            have key : ∀ r, 0 < gfS g a b u r → (fdW g a b (gfS g a b u r) u).isSome = true := fun r => by
              induction r with
              | zero => intro q; exact absurd q (Nat.lt_irrefl _)
              | succ r ih2 =>
                intro q
                rw [gf_s] at q ⊢
                by_cases cc : (fdW g a b (r + 1) u).isSome = true
                · rw [if_pos cc]; exact cc
                · rw [if_neg cc] at q ⊢; exact ih2 q
            have := key left (by omega)
            rw [hh] at this
            cases this
        have hWl := lay_W hW ha hb hab (r := gfS g a b u left) (by omega) (by omega) (by omega) hf
        have hwy := ways_lay (a := a) (b := b) (r := gfS g a b u left) (p := p) hW
        have e0 : layG g a b (gfS g a b u left) p 0 = g 0 := lay_lo (by omega) (by omega)
        have b1 := hW.2.1.1
        obtain ⟨ans, t1, t2⟩ := ih (i + 1) (left - gfS g a b u left) (gfS g a b u left) (layG g a b (gfS g a b u left) p) (by omega) hWl (by rw [e0]; exact ha) (by rw [e0]; exact hb) (by rw [lay_7]; omega) (by omega) (by omega) (fun x h1 h2 => fdW_mono b1.2.2.2.2.2.1 hW.2.2.2.1 hWl.2.2.2.1 (fun k h1 h2 => lay_lo h1 (by omega)) (fun l i q => OC_lay.mpr (.inr q)) (by omega) (gf_no left x (by omega) (by omega)))
        refine ⟨ans, fun m M hm hS hU hA => ?_, fun m M h hm hF hY hp => ?_⟩
        · obtain ⟨M1, d1, d2, d3, d4, d5⟩ := Fg_greatest_e hW ha hb hab hu (n := n) (by omega) (R := min most left) (by omega) hS hU hA
          rw [← hgm] at d1 d2
          obtain ⟨p', f0, k2, k3, k4⟩ := d2 (by omega)
          have : p' = p := by rw [hf] at f0; cases f0; rfl
          subst this
          obtain ⟨s1, M3, l1, l2, l3, l4, l5⟩ := lay_c (n := n) hW ha hab (r := gfS g a b u left) (by omega) (by omega) hf d3 d4 d5 (by omega)
          obtain ⟨y, M4, f1, f2, f3⟩ := t1 (m - 1) M3 (by omega) l2 l3 l4
          refine ⟨y, M4, ?_, f2, f3.cong (by rw [lay_lo (by omega) (by omega)]; exact b1.2.2.2.2.2.1) (fun k h1 h2 h3 => (lay_lo h1 (by omega)).symm)⟩
          rw [← f1]
          refine loop_inl ?_ (by omega)
          show Fg_parts_b40 n (nI a) (nI b) (nI u) (nI left) (nI most) (nI i) M = _
          unfold Fg_parts_b40
          simp (disch := omega) only [l_0, l_1, l_2, l_3, l_4, l_5, l_6, l_7, l_8, l_9, l_10, l_11, l_12, l_13, l_14, l_16, l_20, l_21, l_23, l_24, l_30, l_32, l_40, l_41, l_44, l_48, l_57, l_59, l_60, l_63, l_64, l_80, l_84, l_96, l_97, l_99, l_120, l_122, l_127, l_200, l_240, l_255, l_840, l_999, l_1000, l_1001, l_2400, l_3064, l_9999, l_10000, l_13849, l_16383, l_25173, l_65535, l_65536, l_99999, l_1000000000, neg_nI, pk_mul, nI_add, nI_subL, tn_nI, inb_t, grd_true, bnd_some, elS_l, elS_r, nI_ltI, nI_leI, nI_inj, fa_and, fa_or, m1_eq, eq_m1, m1_lt, m1_le, lt_m1, le_m1, m1_lt0, up2_at, up2_no, ite_true, ite_false, if_true, if_false, Bool.false_eq_true, reduceIte, reduceCtorEq, not_true_eq_false, not_false_eq_true, eq_self, decide_true, decide_false, le_tt, le_ff, lt_tt, lt_ff, eq_ff, and_true, true_and, and_false, false_and, or_true, true_or, or_false, false_or, ne_eq, decide_eq_true_eq, decide_eq_false_iff_not, Bool.not_true, Bool.not_false, Bool.and_true, Bool.true_and, Bool.and_false, Bool.false_and, gs_at, gs_no, oI_n, oI_s, c, imn_e, d1, z, k2, k3, k4, s1, l1]
        · obtain ⟨p', f0, k1, k2, k3, k4⟩ := hp (by omega)
          have : p' = p := by rw [hf] at f0; cases f0; rfl
          subst this
          obtain ⟨M2, d1, d2, d3⟩ := lay_m (n := n) hW ha hab (r := gfS g a b u left) (by omega) (by omega) (by omega) hf hF k1 k2 k3 k4 (by omega)
          obtain ⟨M3, e1, e2, e3, e4, e5⟩ := Fm_partOf_e (a := a) (b := b) (R := left - gfS g a b u left) hWl hu (n := n) (by omega) (by omega) d2 (by rw [hwy]; exact hY.keep d3)
          obtain ⟨l', i', M4, g', f1, f2, f3, f4⟩ := t2 (m - 1) M3 h (by omega) e3 e4 e2
          refine ⟨l', i', M4, g', ?_, f2, f3, ((d3.mono (fun c j q => .inl q)).tr e5).tr f4⟩
          rw [← f1]
          refine loop_inl ?_ (by omega)
          show Fm_parts_b42 n (nI a) (nI b) (nI u) (nI left) (nI i) (nI (gfS g a b u left)) M = _
          unfold Fm_parts_b42
          simp (disch := omega) only [l_0, l_1, l_2, l_3, l_4, l_5, l_6, l_7, l_8, l_9, l_10, l_11, l_12, l_13, l_14, l_16, l_20, l_21, l_23, l_24, l_30, l_32, l_40, l_41, l_44, l_48, l_57, l_59, l_60, l_63, l_64, l_80, l_84, l_96, l_97, l_99, l_120, l_122, l_127, l_200, l_240, l_255, l_840, l_999, l_1000, l_1001, l_2400, l_3064, l_9999, l_10000, l_13849, l_16383, l_25173, l_65535, l_65536, l_99999, l_1000000000, neg_nI, pk_mul, nI_add, nI_subL, tn_nI, inb_t, grd_true, bnd_some, elS_l, elS_r, nI_ltI, nI_leI, nI_inj, fa_and, fa_or, m1_eq, eq_m1, m1_lt, m1_le, lt_m1, le_m1, m1_lt0, up2_at, up2_no, ite_true, ite_false, if_true, if_false, Bool.false_eq_true, reduceIte, reduceCtorEq, not_true_eq_false, not_false_eq_true, eq_self, decide_true, decide_false, le_tt, le_ff, lt_tt, lt_ff, eq_ff, and_true, true_and, and_false, false_and, or_true, true_or, or_false, false_or, ne_eq, decide_eq_true_eq, decide_eq_false_iff_not, Bool.not_true, Bool.not_false, Bool.and_true, Bool.true_and, Bool.and_false, Bool.false_and, gs_at, gs_no, oI_n, oI_s, z, d1, e1]
theorem op_parts {n : Nat} (hn : 1099511627776 < n) (x y z v : Int32) : T2 (Fg_parts n x y z v) (Fm_parts n x y z v) := by
  refine T2.id (fun g hg => ?_)
  have hG := hg.1.1
  have h40 := hg.2.2
  have b1 := hg.1.2.1.1
  by_cases hx : (plB (g 0) x y && rg z 1 64 && inb v 4) = true
  · have hx' := hx
    rw [Bool.and_eq_true, Bool.and_eq_true] at hx
    obtain ⟨a, b, ha, hb, hab, rfl, rfl⟩ := (pl_iff (by omega)).mp hx.1.1
    obtain ⟨r, r1, r2, rfl⟩ := (rg_iff (by decide)).mp hx.1.2
    obtain ⟨u, hu, rfl⟩ := (inb_iff (by decide)).mp hx.2
    obtain ⟨ans, t1, t2⟩ := parts_k (n := n) (a := a) (b := b) (u := u) hn hab hu 20 0 r r g (by omega) hg.1 ha hb (by omega) r2 r2 (fun x h1 h2 => by omega)
    refine ⟨ans, fun M hS hA => ?_, fun M h hF => ?_⟩
    · obtain ⟨M1, a1, a2, a3, a4⟩ := St_copy_e (s := 54) (o := 18) (by omega) b1.2.2.2.2.2.1 h40 hS
      obtain ⟨y, M2, f1, f2, f3⟩ := t1 n M1 (by omega) a2.1 a2.2.2.2 (hA.fr a4 (fun j => by unfold fp_St_copy; omega))
      have hrun : Fg_parts n (nI a) (nI b) (nI r) (nI u) M = some (ans, M2) := by
        unfold Fg_parts
        rw [Fg_isWish_e (hS.1.1.1 0 (by omega)) (by omega), hx.1.1, hx.1.2, Fg_isRule_e, hx.2]
        simp (disch := omega) only [l_0, l_1, l_2, l_3, l_4, l_5, l_6, l_7, l_8, l_9, l_10, l_11, l_12, l_13, l_14, l_16, l_20, l_21, l_23, l_24, l_30, l_32, l_40, l_41, l_44, l_48, l_57, l_59, l_60, l_63, l_64, l_80, l_84, l_96, l_97, l_99, l_120, l_122, l_127, l_200, l_240, l_255, l_840, l_999, l_1000, l_1001, l_2400, l_3064, l_9999, l_10000, l_13849, l_16383, l_25173, l_65535, l_65536, l_99999, l_1000000000, neg_nI, pk_mul, nI_add, nI_subL, tn_nI, inb_t, grd_true, bnd_some, elS_l, elS_r, nI_ltI, nI_leI, nI_inj, fa_and, fa_or, m1_eq, eq_m1, m1_lt, m1_le, lt_m1, le_m1, m1_lt0, up2_at, up2_no, ite_true, ite_false, if_true, if_false, Bool.false_eq_true, reduceIte, reduceCtorEq, not_true_eq_false, not_false_eq_true, eq_self, decide_true, decide_false, le_tt, le_ff, lt_tt, lt_ff, eq_ff, and_true, true_and, and_false, false_and, or_true, true_or, or_false, false_or, ne_eq, decide_eq_true_eq, decide_eq_false_iff_not, Bool.not_true, Bool.not_false, Bool.and_true, Bool.true_and, Bool.and_false, Bool.false_and, gs_at, gs_no, oI_n, oI_s, a1, f1]
        exact f2
      have hfr := fr_Fg_parts hrun
      exact ⟨M2, hrun, hS.fr hfr (fun k j hk => by unfold fp_Fg_parts; omega), f3, hfr.mono (fun c j q => by unfold fp_Fg_parts at q; unfold PC; omega)⟩
    · obtain ⟨M1, h', a1, a2, a3, a4, a5⟩ := hF.out (b := 2) (n := n) (by omega) (by omega) (by omega)
      obtain ⟨M2, p1, p2, p3, p4, p5⟩ := pair_m hg a2 hn ha hb hab
      obtain ⟨M3, e1, e2, e3, e4, e5⟩ := Fm_partOf_e (a := a) (b := b) (R := r) hg.1 hu (n := n) (by omega) r2 p2 p3
      obtain ⟨l', i', M4, g', f1, f2, f3, f4⟩ := t2 n M3 h' (by omega) e3 e4 e2
      obtain ⟨M5, c1, c2, c3⟩ := f3.back (b := 2) (n := n) (g' := g) (by omega) (by omega) a3 (by omega)
      refine ⟨M5, h', ?_, c2, fun j hj => a4 _ (by omega) (by omega), ((((a5.mono (fun c j q => .inl q)).tr p5).tr e5).tr f4).tr (c3.mono (fun c j q => .inl q))⟩
      unfold Fm_parts Fm_parts_j91
      rw [Fm_isAsked_e (hF.lo (by omega)) (by omega), hx']
      simp (disch := omega) only [l_0, l_1, l_2, l_3, l_4, l_5, l_6, l_7, l_8, l_9, l_10, l_11, l_12, l_13, l_14, l_16, l_20, l_21, l_23, l_24, l_30, l_32, l_40, l_41, l_44, l_48, l_57, l_59, l_60, l_63, l_64, l_80, l_84, l_96, l_97, l_99, l_120, l_122, l_127, l_200, l_240, l_255, l_840, l_999, l_1000, l_1001, l_2400, l_3064, l_9999, l_10000, l_13849, l_16383, l_25173, l_65535, l_65536, l_99999, l_1000000000, neg_nI, pk_mul, nI_add, nI_subL, tn_nI, inb_t, grd_true, bnd_some, elS_l, elS_r, nI_ltI, nI_leI, nI_inj, fa_and, fa_or, m1_eq, eq_m1, m1_lt, m1_le, lt_m1, le_m1, m1_lt0, up2_at, up2_no, ite_true, ite_false, if_true, if_false, Bool.false_eq_true, reduceIte, reduceCtorEq, not_true_eq_false, not_false_eq_true, eq_self, decide_true, decide_false, le_tt, le_ff, lt_tt, lt_ff, eq_ff, and_true, true_and, and_false, false_and, or_true, true_or, or_false, false_or, ne_eq, decide_eq_true_eq, decide_eq_false_iff_not, Bool.not_true, Bool.not_false, Bool.and_true, Bool.true_and, Bool.and_false, Bool.false_and, gs_at, gs_no, oI_n, oI_s, a1, p1, e1, f1, c1]
      rw [← f2]
      by_cases c : l' ≤ nI 0
      · rw [if_pos c]; exact if_pos c
      · rw [if_neg c]; exact if_neg c
  · have hx' := ts_nt hx
    refine ⟨ng 1, fun M hS hA => TC.id hS hA ?_, fun M h hF => TM.id hF ?_⟩
    · unfold Fg_parts
      rw [Fg_isWish_e (hS.1.1.1 0 (by omega)) (by omega), bnd_some]
      cases hw : (plB (g 0) x y && rg z 1 64) with
      | false => rfl
      | true =>
        rw [hw, Bool.true_and] at hx'
        rw [Fg_isRule_e, hx']
        rfl
    · unfold Fm_parts
      rw [Fm_isAsked_e (hF.lo (by omega)) (by omega), hx']
      rfl
