/-! one more laid in thought; calls: more -/
def layG (g : Nat → Nat) (a b r : Nat) (p : Nat × Nat × Nat × Nat) : Nat → Nat := litG (addG g a b r) (g 7) (wkO (waysG g a b) p.1) p.2.1 p.2.2.1
section
variable {g : Nat → Nat} {a b r u : Nat} {p : Nat × Nat × Nat × Nat}
theorem lay_lo {k : Nat} (h : k < 64) (h7 : k ≠ 7) : layG g a b r p k = g k := by
  unfold layG
  rw [lit_lo h, add_lo h h7]
theorem lay_7 : layG g a b r p 7 = g 7 + 1 := by
  unfold layG
  rw [lit_lo (by omega), add_7]
theorem lay_W (hW : GW g) (ha : a < g 0) (hb : b < g 0) (hab : a ≠ b) (r1 : 1 ≤ r) (r2 : r ≤ 64) (h7 : g 7 < 300) (hf : fdW g a b r u = some p) : GW (layG g a b r p) := by
  have b1 := hW.2.1.1
  obtain ⟨p1, p2, p3, p4, p5⟩ := fdW_ok hW.2.1 ha hab r1 r2 hf
  exact GW_lit (GW_add hW (by omega) (by omega) r2 h7) (by rw [add_7]; omega) p3.1 p2.1 (by rw [add_lo (by omega) (by omega)]; exact p2.2) (by rw [fit_add]; exact p5)
theorem OC_lay {l i : Nat} : OC (layG g a b r p) l none i ↔ (wkO (waysG g a b) p.1 &&& l ≠ 0 ∧ p.2.1 ≤ i ∧ i < p.2.1 + p.2.2.1) ∨ OC g l none i := by
  unfold layG
  rw [OC_lit (by rw [add_7]; omega) (by rw [add_d3]; omega), OC_add]
theorem ways_lay (hW : GW g) : waysG (layG g a b r p) a b = waysG g a b := ways_same hW.2.1.1.2.2.2.2.2.1 (fun k h1 h2 => lay_lo h1 (by omega)) a b
theorem lay_c {M : Mm} {n : Nat} (hW : GW g) (ha : a < g 0) (hab : a ≠ b) (r1 : 1 ≤ r) (r2 : r ≤ 64) (hf : fdW g a b r u = some p) (hS : SN M 54 g) (hU : UB M 54 g) (hA : CA M g) (hn : 100 < n) : Fg_span (nI p.2.1) (nI (p.2.1 + p.2.2.1)) M = some (lN (2 ^ (p.2.1 + p.2.2.1) - 2 ^ p.2.1)) ∧ ∃ M', St_fill n 54 (nI (wkO (waysG g a b) p.1)) (lN (2 ^ (p.2.1 + p.2.2.1) - 2 ^ p.2.1)) M = some M' ∧ SN M' 54 (layG g a b r p) ∧ UB M' 54 (layG g a b r p) ∧ CA M' (layG g a b r p) ∧ Fr (fp_St_fill 54) M M' := by
  have b1 := hW.2.1.1
  obtain ⟨p1, p2, p3, p4, p5⟩ := fdW_ok hW.2.1 ha hab r1 r2 hf
  have hon : wkO (waysG g a b) p.1 < 16384 := Nat.lt_of_lt_of_le p2.2 (show 2 ^ g 3 ≤ 2 ^ 14 from Nat.pow_le_pow_right (by decide) b1.2.2.2.2.2.1)
  refine ⟨Fg_span_e (by omega) (by omega), ?_⟩
  obtain ⟨M', q1, q2, q3, q4⟩ := St_fill_e (g := g) (n := n) (s := 54) (M := M) (l := wkO (waysG g a b) p.1) (m := 2 ^ (p.2.1 + p.2.2.1) - 2 ^ p.2.1) (hS.1.1 3 (by omega)) b1.2.2.2.2.2.1 hon (span_lt (by omega)) hn
  have hfr := fr_St_fill q1
  refine ⟨M', q1, (hS.fr hfr (fun k j hk q => by unfold fp_St_fill at q; omega) (fun j hj q => by unfold fp_St_fill at q; omega)).cong' b1.2.2.2.2.2.1 (fun k h1 h2 => lay_lo h1 h2), fun l hl i => ?_, (hA.fr hfr (fun j => by unfold fp_St_fill; omega)).cong b1.2.2.2.2.2.1 (fun k h1 h2 h3 => lay_lo h1 (by omega)), hfr⟩
  rw [lay_lo (by omega) (by omega)] at hl
  rw [q4 l hl, OC_lay]
  by_cases c : (wkO (waysG g a b) p.1).testBit l = true
  · rw [if_pos c, Nat.testBit_or, Bool.or_eq_true, hU l hl, span_tb (by omega), decide_eq_true_eq]
    constructor
    · rintro (h | h)
      · exact .inr h
      · exact .inl ⟨and_bit.mpr c, h⟩
    · rintro (h | h)
      · exact .inr h.2
      · exact .inl h
  · rw [if_neg c, hU l hl]
    constructor
    · exact .inr
    · rintro (h | h)
      · exact absurd (and_bit.mp h.1) c
      · exact h
theorem WY.keep {M M' : Mm} {c : Nat} {wl wk : Nat → Nat} (h : WY M c wl wk) (hf : Fr (fun c _ => c = 95) M M') : WY M' c wl wk := h.fr hf (fun j => by omega) (by omega)
theorem lay_m {M : Mm} {h : Nat → Int32} {n : Nat} (hW : GW g) (ha : a < g 0) (hab : a ≠ b) (r1 : 1 ≤ r) (r2 : r ≤ 64) (h7 : g 7 < 300) (hf : fdW g a b r u = some p) (hF : FK M g h) (k1 : M.1 94 20 = nI p.1) (k2 : M.1 94 21 = nI p.2.1) (k3 : M.1 94 22 = nI p.2.2.1) (k4 : M.1 99 p.1 = nI (wkO (waysG g a b) p.1)) (hn : 100 < n) : ∃ M', Fm_comes n (nI a) (nI b) (nI r) true M = some (nI (g 7), M') ∧ FK M' (layG g a b r p) h ∧ Fr (fun c _ => c = 95) M M' := by
  obtain ⟨p1, p2, p3, p4, p5⟩ := fdW_ok hW.2.1 ha hab r1 r2 hf
  have hwl := ways_len (g := g) (a := a) (b := b)
  obtain ⟨M2, d1, d2, d3⟩ := comes_m (a := a) (b := b) (r := r) (n := n) hF h7 hn
  obtain ⟨M3, f1, f2, f3⟩ := lights_m (d := g 7) (on := wkO (waysG g a b) p.1) (f := p.2.1) (w := p.2.2.1) (k := p.1) d2 (by omega) (by omega) ((d3 94 20 (by omega)).1.trans k1) ((d3 94 21 (by omega)).1.trans k2) ((d3 94 22 (by omega)).1.trans k3) ((d3 99 p.1 (by omega)).1.trans k4)
  refine ⟨M3, ?_, f2, d3.tr f3⟩
  rw [d1, if_pos rfl, f1]
  rfl
end
theorem ct_lt {p q : Nat → Bool} {n j : Nat} (h : ∀ k, k < n → p k = true → q k = true) (hj : j < n) (h1 : q j = true) (h2 : p j = false) : fb_ct p n < fb_ct q n := by
  have h3 := fb_ct_upd p true hj
  rw [h2] at h3
  have h4 : fb_ct (fun k => if k = j then true else p k) n ≤ fb_ct q n := fb_ct_sub (fun k hk hp => by
    by_cases c : k = j
    · rw [c]; exact h1
    · rw [if_neg c] at hp; exact h k hk hp)
  rw [if_neg (show ¬ false = true by simp), if_pos (show true = true from rfl)] at h3
  omega
def muN (W : List We) (g : Nat → Nat) : Nat → Nat
  | 0 => 0
  | k + 1 => muN W g k + fb_ct (fzB g (wkO W k)) 64
theorem mu_s {W : List We} {g : Nat → Nat} {k : Nat} : muN W g (k + 1) = muN W g k + fb_ct (fzB g (wkO W k)) 64 := rfl
theorem mu_le {W : List We} {g : Nat → Nat} (h1 : g 1 ≤ 60) : ∀ k, muN W g k ≤ 60 * k
  | 0 => Nat.le_refl _
  | k + 1 => by
    have := mu_le (W := W) h1 k
    rw [mu_s]
    have h2 : fb_ct (fzB g (wkO W k)) 64 ≤ 60 := by
      rw [ct_ext (m := g 1) (by omega) (fun i h1 h2 => by
        rw [← Bool.not_eq_true, fz_oc]
        omega)]
      exact Nat.le_trans (fb_ct_le _ _) h1
    omega
theorem mu_lay {g : Nat → Nat} {a b r u : Nat} {p : Nat × Nat × Nat × Nat} (hW : GW g) (ha : a < g 0) (hab : a ≠ b) (r1 : 1 ≤ r) (r2 : r ≤ 64) (hf : fdW g a b r u = some p) : muN (waysG g a b) (layG g a b r p) (waysG g a b).length < muN (waysG g a b) g (waysG g a b).length := by
  obtain ⟨p1, p2, p3, p4, p5⟩ := fdW_ok hW.2.1 ha hab r1 r2 hf
  have b1 := hW.2.1.1
  have hsub : ∀ l i, fzB (layG g a b r p) l i = true → fzB g l i = true := fun l i h => by
    rw [fz_oc, lay_lo (by omega) (by omega), OC_lay] at h
    rw [fz_oc]
    exact ⟨h.1, fun q => h.2 (.inr q)⟩
  have hle : ∀ k, muN (waysG g a b) (layG g a b r p) k ≤ muN (waysG g a b) g k ∧ (p.1 < k → muN (waysG g a b) (layG g a b r p) k < muN (waysG g a b) g k) := fun k => by
    induction k with
    | zero => exact ⟨Nat.le_refl _, fun q => by omega⟩
    | succ k ih =>
      rw [mu_s, mu_s]
      have h1 : fb_ct (fzB (layG g a b r p) (wkO (waysG g a b) k)) 64 ≤ fb_ct (fzB g (wkO (waysG g a b) k)) 64 := fb_ct_sub (fun i _ h => hsub _ _ h)
      refine ⟨by omega, fun q => ?_⟩
      by_cases c : k = p.1
      · have h2 : fb_ct (fzB (layG g a b r p) (wkO (waysG g a b) k)) 64 < fb_ct (fzB g (wkO (waysG g a b) k)) 64 := by
          refine ct_lt (j := p.2.1) (fun i _ h => hsub _ _ h) (by omega) ?_ ?_
          · have := (fit_oc hW.2.2.2.1 p3.1).mp p5 0 (by omega)
            rw [fz_oc, c]
            refine ⟨by omega, fun q => this.2 ⟨p.2.1, q, by omega, by omega⟩⟩
          · rw [← Bool.not_eq_true, fz_oc, OC_lay]
            rintro ⟨_, q2⟩
            refine q2 (.inl ⟨?_, by omega, by omega⟩)
            rw [c, Nat.and_self]
            omega
        omega
      · have := ih.2 (by omega)
        omega
  exact (hle _).2 p1
theorem more_k {n a b r u : Nat} (hn : 1099511627776 < n) (hab : a ≠ b) (r1 : 1 ≤ r) (r2 : r ≤ 64) (hu : u < 4) : ∀ (k i : Nat) (g : Nat → Nat), GW g → a < g 0 → b < g 0 → muN (waysG g a b) g (waysG g a b).length ≤ k → g 7 + k < 300 → i + k < 840 → ∃ (q : Nat), (∀ m M, k < m → SN M 54 g → UB M 54 g → CA M g → ∃ M', loop (fun s1 : Int32 × Mm => Fg_more_b39 n (nI a) (nI b) (nI r) (nI u) (nI 840) s1.1 s1.2) m (nI i, M) = some (nI q, M') ∧ CA M' g) ∧ (∀ m M h, k < m → FK M g h → WY M (waysG g a b).length (wlO (waysG g a b)) (wkO (waysG g a b)) → ∃ M' g', loop (fun s1 : Int32 × Mm => Fm_more_b29 n (nI a) (nI b) (nI r) (nI u) s1.1 s1.2) m (nI i, M) = some (nI q, M') ∧ FK M' g' h ∧ Fr PM M M') := by
  intro k
  induction k with
  | zero =>
    intro i g hW ha hb hmu h7 hi
    have hnone : fdW g a b r u = none := by
      cases hf : fdW g a b r u with
      | none => rfl
      | some p => have := mu_lay hW ha hab r1 r2 hf; omega
    refine ⟨i, fun m M hm hS hU hA => ?_, fun m M h hm hF hY => ?_⟩
    · obtain ⟨M2, c1, c2, c3, c4⟩ := find_c hW hS hU hA (by omega) (n := n) (by omega) ha hb hab r1 r2 hu
      rw [hnone] at c1
      refine ⟨M2, loop_inr (r := (nI i, M2)) ?_ hm, c3⟩
      show Fg_more_b39 n (nI a) (nI b) (nI r) (nI u) (nI 840) (nI i) M = _
      unfold Fg_more_b39
      simp (disch := omega) only [l_0, l_1, l_2, l_3, l_4, l_5, l_6, l_7, l_8, l_9, l_10, l_11, l_12, l_13, l_14, l_16, l_20, l_21, l_23, l_24, l_30, l_32, l_40, l_41, l_44, l_48, l_57, l_59, l_60, l_63, l_64, l_80, l_84, l_96, l_97, l_99, l_120, l_122, l_127, l_200, l_240, l_255, l_840, l_999, l_1000, l_1001, l_2400, l_3064, l_9999, l_10000, l_13849, l_16383, l_25173, l_65535, l_65536, l_99999, l_1000000000, neg_nI, pk_mul, nI_add, nI_subL, tn_nI, inb_t, grd_true, bnd_some, elS_l, elS_r, nI_ltI, nI_leI, nI_inj, fa_and, fa_or, m1_eq, eq_m1, m1_lt, m1_le, lt_m1, le_m1, m1_lt0, up2_at, up2_no, ite_true, ite_false, if_true, if_false, Bool.false_eq_true, reduceIte, reduceCtorEq, not_true_eq_false, not_false_eq_true, eq_self, decide_true, decide_false, le_tt, le_ff, lt_tt, lt_ff, eq_ff, and_true, true_and, and_false, false_and, or_true, true_or, or_false, false_or, ne_eq, decide_eq_true_eq, decide_eq_false_iff_not, Bool.not_true, Bool.not_false, Bool.and_true, Bool.true_and, Bool.and_false, Bool.false_and, gs_at, gs_no, oI_n, oI_s, c1, Option.isSome_none]
    · obtain ⟨M2, c1, c2, c3⟩ := Fm_finds_e (n := n) (rate := r) (rule := u) hW.1 hW.2.1 hW.2.2.2.1 (M := M) ⟨hF.FR hW.1, hY⟩ (by omega) hu r1 r2
      have e : fdG g (wlO (waysG g a b)) (wkO (waysG g a b)) r u (waysG g a b).length = none := hnone
      rw [e] at c1
      refine ⟨M2, g, loop_inr (r := (nI i, M2)) ?_ hm, hF.fr c3 (fun j => by unfold fp_Fm_finds; omega), c3.mono (fun c j q => by unfold fp_Fm_finds at q; unfold PM; omega)⟩
      show Fm_more_b29 n (nI a) (nI b) (nI r) (nI u) (nI i) M = _
      unfold Fm_more_b29
      simp (disch := omega) only [l_0, l_1, l_2, l_3, l_4, l_5, l_6, l_7, l_8, l_9, l_10, l_11, l_12, l_13, l_14, l_16, l_20, l_21, l_23, l_24, l_30, l_32, l_40, l_41, l_44, l_48, l_57, l_59, l_60, l_63, l_64, l_80, l_84, l_96, l_97, l_99, l_120, l_122, l_127, l_200, l_240, l_255, l_840, l_999, l_1000, l_1001, l_2400, l_3064, l_9999, l_10000, l_13849, l_16383, l_25173, l_65535, l_65536, l_99999, l_1000000000, neg_nI, pk_mul, nI_add, nI_subL, tn_nI, inb_t, grd_true, bnd_some, elS_l, elS_r, nI_ltI, nI_leI, nI_inj, fa_and, fa_or, m1_eq, eq_m1, m1_lt, m1_le, lt_m1, le_m1, m1_lt0, up2_at, up2_no, ite_true, ite_false, if_true, if_false, Bool.false_eq_true, reduceIte, reduceCtorEq, not_true_eq_false, not_false_eq_true, eq_self, decide_true, decide_false, le_tt, le_ff, lt_tt, lt_ff, eq_ff, and_true, true_and, and_false, false_and, or_true, true_or, or_false, false_or, ne_eq, decide_eq_true_eq, decide_eq_false_iff_not, Bool.not_true, Bool.not_false, Bool.and_true, Bool.true_and, Bool.and_false, Bool.false_and, gs_at, gs_no, oI_n, oI_s, c1, Option.isSome_none]
  | succ k ih =>
    intro i g hW ha hb hmu h7 hi
    cases hf : fdW g a b r u with
    | none =>
      refine ⟨i, fun m M hm hS hU hA => ?_, fun m M h hm hF hY => ?_⟩
      · obtain ⟨M2, c1, c2, c3, c4⟩ := find_c hW hS hU hA (by omega) (n := n) (by omega) ha hb hab r1 r2 hu
        rw [hf] at c1
        refine ⟨M2, loop_inr (r := (nI i, M2)) ?_ (by omega), c3⟩
        show Fg_more_b39 n (nI a) (nI b) (nI r) (nI u) (nI 840) (nI i) M = _
        unfold Fg_more_b39
        simp (disch := omega) only [l_0, l_1, l_2, l_3, l_4, l_5, l_6, l_7, l_8, l_9, l_10, l_11, l_12, l_13, l_14, l_16, l_20, l_21, l_23, l_24, l_30, l_32, l_40, l_41, l_44, l_48, l_57, l_59, l_60, l_63, l_64, l_80, l_84, l_96, l_97, l_99, l_120, l_122, l_127, l_200, l_240, l_255, l_840, l_999, l_1000, l_1001, l_2400, l_3064, l_9999, l_10000, l_13849, l_16383, l_25173, l_65535, l_65536, l_99999, l_1000000000, neg_nI, pk_mul, nI_add, nI_subL, tn_nI, inb_t, grd_true, bnd_some, elS_l, elS_r, nI_ltI, nI_leI, nI_inj, fa_and, fa_or, m1_eq, eq_m1, m1_lt, m1_le, lt_m1, le_m1, m1_lt0, up2_at, up2_no, ite_true, ite_false, if_true, if_false, Bool.false_eq_true, reduceIte, reduceCtorEq, not_true_eq_false, not_false_eq_true, eq_self, decide_true, decide_false, le_tt, le_ff, lt_tt, lt_ff, eq_ff, and_true, true_and, and_false, false_and, or_true, true_or, or_false, false_or, ne_eq, decide_eq_true_eq, decide_eq_false_iff_not, Bool.not_true, Bool.not_false, Bool.and_true, Bool.true_and, Bool.and_false, Bool.false_and, gs_at, gs_no, oI_n, oI_s, c1, Option.isSome_none]
      · obtain ⟨M2, c1, c2, c3⟩ := Fm_finds_e (n := n) (rate := r) (rule := u) hW.1 hW.2.1 hW.2.2.2.1 (M := M) ⟨hF.FR hW.1, hY⟩ (by omega) hu r1 r2
        have e : fdG g (wlO (waysG g a b)) (wkO (waysG g a b)) r u (waysG g a b).length = none := hf
        rw [e] at c1
        refine ⟨M2, g, loop_inr (r := (nI i, M2)) ?_ (by omega), hF.fr c3 (fun j => by unfold fp_Fm_finds; omega), c3.mono (fun c j q => by unfold fp_Fm_finds at q; unfold PM; omega)⟩
        show Fm_more_b29 n (nI a) (nI b) (nI r) (nI u) (nI i) M = _
        unfold Fm_more_b29
        simp (disch := omega) only [l_0, l_1, l_2, l_3, l_4, l_5, l_6, l_7, l_8, l_9, l_10, l_11, l_12, l_13, l_14, l_16, l_20, l_21, l_23, l_24, l_30, l_32, l_40, l_41, l_44, l_48, l_57, l_59, l_60, l_63, l_64, l_80, l_84, l_96, l_97, l_99, l_120, l_122, l_127, l_200, l_240, l_255, l_840, l_999, l_1000, l_1001, l_2400, l_3064, l_9999, l_10000, l_13849, l_16383, l_25173, l_65535, l_65536, l_99999, l_1000000000, neg_nI, pk_mul, nI_add, nI_subL, tn_nI, inb_t, grd_true, bnd_some, elS_l, elS_r, nI_ltI, nI_leI, nI_inj, fa_and, fa_or, m1_eq, eq_m1, m1_lt, m1_le, lt_m1, le_m1, m1_lt0, up2_at, up2_no, ite_true, ite_false, if_true, if_false, Bool.false_eq_true, reduceIte, reduceCtorEq, not_true_eq_false, not_false_eq_true, eq_self, decide_true, decide_false, le_tt, le_ff, lt_tt, lt_ff, eq_ff, and_true, true_and, and_false, false_and, or_true, true_or, or_false, false_or, ne_eq, decide_eq_true_eq, decide_eq_false_iff_not, Bool.not_true, Bool.not_false, Bool.and_true, Bool.true_and, Bool.and_false, Bool.false_and, gs_at, gs_no, oI_n, oI_s, c1, Option.isSome_none]
    | some p =>
      have hml := mu_lay hW ha hab r1 r2 hf
      have hWl := lay_W hW ha hb hab r1 r2 (by omega) hf
      have hwy := ways_lay (a := a) (b := b) (r := r) (p := p) hW
      have e0 : layG g a b r p 0 = g 0 := lay_lo (by omega) (by omega)
      obtain ⟨q, t1, t2⟩ := ih (i + 1) (layG g a b r p) hWl (by rw [e0]; exact ha) (by rw [e0]; exact hb) (by rw [hwy]; omega) (by rw [lay_7]; omega) (by omega)
      refine ⟨q, fun m M hm hS hU hA => ?_, fun m M h hm hF hY => ?_⟩
      · obtain ⟨M2, c1, c2, c3, c4⟩ := find_c hW hS hU hA (by omega) (n := n) (by omega) ha hb hab r1 r2 hu
        obtain ⟨k1, k2, k3, k4⟩ := c2 p hf
        rw [hf] at c1
        obtain ⟨s1, M3, d1, d2, d3, d4, d5⟩ := lay_c (n := n) hW ha hab r1 r2 hf (hS.fr c4 (fun k j hk q => by unfold fp_Fi_find at q; omega) (fun j hj q => by unfold fp_Fi_find at q; omega)) (hU.fr c4 (fun j => by unfold fp_Fi_find; omega)) c3 (by omega)
        obtain ⟨M4, f1, f2⟩ := t1 (m - 1) M3 (by omega) d2 d3 d4
        refine ⟨M4, ?_, f2.cong (by rw [lay_lo (by omega) (by omega)]; exact hW.2.1.1.2.2.2.2.2.1) (fun k h1 h2 h3 => (lay_lo h1 (by omega)).symm)⟩
        rw [← f1]
        refine loop_inl ?_ (by omega)
        show Fg_more_b39 n (nI a) (nI b) (nI r) (nI u) (nI 840) (nI i) M = _
        unfold Fg_more_b39
        simp (disch := omega) only [l_0, l_1, l_2, l_3, l_4, l_5, l_6, l_7, l_8, l_9, l_10, l_11, l_12, l_13, l_14, l_16, l_20, l_21, l_23, l_24, l_30, l_32, l_40, l_41, l_44, l_48, l_57, l_59, l_60, l_63, l_64, l_80, l_84, l_96, l_97, l_99, l_120, l_122, l_127, l_200, l_240, l_255, l_840, l_999, l_1000, l_1001, l_2400, l_3064, l_9999, l_10000, l_13849, l_16383, l_25173, l_65535, l_65536, l_99999, l_1000000000, neg_nI, pk_mul, nI_add, nI_subL, tn_nI, inb_t, grd_true, bnd_some, elS_l, elS_r, nI_ltI, nI_leI, nI_inj, fa_and, fa_or, m1_eq, eq_m1, m1_lt, m1_le, lt_m1, le_m1, m1_lt0, up2_at, up2_no, ite_true, ite_false, if_true, if_false, Bool.false_eq_true, reduceIte, reduceCtorEq, not_true_eq_false, not_false_eq_true, eq_self, decide_true, decide_false, le_tt, le_ff, lt_tt, lt_ff, eq_ff, and_true, true_and, and_false, false_and, or_true, true_or, or_false, false_or, ne_eq, decide_eq_true_eq, decide_eq_false_iff_not, Bool.not_true, Bool.not_false, Bool.and_true, Bool.true_and, Bool.and_false, Bool.false_and, gs_at, gs_no, oI_n, oI_s, c1, Option.isSome_some, k2, k3, k4, s1, d1]
      · obtain ⟨M2, c1, c2, c3⟩ := Fm_finds_e (n := n) (rate := r) (rule := u) hW.1 hW.2.1 hW.2.2.2.1 (M := M) ⟨hF.FR hW.1, hY⟩ (by omega) hu r1 r2
        have e : fdG g (wlO (waysG g a b)) (wkO (waysG g a b)) r u (waysG g a b).length = some p := hf
        rw [e] at c1 c2
        have hY2 : WY M2 (waysG g a b).length (wlO (waysG g a b)) (wkO (waysG g a b)) := hY.fr c3 (fun j => by unfold fp_Fm_finds; omega) (by unfold fp_Fm_finds; omega)
        obtain ⟨M3, d1, d2, d3⟩ := lay_m (n := n) hW ha hab r1 r2 (by omega) hf (hF.fr c3 (fun j => by unfold fp_Fm_finds; omega)) c2.1 c2.2.1 c2.2.2.1 ((hY2.2.2 p.1 (fdG_ok e).1).2.1) (by omega)
        obtain ⟨M4, g', f1, f2, f3⟩ := t2 (m - 1) M3 h (by omega) d2 (by rw [hwy]; exact hY2.keep d3)
        refine ⟨M4, g', ?_, f2, ((c3.mono (fun c j q => by unfold fp_Fm_finds at q; unfold PM; omega)).tr (d3.mono (fun c j q => .inl q))).tr f3⟩
        rw [← f1]
        refine loop_inl ?_ (by omega)
        show Fm_more_b29 n (nI a) (nI b) (nI r) (nI u) (nI i) M = _
        unfold Fm_more_b29
        simp (disch := omega) only [l_0, l_1, l_2, l_3, l_4, l_5, l_6, l_7, l_8, l_9, l_10, l_11, l_12, l_13, l_14, l_16, l_20, l_21, l_23, l_24, l_30, l_32, l_40, l_41, l_44, l_48, l_57, l_59, l_60, l_63, l_64, l_80, l_84, l_96, l_97, l_99, l_120, l_122, l_127, l_200, l_240, l_255, l_840, l_999, l_1000, l_1001, l_2400, l_3064, l_9999, l_10000, l_13849, l_16383, l_25173, l_65535, l_65536, l_99999, l_1000000000, neg_nI, pk_mul, nI_add, nI_subL, tn_nI, inb_t, grd_true, bnd_some, elS_l, elS_r, nI_ltI, nI_leI, nI_inj, fa_and, fa_or, m1_eq, eq_m1, m1_lt, m1_le, lt_m1, le_m1, m1_lt0, up2_at, up2_no, ite_true, ite_false, if_true, if_false, Bool.false_eq_true, reduceIte, reduceCtorEq, not_true_eq_false, not_false_eq_true, eq_self, decide_true, decide_false, le_tt, le_ff, lt_tt, lt_ff, eq_ff, and_true, true_and, and_false, false_and, or_true, true_or, or_false, false_or, ne_eq, decide_eq_true_eq, decide_eq_false_iff_not, Bool.not_true, Bool.not_false, Bool.and_true, Bool.true_and, Bool.and_false, Bool.false_and, gs_at, gs_no, oI_n, oI_s, c1, Option.isSome_some, d1]
theorem op_more {n : Nat} (hn : 1099511627776 < n) (x y z v : Int32) : T2 (Fg_more n x y z v) (Fm_more n x y z v) := by
  refine T2.id (fun g hg => ?_)
  have hG := hg.1.1
  have h40 := hg.2.2
  have b1 := hg.1.2.1.1
  by_cases hx : (plB (g 0) x y && rg z 1 64 && inb v 4) = true
  · have hx' := hx
    rw [Bool.and_eq_true, Bool.and_eq_true] at hx
    obtain ⟨a, b, ha, hb, hab, rfl, rfl⟩ := (pl_iff (by omega)).mp hx.1.1
    obtain ⟨r, r1, r2, rfl⟩ := (rg_iff (by decide)).mp hx.1.2
    obtain ⟨u, hu, rfl⟩ := (inb_iff (by decide)).mp hx.2
    have hwl := ways_len (g := g) (a := a) (b := b)
    have hmu := mu_le (W := waysG g a b) (g := g) (by omega) (waysG g a b).length
    obtain ⟨q, t1, t2⟩ := more_k (n := n) (a := a) (b := b) (r := r) (u := u) hn hab r1 r2 hu 240 0 g hg.1 ha hb (by omega) (by omega) (by omega)
    refine ⟨nI q, fun M hS hA => ?_, fun M h hF => ?_⟩
    · obtain ⟨M1, a1, a2, a3, a4⟩ := St_copy_e (s := 54) (o := 18) (by omega) b1.2.2.2.2.2.1 h40 hS
      obtain ⟨M2, f1, f2⟩ := t1 n M1 (by omega) a2.1 a2.2.2.2 (hA.fr a4 (fun j => by unfold fp_St_copy; omega))
      have hrun : Fg_more n (nI a) (nI b) (nI r) (nI u) M = some (nI q, M2) := by
        unfold Fg_more
        rw [Fg_isWish_e (hS.1.1.1 0 (by omega)) (by omega), hx.1.1, hx.1.2, Fg_isRule_e, hx.2]
        simp (disch := omega) only [l_0, l_1, l_2, l_3, l_4, l_5, l_6, l_7, l_8, l_9, l_10, l_11, l_12, l_13, l_14, l_16, l_20, l_21, l_23, l_24, l_30, l_32, l_40, l_41, l_44, l_48, l_57, l_59, l_60, l_63, l_64, l_80, l_84, l_96, l_97, l_99, l_120, l_122, l_127, l_200, l_240, l_255, l_840, l_999, l_1000, l_1001, l_2400, l_3064, l_9999, l_10000, l_13849, l_16383, l_25173, l_65535, l_65536, l_99999, l_1000000000, neg_nI, pk_mul, nI_add, nI_subL, tn_nI, inb_t, grd_true, bnd_some, elS_l, elS_r, nI_ltI, nI_leI, nI_inj, fa_and, fa_or, m1_eq, eq_m1, m1_lt, m1_le, lt_m1, le_m1, m1_lt0, up2_at, up2_no, ite_true, ite_false, if_true, if_false, Bool.false_eq_true, reduceIte, reduceCtorEq, not_true_eq_false, not_false_eq_true, eq_self, decide_true, decide_false, le_tt, le_ff, lt_tt, lt_ff, eq_ff, and_true, true_and, and_false, false_and, or_true, true_or, or_false, false_or, ne_eq, decide_eq_true_eq, decide_eq_false_iff_not, Bool.not_true, Bool.not_false, Bool.and_true, Bool.true_and, Bool.and_false, Bool.false_and, gs_at, gs_no, oI_n, oI_s, a1, f1]
      have hfr := fr_Fg_more hrun
      exact ⟨M2, hrun, hS.fr hfr (fun k j hk => by unfold fp_Fg_more; omega), f2, hfr.mono (fun c j q => by unfold fp_Fg_more at q; unfold PC; omega)⟩
    · obtain ⟨M1, h', a1, a2, a3, a4, a5⟩ := hF.out (b := 2) (n := n) (by omega) (by omega) (by omega)
      obtain ⟨M2, p1, p2, p3, p4, p5⟩ := pair_m hg a2 hn ha hb hab
      obtain ⟨M3, g', f1, f2, f3⟩ := t2 n M2 h' (by omega) p2 p3
      obtain ⟨M4, e1, e2, e3⟩ := f2.back (b := 2) (n := n) (g' := g) (by omega) (by omega) a3 (by omega)
      refine ⟨M4, h', ?_, e2, fun j hj => a4 _ (by omega) (by omega), (((a5.mono (fun c j q => .inl q)).tr p5).tr f3).tr (e3.mono (fun c j q => .inl q))⟩
      unfold Fm_more
      rw [Fm_isAsked_e (hF.lo (by omega)) (by omega), hx']
      simp (disch := omega) only [l_0, l_1, l_2, l_3, l_4, l_5, l_6, l_7, l_8, l_9, l_10, l_11, l_12, l_13, l_14, l_16, l_20, l_21, l_23, l_24, l_30, l_32, l_40, l_41, l_44, l_48, l_57, l_59, l_60, l_63, l_64, l_80, l_84, l_96, l_97, l_99, l_120, l_122, l_127, l_200, l_240, l_255, l_840, l_999, l_1000, l_1001, l_2400, l_3064, l_9999, l_10000, l_13849, l_16383, l_25173, l_65535, l_65536, l_99999, l_1000000000, neg_nI, pk_mul, nI_add, nI_subL, tn_nI, inb_t, grd_true, bnd_some, elS_l, elS_r, nI_ltI, nI_leI, nI_inj, fa_and, fa_or, m1_eq, eq_m1, m1_lt, m1_le, lt_m1, le_m1, m1_lt0, up2_at, up2_no, ite_true, ite_false, if_true, if_false, Bool.false_eq_true, reduceIte, reduceCtorEq, not_true_eq_false, not_false_eq_true, eq_self, decide_true, decide_false, le_tt, le_ff, lt_tt, lt_ff, eq_ff, and_true, true_and, and_false, false_and, or_true, true_or, or_false, false_or, ne_eq, decide_eq_true_eq, decide_eq_false_iff_not, Bool.not_true, Bool.not_false, Bool.and_true, Bool.true_and, Bool.and_false, Bool.false_and, gs_at, gs_no, oI_n, oI_s, a1, p1, f1, e1]
  · have hx' := ts_nt hx
    refine ⟨ng 1, fun M hS hA => TC.id hS hA ?_, fun M h hF => TM.id hF ?_⟩
    · unfold Fg_more
      rw [Fg_isWish_e (hS.1.1.1 0 (by omega)) (by omega), bnd_some]
      cases hw : (plB (g 0) x y && rg z 1 64) with
      | false => rfl
      | true =>
        rw [hw, Bool.true_and] at hx'
        rw [Fg_isRule_e, hx']
        rfl
    · unfold Fm_more
      rw [Fm_isAsked_e (hF.lo (by omega)) (by omega), hx']
      rfl
