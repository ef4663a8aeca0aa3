/-! repacking: all laid anew in thought -/
def laF (g : Nat → Nat) (u : Nat) : Nat → Option (Nat → Nat)
  | 0 => some (ofS g (fun _ => true) (g 7))
  | i + 1 => match laF g u i with
    | none => none
    | some gT => if g (64 + 10 * i + 3) = 0 then (match fdW gT (g (64 + 10 * i + 0)) (g (64 + 10 * i + 1)) (g (64 + 10 * i + 2)) u with
      | some p => some (litG gT i (wkO (waysG gT (g (64 + 10 * i + 0)) (g (64 + 10 * i + 1))) p.1) p.2.1 p.2.2.1)
      | none => if fitB gT (g (64 + 10 * i + 6)) (g (64 + 10 * i + 4)) (g (64 + 10 * i + 5)) none = true then some (litG gT i (g (64 + 10 * i + 6)) (g (64 + 10 * i + 4)) (g (64 + 10 * i + 5))) else none) else some gT
theorem la_s {g : Nat → Nat} {u i : Nat} : laF g u (i + 1) = match laF g u i with
    | none => none
    | some gT => if g (64 + 10 * i + 3) = 0 then (match fdW gT (g (64 + 10 * i + 0)) (g (64 + 10 * i + 1)) (g (64 + 10 * i + 2)) u with
      | some p => some (litG gT i (wkO (waysG gT (g (64 + 10 * i + 0)) (g (64 + 10 * i + 1))) p.1) p.2.1 p.2.2.1)
      | none => if fitB gT (g (64 + 10 * i + 6)) (g (64 + 10 * i + 4)) (g (64 + 10 * i + 5)) none = true then some (litG gT i (g (64 + 10 * i + 6)) (g (64 + 10 * i + 4)) (g (64 + 10 * i + 5))) else none) else some gT := rfl
/-- what holds of the targets so far -/
def LT (g gT : Nat → Nat) (i : Nat) : Prop := GW gT ∧ (∀ j, j < 64 → gT j = g j) ∧ (∀ d w, d < g 7 → w = 0 ∨ w = 1 ∨ w = 2 ∨ w = 7 → gT (64 + 10 * d + w) = g (64 + 10 * d + w)) ∧ (∀ d, d < g 7 → gT (64 + 10 * d + 3) = if d < i ∧ g (64 + 10 * d + 3) = 0 then 0 else 3) ∧ ∀ d w, d < g 7 → w = 4 ∨ w = 5 ∨ w = 6 → ¬ (d < i ∧ g (64 + 10 * d + 3) = 0) → gT (64 + 10 * d + w) = g (64 + 10 * d + w)
section
variable {g gT : Nat → Nat} {u i : Nat}
theorem LT_0 (hg : GV g) : LT g (ofS g (fun _ => true) (g 7)) 0 := by
  refine ⟨of_W hg.1 _, fun j hj => of_lo hj, fun d w hd hw => of_w (by omega) (by omega), fun d hd => ?_, fun d w hd hw _ => of_w (by omega) (by omega)⟩
  rw [of_3, if_pos ⟨hd, rfl⟩, if_neg (by omega)]
theorem LT_no (h : LT g gT i) (hl : g (64 + 10 * i + 3) ≠ 0) : LT g gT (i + 1) := by
  obtain ⟨h1, h2, h3, h4, h5⟩ := h
  refine ⟨h1, h2, h3, fun d hd => ?_, fun d w hd hw hn => h5 d w hd hw (fun q => hn ⟨by omega, q.2⟩)⟩
  rw [h4 d hd]
  by_cases c : d = i
  · subst c
    rw [if_neg (fun q => hl q.2), if_neg (fun q => hl q.2)]
  · by_cases q : d < i ∧ g (64 + 10 * d + 3) = 0
    · rw [if_pos q, if_pos ⟨by omega, q.2⟩]
    · rw [if_neg q, if_neg (fun w => q ⟨by omega, w.2⟩)]
theorem LT_lit (h : LT g gT i) (hi : i < g 7) (hl : g (64 + 10 * i + 3) = 0) {on f w : Nat} (h1 : 1 ≤ w) (h2 : 0 < on) (h3 : on < 2 ^ g 3) (hf : fitB gT on f w none = true) : LT g (litG gT i on f w) (i + 1) := by
  obtain ⟨g1, g2, g3, g4, g5⟩ := h
  have e7 : gT 7 = g 7 := g2 7 (by omega)
  refine ⟨GW_lit g1 (by rw [e7]; exact hi) h1 h2 (by rw [g2 3 (by omega)]; exact h3) (fit_none hf), fun j hj => (lit_lo hj).trans (g2 j hj), fun d x hd hx => ?_, fun d hd => ?_, fun d x hd hx hn => ?_⟩
  · by_cases c : d = i
    · subst c; rw [lit_k (by omega)]; exact g3 d x hd hx
    · rw [lit_ne c (by omega)]; exact g3 d x hd hx
  · by_cases c : d = i
    · subst c; rw [lit_3, if_pos ⟨by omega, hl⟩]
    · rw [lit_ne c (by omega), g4 d hd]
      by_cases q : d < i ∧ g (64 + 10 * d + 3) = 0
      · rw [if_pos q, if_pos ⟨by omega, q.2⟩]
      · rw [if_neg q, if_neg (fun y => q ⟨by omega, y.2⟩)]
  · have c : d ≠ i := fun q => hn ⟨by omega, by rw [q]; exact hl⟩
    rw [lit_ne c (by omega)]
    exact g5 d x hd hx (fun q => hn ⟨by omega, q.2⟩)
theorem LT_V (hg : GV g) (h : LT g gT i) : GV gT := by
  obtain ⟨g1, g2, g3, g4, g5⟩ := h
  have e7 : gT 7 = g 7 := g2 7 (by omega)
  refine ⟨g1, ⟨?_, fun d hd => ?_⟩, by rw [e7]; exact hg.2.2⟩
  · rw [g2 5 (by omega), g2 6 (by omega), g2 4 (by omega)]; exact hg.2.1.1
  · rw [e7] at hd
    obtain ⟨a1, a2, a3, a4, a5, a6, a7, a8⟩ := hg.2.1.2 d hd
    rw [g3 d 0 hd (by omega), g3 d 1 hd (by omega), g3 d 2 hd (by omega), g3 d 7 hd (by omega), g2 0 (by omega), g2 5 (by omega), g4 d hd]
    by_cases q : d < i ∧ g (64 + 10 * d + 3) = 0
    · rw [if_pos q]
      exact ⟨a1, a2, a3, a4, a5, by omega, a7, fun _ => a8 (.inl q.2)⟩
    · rw [if_neg q]
      exact ⟨a1, a2, a3, a4, a5, by omega, a7, fun y => by omega⟩
theorem la_LT (hg : GV g) : ∀ i, i ≤ g 7 → ∀ gT, laF g u i = some gT → LT g gT i
  | 0, _, gT, h => by cases h; exact LT_0 hg
  | i + 1, hi, gT, h => by
    rw [la_s] at h
    cases hp : laF g u i with
    | none => rw [hp] at h; cases h
    | some gP =>
      rw [hp] at h
      have ih := la_LT hg i (by omega) gP hp
      simp only at h
      by_cases hl : g (64 + 10 * i + 3) = 0
      · rw [if_pos hl] at h
        obtain ⟨a1, a2, a3, a4, a5, a6, a7, a8⟩ := hg.2.1.2 i (by omega)
        obtain ⟨y1, y2, y3, y4⟩ := hg.1.2.2.2.1 i (by omega) hl
        cases hf : fdW gP (g (64 + 10 * i + 0)) (g (64 + 10 * i + 1)) (g (64 + 10 * i + 2)) u with
        | some p =>
          rw [hf] at h
          cases h
          obtain ⟨p1, p2, p3, p4, p5⟩ := fdW_ok ih.1.2.1 (by rw [ih.2.1 0 (by omega)]; exact a1) a3 a4 a5 hf
          rw [ih.2.1 3 (by omega)] at p2
          exact LT_lit ih (by omega) hl p3.1 p2.1 p2.2 p5
        | none =>
          rw [hf] at h
          simp only at h
          by_cases q : fitB gP (g (64 + 10 * i + 6)) (g (64 + 10 * i + 4)) (g (64 + 10 * i + 5)) none = true
          · rw [if_pos q] at h
            cases h
            exact LT_lit ih (by omega) hl y1 y3 y4 q
          · rw [if_neg q] at h; cases h
      · rw [if_neg hl] at h
        cases h
        exact LT_no ih hl
theorem la_none {k : Nat} (h : laF g u i = none) : laF g u (i + k) = none := by
  induction k with
  | zero => exact h
  | succ k ih =>
    show laF g u (i + k + 1) = none
    rw [la_s, ih]
end
def mvB (g gT : Nat → Nat) (d : Nat) : Bool := decide (g (64 + 10 * d + 3) = 0 ∧ (gT (64 + 10 * d + 6) ≠ g (64 + 10 * d + 6) ∨ gT (64 + 10 * d + 4) ≠ g (64 + 10 * d + 4) ∨ gT (64 + 10 * d + 5) ≠ g (64 + 10 * d + 5)))
def clB (gn gT : Nat → Nat) (d b : Nat) : Bool := decide (b ≠ d) && agP gn (gT (64 + 10 * d + 6)) (gT (64 + 10 * d + 4)) (gT (64 + 10 * d + 5)) none b
/-- a row of bits in a long -/
def LB (x : Int64) (P : Nat → Bool) : Prop := ∃ W, x = lN W ∧ W < 2 ^ 40 ∧ ∀ b, W.testBit b = P b
theorem LB_or {x : Int64} {P : Nat → Bool} {d : Nat} (h : LB x P) (hd : d < 40) : LB (x ||| lshl (1 : Int64) (nI d)) (fun b => P b || decide (b = d)) := by
  obtain ⟨W, rfl, h2, h3⟩ := h
  refine ⟨W ||| 2 ^ d, by rw [one_shl (by omega), lor_e], Nat.or_lt_two_pow h2 (Nat.pow_lt_pow_right (by decide) hd), fun b => ?_⟩
  rw [Nat.testBit_or, h3, Nat.testBit_two_pow]
  congr 1
  exact decide_eq_decide.mpr eq_comm
theorem LB_del {x : Int64} {P : Nat → Bool} {d : Nat} (h : LB x P) (hd : d < 40) : LB (x &&& (lshl (1 : Int64) (nI d) ^^^ (-1 : Int64))) (fun b => P b && !decide (b = d)) := by
  obtain ⟨W, rfl, h2, h3⟩ := h
  refine ⟨dl W (2 ^ d), by rw [one_shl (by omega), landnot_e], dl_lt h2, fun b => ?_⟩
  rw [dl_tb, h3, Nat.testBit_two_pow]
  congr 2
  exact decide_eq_decide.mpr eq_comm
theorem LB_bit {x : Int64} {P : Nat → Bool} {d : Nat} (h : LB x P) (hd : d < 64) : (lushr x (nI d) &&& (1 : Int64) = (0 : Int64)) = (P d = false) := by
  obtain ⟨W, rfl, h2, h3⟩ := h
  rw [lb0 (Nat.lt_trans h2 (by decide)) hd, h3]
theorem LB_z {x : Int64} {P : Nat → Bool} (h : LB x P) : (x = (0 : Int64)) = ∀ b, P b = false := by
  obtain ⟨W, rfl, h2, h3⟩ := h
  rw [lz0 (Nat.lt_trans h2 (by decide))]
  refine propext ⟨fun q b => ?_, fun q => ?_⟩
  · rw [← h3, q, Nat.zero_testBit]
  · apply Nat.eq_of_testBit_eq
    intro i
    rw [Nat.zero_testBit, h3]
    exact q i
theorem LB_ct {x : Int64} {P : Nat → Bool} {M : Mm} {N : Nat} (h : LB x P) (hN : N ≤ 64) (hP : ∀ b, N ≤ b → P b = false) : Jl_bitCount x M = some (nI (fb_ct P N)) := by
  obtain ⟨W, rfl, h2, h3⟩ := h
  rw [Jl_bitCount_e (Nat.lt_trans h2 (by decide))]
  unfold pcN
  rw [fb_ct_cong (fun i _ => h3 i), ct_ext hN (fun i h1 _ => hP i h1)]
theorem LB_cong {x : Int64} {P Q : Nat → Bool} (h : LB x P) (hq : ∀ b, P b = Q b) : LB x Q := by
  obtain ⟨W, h1, h2, h3⟩ := h
  exact ⟨W, h1, h2, fun b => (h3 b).trans (hq b)⟩
/-! the class lays -/
theorem clrS_e {M : Mm} {n s : Nat} (hn : 100 < n) : ∃ M', St_clearSlots n s M = some M' ∧ M'.1 = M.1 ∧ (∀ l, l < 14 → M'.2 (s + 16) l = lN 0) ∧ Fr (fp_St_clearSlots s) M M' := by
  have h2 : ∃ q, loop (fun s1 : Int32 × Mm => St_clearSlots_b2 s s1.1 s1.2) n (nI 0, M) = some q ∧ (q.1 = M.1 ∧ ∀ l, l < 14 → q.2 (s + 16) l = lN 0) := by
    refine loop_I0 (fun i (st : Int32 × Mm) => st.1 = nI i ∧ st.2.1 = M.1 ∧ ∀ l, l < i → st.2.2 (s + 16) l = lN 0) _ 14 ⟨rfl, rfl, fun l hl => by omega⟩ (by omega) ?_ ?_
    · rintro i ⟨s1, M1⟩ hi ⟨e1, e2, e3⟩
      simp only at e1 e2 e3
      subst e1
      left
      refine ⟨(nI (i + 1), (M1.1, up2 M1.2 (s + 16) i (lN 0))), ?_, rfl, e2, fun l hl => ?_⟩
      · show St_clearSlots_b2 s (nI i) M1 = _
        unfold St_clearSlots_b2
        simp (disch := omega) only [l_0, l_1, l_2, l_3, l_4, l_5, l_6, l_7, l_8, l_9, l_10, l_11, l_12, l_13, l_14, l_16, l_20, l_21, l_23, l_24, l_30, l_32, l_40, l_41, l_44, l_48, l_57, l_59, l_60, l_63, l_64, l_80, l_84, l_96, l_97, l_99, l_120, l_122, l_127, l_200, l_240, l_255, l_840, l_999, l_1000, l_1001, l_2400, l_3064, l_9999, l_10000, l_13849, l_16383, l_25173, l_65535, l_65536, l_99999, l_1000000000, neg_nI, pk_mul, nI_add, nI_subL, tn_nI, inb_t, grd_true, bnd_some, elS_l, elS_r, nI_ltI, nI_leI, nI_inj, fa_and, fa_or, m1_eq, eq_m1, m1_lt, m1_le, lt_m1, le_m1, m1_lt0, up2_at, up2_no, ite_true, ite_false, if_true, if_false, Bool.false_eq_true, reduceIte, reduceCtorEq, not_true_eq_false, not_false_eq_true, eq_self, decide_true, decide_false, le_tt, le_ff, lt_tt, lt_ff, eq_ff, and_true, true_and, and_false, false_and, or_true, true_or, or_false, false_or, ne_eq, decide_eq_true_eq, decide_eq_false_iff_not, Bool.not_true, Bool.not_false, Bool.and_true, Bool.true_and, Bool.and_false, Bool.false_and, gs_at, gs_no, oI_n, oI_s, show (0 : Int64) = lN 0 from rfl]
      · show up2 M1.2 (s + 16) i (lN 0) (s + 16) l = _
        by_cases c : l = i
        · subst c; exact up2_at
        · rw [up2_no (by omega)]; exact e3 l (by omega)
    · rintro ⟨s1, M1⟩ ⟨e1, e2, e3⟩
      simp only at e1 e2 e3
      subst e1
      refine ⟨M1, ?_, e2, e3⟩
      show St_clearSlots_b2 s (nI 14) M1 = _
      unfold St_clearSlots_b2
      simp (disch := omega) only [l_0, l_1, l_2, l_3, l_4, l_5, l_6, l_7, l_8, l_9, l_10, l_11, l_12, l_13, l_14, l_16, l_20, l_21, l_23, l_24, l_30, l_32, l_40, l_41, l_44, l_48, l_57, l_59, l_60, l_63, l_64, l_80, l_84, l_96, l_97, l_99, l_120, l_122, l_127, l_200, l_240, l_255, l_840, l_999, l_1000, l_1001, l_2400, l_3064, l_9999, l_10000, l_13849, l_16383, l_25173, l_65535, l_65536, l_99999, l_1000000000, neg_nI, pk_mul, nI_add, nI_subL, tn_nI, inb_t, grd_true, bnd_some, elS_l, elS_r, nI_ltI, nI_leI, nI_inj, fa_and, fa_or, m1_eq, eq_m1, m1_lt, m1_le, lt_m1, le_m1, m1_lt0, up2_at, up2_no, ite_true, ite_false, if_true, if_false, Bool.false_eq_true, reduceIte, reduceCtorEq, not_true_eq_false, not_false_eq_true, eq_self, decide_true, decide_false, le_tt, le_ff, lt_tt, lt_ff, eq_ff, and_true, true_and, and_false, false_and, or_true, true_or, or_false, false_or, ne_eq, decide_eq_true_eq, decide_eq_false_iff_not, Bool.not_true, Bool.not_false, Bool.and_true, Bool.true_and, Bool.and_false, Bool.false_and, gs_at, gs_no, oI_n, oI_s]
  obtain ⟨q, q1, q2, q3⟩ := h2
  have hrun : St_clearSlots n s M = some q := by
    unfold St_clearSlots
    simp (disch := omega) only [l_0, l_1, l_2, l_3, l_4, l_5, l_6, l_7, l_8, l_9, l_10, l_11, l_12, l_13, l_14, l_16, l_20, l_21, l_23, l_24, l_30, l_32, l_40, l_41, l_44, l_48, l_57, l_59, l_60, l_63, l_64, l_80, l_84, l_96, l_97, l_99, l_120, l_122, l_127, l_200, l_240, l_255, l_840, l_999, l_1000, l_1001, l_2400, l_3064, l_9999, l_10000, l_13849, l_16383, l_25173, l_65535, l_65536, l_99999, l_1000000000, neg_nI, pk_mul, nI_add, nI_subL, tn_nI, inb_t, grd_true, bnd_some, elS_l, elS_r, nI_ltI, nI_leI, nI_inj, fa_and, fa_or, m1_eq, eq_m1, m1_lt, m1_le, lt_m1, le_m1, m1_lt0, up2_at, up2_no, ite_true, ite_false, if_true, if_false, Bool.false_eq_true, reduceIte, reduceCtorEq, not_true_eq_false, not_false_eq_true, eq_self, decide_true, decide_false, le_tt, le_ff, lt_tt, lt_ff, eq_ff, and_true, true_and, and_false, false_and, or_true, true_or, or_false, false_or, ne_eq, decide_eq_true_eq, decide_eq_false_iff_not, Bool.not_true, Bool.not_false, Bool.and_true, Bool.true_and, Bool.and_false, Bool.false_and, gs_at, gs_no, oI_n, oI_s, q1]
  exact ⟨q, hrun, q2, q3, fr_St_clearSlots hrun⟩
/-- targets laid aside, all off -/
theorem lay_0 {M : Mm} {g : Nat → Nat} {n : Nat} (hg : GV g) (hS : SV M 18 g) (hA : CA M g) (hn : 100 < n) : ∃ M1 M2 M3 M4 : Mm, St_copy 54 18 M = some M1 ∧ St_copy 73 18 M1 = some M2 ∧ St_clearSlots n 73 M2 = some M3 ∧ loop (fun s1 : Int32 × Mm => Rp_lay_b25 s1.1 s1.2) n (nI 0, M3) = some M4 ∧ SV M4 54 g ∧ SV M4 73 (ofS g (fun _ => true) (g 7)) ∧ SV M4 18 g ∧ CA M4 g := by
  have b1 := hg.1.2.1.1
  have h40 := hg.2.2
  obtain ⟨M1, a1, a2, a3, a4⟩ := St_copy_e (s := 54) (o := 18) (by omega) b1.2.2.2.2.2.1 h40 hS
  obtain ⟨M2, c1, c2, c3, c4⟩ := St_copy_e (s := 73) (o := 18) (by omega) b1.2.2.2.2.2.1 h40 a3
  obtain ⟨M3, d1, d2, d3, d4⟩ := clrS_e (M := M2) (s := 73) (n := n) hn
  have h54 : SV M3 54 g := (a2.fr c4 (fun k j hk => by unfold fp_St_copy; omega)).fr d4 (fun k j hk => by unfold fp_St_clearSlots; omega)
  have hlp : ∃ r, loop (fun s1 : Int32 × Mm => Rp_lay_b25 s1.1 s1.2) n (nI 0, M3) = some r ∧ ((∀ d, d < g 7 → r.1 83 d = nI 3) ∧ Fr (fun c _ => c = 83) M3 r) := by
    refine loop_I0 (fun i (st : Int32 × Mm) => st.1 = nI i ∧ (∀ d, d < i → st.2.1 83 d = nI 3) ∧ Fr (fun c _ => c = 83) M3 st.2) _ (g 7) ⟨rfl, fun d hd => by omega, Fr.rf⟩ (by omega) ?_ ?_
    · rintro i ⟨s1, N1⟩ hi ⟨e1, e2, e3⟩
      simp only at e1 e2 e3
      subst e1
      left
      have h4 : N1.1 54 4 = nI (g 7) := by rw [(e3 54 4 (by omega)).1]; exact h54.2.1
      refine ⟨(nI (i + 1), (up2 N1.1 83 i (nI 3), N1.2)), ?_, rfl, fun d hd => ?_, Fr.I e3 rfl⟩
      · show Rp_lay_b25 (nI i) N1 = _
        unfold Rp_lay_b25
        simp (disch := omega) only [l_0, l_1, l_2, l_3, l_4, l_5, l_6, l_7, l_8, l_9, l_10, l_11, l_12, l_13, l_14, l_16, l_20, l_21, l_23, l_24, l_30, l_32, l_40, l_41, l_44, l_48, l_57, l_59, l_60, l_63, l_64, l_80, l_84, l_96, l_97, l_99, l_120, l_122, l_127, l_200, l_240, l_255, l_840, l_999, l_1000, l_1001, l_2400, l_3064, l_9999, l_10000, l_13849, l_16383, l_25173, l_65535, l_65536, l_99999, l_1000000000, neg_nI, pk_mul, nI_add, nI_subL, tn_nI, inb_t, grd_true, bnd_some, elS_l, elS_r, nI_ltI, nI_leI, nI_inj, fa_and, fa_or, m1_eq, eq_m1, m1_lt, m1_le, lt_m1, le_m1, m1_lt0, up2_at, up2_no, ite_true, ite_false, if_true, if_false, Bool.false_eq_true, reduceIte, reduceCtorEq, not_true_eq_false, not_false_eq_true, eq_self, decide_true, decide_false, le_tt, le_ff, lt_tt, lt_ff, eq_ff, and_true, true_and, and_false, false_and, or_true, true_or, or_false, false_or, ne_eq, decide_eq_true_eq, decide_eq_false_iff_not, Bool.not_true, Bool.not_false, Bool.and_true, Bool.true_and, Bool.and_false, Bool.false_and, gs_at, gs_no, oI_n, oI_s, h4]
      · show up2 N1.1 83 i (nI 3) 83 d = _
        by_cases c : d = i
        · subst c; exact up2_at
        · rw [up2_no (by omega)]; exact e2 d (by omega)
    · rintro ⟨s1, N1⟩ ⟨e1, e2, e3⟩
      simp only at e1 e2 e3
      subst e1
      have h4 : N1.1 54 4 = nI (g 7) := by rw [(e3 54 4 (by omega)).1]; exact h54.2.1
      refine ⟨N1, ?_, e2, e3⟩
      show Rp_lay_b25 (nI (g 7)) N1 = _
      unfold Rp_lay_b25
      simp (disch := omega) only [l_0, l_1, l_2, l_3, l_4, l_5, l_6, l_7, l_8, l_9, l_10, l_11, l_12, l_13, l_14, l_16, l_20, l_21, l_23, l_24, l_30, l_32, l_40, l_41, l_44, l_48, l_57, l_59, l_60, l_63, l_64, l_80, l_84, l_96, l_97, l_99, l_120, l_122, l_127, l_200, l_240, l_255, l_840, l_999, l_1000, l_1001, l_2400, l_3064, l_9999, l_10000, l_13849, l_16383, l_25173, l_65535, l_65536, l_99999, l_1000000000, neg_nI, pk_mul, nI_add, nI_subL, tn_nI, inb_t, grd_true, bnd_some, elS_l, elS_r, nI_ltI, nI_leI, nI_inj, fa_and, fa_or, m1_eq, eq_m1, m1_lt, m1_le, lt_m1, le_m1, m1_lt0, up2_at, up2_no, ite_true, ite_false, if_true, if_false, Bool.false_eq_true, reduceIte, reduceCtorEq, not_true_eq_false, not_false_eq_true, eq_self, decide_true, decide_false, le_tt, le_ff, lt_tt, lt_ff, eq_ff, and_true, true_and, and_false, false_and, or_true, true_or, or_false, false_or, ne_eq, decide_eq_true_eq, decide_eq_false_iff_not, Bool.not_true, Bool.not_false, Bool.and_true, Bool.true_and, Bool.and_false, Bool.false_and, gs_at, gs_no, oI_n, oI_s, h4]
  obtain ⟨M4, l1, l2, l3⟩ := hlp
  have f24 : Fr (fun c j => c = 89 ∨ c = 83) M2 M4 := (d4.mono (fun c j q => by unfold fp_St_clearSlots at q; omega)).tr (l3.mono (fun c j q => by omega))
  have hr := LT_0 hg
  refine ⟨M1, M2, M3, M4, a1, c1, d1, l1, h54.fr l3 (fun k j hk => by omega), ⟨(c2.1.fr f24 (fun k j hk q => by omega) (fun j hj q => by omega)).cong (by omega) (fun k hk => of_lo hk), ?_, fun d hd => ?_, fun l hl i => ?_⟩, (c3.fr f24 (fun k j hk => by omega)), ?_⟩
  · rw [of_lo (by omega), (f24 73 4 (by omega)).1]; exact c2.2.1
  · rw [of_lo (by omega)] at hd
    obtain ⟨x1, x2, x3, x4, x5, x6⟩ := c2.2.2.1 d hd
    rw [show CD1 M4 73 (ofS g (fun _ => true) (g 7)) d ↔ _ from Iff.rfl]
    refine ⟨?_, ?_, ?_, ?_, ?_, fun q => ?_⟩
    · rw [of_w (by omega) (by omega), (f24 80 d (by omega)).1]; exact x1
    · rw [of_w (by omega) (by omega), (f24 81 d (by omega)).1]; exact x2
    · rw [of_w (by omega) (by omega), (f24 82 d (by omega)).1]; exact x3
    · rw [of_3, if_pos ⟨hd, rfl⟩]; exact l2 d hd
    · rw [of_w (by omega) (by omega), (f24 84 d (by omega)).1]; exact x5
    · rw [of_3, if_pos ⟨hd, rfl⟩] at q; omega
  · rw [of_lo (by omega)] at hl
    have hz : usN M4 73 l = 0 := usN_at (by rw [(l3 (73 + 16) l (by omega)).2]; exact d3 l (by omega)) (by decide)
    rw [hz, Nat.zero_testBit]
    constructor
    · intro q; cases q
    · rintro ⟨d, h1, h2, h3, _⟩
      rw [of_lo (by omega)] at h1
      rw [of_3, if_pos ⟨h1, rfl⟩] at h3
      omega
  · exact ((hA.fr a4 (fun j => by unfold fp_St_copy; omega)).fr c4 (fun j => by unfold fp_St_copy; omega)).fr f24 (fun j => by omega)
