/-! lowest and highest of bits; widths; rows of free slots -/
theorem Fg_lowest_t {F : Nat} {M : Mm} (h0 : F ≠ 0) (h : F < 2 ^ 64) : ∃ k, Fg_lowest (lN F) M = some (nI k) ∧ F.testBit k = true ∧ (∀ i, i < k → F.testBit i = false) ∧ k < 64 := by
  obtain ⟨k, j, e⟩ := odd_of F (by omega)
  have hk : F.testBit k = true := by
    rw [e, Nat.testBit_two_pow_mul, decide_eq_true (Nat.le_refl k), Nat.sub_self, Bool.true_and]
    simp
  refine ⟨k, by rw [e]; exact Fg_lowest_e (by rw [← e]; exact h), hk, fun i hi => ?_, tb_lt h hk⟩
  rw [e, Nat.testBit_two_pow_mul, decide_eq_false (by omega), Bool.false_and]
def smr (F : Nat) : Nat → Nat
  | 0 => F
  | i + 1 => smr F i ||| smr F i / 2 ^ 2 ^ i
theorem smr_tb (F j : Nat) : ∀ i, (smr F i).testBit j = true ↔ ∃ t, t < 2 ^ i ∧ F.testBit (j + t) = true
  | 0 => by
    unfold smr
    constructor
    · intro h; exact ⟨0, by decide, h⟩
    · rintro ⟨t, h1, h2⟩
      have : t = 0 := by have : (2 : Nat) ^ 0 = 1 := rfl; omega
      rw [this] at h2; exact h2
  | i + 1 => by
    unfold smr
    rw [Nat.testBit_or, Bool.or_eq_true, smr_tb F j i, Nat.testBit_div_two_pow, smr_tb F _ i, Nat.pow_succ]
    constructor
    · rintro (⟨t, h1, h2⟩ | ⟨t, h1, h2⟩)
      · exact ⟨t, by omega, h2⟩
      · exact ⟨2 ^ i + t, by omega, by rw [show j + (2 ^ i + t) = j + 2 ^ i + t by omega]; exact h2⟩
    · rintro ⟨t, h1, h2⟩
      by_cases q : t < 2 ^ i
      · exact .inl ⟨t, q, h2⟩
      · exact .inr ⟨t - 2 ^ i, by omega, by rw [show j + 2 ^ i + (t - 2 ^ i) = j + t by omega]; exact h2⟩
theorem smr_lt {F : Nat} (h : F < 2 ^ 64) : ∀ i, smr F i < 2 ^ 64
  | 0 => h
  | i + 1 => Nat.or_lt_two_pow (smr_lt h i) (Nat.lt_of_le_of_lt (Nat.div_le_self _ _) (smr_lt h i))
theorem highest_lp {F n : Nat} (h : F < 2 ^ 64) (hn : 100 < n) : loop (fun s1 : Int64 × Int32 => Fg_highest_b5 s1.1 s1.2) n (lN F, nI 1) = some (lN (smr F 6)) := by
  have h64 : ∀ i, i < 6 → 2 ^ i < 64 := by decide
  have hl := loop_zero (body := fun s1 : Int64 × Int32 => Fg_highest_b5 s1.1 s1.2) (fun i => (lN (smr F i), nI (2 ^ i))) 6 (lN (smr F 6)) (fun i hi => by
    have h1 := h64 i hi
    have h2 := smr_lt h i
    show Fg_highest_b5 _ _ = _
    unfold Fg_highest_b5
    simp (disch := omega) only [l_0, l_1, l_2, l_3, l_4, l_5, l_6, l_7, l_8, l_9, l_10, l_11, l_12, l_13, l_14, l_16, l_20, l_21, l_23, l_24, l_30, l_32, l_40, l_41, l_44, l_48, l_57, l_59, l_60, l_63, l_64, l_80, l_84, l_96, l_97, l_99, l_120, l_122, l_127, l_200, l_240, l_255, l_840, l_999, l_1000, l_1001, l_2400, l_3064, l_9999, l_10000, l_13849, l_16383, l_25173, l_65535, l_65536, l_99999, l_1000000000, neg_nI, pk_mul, nI_add, nI_subL, tn_nI, inb_t, grd_true, bnd_some, elS_l, elS_r, nI_ltI, nI_leI, nI_inj, fa_and, fa_or, m1_eq, eq_m1, m1_lt, m1_le, lt_m1, le_m1, m1_lt0, up2_at, up2_no, ite_true, ite_false, if_true, if_false, Bool.false_eq_true, reduceIte, reduceCtorEq, not_true_eq_false, not_false_eq_true, eq_self, decide_true, decide_false, le_tt, le_ff, lt_tt, lt_ff, eq_ff, and_true, true_and, and_false, false_and, or_true, true_or, or_false, false_or, ne_eq, decide_eq_true_eq, decide_eq_false_iff_not, Bool.not_true, Bool.not_false, Bool.and_true, Bool.true_and, Bool.and_false, Bool.false_and, gs_at, gs_no, oI_n, oI_s, lushr_e, lor_e]
    rw [← Nat.pow_succ]
    rfl) (by
    show Fg_highest_b5 (lN (smr F 6)) (nI 64) = _
    unfold Fg_highest_b5
    simp (disch := omega) only [l_0, l_1, l_2, l_3, l_4, l_5, l_6, l_7, l_8, l_9, l_10, l_11, l_12, l_13, l_14, l_16, l_20, l_21, l_23, l_24, l_30, l_32, l_40, l_41, l_44, l_48, l_57, l_59, l_60, l_63, l_64, l_80, l_84, l_96, l_97, l_99, l_120, l_122, l_127, l_200, l_240, l_255, l_840, l_999, l_1000, l_1001, l_2400, l_3064, l_9999, l_10000, l_13849, l_16383, l_25173, l_65535, l_65536, l_99999, l_1000000000, neg_nI, pk_mul, nI_add, nI_subL, tn_nI, inb_t, grd_true, bnd_some, elS_l, elS_r, nI_ltI, nI_leI, nI_inj, fa_and, fa_or, m1_eq, eq_m1, m1_lt, m1_le, lt_m1, le_m1, m1_lt0, up2_at, up2_no, ite_true, ite_false, if_true, if_false, Bool.false_eq_true, reduceIte, reduceCtorEq, not_true_eq_false, not_false_eq_true, eq_self, decide_true, decide_false, le_tt, le_ff, lt_tt, lt_ff, eq_ff, and_true, true_and, and_false, false_and, or_true, true_or, or_false, false_or, ne_eq, decide_eq_true_eq, decide_eq_false_iff_not, Bool.not_true, Bool.not_false, Bool.and_true, Bool.true_and, Bool.and_false, Bool.false_and, gs_at, gs_no, oI_n, oI_s]) (n := n) (by omega)
  exact hl
theorem Fg_highest_t {F n : Nat} {M : Mm} (h0 : F ≠ 0) (h : F < 2 ^ 64) (hn : 100 < n) : ∃ k, Fg_highest n (lN F) M = some (nI k) ∧ F.testBit k = true ∧ (∀ i, k < i → F.testBit i = false) ∧ k < 64 := by
  obtain ⟨j, hj⟩ := Nat.exists_testBit_of_ne_zero h0
  obtain ⟨k, hk1, hk2, hk3⟩ := fb_last (p := fun i => F.testBit i = true) (n := 64) ⟨j, tb_lt h hj, hj⟩
  have hup : ∀ i, k < i → F.testBit i = false := fun i hi => by
    rcases Nat.lt_or_ge i 64 with q | q
    · have := hk3 i hi q
      simpa using this
    · exact Nat.testBit_lt_two_pow (Nat.lt_of_lt_of_le h (Nat.pow_le_pow_right (by decide) q))
  have e : smr F 6 = 2 ^ (k + 1) - 1 := by
    apply Nat.eq_of_testBit_eq
    intro i
    rw [Nat.testBit_two_pow_sub_one, Bool.eq_iff_iff, smr_tb, decide_eq_true_eq]
    constructor
    · rintro ⟨t, h1, h2⟩
      rcases Nat.lt_or_ge k (i + t) with q | q
      · rw [hup _ q] at h2; cases h2
      · omega
    · intro hi
      exact ⟨k - i, by show k - i < 64; omega, by rw [show i + (k - i) = k by omega]; exact hk2⟩
  refine ⟨k, ?_, hk2, hup, hk1⟩
  have hp := pc_ones (k + 1) (by omega)
  unfold Fg_highest
  rw [l_1, highest_lp h hn, bnd_some, e, Jl_bitCount_e (by rw [← e]; exact smr_lt h 6), hp, bnd_some, nI_subL (by omega), Nat.add_sub_cancel]
theorem Fg_highest_z {n : Nat} {M : Mm} (hn : 100 < n) : Fg_highest n (lN 0) M = some (ng 1) := by
  have e : smr 0 6 = 0 := by decide
  have hp : pcN 0 = 0 := by decide
  unfold Fg_highest
  rw [l_1, highest_lp (by decide) hn, bnd_some, e, Jl_bitCount_e (by decide), hp, bnd_some, z0m1]
section
variable {M : Mm} {g : Nat → Nat} {n l : Nat}
def wI (x : Option Nat) : Int32 := match x with | some k => nI k | none => nI 0
theorem Nt_formatOf_e {a : Nat} (hG : GB g) (hC : CN M a g) {len : Nat} (hl : len < 1048576) (hn : 100 < n) : Nt_formatOf n a (nI len) M = some (oI (fmS g len)) := by
  have step : ∀ (k m : Nat), k ≤ 4 → k < m → loop (fun s1 : Int32 => Nt_formatOf_b2 a (nI len) M s1) m (if k = 0 then ng 1 else nI (k - 1)) = some (match fmA g len k with | some f => .inr (nI f) | none => .inl ()) := by
    intro k
    induction k with
    | zero =>
      intro m _ hm
      refine loop_inr ?_ hm
      show Nt_formatOf_b2 a (nI len) M (ng 1) = _
      unfold Nt_formatOf_b2
      rw [if_pos (by decide)]
      rfl
    | succ k ih =>
      intro m hk hm
      have c := hC.2.1 k (by omega)
      have hgk := hG.1 (8 + k)
      rw [if_neg (by omega), Nat.add_sub_cancel]
      by_cases q : len ≤ g (8 + k)
      · have hb : (fun s1 : Int32 => Nt_formatOf_b2 a (nI len) M s1) (nI k) = some (.inr (.inr (nI k))) := by
          show Nt_formatOf_b2 a (nI len) M (nI k) = _
          unfold Nt_formatOf_b2
          simp (disch := omega) only [l_0, l_1, l_2, l_3, l_4, l_5, l_6, l_7, l_8, l_9, l_10, l_11, l_12, l_13, l_14, l_16, l_20, l_21, l_23, l_24, l_30, l_32, l_40, l_41, l_44, l_48, l_57, l_59, l_60, l_63, l_64, l_80, l_84, l_96, l_97, l_99, l_120, l_122, l_127, l_200, l_240, l_255, l_840, l_999, l_1000, l_1001, l_2400, l_3064, l_9999, l_10000, l_13849, l_16383, l_25173, l_65535, l_65536, l_99999, l_1000000000, neg_nI, pk_mul, nI_add, nI_subL, tn_nI, inb_t, grd_true, bnd_some, elS_l, elS_r, nI_ltI, nI_leI, nI_inj, fa_and, fa_or, m1_eq, eq_m1, m1_lt, m1_le, lt_m1, le_m1, m1_lt0, up2_at, up2_no, ite_true, ite_false, if_true, if_false, Bool.false_eq_true, reduceIte, reduceCtorEq, not_true_eq_false, not_false_eq_true, eq_self, decide_true, decide_false, le_tt, le_ff, lt_tt, lt_ff, eq_ff, and_true, true_and, and_false, false_and, or_true, true_or, or_false, false_or, ne_eq, decide_eq_true_eq, decide_eq_false_iff_not, Bool.not_true, Bool.not_false, Bool.and_true, Bool.true_and, Bool.and_false, Bool.false_and, gs_at, gs_no, oI_n, oI_s, c]
        rw [loop_inr hb (by omega)]
        unfold fmA
        rw [if_pos q]
      · have hb : (fun s1 : Int32 => Nt_formatOf_b2 a (nI len) M s1) (nI k) = some (.inl (if k = 0 then ng 1 else nI (k - 1))) := by
          have e3 : nI k + (-1 : Int32) = if k = 0 then ng 1 else nI (k - 1) := by
            by_cases z : k = 0
            · subst z; rfl
            · rw [if_neg z]
              exact nI_addm (show 1 ≤ k by omega)
          show Nt_formatOf_b2 a (nI len) M (nI k) = _
          unfold Nt_formatOf_b2
          rw [e3]
          generalize (if k = 0 then ng 1 else nI (k - 1)) = z
          simp (disch := omega) only [l_0, l_1, l_2, l_3, l_4, l_5, l_6, l_7, l_8, l_9, l_10, l_11, l_12, l_13, l_14, l_16, l_20, l_21, l_23, l_24, l_30, l_32, l_40, l_41, l_44, l_48, l_57, l_59, l_60, l_63, l_64, l_80, l_84, l_96, l_97, l_99, l_120, l_122, l_127, l_200, l_240, l_255, l_840, l_999, l_1000, l_1001, l_2400, l_3064, l_9999, l_10000, l_13849, l_16383, l_25173, l_65535, l_65536, l_99999, l_1000000000, neg_nI, pk_mul, nI_add, nI_subL, tn_nI, inb_t, grd_true, bnd_some, elS_l, elS_r, nI_ltI, nI_leI, nI_inj, fa_and, fa_or, m1_eq, eq_m1, m1_lt, m1_le, lt_m1, le_m1, m1_lt0, up2_at, up2_no, ite_true, ite_false, if_true, if_false, Bool.false_eq_true, reduceIte, reduceCtorEq, not_true_eq_false, not_false_eq_true, eq_self, decide_true, decide_false, le_tt, le_ff, lt_tt, lt_ff, eq_ff, and_true, true_and, and_false, false_and, or_true, true_or, or_false, false_or, ne_eq, decide_eq_true_eq, decide_eq_false_iff_not, Bool.not_true, Bool.not_false, Bool.and_true, Bool.true_and, Bool.and_false, Bool.false_and, gs_at, gs_no, oI_n, oI_s, c]
        rw [loop_inl hb (by omega), ih (m - 1) (by omega) (by omega)]
        unfold fmA
        rw [if_neg q]
        cases k <;> rfl
  have h := step 4 n (by omega) (by omega)
  have h' : loop (fun s1 : Int32 => Nt_formatOf_b2 a (nI len) M s1) n (nI 3) = some (match fmS g len with | some f => .inr (nI f) | none => .inl ()) := h
  unfold Nt_formatOf
  rw [l_3, h', bnd_some]
  cases fmS g len <;> rfl
theorem Nt_widthOf_e {a : Nat} (hG : GB g) (hC : CN M a g) {len rate : Nat} (hl : len < 1048576) (hr : rate < 1048576) (hn : 100 < n) : Nt_widthOf n a (nI rate) (nI len) M = some (wI (wdS g rate len)) := by
  unfold Nt_widthOf wdS
  rw [Nt_formatOf_e hG hC hl hn, bnd_some]
  cases hf : fmS g len with
  | none => rfl
  | some f =>
    have := fmA_lt hf
    simp (disch := omega) only [l_0, l_1, l_2, l_3, l_4, l_5, l_6, l_7, l_8, l_9, l_10, l_11, l_12, l_13, l_14, l_16, l_20, l_21, l_23, l_24, l_30, l_32, l_40, l_41, l_44, l_48, l_57, l_59, l_60, l_63, l_64, l_80, l_84, l_96, l_97, l_99, l_120, l_122, l_127, l_200, l_240, l_255, l_840, l_999, l_1000, l_1001, l_2400, l_3064, l_9999, l_10000, l_13849, l_16383, l_25173, l_65535, l_65536, l_99999, l_1000000000, neg_nI, pk_mul, nI_add, nI_subL, tn_nI, inb_t, grd_true, bnd_some, elS_l, elS_r, nI_ltI, nI_leI, nI_inj, fa_and, fa_or, m1_eq, eq_m1, m1_lt, m1_le, lt_m1, le_m1, m1_lt0, up2_at, up2_no, ite_true, ite_false, if_true, if_false, Bool.false_eq_true, reduceIte, reduceCtorEq, not_true_eq_false, not_false_eq_true, eq_self, decide_true, decide_false, le_tt, le_ff, lt_tt, lt_ff, eq_ff, and_true, true_and, and_false, false_and, or_true, true_or, or_false, false_or, ne_eq, decide_eq_true_eq, decide_eq_false_iff_not, Bool.not_true, Bool.not_false, Bool.and_true, Bool.true_and, Bool.and_false, Bool.false_and, gs_at, gs_no, oI_n, oI_s, nz_e, pk_div, Option.map, wI]
    congr 2
/-- no window fits: nothing changes -/
theorem fdI_none {slots rule w v : Nat} {ft : Nat → Nat → Nat → Bool} {rw' : Nat → Nat → Nat → Nat} {b : Option (Nat × Nat × Nat × Nat)} : ∀ {K : Nat}, (∀ k, k < K → ft l (fdK slots rule v k) v = false) → fdI slots ft rw' rule w l v b K = b
  | 0, _ => rfl
  | K + 1, h => by
    unfold fdI
    rw [h K (by omega), Bool.false_and, if_neg (by decide)]
    exact fdI_none (fun k hk => h k (by omega))
/-- by places in order: the first that fits decides -/
theorem fdI_first {slots rule w v : Nat} {ft : Nat → Nat → Nat → Bool} {rw' : Nat → Nat → Nat → Nat} {b : Option (Nat × Nat × Nat × Nat)} (hr : rule ≠ 2) {k0 : Nat} (h1 : ft l (fdK slots rule v k0) v = true) (h2 : ∀ k, k < k0 → ft l (fdK slots rule v k) v = false) : ∀ {K : Nat}, k0 < K → fdI slots ft rw' rule w l v b K = if ltO k0 b = true then some (w, fdK slots rule v k0, v, k0) else b := by
  have hY : ∀ k, fdY rw' rule l v (fdK slots rule v k) k = k := fun k => by
    unfold fdY fdK
    rw [if_neg hr]
    by_cases q : rule = 1
    · rw [if_pos q, if_neg (by omega)]
    · rw [if_neg q]
  intro K
  induction K with
  | zero => intro h; omega
  | succ K ih =>
    intro hK
    unfold fdI
    rw [hY]
    by_cases q : K = k0
    · subst q
      rw [h1, Bool.true_and, fdI_none h2]
    · rw [ih (by omega)]
      have hc : (ft l (fdK slots rule v K) v && ltO K (if ltO k0 b = true then some (w, fdK slots rule v k0, v, k0) else b)) = false := by
        have : ltO K (if ltO k0 b = true then some (w, fdK slots rule v k0, v, k0) else b) = false := by
          by_cases c : ltO k0 b = true
          · rw [if_pos c]
            unfold ltO
            exact decide_eq_false (by show ¬ K < k0; omega)
          · rw [if_neg c]
            cases b with
            | none => exact absurd rfl c
            | some p =>
              unfold ltO at c ⊢
              simp only [decide_eq_true_eq] at c
              exact decide_eq_false (by omega)
        rw [this, Bool.and_false]
      rw [hc, if_neg (by decide)]
theorem fdI_s {slots rule w v k : Nat} {ft : Nat → Nat → Nat → Bool} {rw' : Nat → Nat → Nat → Nat} {b : Option (Nat × Nat × Nat × Nat)} : fdI slots ft rw' rule w l v b (k + 1) = if (ft l (fdK slots rule v k) v && ltO (fdY rw' rule l v (fdK slots rule v k) k) (fdI slots ft rw' rule w l v b k)) = true then some (w, fdK slots rule v k, v, fdY rw' rule l v (fdK slots rule v k) k) else fdI slots ft rw' rule w l v b k := rfl
/-- one row of free slots: the first that fits in it decides -/
theorem fdI_row {slots w v : Nat} {ft : Nat → Nat → Nat → Bool} {rw' : Nat → Nat → Nat → Nat} {b : Option (Nat × Nat × Nat × Nat)} {beg fin R : Nat} (hY : ∀ s, beg ≤ s → s < fin → ft l s v = true → rw' l s v = R) : ∀ t, beg ≤ t → t ≤ fin → fdI slots ft rw' 2 w l v b t = match fstP (fun s => ft l s v) beg (t - beg) with
    | none => fdI slots ft rw' 2 w l v b beg
    | some s0 => if ltO R (fdI slots ft rw' 2 w l v b beg) = true then some (w, s0, v, R) else fdI slots ft rw' 2 w l v b beg := by
  intro t
  induction t with
  | zero =>
    intro h _
    have : beg = 0 := by omega
    subst this
    rfl
  | succ t ih =>
    intro h1 h2
    by_cases q : beg = t + 1
    · rw [q, Nat.sub_self]; rfl
    · have h3 : beg ≤ t := by omega
      have hs : fstP (fun s => ft l s v) beg (t + 1 - beg) = match fstP (fun s => ft l s v) beg (t - beg) with
          | some s0 => some s0
          | none => if ft l t v = true then some t else none := by
        cases hf : fstP (fun s => ft l s v) beg (t - beg) with
        | some s0 =>
          obtain ⟨a1, a2, a3, a4⟩ := fstP_some hf
          cases hf2 : fstP (fun s => ft l s v) beg (t + 1 - beg) with
          | none =>
            have := fstP_none.mp hf2 s0 a1 (by omega)
            rw [a3] at this; cases this
          | some s1 =>
            obtain ⟨c1, c2, c3, c4⟩ := fstP_some hf2
            have : s0 = s1 := by
              rcases Nat.lt_trichotomy s0 s1 with w | w | w
              · have := c4 s0 a1 w; rw [a3] at this; cases this
              · exact w
              · have := a4 s1 c1 w; rw [c3] at this; cases this
            rw [this]
        | none =>
          have hn := fstP_none.mp hf
          by_cases c : ft l t v = true
          · simp only [c, if_true]
            cases hf2 : fstP (fun s => ft l s v) beg (t + 1 - beg) with
            | none =>
              have := fstP_none.mp hf2 t h3 (by omega)
              rw [c] at this; cases this
            | some s1 =>
              obtain ⟨c1, c2, c3, c4⟩ := fstP_some hf2
              by_cases w : s1 = t
              · rw [w]
              · have := hn s1 c1 (by omega)
                rw [c3] at this; cases this
          · simp only [c, if_false]
            apply fstP_none.mpr
            intro m m1 m2
            by_cases w : m = t
            · rw [w]; simpa using c
            · exact hn m m1 (by omega)
      have hK : ∀ k, fdK slots 2 v k = k := fun k => if_neg (by decide)
      have hYk : fdY rw' 2 l v t t = rw' l t v := if_pos rfl
      rw [fdI_s, hK, hYk, hs]
      have ih' := ih h3 (by omega)
      cases hf : fstP (fun s => ft l s v) beg (t - beg) with
      | some s0 =>
        rw [hf] at ih'
        simp only at ih' ⊢
        rw [ih']
        by_cases c : ft l t v = true
        · have hR := hY t h3 (by omega) c
          have : ltO (rw' l t v) (if ltO R (fdI slots ft rw' 2 w l v b beg) = true then some (w, s0, v, R) else fdI slots ft rw' 2 w l v b beg) = false := by
            rw [hR]
            by_cases c2 : ltO R (fdI slots ft rw' 2 w l v b beg) = true
            · rw [if_pos c2]
              unfold ltO
              exact decide_eq_false (by show ¬ R < R; omega)
            · rw [if_neg c2]; simpa using c2
          rw [this, Bool.and_false, if_neg (by decide)]
        · rw [show ft l t v = false by simpa using c, Bool.false_and, if_neg (by decide)]
      | none =>
        rw [hf] at ih'
        simp only at ih' ⊢
        rw [ih']
        by_cases c : ft l t v = true
        · have hR := hY t h3 (by omega) c
          rw [c, hR, Bool.true_and]
          rfl
        · rw [show ft l t v = false by simpa using c, Bool.false_and, if_neg (by decide)]
          rfl
theorem dnS_at {P : Nat → Bool} {beg : Nat} (hb : beg = 0 ∨ P (beg - 1) = false) : ∀ s, beg ≤ s → (∀ j, beg ≤ j → j < s → P j = true) → dnS P s = beg
  | 0, h, _ => by
    have : beg = 0 := by omega
    rw [this]; rfl
  | s + 1, h, hj => by
    unfold dnS
    by_cases q : beg = s + 1
    · have : P s = false := by
        rcases hb with c | c
        · omega
        · rw [q] at c; exact c
      rw [if_neg (by rw [this]; decide), q]
    · rw [if_pos (hj s (by omega) (by omega))]
      exact dnS_at hb s (by omega) (fun j a1 a2 => hj j a1 (by omega))
theorem upS_at {P : Nat → Bool} {fin : Nat} : ∀ k h, h ≤ fin → (fin = h + k ∨ fin < h + k ∧ P fin = false) → (∀ j, h ≤ j → j < fin → P j = true) → upS P h k = fin
  | 0, h, h1, h2, _ => by
    unfold upS
    omega
  | k + 1, h, h1, h2, hj => by
    unfold upS
    by_cases q : h = fin
    · rcases h2 with c | c
      · omega
      · rw [if_neg (by rw [q, c.2]; decide), q]
    · rw [if_pos (hj h (by omega) (by omega))]
      exact upS_at k (h + 1) (by omega) (h2.imp (fun c => by omega) (fun c => ⟨by omega, c.2⟩)) (fun j a1 a2 => hj j (by omega) a2)
theorem fz_oc {i : Nat} : fzB g l i = true ↔ i < g 1 ∧ ¬ OC g l none i := by
  unfold fzB
  rw [Bool.and_eq_true, decide_eq_true_eq, Option.isNone_iff_eq_none, fstP_none]
  refine and_congr_right (fun _ => ?_)
  constructor
  · rintro h ⟨d, h1, _, h3⟩
    have := h d (by omega) (by omega)
    unfold cvB at this
    rw [decide_eq_false_iff_not] at this
    exact this h3
  · intro h d h1 h2
    unfold cvB
    apply decide_eq_false
    intro q
    exact h ⟨d, by omega, by simp, q⟩
end
