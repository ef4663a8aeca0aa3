/-! the model: windows by a rule -/
theorem loop_I {σ ρ : Type} {body : σ → Option (σ ⊕ ρ)} (I : Nat → σ → Prop) (R : ρ → Prop) (N : Nat) (hs : ∀ i s, i < N → I i s → (∃ s', body s = some (.inl s') ∧ I (i + 1) s') ∨ (∃ r, body s = some (.inr r) ∧ R r)) (hN : ∀ s, I N s → ∃ r, body s = some (.inr r) ∧ R r) : ∀ (k i n : Nat) (s : σ), i + k = N → k < n → I i s → ∃ r, loop body n s = some r ∧ R r := by
  intro k
  induction k with
  | zero =>
    intro i n s hi hn h
    have e : i = N := by omega
    subst e
    obtain ⟨r, h1, h2⟩ := hN s h
    exact ⟨r, loop_inr h1 (by omega), h2⟩
  | succ k ih =>
    intro i n s hi hn h
    rcases hs i s (by omega) h with ⟨s', h1, h2⟩ | ⟨r, h1, h2⟩
    · rw [loop_inl h1 (by omega)]
      exact ih (i + 1) (n - 1) s' (by omega) (by omega) h2
    · exact ⟨r, loop_inr h1 (by omega), h2⟩
theorem loop_I0 {σ ρ : Type} {body : σ → Option (σ ⊕ ρ)} (I : Nat → σ → Prop) (R : ρ → Prop) (N : Nat) {n : Nat} {s : σ} (h0 : I 0 s) (hn : N < n) (hs : ∀ i s, i < N → I i s → (∃ s', body s = some (.inl s') ∧ I (i + 1) s') ∨ (∃ r, body s = some (.inr r) ∧ R r)) (hN : ∀ s, I N s → ∃ r, body s = some (.inr r) ∧ R r) : ∃ r, loop body n s = some r ∧ R r := loop_I I R N hs hN N 0 n s (by omega) hn h0
/-- how the highest format that carries so far -/
def fmA (g : Nat → Nat) (len : Nat) : Nat → Option Nat
  | 0 => none
  | i + 1 => if len ≤ g (8 + i) then some i else fmA g len i
def fmS (g : Nat → Nat) (len : Nat) : Option Nat := fmA g len 4
def wdS (g : Nat → Nat) (rate len : Nat) : Option Nat := (fmS g len).map (fun f => (rate + f) / (f + 1))
theorem fmA_lt {g : Nat → Nat} {len f : Nat} : ∀ {i}, fmA g len i = some f → f < i
  | 0, h => by cases h
  | i + 1, h => by
    unfold fmA at h
    by_cases q : len ≤ g (8 + i)
    · rw [if_pos q] at h; cases h; omega
    · rw [if_neg q] at h; have := fmA_lt h; omega
theorem wdS_pos {g : Nat → Nat} {rate len v : Nat} (h : wdS g rate len = some v) (hr : 1 ≤ rate) : 1 ≤ v ∧ v ≤ rate := by
  unfold wdS at h
  cases hf : fmS g len with
  | none => rw [hf] at h; cases h
  | some f =>
    rw [hf] at h
    cases h
    constructor
    · rw [Nat.le_div_iff_mul_le (by omega)]; omega
    · apply Nat.div_le_of_le_mul
      have : rate * 1 ≤ rate * (f + 1) := Nat.mul_le_mul_left _ (by omega)
      rw [Nat.add_mul, Nat.one_mul]
      have h2 : 1 * f ≤ rate * f := Nat.mul_le_mul_right _ hr
      rw [Nat.mul_comm f rate]
      omega
def WY (M : Mm) (c : Nat) (wl wk : Nat → Nat) : Prop := M.1 94 19 = nI c ∧ c ≤ 4 ∧ ∀ k, k < c → M.1 98 k = nI (wl k) ∧ M.1 99 k = nI (wk k) ∧ wl k < 1048576 ∧ wk k < 16384
/-- down and up from a place as long as it holds -/
def dnS (P : Nat → Bool) : Nat → Nat
  | 0 => 0
  | s + 1 => if P s = true then dnS P s else s + 1
def upS (P : Nat → Bool) : Nat → Nat → Nat
  | h, 0 => h
  | h, k + 1 => if P h = true then upS P (h + 1) k else h
def rowS (g : Nat → Nat) (l s v : Nat) : Nat := upS (fzB g l) (s + v) (g 1 - (s + v)) - dnS (fzB g l) s
theorem dnS_le (P : Nat → Bool) : ∀ s, dnS P s ≤ s
  | 0 => Nat.le_refl 0
  | s + 1 => by
    unfold dnS
    by_cases q : P s = true
    · rw [if_pos q]; have := dnS_le P s; omega
    · rw [if_neg q]; exact Nat.le_refl _
theorem upS_le (P : Nat → Bool) : ∀ k h, h ≤ upS P h k ∧ upS P h k ≤ h + k
  | 0, h => ⟨Nat.le_refl h, Nat.le_refl h⟩
  | k + 1, h => by
    unfold upS
    by_cases q : P h = true
    · rw [if_pos q]; have := upS_le P k (h + 1); omega
    · rw [if_neg q]; omega
section
variable {M : Mm} {g : Nat → Nat}
theorem Fm_formatBy_e (hF : FR M g) (hG : GB g) {len n : Nat} (hl : len < 1048576) (hn : 4 < n) : Fm_formatBy n (nI len) M = some (oI (fmS g len)) := by
  have hlp := loop_zero (body := fun s1 : Int32 × Int32 => Fm_formatBy_b4 (nI len) M s1.1 s1.2) (fun i => (oI (fmA g len i), nI i)) 4 (oI (fmA g len 4)) (fun i hi => by
    have b := hG.1 (8 + i)
    show Fm_formatBy_b4 _ _ _ _ = _
    unfold Fm_formatBy_b4 Fm_formatBy_j24
    simp (disch := omega) only [l_0, l_1, l_2, l_3, l_4, l_5, l_6, l_7, l_8, l_9, l_10, l_11, l_12, l_13, l_14, l_16, l_20, l_21, l_23, l_24, l_30, l_32, l_40, l_41, l_44, l_48, l_57, l_59, l_60, l_63, l_64, l_80, l_84, l_96, l_97, l_99, l_120, l_122, l_127, l_200, l_240, l_255, l_840, l_999, l_1000, l_1001, l_2400, l_3064, l_9999, l_10000, l_13849, l_16383, l_25173, l_65535, l_65536, l_99999, l_1000000000, neg_nI, pk_mul, nI_add, nI_subL, tn_nI, inb_t, grd_true, bnd_some, elS_l, elS_r, nI_ltI, nI_leI, nI_inj, fa_and, fa_or, m1_eq, eq_m1, m1_lt, m1_le, lt_m1, le_m1, m1_lt0, up2_at, up2_no, ite_true, ite_false, if_true, if_false, Bool.false_eq_true, reduceIte, reduceCtorEq, not_true_eq_false, not_false_eq_true, eq_self, decide_true, decide_false, le_tt, le_ff, lt_tt, lt_ff, eq_ff, and_true, true_and, and_false, false_and, or_true, true_or, or_false, false_or, ne_eq, decide_eq_true_eq, decide_eq_false_iff_not, Bool.not_true, Bool.not_false, Bool.and_true, Bool.true_and, Bool.and_false, Bool.false_and, gs_at, gs_no, oI_n, oI_s, fr0 hF]
    by_cases h : len ≤ g (8 + i)
    · simp (disch := omega) only [l_0, l_1, l_2, l_3, l_4, l_5, l_6, l_7, l_8, l_9, l_10, l_11, l_12, l_13, l_14, l_16, l_20, l_21, l_23, l_24, l_30, l_32, l_40, l_41, l_44, l_48, l_57, l_59, l_60, l_63, l_64, l_80, l_84, l_96, l_97, l_99, l_120, l_122, l_127, l_200, l_240, l_255, l_840, l_999, l_1000, l_1001, l_2400, l_3064, l_9999, l_10000, l_13849, l_16383, l_25173, l_65535, l_65536, l_99999, l_1000000000, neg_nI, pk_mul, nI_add, nI_subL, tn_nI, inb_t, grd_true, bnd_some, elS_l, elS_r, nI_ltI, nI_leI, nI_inj, fa_and, fa_or, m1_eq, eq_m1, m1_lt, m1_le, lt_m1, le_m1, m1_lt0, up2_at, up2_no, ite_true, ite_false, if_true, if_false, Bool.false_eq_true, reduceIte, reduceCtorEq, not_true_eq_false, not_false_eq_true, eq_self, decide_true, decide_false, le_tt, le_ff, lt_tt, lt_ff, eq_ff, and_true, true_and, and_false, false_and, or_true, true_or, or_false, false_or, ne_eq, decide_eq_true_eq, decide_eq_false_iff_not, Bool.not_true, Bool.not_false, Bool.and_true, Bool.true_and, Bool.and_false, Bool.false_and, gs_at, gs_no, oI_n, oI_s, fmA]
    · simp (disch := omega) only [l_0, l_1, l_2, l_3, l_4, l_5, l_6, l_7, l_8, l_9, l_10, l_11, l_12, l_13, l_14, l_16, l_20, l_21, l_23, l_24, l_30, l_32, l_40, l_41, l_44, l_48, l_57, l_59, l_60, l_63, l_64, l_80, l_84, l_96, l_97, l_99, l_120, l_122, l_127, l_200, l_240, l_255, l_840, l_999, l_1000, l_1001, l_2400, l_3064, l_9999, l_10000, l_13849, l_16383, l_25173, l_65535, l_65536, l_99999, l_1000000000, neg_nI, pk_mul, nI_add, nI_subL, tn_nI, inb_t, grd_true, bnd_some, elS_l, elS_r, nI_ltI, nI_leI, nI_inj, fa_and, fa_or, m1_eq, eq_m1, m1_lt, m1_le, lt_m1, le_m1, m1_lt0, up2_at, up2_no, ite_true, ite_false, if_true, if_false, Bool.false_eq_true, reduceIte, reduceCtorEq, not_true_eq_false, not_false_eq_true, eq_self, decide_true, decide_false, le_tt, le_ff, lt_tt, lt_ff, eq_ff, and_true, true_and, and_false, false_and, or_true, true_or, or_false, false_or, ne_eq, decide_eq_true_eq, decide_eq_false_iff_not, Bool.not_true, Bool.not_false, Bool.and_true, Bool.true_and, Bool.and_false, Bool.false_and, gs_at, gs_no, oI_n, oI_s, fmA]) (by
    show Fm_formatBy_b4 _ _ _ _ = _
    unfold Fm_formatBy_b4
    simp (disch := omega) only [l_0, l_1, l_2, l_3, l_4, l_5, l_6, l_7, l_8, l_9, l_10, l_11, l_12, l_13, l_14, l_16, l_20, l_21, l_23, l_24, l_30, l_32, l_40, l_41, l_44, l_48, l_57, l_59, l_60, l_63, l_64, l_80, l_84, l_96, l_97, l_99, l_120, l_122, l_127, l_200, l_240, l_255, l_840, l_999, l_1000, l_1001, l_2400, l_3064, l_9999, l_10000, l_13849, l_16383, l_25173, l_65535, l_65536, l_99999, l_1000000000, neg_nI, pk_mul, nI_add, nI_subL, tn_nI, inb_t, grd_true, bnd_some, elS_l, elS_r, nI_ltI, nI_leI, nI_inj, fa_and, fa_or, m1_eq, eq_m1, m1_lt, m1_le, lt_m1, le_m1, m1_lt0, up2_at, up2_no, ite_true, ite_false, if_true, if_false, Bool.false_eq_true, reduceIte, reduceCtorEq, not_true_eq_false, not_false_eq_true, eq_self, decide_true, decide_false, le_tt, le_ff, lt_tt, lt_ff, eq_ff, and_true, true_and, and_false, false_and, or_true, true_or, or_false, false_or, ne_eq, decide_eq_true_eq, decide_eq_false_iff_not, Bool.not_true, Bool.not_false, Bool.and_true, Bool.true_and, Bool.and_false, Bool.false_and, gs_at, gs_no, oI_n, oI_s]) hn
  unfold Fm_formatBy
  exact bnd_e hlp
theorem Fm_widthOn_e (hF : FR M g) (hG : GB g) {c : Nat} {wl wk : Nat → Nat} (hW : WY M c wl wk) {w rate n : Nat} (hw : w < c) (hr : rate < 1048576) (hn : 4 < n) : Fm_widthOn n (nI w) (nI rate) M = some (oI (wdS g rate (wl w))) := by
  obtain ⟨h1, h2, h3⟩ := hW
  obtain ⟨q1, q2, q3, q4⟩ := h3 w hw
  unfold Fm_widthOn wdS
  simp (disch := omega) only [l_0, l_1, l_2, l_3, l_4, l_5, l_6, l_7, l_8, l_9, l_10, l_11, l_12, l_13, l_14, l_16, l_20, l_21, l_23, l_24, l_30, l_32, l_40, l_41, l_44, l_48, l_57, l_59, l_60, l_63, l_64, l_80, l_84, l_96, l_97, l_99, l_120, l_122, l_127, l_200, l_240, l_255, l_840, l_999, l_1000, l_1001, l_2400, l_3064, l_9999, l_10000, l_13849, l_16383, l_25173, l_65535, l_65536, l_99999, l_1000000000, neg_nI, pk_mul, nI_add, nI_subL, tn_nI, inb_t, grd_true, bnd_some, elS_l, elS_r, nI_ltI, nI_leI, nI_inj, fa_and, fa_or, m1_eq, eq_m1, m1_lt, m1_le, lt_m1, le_m1, m1_lt0, up2_at, up2_no, ite_true, ite_false, if_true, if_false, Bool.false_eq_true, reduceIte, reduceCtorEq, not_true_eq_false, not_false_eq_true, eq_self, decide_true, decide_false, le_tt, le_ff, lt_tt, lt_ff, eq_ff, and_true, true_and, and_false, false_and, or_true, true_or, or_false, false_or, ne_eq, decide_eq_true_eq, decide_eq_false_iff_not, Bool.not_true, Bool.not_false, Bool.and_true, Bool.true_and, Bool.and_false, Bool.false_and, gs_at, gs_no, oI_n, oI_s, q1, Fm_formatBy_e hF hG]
  cases hf : fmS g (wl w) with
  | none => simp (disch := omega) only [l_0, l_1, l_2, l_3, l_4, l_5, l_6, l_7, l_8, l_9, l_10, l_11, l_12, l_13, l_14, l_16, l_20, l_21, l_23, l_24, l_30, l_32, l_40, l_41, l_44, l_48, l_57, l_59, l_60, l_63, l_64, l_80, l_84, l_96, l_97, l_99, l_120, l_122, l_127, l_200, l_240, l_255, l_840, l_999, l_1000, l_1001, l_2400, l_3064, l_9999, l_10000, l_13849, l_16383, l_25173, l_65535, l_65536, l_99999, l_1000000000, neg_nI, pk_mul, nI_add, nI_subL, tn_nI, inb_t, grd_true, bnd_some, elS_l, elS_r, nI_ltI, nI_leI, nI_inj, fa_and, fa_or, m1_eq, eq_m1, m1_lt, m1_le, lt_m1, le_m1, m1_lt0, up2_at, up2_no, ite_true, ite_false, if_true, if_false, Bool.false_eq_true, reduceIte, reduceCtorEq, not_true_eq_false, not_false_eq_true, eq_self, decide_true, decide_false, le_tt, le_ff, lt_tt, lt_ff, eq_ff, and_true, true_and, and_false, false_and, or_true, true_or, or_false, false_or, ne_eq, decide_eq_true_eq, decide_eq_false_iff_not, Bool.not_true, Bool.not_false, Bool.and_true, Bool.true_and, Bool.and_false, Bool.false_and, gs_at, gs_no, oI_n, oI_s, Option.map]
  | some f =>
    have := fmA_lt hf
    simp (disch := omega) only [l_0, l_1, l_2, l_3, l_4, l_5, l_6, l_7, l_8, l_9, l_10, l_11, l_12, l_13, l_14, l_16, l_20, l_21, l_23, l_24, l_30, l_32, l_40, l_41, l_44, l_48, l_57, l_59, l_60, l_63, l_64, l_80, l_84, l_96, l_97, l_99, l_120, l_122, l_127, l_200, l_240, l_255, l_840, l_999, l_1000, l_1001, l_2400, l_3064, l_9999, l_10000, l_13849, l_16383, l_25173, l_65535, l_65536, l_99999, l_1000000000, neg_nI, pk_mul, nI_add, nI_subL, tn_nI, inb_t, grd_true, bnd_some, elS_l, elS_r, nI_ltI, nI_leI, nI_inj, fa_and, fa_or, m1_eq, eq_m1, m1_lt, m1_le, lt_m1, le_m1, m1_lt0, up2_at, up2_no, ite_true, ite_false, if_true, if_false, Bool.false_eq_true, reduceIte, reduceCtorEq, not_true_eq_false, not_false_eq_true, eq_self, decide_true, decide_false, le_tt, le_ff, lt_tt, lt_ff, eq_ff, and_true, true_and, and_false, false_and, or_true, true_or, or_false, false_or, ne_eq, decide_eq_true_eq, decide_eq_false_iff_not, Bool.not_true, Bool.not_false, Bool.and_true, Bool.true_and, Bool.and_false, Bool.false_and, gs_at, gs_no, oI_n, oI_s, Option.map, nz_e, pk_div]
theorem in_neg {k b c : Nat} {M : Mm} (hk : 0 < k) (hk2 : k < 2 ^ 31) (hb : b < 2 ^ 31) (x : Int32) : Fm_in (ng k) (nI b) x M = some false := by
  unfold Fm_in
  simp (disch := omega) only [l_0, l_1, l_2, l_3, l_4, l_5, l_6, l_7, l_8, l_9, l_10, l_11, l_12, l_13, l_14, l_16, l_20, l_21, l_23, l_24, l_30, l_32, l_40, l_41, l_44, l_48, l_57, l_59, l_60, l_63, l_64, l_80, l_84, l_96, l_97, l_99, l_120, l_122, l_127, l_200, l_240, l_255, l_840, l_999, l_1000, l_1001, l_2400, l_3064, l_9999, l_10000, l_13849, l_16383, l_25173, l_65535, l_65536, l_99999, l_1000000000, neg_nI, pk_mul, nI_add, nI_subL, tn_nI, inb_t, grd_true, bnd_some, elS_l, elS_r, nI_ltI, nI_leI, nI_inj, fa_and, fa_or, m1_eq, eq_m1, m1_lt, m1_le, lt_m1, le_m1, m1_lt0, up2_at, up2_no, ite_true, ite_false, if_true, if_false, Bool.false_eq_true, reduceIte, reduceCtorEq, not_true_eq_false, not_false_eq_true, eq_self, decide_true, decide_false, le_tt, le_ff, lt_tt, lt_ff, eq_ff, and_true, true_and, and_false, false_and, or_true, true_or, or_false, false_or, ne_eq, decide_eq_true_eq, decide_eq_false_iff_not, Bool.not_true, Bool.not_false, Bool.and_true, Bool.true_and, Bool.and_false, Bool.false_and, gs_at, gs_no, oI_n, oI_s]
theorem Fm_isFree_neg (hF : FR M g) {n : Nat} {l x : Int32} (hx : x = ng 1) : Fm_isFree n l x M = some false := by
  rw [hx]
  unfold Fm_isFree
  simp (disch := omega) only [l_0, l_1, l_2, l_3, l_4, l_5, l_6, l_7, l_8, l_9, l_10, l_11, l_12, l_13, l_14, l_16, l_20, l_21, l_23, l_24, l_30, l_32, l_40, l_41, l_44, l_48, l_57, l_59, l_60, l_63, l_64, l_80, l_84, l_96, l_97, l_99, l_120, l_122, l_127, l_200, l_240, l_255, l_840, l_999, l_1000, l_1001, l_2400, l_3064, l_9999, l_10000, l_13849, l_16383, l_25173, l_65535, l_65536, l_99999, l_1000000000, neg_nI, pk_mul, nI_add, nI_subL, tn_nI, inb_t, grd_true, bnd_some, elS_l, elS_r, nI_ltI, nI_leI, nI_inj, fa_and, fa_or, m1_eq, eq_m1, m1_lt, m1_le, lt_m1, le_m1, m1_lt0, up2_at, up2_no, ite_true, ite_false, if_true, if_false, Bool.false_eq_true, reduceIte, reduceCtorEq, not_true_eq_false, not_false_eq_true, eq_self, decide_true, decide_false, le_tt, le_ff, lt_tt, lt_ff, eq_ff, and_true, true_and, and_false, false_and, or_true, true_or, or_false, false_or, ne_eq, decide_eq_true_eq, decide_eq_false_iff_not, Bool.not_true, Bool.not_false, Bool.and_true, Bool.true_and, Bool.and_false, Bool.false_and, gs_at, gs_no, oI_n, oI_s, fr0 hF, in_neg (c := 0)]
theorem z0m1 : nI 0 - nI 1 = ng 1 := rfl
theorem Fm_rowAbout_e (hF : FR M g) (hG : GB g) (hN : NV g) (hL : LV g) {l s v n : Nat} (hs : s + v ≤ g 1) (hn : 300 < n) : Fm_rowAbout n (nI l) (nI s) (nI v) M = some (nI (rowS g l s v)) := by
  have b1 := hN.1
  have hd : ∀ (s n : Nat), s < 100 → s < n → ∀ m, 300 < m → loop (fun s1 : Int32 => Fm_rowAbout_b8 m (nI l) M s1) n (nI s) = some (nI (dnS (fzB g l) s)) := by
    intro s
    induction s with
    | zero =>
      intro n _ hn m hm
      refine loop_inr ?_ hn
      show Fm_rowAbout_b8 _ _ _ _ = _
      unfold Fm_rowAbout_b8
      rw [l_1, Fm_isFree_neg hF z0m1]
      simp (disch := omega) only [l_0, l_1, l_2, l_3, l_4, l_5, l_6, l_7, l_8, l_9, l_10, l_11, l_12, l_13, l_14, l_16, l_20, l_21, l_23, l_24, l_30, l_32, l_40, l_41, l_44, l_48, l_57, l_59, l_60, l_63, l_64, l_80, l_84, l_96, l_97, l_99, l_120, l_122, l_127, l_200, l_240, l_255, l_840, l_999, l_1000, l_1001, l_2400, l_3064, l_9999, l_10000, l_13849, l_16383, l_25173, l_65535, l_65536, l_99999, l_1000000000, neg_nI, pk_mul, nI_add, nI_subL, tn_nI, inb_t, grd_true, bnd_some, elS_l, elS_r, nI_ltI, nI_leI, nI_inj, fa_and, fa_or, m1_eq, eq_m1, m1_lt, m1_le, lt_m1, le_m1, m1_lt0, up2_at, up2_no, ite_true, ite_false, if_true, if_false, Bool.false_eq_true, reduceIte, reduceCtorEq, not_true_eq_false, not_false_eq_true, eq_self, decide_true, decide_false, le_tt, le_ff, lt_tt, lt_ff, eq_ff, and_true, true_and, and_false, false_and, or_true, true_or, or_false, false_or, ne_eq, decide_eq_true_eq, decide_eq_false_iff_not, Bool.not_true, Bool.not_false, Bool.and_true, Bool.true_and, Bool.and_false, Bool.false_and, gs_at, gs_no, oI_n, oI_s]
      rfl
    | succ s ih =>
      intro n h1 h2 m hm
      have e : Fm_rowAbout_b8 m (nI l) M (nI (s + 1)) = if fzB g l s = true then some (.inl (nI s)) else some (.inr (nI (s + 1))) := by
        unfold Fm_rowAbout_b8
        simp (disch := omega) only [l_0, l_1, l_2, l_3, l_4, l_5, l_6, l_7, l_8, l_9, l_10, l_11, l_12, l_13, l_14, l_16, l_20, l_21, l_23, l_24, l_30, l_32, l_40, l_41, l_44, l_48, l_57, l_59, l_60, l_63, l_64, l_80, l_84, l_96, l_97, l_99, l_120, l_122, l_127, l_200, l_240, l_255, l_840, l_999, l_1000, l_1001, l_2400, l_3064, l_9999, l_10000, l_13849, l_16383, l_25173, l_65535, l_65536, l_99999, l_1000000000, neg_nI, pk_mul, nI_add, nI_subL, tn_nI, inb_t, grd_true, bnd_some, elS_l, elS_r, nI_ltI, nI_leI, nI_inj, fa_and, fa_or, m1_eq, eq_m1, m1_lt, m1_le, lt_m1, le_m1, m1_lt0, up2_at, up2_no, ite_true, ite_false, if_true, if_false, Bool.false_eq_true, reduceIte, reduceCtorEq, not_true_eq_false, not_false_eq_true, eq_self, decide_true, decide_false, le_tt, le_ff, lt_tt, lt_ff, eq_ff, and_true, true_and, and_false, false_and, or_true, true_or, or_false, false_or, ne_eq, decide_eq_true_eq, decide_eq_false_iff_not, Bool.not_true, Bool.not_false, Bool.and_true, Bool.true_and, Bool.and_false, Bool.false_and, gs_at, gs_no, oI_n, oI_s, Nat.add_sub_cancel, Fm_isFree_e hF hG hN hL]
      unfold dnS
      by_cases q : fzB g l s = true
      · rw [if_pos q] at e ⊢
        rw [loop_inl (s' := nI s) e (by omega)]
        exact ih (n - 1) (by omega) (by omega) m hm
      · rw [if_neg q] at e ⊢
        exact loop_inr e (by omega)
  have hu : ∀ (k h n : Nat), h + k = g 1 → k < n → ∀ m, 300 < m → loop (fun s1 : Int32 => Fm_rowAbout_b29 m (nI l) M s1) n (nI h) = some (nI (upS (fzB g l) h k)) := by
    intro k
    induction k with
    | zero =>
      intro h n h1 h2 m hm
      refine loop_inr ?_ h2
      show Fm_rowAbout_b29 _ _ _ _ = _
      unfold Fm_rowAbout_b29
      have e : fzB g l h = false := by unfold fzB; simp (disch := omega) only [l_0, l_1, l_2, l_3, l_4, l_5, l_6, l_7, l_8, l_9, l_10, l_11, l_12, l_13, l_14, l_16, l_20, l_21, l_23, l_24, l_30, l_32, l_40, l_41, l_44, l_48, l_57, l_59, l_60, l_63, l_64, l_80, l_84, l_96, l_97, l_99, l_120, l_122, l_127, l_200, l_240, l_255, l_840, l_999, l_1000, l_1001, l_2400, l_3064, l_9999, l_10000, l_13849, l_16383, l_25173, l_65535, l_65536, l_99999, l_1000000000, neg_nI, pk_mul, nI_add, nI_subL, tn_nI, inb_t, grd_true, bnd_some, elS_l, elS_r, nI_ltI, nI_leI, nI_inj, fa_and, fa_or, m1_eq, eq_m1, m1_lt, m1_le, lt_m1, le_m1, m1_lt0, up2_at, up2_no, ite_true, ite_false, if_true, if_false, Bool.false_eq_true, reduceIte, reduceCtorEq, not_true_eq_false, not_false_eq_true, eq_self, decide_true, decide_false, le_tt, le_ff, lt_tt, lt_ff, eq_ff, and_true, true_and, and_false, false_and, or_true, true_or, or_false, false_or, ne_eq, decide_eq_true_eq, decide_eq_false_iff_not, Bool.not_true, Bool.not_false, Bool.and_true, Bool.true_and, Bool.and_false, Bool.false_and, gs_at, gs_no, oI_n, oI_s]
      simp (disch := omega) only [l_0, l_1, l_2, l_3, l_4, l_5, l_6, l_7, l_8, l_9, l_10, l_11, l_12, l_13, l_14, l_16, l_20, l_21, l_23, l_24, l_30, l_32, l_40, l_41, l_44, l_48, l_57, l_59, l_60, l_63, l_64, l_80, l_84, l_96, l_97, l_99, l_120, l_122, l_127, l_200, l_240, l_255, l_840, l_999, l_1000, l_1001, l_2400, l_3064, l_9999, l_10000, l_13849, l_16383, l_25173, l_65535, l_65536, l_99999, l_1000000000, neg_nI, pk_mul, nI_add, nI_subL, tn_nI, inb_t, grd_true, bnd_some, elS_l, elS_r, nI_ltI, nI_leI, nI_inj, fa_and, fa_or, m1_eq, eq_m1, m1_lt, m1_le, lt_m1, le_m1, m1_lt0, up2_at, up2_no, ite_true, ite_false, if_true, if_false, Bool.false_eq_true, reduceIte, reduceCtorEq, not_true_eq_false, not_false_eq_true, eq_self, decide_true, decide_false, le_tt, le_ff, lt_tt, lt_ff, eq_ff, and_true, true_and, and_false, false_and, or_true, true_or, or_false, false_or, ne_eq, decide_eq_true_eq, decide_eq_false_iff_not, Bool.not_true, Bool.not_false, Bool.and_true, Bool.true_and, Bool.and_false, Bool.false_and, gs_at, gs_no, oI_n, oI_s, Fm_isFree_e hF hG hN hL, e]
      rfl
    | succ k ih =>
      intro h n h1 h2 m hm
      have e : Fm_rowAbout_b29 m (nI l) M (nI h) = if fzB g l h = true then some (.inl (nI (h + 1))) else some (.inr (nI h)) := by
        unfold Fm_rowAbout_b29
        simp (disch := omega) only [l_0, l_1, l_2, l_3, l_4, l_5, l_6, l_7, l_8, l_9, l_10, l_11, l_12, l_13, l_14, l_16, l_20, l_21, l_23, l_24, l_30, l_32, l_40, l_41, l_44, l_48, l_57, l_59, l_60, l_63, l_64, l_80, l_84, l_96, l_97, l_99, l_120, l_122, l_127, l_200, l_240, l_255, l_840, l_999, l_1000, l_1001, l_2400, l_3064, l_9999, l_10000, l_13849, l_16383, l_25173, l_65535, l_65536, l_99999, l_1000000000, neg_nI, pk_mul, nI_add, nI_subL, tn_nI, inb_t, grd_true, bnd_some, elS_l, elS_r, nI_ltI, nI_leI, nI_inj, fa_and, fa_or, m1_eq, eq_m1, m1_lt, m1_le, lt_m1, le_m1, m1_lt0, up2_at, up2_no, ite_true, ite_false, if_true, if_false, Bool.false_eq_true, reduceIte, reduceCtorEq, not_true_eq_false, not_false_eq_true, eq_self, decide_true, decide_false, le_tt, le_ff, lt_tt, lt_ff, eq_ff, and_true, true_and, and_false, false_and, or_true, true_or, or_false, false_or, ne_eq, decide_eq_true_eq, decide_eq_false_iff_not, Bool.not_true, Bool.not_false, Bool.and_true, Bool.true_and, Bool.and_false, Bool.false_and, gs_at, gs_no, oI_n, oI_s, Fm_isFree_e hF hG hN hL]
      unfold upS
      by_cases q : fzB g l h = true
      · rw [if_pos q] at e ⊢
        rw [loop_inl (s' := nI (h + 1)) e (by omega)]
        exact ih (h + 1) (n - 1) (by omega) (by omega) m hm
      · rw [if_neg q] at e ⊢
        exact loop_inr e (by omega)
  have d1 := dnS_le (fzB g l) s
  have u1 := (upS_le (fzB g l) (g 1 - (s + v)) (s + v)).1
  unfold Fm_rowAbout rowS
  rw [hd s n (by omega) (by omega) n hn, bnd_some, nI_add, hu (g 1 - (s + v)) (s + v) n (by omega) (by omega) n hn, bnd_some, nI_subL (by omega)]
end
