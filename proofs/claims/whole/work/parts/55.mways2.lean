/-! the model: all ways, link by link -/
/-- no two links join the same nodes -/
def NU (g : Nat → Nat) : Prop := ∀ l m, l < g 3 → m < g 3 → l ≠ m → ¬ (g (16 + l) = g (16 + m) ∧ g (30 + l) = g (30 + m)) ∧ ¬ (g (16 + l) = g (30 + m) ∧ g (30 + l) = g (16 + m))
def lenG (g : Nat → Nat) (l : Nat) : Nat := g (44 + l)
def byd (g : Nat → Nat) (l u : Nat) : Option Nat := if (g 12).testBit l = true then (if g (16 + l) = u then some (g (30 + l)) else if g (30 + l) = u then some (g (16 + l)) else none) else none
def chL (g : Nat → Nat) (u : Nat) : Nat → Nat → List (Nat × Nat)
  | _, 0 => []
  | l, k + 1 => (match byd g l u with | some x => [(x, l)] | none => []) ++ chL g u (l + 1) k
def chM (g : Nat → Nat) (u : Nat) : List (Nat × Nat) := chL g u 0 (g 3)
theorem chL_mem {g : Nat → Nat} {u : Nat} {p : Nat × Nat} : ∀ {k l : Nat}, p ∈ chL g u l k ↔ l ≤ p.2 ∧ p.2 < l + k ∧ byd g p.2 u = some p.1
  | 0, l => by
    unfold chL
    constructor
    · intro h; cases h
    · rintro ⟨h1, h2, _⟩; omega
  | k + 1, l => by
    unfold chL
    rw [List.mem_append, chL_mem]
    constructor
    · rintro (h | ⟨h1, h2, h3⟩)
      · cases hb : byd g l u with
        | none => rw [hb] at h; cases h
        | some x =>
          rw [hb] at h
          have e : p = (x, l) := by simpa using h
          rw [e]
          exact ⟨Nat.le_refl _, by show l < l + (k + 1); omega, hb⟩
      · exact ⟨by omega, by omega, h3⟩
    · rintro ⟨h1, h2, h3⟩
      by_cases e : p.2 = l
      · left
        rw [e] at h3
        rw [h3]
        have : p = (p.1, l) := by rw [← e]
        rw [this]
        exact List.mem_singleton.mpr rfl
      · right; exact ⟨by omega, by omega, h3⟩
theorem byd_some {g : Nat → Nat} {l u x : Nat} (h : byd g l u = some x) : (g 12).testBit l = true ∧ ((g (16 + l) = u ∧ g (30 + l) = x) ∨ (g (30 + l) = u ∧ g (16 + l) = x)) := by
  unfold byd at h
  by_cases h1 : (g 12).testBit l = true
  · rw [if_pos h1] at h
    refine ⟨h1, ?_⟩
    by_cases h2 : g (16 + l) = u
    · rw [if_pos h2] at h; exact .inl ⟨h2, Option.some.inj h⟩
    · rw [if_neg h2] at h
      by_cases h3 : g (30 + l) = u
      · rw [if_pos h3] at h; exact .inr ⟨h3, Option.some.inj h⟩
      · rw [if_neg h3] at h; cases h
  · rw [if_neg h1] at h; cases h
theorem byd_lt {g : Nat → Nat} (hN : NV g) {l u x : Nat} (hl : l < g 3) (h : byd g l u = some x) : x < g 0 := by
  have := hN.2.2.1 l hl
  rcases (byd_some h).2 with q | q <;> omega
theorem Fm_beyond_e {M : Mm} {g : Nat → Nat} (hF : FR M g) (hG : GB g) (hN : NV g) {l u : Nat} (hl : l < g 3) (hu : u < 8) : Fm_beyond (nI l) (nI u) M = some (oI (byd g l u)) := by
  have b1 := hN.1
  have b2 := hN.2.2.1 l hl
  have b3 := hG.1 12
  unfold Fm_beyond Fm_isUp byd
  simp (disch := omega) only [l_0, l_1, l_2, l_3, l_4, l_5, l_6, l_7, l_8, l_9, l_10, l_11, l_12, l_13, l_14, l_16, l_20, l_21, l_23, l_24, l_30, l_32, l_40, l_41, l_44, l_48, l_57, l_59, l_60, l_63, l_64, l_80, l_84, l_96, l_97, l_99, l_120, l_122, l_127, l_200, l_240, l_255, l_840, l_999, l_1000, l_1001, l_2400, l_3064, l_9999, l_10000, l_13849, l_16383, l_25173, l_65535, l_65536, l_99999, l_1000000000, neg_nI, pk_mul, nI_add, nI_subL, tn_nI, inb_t, grd_true, bnd_some, elS_l, elS_r, nI_ltI, nI_leI, nI_inj, fa_and, fa_or, m1_eq, eq_m1, m1_lt, m1_le, lt_m1, le_m1, m1_lt0, up2_at, up2_no, ite_true, ite_false, if_true, if_false, Bool.false_eq_true, reduceIte, reduceCtorEq, not_true_eq_false, not_false_eq_true, eq_self, decide_true, decide_false, le_tt, le_ff, lt_tt, lt_ff, eq_ff, and_true, true_and, and_false, false_and, or_true, true_or, or_false, false_or, ne_eq, decide_eq_true_eq, decide_eq_false_iff_not, Bool.not_true, Bool.not_false, Bool.and_true, Bool.true_and, Bool.and_false, Bool.false_and, gs_at, gs_no, oI_n, oI_s, fr0 hF, has_e]
  cases h1 : (g 12).testBit l
  · simp (disch := omega) only [l_0, l_1, l_2, l_3, l_4, l_5, l_6, l_7, l_8, l_9, l_10, l_11, l_12, l_13, l_14, l_16, l_20, l_21, l_23, l_24, l_30, l_32, l_40, l_41, l_44, l_48, l_57, l_59, l_60, l_63, l_64, l_80, l_84, l_96, l_97, l_99, l_120, l_122, l_127, l_200, l_240, l_255, l_840, l_999, l_1000, l_1001, l_2400, l_3064, l_9999, l_10000, l_13849, l_16383, l_25173, l_65535, l_65536, l_99999, l_1000000000, neg_nI, pk_mul, nI_add, nI_subL, tn_nI, inb_t, grd_true, bnd_some, elS_l, elS_r, nI_ltI, nI_leI, nI_inj, fa_and, fa_or, m1_eq, eq_m1, m1_lt, m1_le, lt_m1, le_m1, m1_lt0, up2_at, up2_no, ite_true, ite_false, if_true, if_false, Bool.false_eq_true, reduceIte, reduceCtorEq, not_true_eq_false, not_false_eq_true, eq_self, decide_true, decide_false, le_tt, le_ff, lt_tt, lt_ff, eq_ff, and_true, true_and, and_false, false_and, or_true, true_or, or_false, false_or, ne_eq, decide_eq_true_eq, decide_eq_false_iff_not, Bool.not_true, Bool.not_false, Bool.and_true, Bool.true_and, Bool.and_false, Bool.false_and, gs_at, gs_no, oI_n, oI_s]
  · simp (disch := omega) only [l_0, l_1, l_2, l_3, l_4, l_5, l_6, l_7, l_8, l_9, l_10, l_11, l_12, l_13, l_14, l_16, l_20, l_21, l_23, l_24, l_30, l_32, l_40, l_41, l_44, l_48, l_57, l_59, l_60, l_63, l_64, l_80, l_84, l_96, l_97, l_99, l_120, l_122, l_127, l_200, l_240, l_255, l_840, l_999, l_1000, l_1001, l_2400, l_3064, l_9999, l_10000, l_13849, l_16383, l_25173, l_65535, l_65536, l_99999, l_1000000000, neg_nI, pk_mul, nI_add, nI_subL, tn_nI, inb_t, grd_true, bnd_some, elS_l, elS_r, nI_ltI, nI_leI, nI_inj, fa_and, fa_or, m1_eq, eq_m1, m1_lt, m1_le, lt_m1, le_m1, m1_lt0, up2_at, up2_no, ite_true, ite_false, if_true, if_false, Bool.false_eq_true, reduceIte, reduceCtorEq, not_true_eq_false, not_false_eq_true, eq_self, decide_true, decide_false, le_tt, le_ff, lt_tt, lt_ff, eq_ff, and_true, true_and, and_false, false_and, or_true, true_or, or_false, false_or, ne_eq, decide_eq_true_eq, decide_eq_false_iff_not, Bool.not_true, Bool.not_false, Bool.and_true, Bool.true_and, Bool.and_false, Bool.false_and, gs_at, gs_no, oI_n, oI_s]
    by_cases h2 : g (16 + l) = u
    · simp (disch := omega) only [l_0, l_1, l_2, l_3, l_4, l_5, l_6, l_7, l_8, l_9, l_10, l_11, l_12, l_13, l_14, l_16, l_20, l_21, l_23, l_24, l_30, l_32, l_40, l_41, l_44, l_48, l_57, l_59, l_60, l_63, l_64, l_80, l_84, l_96, l_97, l_99, l_120, l_122, l_127, l_200, l_240, l_255, l_840, l_999, l_1000, l_1001, l_2400, l_3064, l_9999, l_10000, l_13849, l_16383, l_25173, l_65535, l_65536, l_99999, l_1000000000, neg_nI, pk_mul, nI_add, nI_subL, tn_nI, inb_t, grd_true, bnd_some, elS_l, elS_r, nI_ltI, nI_leI, nI_inj, fa_and, fa_or, m1_eq, eq_m1, m1_lt, m1_le, lt_m1, le_m1, m1_lt0, up2_at, up2_no, ite_true, ite_false, if_true, if_false, Bool.false_eq_true, reduceIte, reduceCtorEq, not_true_eq_false, not_false_eq_true, eq_self, decide_true, decide_false, le_tt, le_ff, lt_tt, lt_ff, eq_ff, and_true, true_and, and_false, false_and, or_true, true_or, or_false, false_or, ne_eq, decide_eq_true_eq, decide_eq_false_iff_not, Bool.not_true, Bool.not_false, Bool.and_true, Bool.true_and, Bool.and_false, Bool.false_and, gs_at, gs_no, oI_n, oI_s, h2]
    · simp (disch := omega) only [l_0, l_1, l_2, l_3, l_4, l_5, l_6, l_7, l_8, l_9, l_10, l_11, l_12, l_13, l_14, l_16, l_20, l_21, l_23, l_24, l_30, l_32, l_40, l_41, l_44, l_48, l_57, l_59, l_60, l_63, l_64, l_80, l_84, l_96, l_97, l_99, l_120, l_122, l_127, l_200, l_240, l_255, l_840, l_999, l_1000, l_1001, l_2400, l_3064, l_9999, l_10000, l_13849, l_16383, l_25173, l_65535, l_65536, l_99999, l_1000000000, neg_nI, pk_mul, nI_add, nI_subL, tn_nI, inb_t, grd_true, bnd_some, elS_l, elS_r, nI_ltI, nI_leI, nI_inj, fa_and, fa_or, m1_eq, eq_m1, m1_lt, m1_le, lt_m1, le_m1, m1_lt0, up2_at, up2_no, ite_true, ite_false, if_true, if_false, Bool.false_eq_true, reduceIte, reduceCtorEq, not_true_eq_false, not_false_eq_true, eq_self, decide_true, decide_false, le_tt, le_ff, lt_tt, lt_ff, eq_ff, and_true, true_and, and_false, false_and, or_true, true_or, or_false, false_or, ne_eq, decide_eq_true_eq, decide_eq_false_iff_not, Bool.not_true, Bool.not_false, Bool.and_true, Bool.true_and, Bool.and_false, Bool.false_and, gs_at, gs_no, oI_n, oI_s, h2]
      by_cases h3 : g (30 + l) = u
      · simp (disch := omega) only [l_0, l_1, l_2, l_3, l_4, l_5, l_6, l_7, l_8, l_9, l_10, l_11, l_12, l_13, l_14, l_16, l_20, l_21, l_23, l_24, l_30, l_32, l_40, l_41, l_44, l_48, l_57, l_59, l_60, l_63, l_64, l_80, l_84, l_96, l_97, l_99, l_120, l_122, l_127, l_200, l_240, l_255, l_840, l_999, l_1000, l_1001, l_2400, l_3064, l_9999, l_10000, l_13849, l_16383, l_25173, l_65535, l_65536, l_99999, l_1000000000, neg_nI, pk_mul, nI_add, nI_subL, tn_nI, inb_t, grd_true, bnd_some, elS_l, elS_r, nI_ltI, nI_leI, nI_inj, fa_and, fa_or, m1_eq, eq_m1, m1_lt, m1_le, lt_m1, le_m1, m1_lt0, up2_at, up2_no, ite_true, ite_false, if_true, if_false, Bool.false_eq_true, reduceIte, reduceCtorEq, not_true_eq_false, not_false_eq_true, eq_self, decide_true, decide_false, le_tt, le_ff, lt_tt, lt_ff, eq_ff, and_true, true_and, and_false, false_and, or_true, true_or, or_false, false_or, ne_eq, decide_eq_true_eq, decide_eq_false_iff_not, Bool.not_true, Bool.not_false, Bool.and_true, Bool.true_and, Bool.and_false, Bool.false_and, gs_at, gs_no, oI_n, oI_s, h3]
      · simp (disch := omega) only [l_0, l_1, l_2, l_3, l_4, l_5, l_6, l_7, l_8, l_9, l_10, l_11, l_12, l_13, l_14, l_16, l_20, l_21, l_23, l_24, l_30, l_32, l_40, l_41, l_44, l_48, l_57, l_59, l_60, l_63, l_64, l_80, l_84, l_96, l_97, l_99, l_120, l_122, l_127, l_200, l_240, l_255, l_840, l_999, l_1000, l_1001, l_2400, l_3064, l_9999, l_10000, l_13849, l_16383, l_25173, l_65535, l_65536, l_99999, l_1000000000, neg_nI, pk_mul, nI_add, nI_subL, tn_nI, inb_t, grd_true, bnd_some, elS_l, elS_r, nI_ltI, nI_leI, nI_inj, fa_and, fa_or, m1_eq, eq_m1, m1_lt, m1_le, lt_m1, le_m1, m1_lt0, up2_at, up2_no, ite_true, ite_false, if_true, if_false, Bool.false_eq_true, reduceIte, reduceCtorEq, not_true_eq_false, not_false_eq_true, eq_self, decide_true, decide_false, le_tt, le_ff, lt_tt, lt_ff, eq_ff, and_true, true_and, and_false, false_and, or_true, true_or, or_false, false_or, ne_eq, decide_eq_true_eq, decide_eq_false_iff_not, Bool.not_true, Bool.not_false, Bool.and_true, Bool.true_and, Bool.and_false, Bool.false_and, gs_at, gs_no, oI_n, oI_s, h3]
/-- what holds of a row of links up to a node -/
def EI (g : Nat → Nat) (v seen : Nat) (e : We) : Prop := v < g 0 ∧ seen.testBit v = true ∧ seen < 256 ∧ (∀ b, e.2.2.2.testBit b = true → b < g 3 ∧ seen.testBit (g (16 + b)) = true ∧ seen.testBit (g (30 + b)) = true) ∧ e.1 ≤ 99 * e.2.1 ∧ e.2.2.1 < 8 ^ (e.2.1 + 1) ∧ pcI e.2.2.2 = e.2.1 ∧ fb_ct (fun i => seen.testBit i) 8 = e.2.1 + 1
theorem or_bit_lt {a k b : Nat} (ha : a < 2 ^ b) (hk : k < b) : a ||| 2 ^ k < 2 ^ b := Nat.or_lt_two_pow ha (Nat.pow_lt_pow_right (by decide) hk)
theorem ct_add {a k n : Nat} (hk : k < n) (h : a.testBit k = false) : fb_ct (fun i => (a ||| 2 ^ k).testBit i) n = fb_ct (fun i => a.testBit i) n + 1 := by
  have h1 := fb_ct_upd (fun i => a.testBit i) true hk
  rw [h] at h1
  have e : fb_ct (fun i => (a ||| 2 ^ k).testBit i) n = fb_ct (fun i => if i = k then true else a.testBit i) n := fb_ct_cong (fun i _ => by
    rw [fb_bit_set]
    by_cases q : i = k
    · rw [if_pos q, decide_eq_true q, Bool.or_true]
    · rw [if_neg q, decide_eq_false q, Bool.or_false])
  rw [e]
  simpa using h1
theorem EI.lt {g : Nat → Nat} {v seen : Nat} {e : We} (h : EI g v seen e) (hN : NV g) : e.2.1 ≤ 7 ∧ BW e := by
  obtain ⟨h1, h2, h3, h4, h5, h6, h7, h8⟩ := h
  have h9 := fb_ct_le (fun i => seen.testBit i) 8
  have hm : e.2.1 ≤ 7 := by omega
  refine ⟨hm, by omega, by omega, Nat.lt_of_lt_of_le h6 (Nat.le_trans (Nat.pow_le_pow_right (by decide) (show e.2.1 + 1 ≤ 8 by omega)) (by decide)), ?_⟩
  rcases Nat.lt_or_ge e.2.2.2 (2 ^ 14) with q | q
  · exact q
  · obtain ⟨b, hb1, hb2⟩ := Nat.exists_ge_and_testBit_of_ge_two_pow q
    have := (h4 b hb2).1
    have := hN.1
    omega
theorem EI.ext {g : Nat → Nat} {v seen : Nat} {e : We} {l x : Nat} (h : EI g v seen e) (hN : NV g) (hl : l < g 3) (hb : byd g l v = some x) (hx : seen.testBit x = false) : EI g x (seen ||| 2 ^ x) (extW (lenG g) e (x, l)) ∧ e.2.2.2.testBit l = false := by
  have hbw := h.lt hN
  have b1 := hN.1
  have b2 := hN.2.2.1 l hl
  have hx0 := byd_lt hN hl hb
  obtain ⟨h1, h2, h3, h4, h5, h6, h7, h8⟩ := h
  have hend := (byd_some hb).2
  have hnl : e.2.2.2.testBit l = false := by
    cases q : e.2.2.2.testBit l
    · rfl
    · obtain ⟨_, q1, q2⟩ := h4 l q
      rcases hend with ⟨_, w⟩ | ⟨_, w⟩
      · rw [w, hx] at q2; cases q2
      · rw [w, hx] at q1; cases q1
  refine ⟨⟨hx0, ?_, ?_, ?_, ?_, ?_, ?_, ?_⟩, hnl⟩
  · rw [fb_bit_set, decide_eq_true rfl, Bool.or_true]
  · exact or_bit_lt (b := 8) h3 (by omega)
  · intro b hbb
    have hbb' : (e.2.2.2 ||| 2 ^ l).testBit b = true := hbb
    rw [fb_bit_set] at hbb'
    rw [fb_bit_set, fb_bit_set]
    by_cases q : b = l
    · rw [q]
      refine ⟨hl, ?_, ?_⟩
      · rcases hend with ⟨w1, w2⟩ | ⟨w1, w2⟩
        · rw [w1, h2]; rfl
        · rw [w2, decide_eq_true rfl, Bool.or_true]
      · rcases hend with ⟨w1, w2⟩ | ⟨w1, w2⟩
        · rw [w2, decide_eq_true rfl, Bool.or_true]
        · rw [w1, h2]; rfl
    · rw [decide_eq_false q, Bool.or_false] at hbb'
      obtain ⟨a1, a2, a3⟩ := h4 b hbb'
      exact ⟨a1, by rw [a2]; rfl, by rw [a3]; rfl⟩
  · show e.1 + g (44 + l) ≤ 99 * (e.2.1 + 1)
    omega
  · show 8 * e.2.2.1 + x < 8 ^ (e.2.1 + 1 + 1)
    rw [Nat.pow_succ]
    omega
  · show pcI (e.2.2.2 ||| 2 ^ l) = e.2.1 + 1
    unfold pcI at h7 ⊢
    rw [ct_add (by omega) hnl, h7]
  · show fb_ct (fun i => (seen ||| 2 ^ x).testBit i) 8 = e.2.1 + 1 + 1
    rw [ct_add (by omega) hx, h8]
def kid (g : Nat → Nat) (goal fu seen : Nat) (e : We) (p : Nat × Nat) : List We := if seen.testBit p.1 = true then [] else pthW (chM g) (lenG g) goal fu p.1 (seen ||| 2 ^ p.1) (extW (lenG g) e p)
theorem pthW_succ {g : Nat → Nat} {goal k v seen : Nat} {e : We} (h : v ≠ goal) : pthW (chM g) (lenG g) goal (k + 1) v seen e = (chM g v).flatMap (kid g goal k seen e) := by
  unfold pthW
  rw [if_neg h]
  rfl
theorem pthW_goal {ch : Nat → List (Nat × Nat)} {len : Nat → Nat} {goal seen : Nat} {e : We} : ∀ k, pthW ch len goal k goal seen e = [e]
  | 0 => if_pos rfl
  | _ + 1 => if_pos rfl
abbrev Fq : Type := Nat × Nat × Nat × We
def RLq (g : Nat → Nat) (goal fu : Nat) (q : Fq) : List We := if q.1 = goal then [] else (chL g q.1 q.2.1 (g 3 - q.2.1)).flatMap (kid g goal fu q.2.2.1 q.2.2.2)
def RS (g : Nat → Nat) (goal : Nat) : List Fq → List We
  | [] => []
  | q :: R => RLq g goal (6 - R.length) q ++ RS g goal R
def HS (M : Mm) : List Fq → Prop
  | [] => True
  | q :: R => M.1 102 R.length = nI q.1 ∧ M.1 103 R.length = nI q.2.1 ∧ HS M R
theorem HS_congr {M M' : Mm} : ∀ {R : List Fq}, (∀ k, k < R.length → M'.1 102 k = M.1 102 k ∧ M'.1 103 k = M.1 103 k) → HS M R → HS M' R
  | [], _, _ => trivial
  | q :: R, h, hs => by
    have h1 := h R.length (by rw [List.length_cons]; omega)
    exact ⟨h1.1.trans hs.1, h1.2.trans hs.2.1, HS_congr (fun k hk => h k (by rw [List.length_cons]; omega)) hs.2.2⟩
def VS (g : Nat → Nat) : List Fq → Prop
  | [] => True
  | q :: R => EI g q.1 q.2.2.1 q.2.2.2 ∧ q.2.1 ≤ g 3 ∧ q.2.2.2.2.1 = R.length ∧ (match R with
    | [] => q.2.2.2.2.2.1 = q.1
    | p :: _ => ∃ b, p.2.1 = b + 1 ∧ b < g 3 ∧ byd g b p.1 = some q.1 ∧ p.2.2.1.testBit q.1 = false ∧ q.2.2.1 = p.2.2.1 ||| 2 ^ q.1 ∧ q.2.2.2 = extW (lenG g) p.2.2.2 (q.1, b)) ∧ VS g R
def ms : List Fq → Nat
  | [] => 0
  | q :: R => 1 + (14 - q.2.1) * 16 ^ (9 - R.length) + ms R
theorem HS_cod {M : Mm} {g : Nat → Nat} (hN : NV g) : ∀ {R : List Fq} {q : Fq}, HS M (q :: R) → VS g (q :: R) → cod (fun k => tn (M.1 102 k)) (R.length + 1) = q.2.2.2.2.2.1 ∧ ∀ k, k ≤ R.length → M.1 102 k = nI (tn (M.1 102 k)) ∧ tn (M.1 102 k) < 8
  | [], q, hs, hv => by
    have hq : q.1 < 8 := by have := hv.1.1; have := hN.1; omega
    have e : tn (M.1 102 0) = q.1 := by
      have := hs.1
      rw [List.length_nil] at this
      rw [this, tn_nI (by omega)]
    refine ⟨?_, fun k hk => ?_⟩
    · show 8 * 0 + tn (M.1 102 0) = _
      have h4 : q.2.2.2.2.2.1 = q.1 := hv.2.2.2.1
      rw [e, h4]
      omega
    · have : k = 0 := by rw [List.length_nil] at hk; omega
      subst this
      rw [e]
      exact ⟨hs.1, hq⟩
  | p :: R, q, hs, hv => by
    have hq : q.1 < 8 := by have := hv.1.1; have := hN.1; omega
    obtain ⟨i1, i2⟩ := HS_cod hN (R := R) (q := p) hs.2.2 hv.2.2.2.2
    have e : tn (M.1 102 (R.length + 1)) = q.1 := by
      have := hs.1
      rw [List.length_cons] at this
      rw [this, tn_nI (by omega)]
    obtain ⟨b, _, _, _, _, _, hx⟩ := hv.2.2.2.1
    refine ⟨?_, fun k hk => ?_⟩
    · rw [List.length_cons]
      show 8 * cod _ (R.length + 1) + tn (M.1 102 (R.length + 1)) = _
      rw [e, i1, hx]
      rfl
    · rw [List.length_cons] at hk
      by_cases c : k = R.length + 1
      · rw [c, e]
        exact ⟨hs.1, hq⟩
      · exact i2 k (by omega)
