/-! masks of slots -/
theorem span_tb {a b i : Nat} (h : a ≤ b) : (2 ^ b - 2 ^ a).testBit i = decide (a ≤ i ∧ i < b) := by
  have e : 2 ^ b - 2 ^ a = 2 ^ a * (2 ^ (b - a) - 1) := by
    rw [Nat.mul_sub, Nat.mul_one, ← Nat.pow_add, show a + (b - a) = b by omega]
  rw [e, Nat.testBit_two_pow_mul, Nat.testBit_two_pow_sub_one]
  by_cases h1 : a ≤ i
  · by_cases h2 : i < b
    · simp [h1, h2, show i - a < b - a by omega]
    · simp [h1, h2, show ¬ i - a < b - a by omega]
  · simp [h1]
theorem one_shl {k : Nat} (hk : k < 64) : lshl (1 : Int64) (nI k) = lN (2 ^ k) := by
  rw [show (1 : Int64) = lN 1 from rfl, lshl_e 1 hk, Nat.one_mul]
theorem Fg_span_e {a b : Nat} {M : Mm} (h : a ≤ b) (hb : b < 64) : Fg_span (nI a) (nI b) M = some (lN (2 ^ b - 2 ^ a)) := by
  unfold Fg_span
  rw [one_shl hb, one_shl (by omega), lN_sub (Nat.pow_le_pow_right (by decide) h)]
theorem Nt_allSlots_e {a m : Nat} {M : Mm} (h : M.1 a 1 = nI m) (hm : m < 64) : Nt_allSlots a M = some (lN (2 ^ m - 1)) := by
  unfold Nt_allSlots
  rw [h, one_shl hm, show (1 : Int64) = lN 1 from rfl, lN_sub (Nat.one_le_two_pow)]
theorem pow_lt {k : Nat} (h : k < 64) : 2 ^ k < 2 ^ 64 := Nat.pow_lt_pow_right (by decide) h
/-- the starts of rows of w free ones -/
def rowM (f : Nat) : Nat → Nat
  | 0 => f
  | w + 1 => rowM f w &&& f / 2 ^ (w + 1)
theorem rowM_le (f : Nat) : ∀ w, rowM f w ≤ f
  | 0 => Nat.le_refl _
  | w + 1 => Nat.le_trans Nat.and_le_left (rowM_le f w)
theorem rowM_tb (f i : Nat) : ∀ w, (rowM f w).testBit i = decide (∀ k, k ≤ w → f.testBit (i + k) = true)
  | 0 => by
    unfold rowM
    cases h : f.testBit i
    · exact (decide_eq_false (fun q => by have := q 0 (Nat.le_refl 0); rw [Nat.add_zero, h] at this; cases this)).symm
    · exact (decide_eq_true (fun k hk => by rw [show k = 0 by omega]; exact h)).symm
  | w + 1 => by
    unfold rowM
    rw [Nat.testBit_and, rowM_tb f i w, Nat.testBit_div_two_pow]
    cases h : f.testBit (i + (w + 1))
    · rw [Bool.and_false]
      exact (decide_eq_false (fun q => by have := q (w + 1) (Nat.le_refl _); rw [h] at this; cases this)).symm
    · rw [Bool.and_true]
      refine decide_eq_decide.mpr ⟨fun q k hk => ?_, fun q k hk => q k (by omega)⟩
      by_cases e : k = w + 1
      · rw [e]; exact h
      · exact q k (by omega)
theorem Fg_rowStarts_e {f w n : Nat} {M : Mm} (hf : f < 2 ^ 64) (hw : 1 ≤ w) (hw2 : w ≤ 64) (hn : 64 < n) : Fg_rowStarts n (lN f) (nI w) M = some (lN (rowM f (w - 1))) := by
  have hl := loop_for (body := fun s1 : Int64 × Int32 => Fg_rowStarts_b5 (lN f) (nI w) s1.1 s1.2) (fun i => (lN (rowM f i), nI (i + 1))) (w - 1) (lN (rowM f (w - 1))) (fun i hi => by
    show Fg_rowStarts_b5 _ _ _ _ = _
    unfold Fg_rowStarts_b5
    rw [if_neg (nI_ge (by omega) (by omega)), lushr_e hf (by omega), wb_and (Nat.lt_of_le_of_lt (rowM_le f i) hf) (Nat.lt_of_le_of_lt (Nat.div_le_self _ _) hf), nI_1]
    rfl) (by
    show Fg_rowStarts_b5 _ _ _ _ = _
    unfold Fg_rowStarts_b5
    rw [if_pos (nI_le (by omega) (by omega))]) (w - 1) 0 n (by omega) (by omega)
  unfold Fg_rowStarts
  exact bnd_e hl
/-- lowest -/
theorem comp_and {j p : Nat} (h : j < 2 ^ p) : j &&& (2 ^ p - (j + 1)) = 0 := by
  apply Nat.eq_of_testBit_eq
  intro i
  rw [Nat.testBit_and, Nat.testBit_two_pow_sub_succ h, Nat.zero_testBit]
  cases j.testBit i <;> simp
theorem low_and {j p : Nat} (h : 2 * j + 1 < 2 ^ (p + 1)) : (2 * j + 1) &&& (2 ^ (p + 1) - (2 * j + 1)) = 1 := by
  have hj : j < 2 ^ p := by rw [Nat.pow_succ] at h; omega
  have e : 2 ^ (p + 1) - (2 * j + 1) = 2 * (2 ^ p - (j + 1)) + 1 := by rw [Nat.pow_succ]; omega
  rw [e]
  have h1 : ((2 * j + 1) &&& (2 * (2 ^ p - (j + 1)) + 1)) % 2 ^ 1 = ((2 * j + 1) % 2 ^ 1) &&& ((2 * (2 ^ p - (j + 1)) + 1) % 2 ^ 1) := Nat.and_mod_two_pow
  have h2 : ((2 * j + 1) &&& (2 * (2 ^ p - (j + 1)) + 1)) / 2 ^ 1 = ((2 * j + 1) / 2 ^ 1) &&& ((2 * (2 ^ p - (j + 1)) + 1) / 2 ^ 1) := Nat.and_div_two_pow
  rw [show (2 * j + 1) % 2 ^ 1 = 1 by omega, show (2 * (2 ^ p - (j + 1)) + 1) % 2 ^ 1 = 1 by omega] at h1
  rw [show (2 * j + 1) / 2 ^ 1 = j by omega, show (2 * (2 ^ p - (j + 1)) + 1) / 2 ^ 1 = 2 ^ p - (j + 1) by omega, comp_and hj] at h2
  have h3 : (1 : Nat) &&& 1 = 1 := rfl
  omega
theorem mul_and (k a b : Nat) : 2 ^ k * a &&& 2 ^ k * b = 2 ^ k * (a &&& b) := by
  apply Nat.eq_of_testBit_eq
  intro i
  rw [Nat.testBit_and, Nat.testBit_two_pow_mul, Nat.testBit_two_pow_mul, Nat.testBit_two_pow_mul, Nat.testBit_and]
  cases decide (i ≥ k) <;> simp
theorem odd_of : ∀ (m : Nat), 0 < m → ∃ k j, m = 2 ^ k * (2 * j + 1) := by
  intro m
  induction m using Nat.strongRecOn with
  | _ m ih =>
    intro hm
    by_cases h : m % 2 = 1
    · exact ⟨0, m / 2, by omega⟩
    · obtain ⟨k, j, e⟩ := ih (m / 2) (by omega) (by omega)
      refine ⟨k + 1, j, ?_⟩
      rw [Nat.pow_succ, show 2 ^ k * 2 * (2 * j + 1) = 2 * (2 ^ k * (2 * j + 1)) by rw [Nat.mul_comm (2 ^ k) 2, Nat.mul_assoc], ← e]
      omega
theorem neg_lN {m : Nat} (h : m ≤ 2 ^ 64) : -(lN m) = lN (2 ^ 64 - m) := by
  have h1 : lN m + lN (2 ^ 64 - m) = 0 := by rw [lN_add, show m + (2 ^ 64 - m) = 2 ^ 64 by omega]; rfl
  have h2 : -(lN m) + (lN m + lN (2 ^ 64 - m)) = -(lN m) := by rw [h1]; exact Int64.add_zero _
  rw [← Int64.add_assoc, Int64.add_comm (-(lN m)), Int64.add_right_neg, Int64.zero_add] at h2
  exact h2.symm
theorem pc_ones : ∀ k, k < 65 → pcN (2 ^ k - 1) = k := by decide +kernel
theorem Fg_lowest_e {k j : Nat} {M : Mm} (h : 2 ^ k * (2 * j + 1) < 2 ^ 64) : Fg_lowest (lN (2 ^ k * (2 * j + 1))) M = some (nI k) := by
  have hk : k < 64 := by
    rcases Nat.lt_or_ge k 64 with q | q
    · exact q
    · have h1 : 2 ^ 64 ≤ 2 ^ k := Nat.pow_le_pow_right (by decide) q
      have h2 : 2 ^ k * 1 ≤ 2 ^ k * (2 * j + 1) := Nat.mul_le_mul_left _ (by omega)
      omega
  obtain ⟨p, hp⟩ : ∃ p, 64 = k + (p + 1) := ⟨63 - k, by omega⟩
  have e64 : 2 ^ 64 = 2 ^ k * 2 ^ (p + 1) := by rw [← Nat.pow_add, ← hp]
  have hj : 2 * j + 1 < 2 ^ (p + 1) := by
    rw [e64] at h
    exact Nat.lt_of_mul_lt_mul_left h
  have e : 2 ^ 64 - 2 ^ k * (2 * j + 1) = 2 ^ k * (2 ^ (p + 1) - (2 * j + 1)) := by rw [e64, Nat.mul_sub]
  have hpos : 0 < 2 ^ k * (2 * j + 1) := Nat.mul_pos (Nat.two_pow_pos k) (by omega)
  unfold Fg_lowest
  rw [neg_lN (Nat.le_of_lt h), wb_and h (by omega), e, mul_and, low_and hj, Nat.mul_one, show (1 : Int64) = lN 1 from rfl, lN_sub Nat.one_le_two_pow, Jl_bitCount_e (Nat.lt_of_le_of_lt (Nat.sub_le _ _) (pow_lt hk)), pc_ones k (by omega), bnd_some]
