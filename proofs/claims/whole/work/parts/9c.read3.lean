/-! reading: the model's numbers -/
section
variable {M : Mm} {b : Nat → Nat} {L p s n : Nat}
theorem word_m (hp : p ≤ L) (hL : L ≤ 200) (h6 : M.1 94 6 = nI L) (h5 : M.1 94 5 = nI p) (hb : ∀ i, i < 240 → M.1 97 i &&& nI 255 = nI (b i)) (hB : ∀ i, b i < 256) (hn : 300 < n) : Fm_readsWord n M = some (up2 (up2 M.1 94 10 (nI p)) 94 5 (nI (weF b L p)), up2 M.2 94 12 (if weF b L p - p ≤ 8 then lN (cdF b p (weF b L p - p)) else (-1 : Int64))) := by
  have hle := we_le (b := b) hp
  have hl := word_m0 (M := (up2 M.1 94 10 (nI p), up2 M.2 94 12 (lN 0))) (n := n) hp hL (by show up2 M.1 94 10 (nI p) 94 6 = _; rw [up2_no (by omega)]; exact h6) (by show up2 M.1 94 10 (nI p) 94 5 = _; rw [up2_no (by omega)]; exact h5) (by show up2 M.1 94 10 (nI p) 94 10 = _; exact up2_at) (by show up2 M.2 94 12 (lN 0) 94 12 = _; exact up2_at) (fun i hi => by show up2 M.1 94 10 (nI p) 97 i &&& nI 255 = _; rw [up2_no (by omega)]; exact hb i hi) hB hn
  dsimp only at hl
  rw [up2_2] at hl
  unfold Fm_readsWord
  rw [h5]
  refine (bnd_e hl).trans ?_
  have e1 : up2 (up2 M.1 94 10 (nI p)) 94 5 (nI (weF b L p)) 94 5 = nI (weF b L p) := up2_at
  have e2 : up2 (up2 M.1 94 10 (nI p)) 94 5 (nI (weF b L p)) 94 10 = nI p := by rw [up2_no (by omega), up2_at]
  dsimp only
  by_cases c : weF b L p - p ≤ 8
  · rw [if_pos c]
    exact if_pos (by rw [e1, e2, nI_subL hle.1]; simp (disch := omega) only [l_0, l_1, l_2, l_3, l_4, l_5, l_6, l_7, l_8, l_9, l_10, l_11, l_12, l_13, l_14, l_16, l_20, l_21, l_23, l_24, l_30, l_32, l_40, l_41, l_44, l_48, l_57, l_59, l_60, l_63, l_64, l_80, l_84, l_96, l_97, l_99, l_120, l_122, l_127, l_200, l_240, l_255, l_840, l_999, l_1000, l_1001, l_2400, l_3064, l_9999, l_10000, l_13849, l_16383, l_25173, l_65535, l_65536, l_99999, l_1000000000, neg_nI, pk_mul, nI_add, nI_subL, tn_nI, inb_t, grd_true, bnd_some, elS_l, elS_r, nI_ltI, nI_leI, nI_inj, fa_and, fa_or, m1_eq, eq_m1, m1_lt, m1_le, lt_m1, le_m1, m1_lt0, up2_at, up2_no, ite_true, ite_false, if_true, if_false, Bool.false_eq_true, reduceIte, reduceCtorEq, not_true_eq_false, not_false_eq_true, eq_self, decide_true, decide_false, le_tt, le_ff, lt_tt, lt_ff, eq_ff, and_true, true_and, and_false, false_and, or_true, true_or, or_false, false_or, ne_eq, decide_eq_true_eq, decide_eq_false_iff_not, Bool.not_true, Bool.not_false, Bool.and_true, Bool.true_and, Bool.and_false, Bool.false_and, gs_at, gs_no, oI_n, oI_s])
  · rw [if_neg c]
    refine (if_neg (by rw [e1, e2, nI_subL hle.1]; simp (disch := omega) only [l_0, l_1, l_2, l_3, l_4, l_5, l_6, l_7, l_8, l_9, l_10, l_11, l_12, l_13, l_14, l_16, l_20, l_21, l_23, l_24, l_30, l_32, l_40, l_41, l_44, l_48, l_57, l_59, l_60, l_63, l_64, l_80, l_84, l_96, l_97, l_99, l_120, l_122, l_127, l_200, l_240, l_255, l_840, l_999, l_1000, l_1001, l_2400, l_3064, l_9999, l_10000, l_13849, l_16383, l_25173, l_65535, l_65536, l_99999, l_1000000000, neg_nI, pk_mul, nI_add, nI_subL, tn_nI, inb_t, grd_true, bnd_some, elS_l, elS_r, nI_ltI, nI_leI, nI_inj, fa_and, fa_or, m1_eq, eq_m1, m1_lt, m1_le, lt_m1, le_m1, m1_lt0, up2_at, up2_no, ite_true, ite_false, if_true, if_false, Bool.false_eq_true, reduceIte, reduceCtorEq, not_true_eq_false, not_false_eq_true, eq_self, decide_true, decide_false, le_tt, le_ff, lt_tt, lt_ff, eq_ff, and_true, true_and, and_false, false_and, or_true, true_or, or_false, false_or, ne_eq, decide_eq_true_eq, decide_eq_false_iff_not, Bool.not_true, Bool.not_false, Bool.and_true, Bool.true_and, Bool.and_false, Bool.false_and, gs_at, gs_no, oI_n, oI_s])).trans ?_
    rw [up2_2]
/-- what a number ends with in the model -/
def nuN (M : Mm) (b : Nat → Nat) (s e : Nat) : Mm := (up2 (up2 M.1 94 8 (nI (vlF b s (e - s)))) 94 5 (nI e), M.2)
theorem nu_at {k : Nat} (h6 : M.1 94 6 = nI L) (h9 : M.1 94 9 = nI s) (hb : ∀ i, i < 240 → M.1 97 i &&& nI 255 = nI (b i)) : (nuN M b s k).1 94 5 = nI k ∧ (nuN M b s k).1 94 8 = nI (vlF b s (k - s)) ∧ (nuN M b s k).1 94 6 = nI L ∧ (nuN M b s k).1 94 9 = nI s ∧ ∀ i, i < 240 → (nuN M b s k).1 97 i &&& nI 255 = nI (b i) := by
  refine ⟨?_, ?_, ?_, ?_, fun i hi => ?_⟩
  · show up2 (up2 M.1 94 8 (nI (vlF b s (k - s)))) 94 5 (nI k) 94 5 = _
    exact up2_at
  · show up2 (up2 M.1 94 8 (nI (vlF b s (k - s)))) 94 5 (nI k) 94 8 = _
    rw [up2_no (by omega), up2_at]
  · show up2 (up2 M.1 94 8 (nI (vlF b s (k - s)))) 94 5 (nI k) 94 6 = _
    rw [up2_no (by omega), up2_no (by omega)]; exact h6
  · show up2 (up2 M.1 94 8 (nI (vlF b s (k - s)))) 94 5 (nI k) 94 9 = _
    rw [up2_no (by omega), up2_no (by omega)]; exact h9
  · show up2 (up2 M.1 94 8 (nI (vlF b s (k - s)))) 94 5 (nI k) 97 i &&& nI 255 = _
    rw [up2_no (by omega), up2_no (by omega)]; exact hb i hi
theorem dig_e {x : Nat} (hx : x < 256) : Fm_isDigit (nI x) M = some (dgt x) := by
  unfold Fm_isDigit dgt
  rw [l_48, l_57, Fm_in_x (by decide) (by decide), rg_n (by omega), bnd_some]
theorem dig_n : Fm_isDigit (ng 1) M = some false := by
  unfold Fm_isDigit
  rw [l_48, l_57, Fm_in_x (by decide) (by decide), bnd_some]
  rfl
theorem num_m (hp : s ≤ L) (hL : L ≤ 200) (h6 : M.1 94 6 = nI L) (h5 : M.1 94 5 = nI s) (h8 : M.1 94 8 = nI 0) (h9 : M.1 94 9 = nI s) (hb : ∀ i, i < 240 → M.1 97 i &&& nI 255 = nI (b i)) (hB : ∀ i, b i < 256) (hn : 300 < n) : loop (fun s1 : Mm => Fm_readsNumber_b44 s1) n M = some (if neF b L s < L ∧ dgt (b (neF b L s)) = true then .inr (false, (up2 (nuN M b s (neF b L s)).1 94 7 (((-1000 : Int32) * (2 : Int32)) - nI (neF b L s)), (nuN M b s (neF b L s)).2)) else .inl (nuN M b s (neF b L s))) := by
  have hlp : ∃ r, loop (fun s1 : Mm => Fm_readsNumber_b44 s1) n M = some r ∧ r = (if neF b L s < L ∧ dgt (b (neF b L s)) = true then .inr (false, (up2 (nuN M b s (neF b L s)).1 94 7 (((-1000 : Int32) * (2 : Int32)) - nI (neF b L s)), (nuN M b s (neF b L s)).2)) else .inl (nuN M b s (neF b L s))) := by
    have hle := ne_le (b := b) hp
    refine loop_I0 (fun k (st : Mm) => k ≤ neF b L s - s ∧ st = nuN M b s (s + k)) _ (neF b L s - s) ⟨by omega, ?_⟩ (by omega) ?_ ?_
    · unfold nuN
      rw [Nat.add_zero, Nat.sub_self]
      show M = (up2 (up2 M.1 94 8 (nI 0)) 94 5 (nI s), M.2)
      rw [up2_s h8, up2_s h5]
    · rintro k st hk ⟨_, rfl⟩
      left
      obtain ⟨w1, w2⟩ := ne_in (b := b) (L := L) (s := s) (i := s + k) (by omega) (by omega)
      have hv := vl_lt (b := b) (s := s) k (fun i h1 h2 => (ne_in (L := L) h1 (by omega)).2)
      have h10 : 10 ^ k ≤ 10 ^ 5 := Nat.pow_le_pow_right (by decide) (by omega)
      have hd := of_decide_eq_true w2
      obtain ⟨n5, n8, n6, n9, nb⟩ := nu_at (k := s + k) h6 h9 hb
      have hh := here_e hL (by omega) n6 n5 nb
      rw [if_pos w1] at hh
      have hdg := dig_e (M := nuN M b s (s + k)) (hB (s + k))
      rw [w2] at hdg
      have hks : s + k - s = k := by omega
      rw [hks] at n8
      refine ⟨nuN M b s (s + (k + 1)), ?_, by omega, rfl⟩
      show Fm_readsNumber_b44 (nuN M b s (s + k)) = _
      unfold Fm_readsNumber_b44
      rw [hh, bnd_some, hdg, bnd_some, if_pos rfl, n5, n9, l_5, nI_add, if_neg (by simp (disch := omega) only [l_0, l_1, l_2, l_3, l_4, l_5, l_6, l_7, l_8, l_9, l_10, l_11, l_12, l_13, l_14, l_16, l_20, l_21, l_23, l_24, l_30, l_32, l_40, l_41, l_44, l_48, l_57, l_59, l_60, l_63, l_64, l_80, l_84, l_96, l_97, l_99, l_120, l_122, l_127, l_200, l_240, l_255, l_840, l_999, l_1000, l_1001, l_2400, l_3064, l_9999, l_10000, l_13849, l_16383, l_25173, l_65535, l_65536, l_99999, l_1000000000, neg_nI, pk_mul, nI_add, nI_subL, tn_nI, inb_t, grd_true, bnd_some, elS_l, elS_r, nI_ltI, nI_leI, nI_inj, fa_and, fa_or, m1_eq, eq_m1, m1_lt, m1_le, lt_m1, le_m1, m1_lt0, up2_at, up2_no, ite_true, ite_false, if_true, if_false, Bool.false_eq_true, reduceIte, reduceCtorEq, not_true_eq_false, not_false_eq_true, eq_self, decide_true, decide_false, le_tt, le_ff, lt_tt, lt_ff, eq_ff, and_true, true_and, and_false, false_and, or_true, true_or, or_false, false_or, ne_eq, decide_eq_true_eq, decide_eq_false_iff_not, Bool.not_true, Bool.not_false, Bool.and_true, Bool.true_and, Bool.and_false, Bool.false_and, gs_at, gs_no, oI_n, oI_s]), bnd_some, n8]
      have hval : nI 10 * nI (vlF b s k) + nI (b (s + k)) - nI 48 = nI (vlF b s (k + 1)) := by
        rw [vl_s]
        generalize vlF b s k = v at hv ⊢
        simp (disch := omega) only [l_0, l_1, l_2, l_3, l_4, l_5, l_6, l_7, l_8, l_9, l_10, l_11, l_12, l_13, l_14, l_16, l_20, l_21, l_23, l_24, l_30, l_32, l_40, l_41, l_44, l_48, l_57, l_59, l_60, l_63, l_64, l_80, l_84, l_96, l_97, l_99, l_120, l_122, l_127, l_200, l_240, l_255, l_840, l_999, l_1000, l_1001, l_2400, l_3064, l_9999, l_10000, l_13849, l_16383, l_25173, l_65535, l_65536, l_99999, l_1000000000, neg_nI, pk_mul, nI_add, nI_subL, tn_nI, inb_t, grd_true, bnd_some, elS_l, elS_r, nI_ltI, nI_leI, nI_inj, fa_and, fa_or, m1_eq, eq_m1, m1_lt, m1_le, lt_m1, le_m1, m1_lt0, up2_at, up2_no, ite_true, ite_false, if_true, if_false, Bool.false_eq_true, reduceIte, reduceCtorEq, not_true_eq_false, not_false_eq_true, eq_self, decide_true, decide_false, le_tt, le_ff, lt_tt, lt_ff, eq_ff, and_true, true_and, and_false, false_and, or_true, true_or, or_false, false_or, ne_eq, decide_eq_true_eq, decide_eq_false_iff_not, Bool.not_true, Bool.not_false, Bool.and_true, Bool.true_and, Bool.and_false, Bool.false_and, gs_at, gs_no, oI_n, oI_s]
        congr 2
        omega
      rw [l_10, l_48, hval, l_1]
      unfold nuN
      dsimp only
      rw [show s + (k + 1) - s = k + 1 by omega, hks]
      have u1 : up2 (up2 (up2 (up2 M.1 94 8 (nI (vlF b s k))) 94 5 (nI (s + k))) 94 8 (nI (vlF b s (k + 1)))) 94 5 (nI (s + (k + 1))) = up2 (up2 M.1 94 8 (nI (vlF b s (k + 1)))) 94 5 (nI (s + (k + 1))) := by
        funext x y
        by_cases q1 : x = 94 ∧ y = 5
        · rw [q1.1, q1.2, up2_at, up2_at]
        · by_cases q2 : x = 94 ∧ y = 8
          · rw [q2.1, q2.2, up2_no (by omega), up2_at, up2_no (by omega), up2_at]
          · rw [up2_no (by omega), up2_no (by omega), up2_no (by omega), up2_no (by omega), up2_no (by omega), up2_no (by omega)]
      have u2 : up2 (up2 (up2 M.1 94 8 (nI (vlF b s k))) 94 5 (nI (s + k))) 94 8 (nI (vlF b s (k + 1))) 94 5 = nI (s + k) := by rw [up2_no (by omega), up2_at]
      rw [u2, nI_add, Nat.add_assoc, u1]
    · rintro st ⟨_, rfl⟩
      have hes : s + (neF b L s - s) = neF b L s := by omega
      rw [hes]
      obtain ⟨n5, n8, n6, n9, nb⟩ := nu_at (k := neF b L s) h6 h9 hb
      have hh := here_e hL hle.2.1 n6 n5 nb
      refine ⟨_, ?_, rfl⟩
      show Fm_readsNumber_b44 (nuN M b s (neF b L s)) = _
      unfold Fm_readsNumber_b44
      by_cases c : neF b L s < L
      · rw [if_pos c] at hh
        have hdg := dig_e (M := nuN M b s (neF b L s)) (hB (neF b L s))
        rw [hh, bnd_some, hdg, bnd_some]
        by_cases d1 : dgt (b (neF b L s)) = true
        · have h5' : neF b L s = s + 5 := by
            have : nsP b s (neF b L s) = true := by
              cases hx : fstP (nsP b s) s (L - s) with
              | none => unfold neF at c; rw [hx] at c; exact absurd c (Nat.lt_irrefl _)
              | some e =>
                have he : neF b L s = e := by unfold neF; rw [hx]; rfl
                rw [he]; exact (fstP_some hx).2.2.1
            unfold nsP at this
            rw [d1, Bool.not_true, Bool.false_or, decide_eq_true_eq] at this
            exact this
          rw [if_pos d1, if_pos (show neF b L s < L ∧ dgt (b (neF b L s)) = true from ⟨c, d1⟩), n5, n9, l_5, nI_add, if_pos (show nI (neF b L s) = nI (s + 5) by rw [h5'])]
          rfl
        · rw [if_neg d1, if_neg (fun q => d1 q.2)]
      · rw [if_neg c] at hh
        rw [hh, bnd_some, dig_n, bnd_some, if_neg (by decide), if_neg (fun q => c q.1)]
  obtain ⟨r, r1, r2⟩ := hlp
  rw [r1, r2]
end
