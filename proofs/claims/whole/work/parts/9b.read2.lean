/-! reading: the model's words and numbers -/
def cdF (b : Nat → Nat) (p : Nat) : Nat → Nat
  | 0 => 0
  | k + 1 => if k < 8 then 32 * cdF b p k + b (p + k) - 96 else cdF b p k
theorem cd_s {b : Nat → Nat} {p k : Nat} : cdF b p (k + 1) = if k < 8 then 32 * cdF b p k + b (p + k) - 96 else cdF b p k := rfl
set_option maxRecDepth 100000 in
theorem toL : ∀ x : Fin 256, (nI x.val).toInt64 = lN x.val := by decide
theorem cd_ar {c x : Nat} (h1 : 97 ≤ x) (h2 : x < 256) : (((32 : Int64) * lN c + (nI x).toInt64) - (97 : Int64)) + (1 : Int64) = lN (32 * c + x - 96) := by
  have e1 : (nI x).toInt64 = lN x := toL ⟨x, h2⟩
  have e2 : (32 : Int64) * lN c + lN x = lN (32 * c + x) := by
    show Int64.ofNat 32 * Int64.ofNat c + Int64.ofNat x = Int64.ofNat (32 * c + x)
    rw [Int64.ofNat_add, Int64.ofNat_mul]
  have e3 : lN (32 * c + x) = lN (32 * c + x - 97) + (97 : Int64) := by
    have : 32 * c + x = (32 * c + x - 97) + 97 := by omega
    show Int64.ofNat (32 * c + x) = Int64.ofNat (32 * c + x - 97) + Int64.ofNat 97
    rw [← Int64.ofNat_add, ← this]
  have e4 : lN (32 * c + x - 97) + (1 : Int64) = lN (32 * c + x - 96) := by
    show Int64.ofNat (32 * c + x - 97) + Int64.ofNat 1 = Int64.ofNat (32 * c + x - 96)
    rw [← Int64.ofNat_add]
    congr 1
    omega
  rw [e1, e2, e3, Int64.add_sub_cancel, e4]
section
variable {M : Mm} {b : Nat → Nat} {L p s n : Nat}
theorem here_e (hL : L ≤ 200) (hp : p ≤ L) (h6 : M.1 94 6 = nI L) (h5 : M.1 94 5 = nI p) (hb : ∀ i, i < 240 → M.1 97 i &&& nI 255 = nI (b i)) : Fm_here M = some (if p < L then nI (b p) else ng 1) := by
  unfold Fm_here
  by_cases c : p < L
  · have hb' := hb p (by omega)
    rw [if_pos c]
    simp (disch := omega) only [l_0, l_1, l_2, l_3, l_4, l_5, l_6, l_7, l_8, l_9, l_10, l_11, l_12, l_13, l_14, l_16, l_20, l_21, l_23, l_24, l_30, l_32, l_40, l_41, l_44, l_48, l_57, l_59, l_60, l_63, l_64, l_80, l_84, l_96, l_97, l_99, l_120, l_122, l_127, l_200, l_240, l_255, l_840, l_999, l_1000, l_1001, l_2400, l_3064, l_9999, l_10000, l_13849, l_16383, l_25173, l_65535, l_65536, l_99999, l_1000000000, neg_nI, pk_mul, nI_add, nI_subL, tn_nI, inb_t, grd_true, bnd_some, elS_l, elS_r, nI_ltI, nI_leI, nI_inj, fa_and, fa_or, m1_eq, eq_m1, m1_lt, m1_le, lt_m1, le_m1, m1_lt0, up2_at, up2_no, ite_true, ite_false, if_true, if_false, Bool.false_eq_true, reduceIte, reduceCtorEq, not_true_eq_false, not_false_eq_true, eq_self, decide_true, decide_false, le_tt, le_ff, lt_tt, lt_ff, eq_ff, and_true, true_and, and_false, false_and, or_true, true_or, or_false, false_or, ne_eq, decide_eq_true_eq, decide_eq_false_iff_not, Bool.not_true, Bool.not_false, Bool.and_true, Bool.true_and, Bool.and_false, Bool.false_and, gs_at, gs_no, oI_n, oI_s, h6, h5, hb']
  · rw [if_neg c]
    have : p = L := by omega
    rw [this] at h5
    simp (disch := omega) only [l_0, l_1, l_2, l_3, l_4, l_5, l_6, l_7, l_8, l_9, l_10, l_11, l_12, l_13, l_14, l_16, l_20, l_21, l_23, l_24, l_30, l_32, l_40, l_41, l_44, l_48, l_57, l_59, l_60, l_63, l_64, l_80, l_84, l_96, l_97, l_99, l_120, l_122, l_127, l_200, l_240, l_255, l_840, l_999, l_1000, l_1001, l_2400, l_3064, l_9999, l_10000, l_13849, l_16383, l_25173, l_65535, l_65536, l_99999, l_1000000000, neg_nI, pk_mul, nI_add, nI_subL, tn_nI, inb_t, grd_true, bnd_some, elS_l, elS_r, nI_ltI, nI_leI, nI_inj, fa_and, fa_or, m1_eq, eq_m1, m1_lt, m1_le, lt_m1, le_m1, m1_lt0, up2_at, up2_no, ite_true, ite_false, if_true, if_false, Bool.false_eq_true, reduceIte, reduceCtorEq, not_true_eq_false, not_false_eq_true, eq_self, decide_true, decide_false, le_tt, le_ff, lt_tt, lt_ff, eq_ff, and_true, true_and, and_false, false_and, or_true, true_or, or_false, false_or, ne_eq, decide_eq_true_eq, decide_eq_false_iff_not, Bool.not_true, Bool.not_false, Bool.and_true, Bool.true_and, Bool.and_false, Bool.false_and, gs_at, gs_no, oI_n, oI_s, h6, h5]
theorem word_m0 (hp : p ≤ L) (hL : L ≤ 200) (h6 : M.1 94 6 = nI L) (h5 : M.1 94 5 = nI p) (h10 : M.1 94 10 = nI p) (h12 : M.2 94 12 = lN 0) (hb : ∀ i, i < 240 → M.1 97 i &&& nI 255 = nI (b i)) (hB : ∀ i, b i < 256) (hn : 300 < n) : loop (fun s1 : Mm => Fm_readsWord_b13 s1) n M = some (up2 M.1 94 5 (nI (weF b L p)), up2 M.2 94 12 (lN (cdF b p (weF b L p - p)))) := by
  have hlp : ∃ r, loop (fun s1 : Mm => Fm_readsWord_b13 s1) n M = some r ∧ r = ((up2 M.1 94 5 (nI (weF b L p)), up2 M.2 94 12 (lN (cdF b p (weF b L p - p)))) : Mm) := by
    have hle := we_le (b := b) hp
    refine loop_I0 (fun k (st : Mm) => k ≤ weF b L p - p ∧ st = (up2 M.1 94 5 (nI (p + k)), up2 M.2 94 12 (lN (cdF b p k)))) _ (weF b L p - p) ⟨by omega, ?_⟩ (by omega) ?_ ?_
    · rw [Nat.add_zero, up2_s h5]
      show M = (M.1, up2 M.2 94 12 (lN 0))
      rw [up2_s h12]
    · rintro k st hk ⟨_, rfl⟩
      left
      obtain ⟨w1, w2⟩ := we_in (b := b) (L := L) (p := p) (i := p + k) (by omega) (by omega)
      have hd := of_decide_eq_true w2
      obtain ⟨N, hN⟩ : ∃ N : Mm, N = (up2 M.1 94 5 (nI (p + k)), up2 M.2 94 12 (lN (cdF b p k))) := ⟨_, rfl⟩
      have n5 : N.1 94 5 = nI (p + k) := by rw [hN]; show up2 M.1 94 5 (nI (p + k)) 94 5 = _; exact up2_at
      have n6 : N.1 94 6 = nI L := by rw [hN]; show up2 M.1 94 5 (nI (p + k)) 94 6 = _; rw [up2_no (by omega)]; exact h6
      have n10 : N.1 94 10 = nI p := by rw [hN]; show up2 M.1 94 5 (nI (p + k)) 94 10 = _; rw [up2_no (by omega)]; exact h10
      have n12 : N.2 94 12 = lN (cdF b p k) := by rw [hN]; show up2 M.2 94 12 (lN (cdF b p k)) 94 12 = _; exact up2_at
      have nb : ∀ i, i < 240 → N.1 97 i &&& nI 255 = nI (b i) := fun i hi => by
        rw [hN]
        show up2 M.1 94 5 (nI (p + k)) 97 i &&& nI 255 = _
        rw [up2_no (by omega)]; exact hb i hi
      have hh := here_e hL (by omega) n6 n5 nb
      rw [if_pos w1] at hh
      have hin : Fm_in (nI (b (p + k))) (nI 97) (nI 122) N = some true := by
        rw [Fm_in_x (by decide) (by decide), rg_n (by omega), decide_eq_true hd]
      refine ⟨(up2 M.1 94 5 (nI (p + (k + 1))), up2 M.2 94 12 (lN (cdF b p (k + 1)))), ?_, by omega, rfl⟩
      rw [← hN]
      show Fm_readsWord_b13 N = _
      unfold Fm_readsWord_b13 Fm_readsWord_j65
      rw [hh, bnd_some, l_97, l_122, hin, bnd_some, if_pos rfl, n5, n10, nI_subL (by omega), show p + k - p = k by omega]
      rw [cd_s]
      by_cases c : k < 8
      · have hB' := hB (p + k)
        rw [if_pos c, if_neg (by simp (disch := omega) only [l_0, l_1, l_2, l_3, l_4, l_5, l_6, l_7, l_8, l_9, l_10, l_11, l_12, l_13, l_14, l_16, l_20, l_21, l_23, l_24, l_30, l_32, l_40, l_41, l_44, l_48, l_57, l_59, l_60, l_63, l_64, l_80, l_84, l_96, l_97, l_99, l_120, l_122, l_127, l_200, l_240, l_255, l_840, l_999, l_1000, l_1001, l_2400, l_3064, l_9999, l_10000, l_13849, l_16383, l_25173, l_65535, l_65536, l_99999, l_1000000000, neg_nI, pk_mul, nI_add, nI_subL, tn_nI, inb_t, grd_true, bnd_some, elS_l, elS_r, nI_ltI, nI_leI, nI_inj, fa_and, fa_or, m1_eq, eq_m1, m1_lt, m1_le, lt_m1, le_m1, m1_lt0, up2_at, up2_no, ite_true, ite_false, if_true, if_false, Bool.false_eq_true, reduceIte, reduceCtorEq, not_true_eq_false, not_false_eq_true, eq_self, decide_true, decide_false, le_tt, le_ff, lt_tt, lt_ff, eq_ff, and_true, true_and, and_false, false_and, or_true, true_or, or_false, false_or, ne_eq, decide_eq_true_eq, decide_eq_false_iff_not, Bool.not_true, Bool.not_false, Bool.and_true, Bool.true_and, Bool.and_false, Bool.false_and, gs_at, gs_no, oI_n, oI_s]), bnd_some]
        show some (Sum.inl (up2 N.1 94 5 (N.1 94 5 + (1 : Int32)), up2 N.2 94 12 ((((32 : Int64) * N.2 94 12 + (nI (b (p + k))).toInt64) - (97 : Int64)) + (1 : Int64)))) = _
        rw [n5, n12, cd_ar hd.1 hB', l_1, nI_add, hN]
        show some (Sum.inl (up2 (up2 M.1 94 5 (nI (p + k))) 94 5 (nI (p + k + 1)), up2 (up2 M.2 94 12 (lN (cdF b p k))) 94 12 _)) = _
        rw [up2_2, up2_2, Nat.add_assoc]
      · rw [if_neg c, if_pos (by simp (disch := omega) only [l_0, l_1, l_2, l_3, l_4, l_5, l_6, l_7, l_8, l_9, l_10, l_11, l_12, l_13, l_14, l_16, l_20, l_21, l_23, l_24, l_30, l_32, l_40, l_41, l_44, l_48, l_57, l_59, l_60, l_63, l_64, l_80, l_84, l_96, l_97, l_99, l_120, l_122, l_127, l_200, l_240, l_255, l_840, l_999, l_1000, l_1001, l_2400, l_3064, l_9999, l_10000, l_13849, l_16383, l_25173, l_65535, l_65536, l_99999, l_1000000000, neg_nI, pk_mul, nI_add, nI_subL, tn_nI, inb_t, grd_true, bnd_some, elS_l, elS_r, nI_ltI, nI_leI, nI_inj, fa_and, fa_or, m1_eq, eq_m1, m1_lt, m1_le, lt_m1, le_m1, m1_lt0, up2_at, up2_no, ite_true, ite_false, if_true, if_false, Bool.false_eq_true, reduceIte, reduceCtorEq, not_true_eq_false, not_false_eq_true, eq_self, decide_true, decide_false, le_tt, le_ff, lt_tt, lt_ff, eq_ff, and_true, true_and, and_false, false_and, or_true, true_or, or_false, false_or, ne_eq, decide_eq_true_eq, decide_eq_false_iff_not, Bool.not_true, Bool.not_false, Bool.and_true, Bool.true_and, Bool.and_false, Bool.false_and, gs_at, gs_no, oI_n, oI_s]), l_1, nI_add, hN]
        show some (Sum.inl (up2 (up2 M.1 94 5 (nI (p + k))) 94 5 (nI (p + k + 1)), up2 M.2 94 12 (lN (cdF b p k)))) = _
        rw [up2_2, Nat.add_assoc]
    · rintro st ⟨_, rfl⟩
      have hes : p + (weF b L p - p) = weF b L p := by omega
      rw [hes]
      refine ⟨_, ?_, rfl⟩
      obtain ⟨N, hN⟩ : ∃ N : Mm, N = (up2 M.1 94 5 (nI (weF b L p)), up2 M.2 94 12 (lN (cdF b p (weF b L p - p)))) := ⟨_, rfl⟩
      have n5 : N.1 94 5 = nI (weF b L p) := by rw [hN]; show up2 M.1 94 5 (nI (weF b L p)) 94 5 = _; exact up2_at
      have n6 : N.1 94 6 = nI L := by rw [hN]; show up2 M.1 94 5 (nI (weF b L p)) 94 6 = _; rw [up2_no (by omega)]; exact h6
      have nb : ∀ i, i < 240 → N.1 97 i &&& nI 255 = nI (b i) := fun i hi => by
        rw [hN]
        show up2 M.1 94 5 (nI (weF b L p)) 97 i &&& nI 255 = _
        rw [up2_no (by omega)]; exact hb i hi
      have hh := here_e hL (by omega) n6 n5 nb
      rw [← hN]
      show Fm_readsWord_b13 N = _
      have hB' := hB (weF b L p)
      have hin : Fm_in (if weF b L p < L then nI (b (weF b L p)) else ng 1) (nI 97) (nI 122) N = some false := by
        rw [Fm_in_x (by decide) (by decide)]
        by_cases c : weF b L p < L
        · rw [if_pos c, rg_n (by omega)]
          have : ltr (b (weF b L p)) = false := by
            cases hx : fstP (fun i => !ltr (b i)) p (L - p) with
            | none => unfold weF at c; rw [hx] at c; exact absurd c (Nat.lt_irrefl _)
            | some e =>
              have he : weF b L p = e := by unfold weF; rw [hx]; rfl
              have := (fstP_some hx).2.2.1
              rw [he]
              rw [Bool.not_eq_true'] at this
              exact this
          unfold ltr at this
          rw [this]
        · rw [if_neg c]
          rfl
      unfold Fm_readsWord_b13
      rw [hh, bnd_some, l_97, l_122, hin, bnd_some, if_neg (by decide)]
  obtain ⟨r, r1, r2⟩ := hlp
  rw [r1, r2]
end
