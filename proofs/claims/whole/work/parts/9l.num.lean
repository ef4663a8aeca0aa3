/-! one number, both readers -/
def vlN (b : Nat → Nat) (L p : Nat) : Nat := vlF b (p + 1) (neF b L (p + 1) - (p + 1))
def enN (b : Nat → Nat) (L p : Nat) : Nat := neF b L (p + 1)
/-- the class behind a number read -/
def nmC (w k : Nat) (x : Int32) (i v e p : Nat) (C : Mm) : Option Mm :=
  if w = 0 then bnd (Rd_stepFault x (nI i) (nI v) (up2 (up2 C.1 3 7 (nI e)) 11 (4 * k + i) (nI v), C.2)) (fun z => Rd_readNumber_j216 (nI (p + 1)) z (up2 (up2 C.1 3 7 (nI e)) 11 (4 * k + i) (nI v), C.2))
  else bnd (Rd_gridFault x (nI i) (nI v) (up2 (up2 C.1 3 7 (nI e)) 11 (4 * k + i) (nI v), C.2)) (fun z => Rd_readNumber_j216 (nI (p + 1)) z.1 z.2)
section
variable {C N : Mm} {b : Nat → Nat} {L k k' p w n : Nat}
theorem nf_b {f q : Nat} (h : numF b L p = some (f, q)) (hp : p ≤ L) : 0 < f ∧ f ≤ 6 ∧ q ≤ L := by
  unfold numF at h
  by_cases c1 : p < L ∧ b p = 32
  · rw [if_pos c1] at h
    have hle := ne_le (b := b) (L := L) (s := p + 1) (by omega)
    by_cases c2 : neF b L (p + 1) = p + 1
    · rw [if_pos c2] at h
      cases h
      omega
    · rw [if_neg c2] at h
      by_cases c3 : neF b L (p + 1) < L ∧ dgt (b (neF b L (p + 1))) = true
      · rw [if_pos c3] at h
        cases h
        omega
      · rw [if_neg c3] at h; cases h
  · rw [if_neg c1] at h
    cases h
    omega
theorem nf_n (h : numF b L p = none) : p + 1 < enN b L p ∧ enN b L p ≤ L ∧ vlN b L p < 100000 := by
  have c1 : p < L ∧ b p = 32 := by
    unfold numF at h
    by_cases c : p < L ∧ b p = 32
    · exact c
    · rw [if_neg c] at h; cases h
  have hle := ne_le (b := b) (L := L) (s := p + 1) (by omega)
  have c2 : neF b L (p + 1) ≠ p + 1 := fun q => by
    unfold numF at h
    rw [if_pos c1, if_pos q] at h; cases h
  have hv := vl_lt (b := b) (s := p + 1) (neF b L (p + 1) - (p + 1)) (fun i h1 h2 => (ne_in (L := L) h1 (by omega)).2)
  have h5 : 10 ^ (neF b L (p + 1) - (p + 1)) ≤ 10 ^ 5 := Nat.pow_le_pow_right (by decide) (by omega)
  have h5' : (10 : Nat) ^ 5 = 100000 := by decide
  unfold enN vlN
  omega
theorem num_cls {x : Int32} {i : Nat} (hL : L ≤ 200) (hB : ∀ i, b i < 256) (hn : 300 < n) (hw : w ≤ 1) (hk : k < 24) (hi : i < 4) (hp : p ≤ L) (hC : RC b L k p w C) (hf : numF b L p = none) : Rd_readNumber n x (nI i) C = nmC w k x i (vlN b L p) (enN b L p) p C := by
  obtain ⟨⟨r6, r7, r8, r5, r4⟩, rb⟩ := hC
  obtain ⟨n1, n2, n3⟩ := nf_n hf
  have h := rn_c (x := x) (y := nI i) hL hp r6 r7 rb hB hn hf
  rw [h]
  show Rd_readNumber_j157 x (nI i) (nI (p + 1)) (nI (vlN b L p)) (up2 C.1 3 7 (nI (enN b L p)), C.2) = _
  generalize vlN b L p = v at n3 ⊢
  generalize enN b L p = e at n1 n2 ⊢
  unfold Rd_readNumber_j157 nmC
  have e4 : k * 4 + i = 4 * k + i := by omega
  by_cases c : w = 0
  · subst c
    simp (disch := omega) only [l_0, l_1, l_2, l_3, l_4, l_5, l_6, l_7, l_8, l_9, l_10, l_11, l_12, l_13, l_14, l_16, l_20, l_21, l_23, l_24, l_30, l_32, l_40, l_41, l_44, l_48, l_57, l_59, l_60, l_63, l_64, l_80, l_84, l_96, l_97, l_99, l_120, l_122, l_127, l_200, l_240, l_255, l_840, l_999, l_1000, l_1001, l_2400, l_3064, l_9999, l_10000, l_13849, l_16383, l_25173, l_65535, l_65536, l_99999, l_1000000000, neg_nI, pk_mul, nI_add, nI_subL, tn_nI, inb_t, grd_true, bnd_some, elS_l, elS_r, nI_ltI, nI_leI, nI_inj, fa_and, fa_or, m1_eq, eq_m1, m1_lt, m1_le, lt_m1, le_m1, m1_lt0, up2_at, up2_no, ite_true, ite_false, if_true, if_false, Bool.false_eq_true, reduceIte, reduceCtorEq, not_true_eq_false, not_false_eq_true, eq_self, decide_true, decide_false, le_tt, le_ff, lt_tt, lt_ff, eq_ff, and_true, true_and, and_false, false_and, or_true, true_or, or_false, false_or, ne_eq, decide_eq_true_eq, decide_eq_false_iff_not, Bool.not_true, Bool.not_false, Bool.and_true, Bool.true_and, Bool.and_false, Bool.false_and, gs_at, gs_no, oI_n, oI_s, r5, r4, e4]
  · have : w = 1 := by omega
    subst this
    simp (disch := omega) only [l_0, l_1, l_2, l_3, l_4, l_5, l_6, l_7, l_8, l_9, l_10, l_11, l_12, l_13, l_14, l_16, l_20, l_21, l_23, l_24, l_30, l_32, l_40, l_41, l_44, l_48, l_57, l_59, l_60, l_63, l_64, l_80, l_84, l_96, l_97, l_99, l_120, l_122, l_127, l_200, l_240, l_255, l_840, l_999, l_1000, l_1001, l_2400, l_3064, l_9999, l_10000, l_13849, l_16383, l_25173, l_65535, l_65536, l_99999, l_1000000000, neg_nI, pk_mul, nI_add, nI_subL, tn_nI, inb_t, grd_true, bnd_some, elS_l, elS_r, nI_ltI, nI_leI, nI_inj, fa_and, fa_or, m1_eq, eq_m1, m1_lt, m1_le, lt_m1, le_m1, m1_lt0, up2_at, up2_no, ite_true, ite_false, if_true, if_false, Bool.false_eq_true, reduceIte, reduceCtorEq, not_true_eq_false, not_false_eq_true, eq_self, decide_true, decide_false, le_tt, le_ff, lt_tt, lt_ff, eq_ff, and_true, true_and, and_false, false_and, or_true, true_or, or_false, false_or, ne_eq, decide_eq_true_eq, decide_eq_false_iff_not, Bool.not_true, Bool.not_false, Bool.and_true, Bool.true_and, Bool.and_false, Bool.false_and, gs_at, gs_no, oI_n, oI_s, r5, r4, e4]
theorem num_mod {lo hi : Nat} (hlo : lo < 2 ^ 31) (hhi : hi < 2 ^ 31) (hL : L ≤ 200) (hB : ∀ i, b i < 256) (hn : 300 < n) (hp : p ≤ L) (hN : RM b L k p N) (hf : numF b L p = none) : ∃ N', Fm_readsNumber n (nI lo) (nI hi) N = some (decide (lo ≤ vlN b L p ∧ vlN b L p ≤ hi), N') ∧ N'.1 94 8 = nI (vlN b L p) ∧ N'.1 94 9 = nI (p + 1) ∧ RM b L k (enN b L p) N' ∧ (¬ (lo ≤ vlN b L p ∧ vlN b L p ≤ hi) → N'.1 94 7 = fltI 3 (p + 1)) ∧ Fr fp_Fm_readsNumber N N' := by
  obtain ⟨⟨t6, t5, t11⟩, tb⟩ := hN
  obtain ⟨n1, n2, n3⟩ := nf_n hf
  obtain ⟨N', a1, a2, a3, a4, a5⟩ := nr_m hlo hhi hL hp t6 t5 tb hB hn hf
  have fr := fr_Fm_readsNumber a1
  dsimp only at fr
  have er : rg (nI (vlF b (p + 1) (neF b L (p + 1) - (p + 1)))) lo hi = decide (lo ≤ vlN b L p ∧ vlN b L p ≤ hi) := rg_n (k := vlN b L p) (by omega)
  rw [er] at a1 a5
  refine ⟨N', a1, a2, a3, ⟨⟨((fr 94 6 (by unfold fp_Fm_readsNumber; omega)).1).trans t6, a4, ((fr 94 11 (by unfold fp_Fm_readsNumber; omega)).1).trans t11⟩, fun i hi => ?_⟩, fun q => a5 (decide_eq_false q), fr⟩
  rw [(fr 97 i (by unfold fp_Fm_readsNumber; omega)).1]
  exact tb i hi
/-- no number there: one fault on both sides -/
theorem num_flt {x y u v : Int32} {f q : Nat} (hL : L ≤ 200) (hB : ∀ i, b i < 256) (hn : 300 < n) (hp : p ≤ L) (hC : RC b L k p w C) (hN : RM b L k' p N) (hf : numF b L p = some (f, q)) : ∃ C' N', Rd_readNumber n x y C = some C' ∧ C'.1 3 8 = fltI f q ∧ Fm_readsNumber n u v N = some (false, N') ∧ N'.1 94 7 = fltI f q := by
  obtain ⟨⟨t6, t5, t11⟩, tb⟩ := hN
  obtain ⟨⟨r6, r7, r8, r5, r4⟩, rb⟩ := hC
  obtain ⟨C', a1, a2⟩ := rn_cf (x := x) (y := y) hL hp r6 r7 rb hB hn hf
  obtain ⟨N', b1, b2⟩ := nr_mf (x := u) (y := v) hL hp t6 t5 tb hB hn hf
  exact ⟨C', N', a1, a2, b1, b2⟩
/-! the class's loop over a clause's numbers -/
theorem cl_end {x : Int32} {due m : Nat} (hd : due ≤ 4) (hm : 0 < m) : loop (fun s1 : Int32 × Mm => Rd_readClause_b146 n x (nI due) s1.1 s1.2) m (nI due, C) = some C := by
  refine loop_inr ?_ hm
  show Rd_readClause_b146 n x (nI due) (nI due) C = _
  unfold Rd_readClause_b146
  rw [if_pos (by simp (disch := omega) only [l_0, l_1, l_2, l_3, l_4, l_5, l_6, l_7, l_8, l_9, l_10, l_11, l_12, l_13, l_14, l_16, l_20, l_21, l_23, l_24, l_30, l_32, l_40, l_41, l_44, l_48, l_57, l_59, l_60, l_63, l_64, l_80, l_84, l_96, l_97, l_99, l_120, l_122, l_127, l_200, l_240, l_255, l_840, l_999, l_1000, l_1001, l_2400, l_3064, l_9999, l_10000, l_13849, l_16383, l_25173, l_65535, l_65536, l_99999, l_1000000000, neg_nI, pk_mul, nI_add, nI_subL, tn_nI, inb_t, grd_true, bnd_some, elS_l, elS_r, nI_ltI, nI_leI, nI_inj, fa_and, fa_or, m1_eq, eq_m1, m1_lt, m1_le, lt_m1, le_m1, m1_lt0, up2_at, up2_no, ite_true, ite_false, if_true, if_false, Bool.false_eq_true, reduceIte, reduceCtorEq, not_true_eq_false, not_false_eq_true, eq_self, decide_true, decide_false, le_tt, le_ff, lt_tt, lt_ff, eq_ff, and_true, true_and, and_false, false_and, or_true, true_or, or_false, false_or, ne_eq, decide_eq_true_eq, decide_eq_false_iff_not, Bool.not_true, Bool.not_false, Bool.and_true, Bool.true_and, Bool.and_false, Bool.false_and, gs_at, gs_no, oI_n, oI_s])]
theorem cl_flt {x : Int32} {due m i f q : Nat} (hm : 0 < m) (hf : 0 < f) (hf6 : f ≤ 6) (hq : q ≤ 200) (h8 : C.1 3 8 = fltI f q) : loop (fun s1 : Int32 × Mm => Rd_readClause_b146 n x (nI due) s1.1 s1.2) m (nI i, C) = some C := by
  refine loop_inr ?_ hm
  show Rd_readClause_b146 n x (nI due) (nI i) C = _
  rw [flt_ng hf6 (by omega)] at h8
  unfold Rd_readClause_b146
  by_cases c : nI due ≤ nI i
  · rw [if_pos c]
  · rw [if_neg c, h8, if_neg (by simp (disch := omega) only [l_0, l_1, l_2, l_3, l_4, l_5, l_6, l_7, l_8, l_9, l_10, l_11, l_12, l_13, l_14, l_16, l_20, l_21, l_23, l_24, l_30, l_32, l_40, l_41, l_44, l_48, l_57, l_59, l_60, l_63, l_64, l_80, l_84, l_96, l_97, l_99, l_120, l_122, l_127, l_200, l_240, l_255, l_840, l_999, l_1000, l_1001, l_2400, l_3064, l_9999, l_10000, l_13849, l_16383, l_25173, l_65535, l_65536, l_99999, l_1000000000, neg_nI, pk_mul, nI_add, nI_subL, tn_nI, inb_t, grd_true, bnd_some, elS_l, elS_r, nI_ltI, nI_leI, nI_inj, fa_and, fa_or, m1_eq, eq_m1, m1_lt, m1_le, lt_m1, le_m1, m1_lt0, up2_at, up2_no, ite_true, ite_false, if_true, if_false, Bool.false_eq_true, reduceIte, reduceCtorEq, not_true_eq_false, not_false_eq_true, eq_self, decide_true, decide_false, le_tt, le_ff, lt_tt, lt_ff, eq_ff, and_true, true_and, and_false, false_and, or_true, true_or, or_false, false_or, ne_eq, decide_eq_true_eq, decide_eq_false_iff_not, Bool.not_true, Bool.not_false, Bool.and_true, Bool.true_and, Bool.and_false, Bool.false_and, gs_at, gs_no, oI_n, oI_s])]
theorem cl_step {x : Int32} {due m i : Nat} {C' : Mm} (hm : 0 < m) (hd : due ≤ 4) (hi : i < due) (h8 : C.1 3 8 = nI 0) (h : Rd_readNumber n x (nI i) C = some C') : loop (fun s1 : Int32 × Mm => Rd_readClause_b146 n x (nI due) s1.1 s1.2) m (nI i, C) = loop (fun s1 : Int32 × Mm => Rd_readClause_b146 n x (nI due) s1.1 s1.2) (m - 1) (nI (i + 1), C') := by
  refine loop_inl ?_ hm
  show Rd_readClause_b146 n x (nI due) (nI i) C = _
  unfold Rd_readClause_b146
  rw [if_neg (by simp (disch := omega) only [l_0, l_1, l_2, l_3, l_4, l_5, l_6, l_7, l_8, l_9, l_10, l_11, l_12, l_13, l_14, l_16, l_20, l_21, l_23, l_24, l_30, l_32, l_40, l_41, l_44, l_48, l_57, l_59, l_60, l_63, l_64, l_80, l_84, l_96, l_97, l_99, l_120, l_122, l_127, l_200, l_240, l_255, l_840, l_999, l_1000, l_1001, l_2400, l_3064, l_9999, l_10000, l_13849, l_16383, l_25173, l_65535, l_65536, l_99999, l_1000000000, neg_nI, pk_mul, nI_add, nI_subL, tn_nI, inb_t, grd_true, bnd_some, elS_l, elS_r, nI_ltI, nI_leI, nI_inj, fa_and, fa_or, m1_eq, eq_m1, m1_lt, m1_le, lt_m1, le_m1, m1_lt0, up2_at, up2_no, ite_true, ite_false, if_true, if_false, Bool.false_eq_true, reduceIte, reduceCtorEq, not_true_eq_false, not_false_eq_true, eq_self, decide_true, decide_false, le_tt, le_ff, lt_tt, lt_ff, eq_ff, and_true, true_and, and_false, false_and, or_true, true_or, or_false, false_or, ne_eq, decide_eq_true_eq, decide_eq_false_iff_not, Bool.not_true, Bool.not_false, Bool.and_true, Bool.true_and, Bool.and_false, Bool.false_and, gs_at, gs_no, oI_n, oI_s]), h8, if_pos z00, h, bnd_some, l_1, nI_add]
theorem j216_z {x : Int32} : Rd_readNumber_j216 x (nI 0) C = some C := by
  unfold Rd_readNumber_j216
  rw [if_pos z00]
theorem j216_f {f : Nat} (hf : 0 < f) (hf6 : f ≤ 6) : Rd_readNumber_j216 (nI p) (nI f) C = some (up2 C.1 3 8 (fltI f p), C.2) := by
  unfold Rd_readNumber_j216 Rd_blame
  rw [if_neg (by simp (disch := omega) only [l_0, l_1, l_2, l_3, l_4, l_5, l_6, l_7, l_8, l_9, l_10, l_11, l_12, l_13, l_14, l_16, l_20, l_21, l_23, l_24, l_30, l_32, l_40, l_41, l_44, l_48, l_57, l_59, l_60, l_63, l_64, l_80, l_84, l_96, l_97, l_99, l_120, l_122, l_127, l_200, l_240, l_255, l_840, l_999, l_1000, l_1001, l_2400, l_3064, l_9999, l_10000, l_13849, l_16383, l_25173, l_65535, l_65536, l_99999, l_1000000000, neg_nI, pk_mul, nI_add, nI_subL, tn_nI, inb_t, grd_true, bnd_some, elS_l, elS_r, nI_ltI, nI_leI, nI_inj, fa_and, fa_or, m1_eq, eq_m1, m1_lt, m1_le, lt_m1, le_m1, m1_lt0, up2_at, up2_no, ite_true, ite_false, if_true, if_false, Bool.false_eq_true, reduceIte, reduceCtorEq, not_true_eq_false, not_false_eq_true, eq_self, decide_true, decide_false, le_tt, le_ff, lt_tt, lt_ff, eq_ff, and_true, true_and, and_false, false_and, or_true, true_or, or_false, false_or, ne_eq, decide_eq_true_eq, decide_eq_false_iff_not, Bool.not_true, Bool.not_false, Bool.and_true, Bool.true_and, Bool.and_false, Bool.false_and, gs_at, gs_no, oI_n, oI_s])]
  rfl
end
