/-! the draft; clauses of one number -/
def ND (d : Nat → Nat) : Prop := NV d ∧ NU d ∧ (∀ j, d j < 1000) ∧ d 4 = 0 ∧ d 5 = 0 ∧ d 7 = 0 ∧ d 12 = 0
def MD96 (N : Mm) (d : Nat → Nat) : Prop := ∀ j, j < 64 → N.1 96 j = nI (d j)
def DG (k : Nat) (C N : Mm) : Prop := ∃ d, ND d ∧ CN C 4 d ∧ MD96 N d
theorem DG.st (k : Nat) (C N C' N' : Mm) (h : DG k C N) (h1 : Fr (fun c _ => c = 3) C C') (h2 : Fr (fun c _ => c = 94) N N') : DG k C' N' := by
  obtain ⟨d, a1, a2, a3⟩ := h
  exact ⟨d, a1, a2.fr h1 (fun k j hk => by omega), fun j hj => ((h2 96 j (by omega)).1).trans (a3 j hj)⟩
theorem MD96.fr {N N' : Mm} {d : Nat → Nat} {P : Nat → Nat → Prop} (h : MD96 N d) (hf : Fr P N N') (hp : ∀ j, ¬ P 96 j) : MD96 N' d := fun j hj => ((hf 96 j (hp j)).1).trans (h j hj)
theorem MD96.set {N : Mm} {d : Nat → Nat} {k v : Nat} (h : MD96 N d) : MD96 (up2 N.1 96 k (nI v), N.2) (gs d k v) := fun j hj => by
  show up2 N.1 96 k (nI v) 96 j = _
  by_cases c : j = k
  · rw [c, up2_at, gs_at]
  · rw [up2_no (by omega), gs_no c]
    exact h j hj
theorem lkS_cong {g g' : Nat → Nat} {a b : Nat} (h3 : g' 3 = g 3) (h : ∀ l, l < g 3 → g' (16 + l) = g (16 + l) ∧ g' (30 + l) = g (30 + l)) : lkS g' a b = lkS g a b := by
  unfold lkS
  rw [h3]
  refine fstP_congr (fun m _ hm => ?_)
  unfold lkB
  obtain ⟨h1, h2⟩ := h m (by omega)
  rw [h1, h2]
theorem CN.set {C : Mm} {d : Nat → Nat} {v x : Nat} (h : CN C 4 d) (hv : v < 3) : CN (up2 C.1 4 v (nI x), C.2) 4 (gs d v x) := by
  obtain ⟨h1, h2, h3, h4⟩ := h
  have e3 : gs d v x 3 = d 3 := gs_no (by omega)
  refine ⟨fun k hk => ?_, fun f hf => ?_, fun l hl => ?_, fun a b ha hb => ?_⟩
  · show up2 C.1 4 v (nI x) 4 k = _
    by_cases c : k = v
    · rw [c, up2_at, gs_at]
    · rw [up2_no (by omega), gs_no c]; exact h1 k hk
  · show up2 C.1 4 v (nI x) (4 + 1) f = _
    rw [up2_no (by omega), gs_no (by omega)]; exact h2 f hf
  · rw [e3] at hl
    show up2 C.1 4 v (nI x) (4 + 2) l = _ ∧ up2 C.1 4 v (nI x) (4 + 3) l = _ ∧ up2 C.1 4 v (nI x) (4 + 4) l = _
    rw [up2_no (by omega), up2_no (by omega), up2_no (by omega), gs_no (by omega), gs_no (by omega), gs_no (by omega)]
    exact h3 l hl
  · show up2 C.1 4 v (nI x) (4 + 5) (a * 8 + b) = _
    rw [up2_no (by omega), lkS_cong e3 (fun l _ => ⟨gs_no (by omega), gs_no (by omega)⟩)]
    exact h4 a b ha hb
theorem CN.setR {C : Mm} {d : Nat → Nat} {f x : Nat} (h : CN C 4 d) (hf : f < 4) : CN (up2 C.1 5 f (nI x), C.2) 4 (gs d (8 + f) x) := by
  obtain ⟨h1, h2, h3, h4⟩ := h
  have e3 : gs d (8 + f) x 3 = d 3 := gs_no (by omega)
  refine ⟨fun k hk => ?_, fun f' hf' => ?_, fun l hl => ?_, fun a b ha hb => ?_⟩
  · show up2 C.1 5 f (nI x) 4 k = _
    rw [up2_no (by omega), gs_no (by omega)]; exact h1 k hk
  · show up2 C.1 5 f (nI x) 5 f' = _
    by_cases c : f' = f
    · rw [c, up2_at, gs_at]
    · rw [up2_no (by omega), gs_no (by omega)]; exact h2 f' hf'
  · rw [e3] at hl
    show up2 C.1 5 f (nI x) (4 + 2) l = _ ∧ up2 C.1 5 f (nI x) (4 + 3) l = _ ∧ up2 C.1 5 f (nI x) (4 + 4) l = _
    rw [up2_no (by omega), up2_no (by omega), up2_no (by omega), gs_no (by omega), gs_no (by omega), gs_no (by omega)]
    exact h3 l hl
  · show up2 C.1 5 f (nI x) (4 + 5) (a * 8 + b) = _
    rw [up2_no (by omega), lkS_cong e3 (fun l _ => ⟨gs_no (by omega), gs_no (by omega)⟩)]
    exact h4 a b ha hb
section
variable {C N : Mm} {b d : Nat → Nat} {L k p n : Nat}
/-- a clause of one number that the draft keeps -/
theorem one_num {v lo hi : Nat} {ok : Prop} [Decidable ok] {fm : Mm → Option (Bool × Mm)} (hL : L ≤ 200) (hB : ∀ i, b i < 256) (hn : 300 < n) (hk : k < 24) (hp : p ≤ L) (hv : v < 3) (hlo : lo < 2 ^ 31) (hhi : hi < 2 ^ 31) (hC : RC b L k p 1 C) (hN : RM b L (k + 1) p N) (hd : ND d) (hc : CN C 4 d) (hm : MD96 N d) (hcf : ∀ x C1, x < 100000 → C1.1 4 3 = nI (d 3) → Rd_gridFault (nI v) (nI 0) (nI x) C1 = some (if (lo ≤ x ∧ x ≤ hi) ∧ ok then (nI 0, (up2 C1.1 4 v (nI x), C1.2)) else (nI 3, C1))) (hm1 : ∀ N', Fm_readsNumber n (nI lo) (nI hi) N = some (false, N') → fm N = some (false, N')) (hm2 : ∀ N', Fm_readsNumber n (nI lo) (nI hi) N = some (true, N') → MD96 N' d → ok → fm N = some (true, (up2 N'.1 96 v (N'.1 94 8), N'.2))) (hm3 : ∀ N' q, Fm_readsNumber n (nI lo) (nI hi) N = some (true, N') → MD96 N' d → N'.1 94 9 = nI q → ¬ ok → fm N = some (false, (up2 N'.1 94 7 (fltI 3 q), N'.2))) (hnd : ∀ x, lo ≤ x → x ≤ hi → ok → ND (gs d v x)) : ∃ C' z, loop (fun s1 : Int32 × Mm => Rd_readClause_b146 n (nI v) (nI 1) s1.1 s1.2) n (nI 0, C) = some C' ∧ fm N = some z ∧ NO b L k 1 DG C' z := by
  have r8 := hC.1.2.2.1
  cases hf : numF b L p with
  | some fq =>
    obtain ⟨f, q⟩ := fq
    obtain ⟨f1, f2, f3⟩ := nf_b hf hp
    obtain ⟨C', N', a1, a2, a3, a4⟩ := num_flt (x := nI v) (y := nI 0) (u := nI lo) (v := nI hi) hL hB hn hp hC hN hf
    refine ⟨C', (false, N'), ?_, hm1 N' a3, .inl ⟨f, q, f1, f2, f3, a2, rfl, a4⟩⟩
    rw [cl_step (by omega) (by omega) (by omega) r8 a1]
    exact cl_end (by omega) (by omega)
  | none =>
    obtain ⟨n1, n2, n3⟩ := nf_n hf
    have hcl := num_cls (x := nI v) (i := 0) hL hB hn (by omega) hk (by omega) hp hC hf
    obtain ⟨N', a1, a2, a3, a4, a5, a6⟩ := num_mod hlo hhi hL hB hn hp hN hf
    have hm' : MD96 N' d := hm.fr a6 (fun j => by unfold fp_Fm_readsNumber; omega)
    generalize vlN b L p = x at n3 hcl a1 a2 a5
    generalize enN b L p = e at n1 n2 hcl a4
    obtain ⟨⟨r6, r7, _, r5, r4⟩, rb⟩ := hC
    obtain ⟨C1, hC1⟩ : ∃ C1 : Mm, C1 = (up2 (up2 C.1 3 7 (nI e)) 11 (4 * k + 0) (nI x), C.2) := ⟨_, rfl⟩
    have fr1 : Fr (fun c j => c = 11 ∨ (c = 3 ∧ j = 7)) C C1 := by
      rw [hC1]
      exact Fr.I (Fr.I Fr.rf (.inr ⟨rfl, rfl⟩)) (.inl rfl)
    have hc1 : CN C1 4 d := hc.fr fr1 (fun k j hk => by omega)
    have hg := hcf x C1 n3 (hc1.1 3 (by omega))
    unfold nmC at hcl
    rw [if_neg (by decide), ← hC1, hg, bnd_some] at hcl
    by_cases c1 : lo ≤ x ∧ x ≤ hi
    · rw [decide_eq_true c1] at a1
      by_cases c2 : ok
      · rw [if_pos ⟨c1, c2⟩] at hcl
        dsimp only at hcl
        rw [j216_z] at hcl
        refine ⟨_, _, ?_, hm2 N' a1 hm' c2, .inr ⟨e, n2, rfl, ?_, ?_, gs d v x, hnd x c1.1 c1.2 c2, hc1.set hv, ?_⟩⟩
        · rw [cl_step (by omega) (by omega) (by omega) r8 hcl]
          exact cl_end (by omega) (by omega)
        · obtain ⟨⟨t6, t5, t11⟩, tb⟩ := a4
          exact ⟨⟨by simp (disch := omega) only [l_0, l_1, l_2, l_3, l_4, l_5, l_6, l_7, l_8, l_9, l_10, l_11, l_12, l_13, l_14, l_16, l_20, l_21, l_23, l_24, l_30, l_32, l_40, l_41, l_44, l_48, l_57, l_59, l_60, l_63, l_64, l_80, l_84, l_96, l_97, l_99, l_120, l_122, l_127, l_200, l_240, l_255, l_840, l_999, l_1000, l_1001, l_2400, l_3064, l_9999, l_10000, l_13849, l_16383, l_25173, l_65535, l_65536, l_99999, l_1000000000, neg_nI, pk_mul, nI_add, nI_subL, tn_nI, inb_t, grd_true, bnd_some, elS_l, elS_r, nI_ltI, nI_leI, nI_inj, fa_and, fa_or, m1_eq, eq_m1, m1_lt, m1_le, lt_m1, le_m1, m1_lt0, up2_at, up2_no, ite_true, ite_false, if_true, if_false, Bool.false_eq_true, reduceIte, reduceCtorEq, not_true_eq_false, not_false_eq_true, eq_self, decide_true, decide_false, le_tt, le_ff, lt_tt, lt_ff, eq_ff, and_true, true_and, and_false, false_and, or_true, true_or, or_false, false_or, ne_eq, decide_eq_true_eq, decide_eq_false_iff_not, Bool.not_true, Bool.not_false, Bool.and_true, Bool.true_and, Bool.and_false, Bool.false_and, gs_at, gs_no, oI_n, oI_s, t6], by simp (disch := omega) only [l_0, l_1, l_2, l_3, l_4, l_5, l_6, l_7, l_8, l_9, l_10, l_11, l_12, l_13, l_14, l_16, l_20, l_21, l_23, l_24, l_30, l_32, l_40, l_41, l_44, l_48, l_57, l_59, l_60, l_63, l_64, l_80, l_84, l_96, l_97, l_99, l_120, l_122, l_127, l_200, l_240, l_255, l_840, l_999, l_1000, l_1001, l_2400, l_3064, l_9999, l_10000, l_13849, l_16383, l_25173, l_65535, l_65536, l_99999, l_1000000000, neg_nI, pk_mul, nI_add, nI_subL, tn_nI, inb_t, grd_true, bnd_some, elS_l, elS_r, nI_ltI, nI_leI, nI_inj, fa_and, fa_or, m1_eq, eq_m1, m1_lt, m1_le, lt_m1, le_m1, m1_lt0, up2_at, up2_no, ite_true, ite_false, if_true, if_false, Bool.false_eq_true, reduceIte, reduceCtorEq, not_true_eq_false, not_false_eq_true, eq_self, decide_true, decide_false, le_tt, le_ff, lt_tt, lt_ff, eq_ff, and_true, true_and, and_false, false_and, or_true, true_or, or_false, false_or, ne_eq, decide_eq_true_eq, decide_eq_false_iff_not, Bool.not_true, Bool.not_false, Bool.and_true, Bool.true_and, Bool.and_false, Bool.false_and, gs_at, gs_no, oI_n, oI_s, t5], by simp (disch := omega) only [l_0, l_1, l_2, l_3, l_4, l_5, l_6, l_7, l_8, l_9, l_10, l_11, l_12, l_13, l_14, l_16, l_20, l_21, l_23, l_24, l_30, l_32, l_40, l_41, l_44, l_48, l_57, l_59, l_60, l_63, l_64, l_80, l_84, l_96, l_97, l_99, l_120, l_122, l_127, l_200, l_240, l_255, l_840, l_999, l_1000, l_1001, l_2400, l_3064, l_9999, l_10000, l_13849, l_16383, l_25173, l_65535, l_65536, l_99999, l_1000000000, neg_nI, pk_mul, nI_add, nI_subL, tn_nI, inb_t, grd_true, bnd_some, elS_l, elS_r, nI_ltI, nI_leI, nI_inj, fa_and, fa_or, m1_eq, eq_m1, m1_lt, m1_le, lt_m1, le_m1, m1_lt0, up2_at, up2_no, ite_true, ite_false, if_true, if_false, Bool.false_eq_true, reduceIte, reduceCtorEq, not_true_eq_false, not_false_eq_true, eq_self, decide_true, decide_false, le_tt, le_ff, lt_tt, lt_ff, eq_ff, and_true, true_and, and_false, false_and, or_true, true_or, or_false, false_or, ne_eq, decide_eq_true_eq, decide_eq_false_iff_not, Bool.not_true, Bool.not_false, Bool.and_true, Bool.true_and, Bool.and_false, Bool.false_and, gs_at, gs_no, oI_n, oI_s, t11]⟩, fun i hi => by simp (disch := omega) only [l_0, l_1, l_2, l_3, l_4, l_5, l_6, l_7, l_8, l_9, l_10, l_11, l_12, l_13, l_14, l_16, l_20, l_21, l_23, l_24, l_30, l_32, l_40, l_41, l_44, l_48, l_57, l_59, l_60, l_63, l_64, l_80, l_84, l_96, l_97, l_99, l_120, l_122, l_127, l_200, l_240, l_255, l_840, l_999, l_1000, l_1001, l_2400, l_3064, l_9999, l_10000, l_13849, l_16383, l_25173, l_65535, l_65536, l_99999, l_1000000000, neg_nI, pk_mul, nI_add, nI_subL, tn_nI, inb_t, grd_true, bnd_some, elS_l, elS_r, nI_ltI, nI_leI, nI_inj, fa_and, fa_or, m1_eq, eq_m1, m1_lt, m1_le, lt_m1, le_m1, m1_lt0, up2_at, up2_no, ite_true, ite_false, if_true, if_false, Bool.false_eq_true, reduceIte, reduceCtorEq, not_true_eq_false, not_false_eq_true, eq_self, decide_true, decide_false, le_tt, le_ff, lt_tt, lt_ff, eq_ff, and_true, true_and, and_false, false_and, or_true, true_or, or_false, false_or, ne_eq, decide_eq_true_eq, decide_eq_false_iff_not, Bool.not_true, Bool.not_false, Bool.and_true, Bool.true_and, Bool.and_false, Bool.false_and, gs_at, gs_no, oI_n, oI_s, tb i hi]⟩
        · rw [hC1]
          exact ⟨⟨by simp (disch := omega) only [l_0, l_1, l_2, l_3, l_4, l_5, l_6, l_7, l_8, l_9, l_10, l_11, l_12, l_13, l_14, l_16, l_20, l_21, l_23, l_24, l_30, l_32, l_40, l_41, l_44, l_48, l_57, l_59, l_60, l_63, l_64, l_80, l_84, l_96, l_97, l_99, l_120, l_122, l_127, l_200, l_240, l_255, l_840, l_999, l_1000, l_1001, l_2400, l_3064, l_9999, l_10000, l_13849, l_16383, l_25173, l_65535, l_65536, l_99999, l_1000000000, neg_nI, pk_mul, nI_add, nI_subL, tn_nI, inb_t, grd_true, bnd_some, elS_l, elS_r, nI_ltI, nI_leI, nI_inj, fa_and, fa_or, m1_eq, eq_m1, m1_lt, m1_le, lt_m1, le_m1, m1_lt0, up2_at, up2_no, ite_true, ite_false, if_true, if_false, Bool.false_eq_true, reduceIte, reduceCtorEq, not_true_eq_false, not_false_eq_true, eq_self, decide_true, decide_false, le_tt, le_ff, lt_tt, lt_ff, eq_ff, and_true, true_and, and_false, false_and, or_true, true_or, or_false, false_or, ne_eq, decide_eq_true_eq, decide_eq_false_iff_not, Bool.not_true, Bool.not_false, Bool.and_true, Bool.true_and, Bool.and_false, Bool.false_and, gs_at, gs_no, oI_n, oI_s, r6], by simp (disch := omega) only [l_0, l_1, l_2, l_3, l_4, l_5, l_6, l_7, l_8, l_9, l_10, l_11, l_12, l_13, l_14, l_16, l_20, l_21, l_23, l_24, l_30, l_32, l_40, l_41, l_44, l_48, l_57, l_59, l_60, l_63, l_64, l_80, l_84, l_96, l_97, l_99, l_120, l_122, l_127, l_200, l_240, l_255, l_840, l_999, l_1000, l_1001, l_2400, l_3064, l_9999, l_10000, l_13849, l_16383, l_25173, l_65535, l_65536, l_99999, l_1000000000, neg_nI, pk_mul, nI_add, nI_subL, tn_nI, inb_t, grd_true, bnd_some, elS_l, elS_r, nI_ltI, nI_leI, nI_inj, fa_and, fa_or, m1_eq, eq_m1, m1_lt, m1_le, lt_m1, le_m1, m1_lt0, up2_at, up2_no, ite_true, ite_false, if_true, if_false, Bool.false_eq_true, reduceIte, reduceCtorEq, not_true_eq_false, not_false_eq_true, eq_self, decide_true, decide_false, le_tt, le_ff, lt_tt, lt_ff, eq_ff, and_true, true_and, and_false, false_and, or_true, true_or, or_false, false_or, ne_eq, decide_eq_true_eq, decide_eq_false_iff_not, Bool.not_true, Bool.not_false, Bool.and_true, Bool.true_and, Bool.and_false, Bool.false_and, gs_at, gs_no, oI_n, oI_s], by simp (disch := omega) only [l_0, l_1, l_2, l_3, l_4, l_5, l_6, l_7, l_8, l_9, l_10, l_11, l_12, l_13, l_14, l_16, l_20, l_21, l_23, l_24, l_30, l_32, l_40, l_41, l_44, l_48, l_57, l_59, l_60, l_63, l_64, l_80, l_84, l_96, l_97, l_99, l_120, l_122, l_127, l_200, l_240, l_255, l_840, l_999, l_1000, l_1001, l_2400, l_3064, l_9999, l_10000, l_13849, l_16383, l_25173, l_65535, l_65536, l_99999, l_1000000000, neg_nI, pk_mul, nI_add, nI_subL, tn_nI, inb_t, grd_true, bnd_some, elS_l, elS_r, nI_ltI, nI_leI, nI_inj, fa_and, fa_or, m1_eq, eq_m1, m1_lt, m1_le, lt_m1, le_m1, m1_lt0, up2_at, up2_no, ite_true, ite_false, if_true, if_false, Bool.false_eq_true, reduceIte, reduceCtorEq, not_true_eq_false, not_false_eq_true, eq_self, decide_true, decide_false, le_tt, le_ff, lt_tt, lt_ff, eq_ff, and_true, true_and, and_false, false_and, or_true, true_or, or_false, false_or, ne_eq, decide_eq_true_eq, decide_eq_false_iff_not, Bool.not_true, Bool.not_false, Bool.and_true, Bool.true_and, Bool.and_false, Bool.false_and, gs_at, gs_no, oI_n, oI_s, r8], by simp (disch := omega) only [l_0, l_1, l_2, l_3, l_4, l_5, l_6, l_7, l_8, l_9, l_10, l_11, l_12, l_13, l_14, l_16, l_20, l_21, l_23, l_24, l_30, l_32, l_40, l_41, l_44, l_48, l_57, l_59, l_60, l_63, l_64, l_80, l_84, l_96, l_97, l_99, l_120, l_122, l_127, l_200, l_240, l_255, l_840, l_999, l_1000, l_1001, l_2400, l_3064, l_9999, l_10000, l_13849, l_16383, l_25173, l_65535, l_65536, l_99999, l_1000000000, neg_nI, pk_mul, nI_add, nI_subL, tn_nI, inb_t, grd_true, bnd_some, elS_l, elS_r, nI_ltI, nI_leI, nI_inj, fa_and, fa_or, m1_eq, eq_m1, m1_lt, m1_le, lt_m1, le_m1, m1_lt0, up2_at, up2_no, ite_true, ite_false, if_true, if_false, Bool.false_eq_true, reduceIte, reduceCtorEq, not_true_eq_false, not_false_eq_true, eq_self, decide_true, decide_false, le_tt, le_ff, lt_tt, lt_ff, eq_ff, and_true, true_and, and_false, false_and, or_true, true_or, or_false, false_or, ne_eq, decide_eq_true_eq, decide_eq_false_iff_not, Bool.not_true, Bool.not_false, Bool.and_true, Bool.true_and, Bool.and_false, Bool.false_and, gs_at, gs_no, oI_n, oI_s, r5], by simp (disch := omega) only [l_0, l_1, l_2, l_3, l_4, l_5, l_6, l_7, l_8, l_9, l_10, l_11, l_12, l_13, l_14, l_16, l_20, l_21, l_23, l_24, l_30, l_32, l_40, l_41, l_44, l_48, l_57, l_59, l_60, l_63, l_64, l_80, l_84, l_96, l_97, l_99, l_120, l_122, l_127, l_200, l_240, l_255, l_840, l_999, l_1000, l_1001, l_2400, l_3064, l_9999, l_10000, l_13849, l_16383, l_25173, l_65535, l_65536, l_99999, l_1000000000, neg_nI, pk_mul, nI_add, nI_subL, tn_nI, inb_t, grd_true, bnd_some, elS_l, elS_r, nI_ltI, nI_leI, nI_inj, fa_and, fa_or, m1_eq, eq_m1, m1_lt, m1_le, lt_m1, le_m1, m1_lt0, up2_at, up2_no, ite_true, ite_false, if_true, if_false, Bool.false_eq_true, reduceIte, reduceCtorEq, not_true_eq_false, not_false_eq_true, eq_self, decide_true, decide_false, le_tt, le_ff, lt_tt, lt_ff, eq_ff, and_true, true_and, and_false, false_and, or_true, true_or, or_false, false_or, ne_eq, decide_eq_true_eq, decide_eq_false_iff_not, Bool.not_true, Bool.not_false, Bool.and_true, Bool.true_and, Bool.and_false, Bool.false_and, gs_at, gs_no, oI_n, oI_s, r4]⟩, fun i hi => by simp (disch := omega) only [l_0, l_1, l_2, l_3, l_4, l_5, l_6, l_7, l_8, l_9, l_10, l_11, l_12, l_13, l_14, l_16, l_20, l_21, l_23, l_24, l_30, l_32, l_40, l_41, l_44, l_48, l_57, l_59, l_60, l_63, l_64, l_80, l_84, l_96, l_97, l_99, l_120, l_122, l_127, l_200, l_240, l_255, l_840, l_999, l_1000, l_1001, l_2400, l_3064, l_9999, l_10000, l_13849, l_16383, l_25173, l_65535, l_65536, l_99999, l_1000000000, neg_nI, pk_mul, nI_add, nI_subL, tn_nI, inb_t, grd_true, bnd_some, elS_l, elS_r, nI_ltI, nI_leI, nI_inj, fa_and, fa_or, m1_eq, eq_m1, m1_lt, m1_le, lt_m1, le_m1, m1_lt0, up2_at, up2_no, ite_true, ite_false, if_true, if_false, Bool.false_eq_true, reduceIte, reduceCtorEq, not_true_eq_false, not_false_eq_true, eq_self, decide_true, decide_false, le_tt, le_ff, lt_tt, lt_ff, eq_ff, and_true, true_and, and_false, false_and, or_true, true_or, or_false, false_or, ne_eq, decide_eq_true_eq, decide_eq_false_iff_not, Bool.not_true, Bool.not_false, Bool.and_true, Bool.true_and, Bool.and_false, Bool.false_and, gs_at, gs_no, oI_n, oI_s, rb i hi]⟩
        · rw [a2]
          exact hm'.set
      · rw [if_neg (fun q => c2 q.2)] at hcl
        dsimp only at hcl
        rw [j216_f (by omega) (by omega)] at hcl
        refine ⟨(up2 C1.1 3 8 (fltI 3 (p + 1)), C1.2), _, ?_, hm3 N' (p + 1) a1 hm' a3 c2, .inl ⟨3, p + 1, by omega, by omega, by omega, at1u, rfl, at2u⟩⟩
        rw [cl_step (by omega) (by omega) (by omega) r8 hcl]
        exact cl_end (by omega) (by omega)
    · rw [decide_eq_false c1] at a1
      rw [if_neg (fun q => c1 q.1)] at hcl
      dsimp only at hcl
      rw [j216_f (by omega) (by omega)] at hcl
      refine ⟨(up2 C1.1 3 8 (fltI 3 (p + 1)), C1.2), _, ?_, hm1 N' a1, .inl ⟨3, p + 1, by omega, by omega, by omega, at1u, rfl, a5 c1⟩⟩
      rw [cl_step (by omega) (by omega) (by omega) r8 hcl]
      exact cl_end (by omega) (by omega)
theorem cl_nodes (hL : L ≤ 200) (hB : ∀ i, b i < 256) (hn : 300 < n) (hk : k < 24) (hp : p ≤ L) (hC : RC b L k p 1 C) (hN : RM b L (k + 1) p N) (hd : ND d) (hc : CN C 4 d) (hm : MD96 N d) : ∃ C' z, loop (fun s1 : Int32 × Mm => Rd_readClause_b146 n (nI 0) (nI 1) s1.1 s1.2) n (nI 0, C) = some C' ∧ Fm_readsNodes n N = some z ∧ NO b L k 1 DG C' z := by
  have h14 := hd.1.1.2.2.2.2.2.1
  refine one_num (v := 0) (lo := 2) (hi := 8) (ok := d 3 = 0) hL hB hn hk hp (by omega) (by omega) (by omega) hC hN hd hc hm (fun x C1 hx h3 => ?_) (fun N' h => ?_) (fun N' h hm' ho => ?_) (fun N' q h hm' h9 ho => ?_) (fun x x1 x2 ho => ?_)
  · unfold Rd_gridFault
    by_cases c1 : x < 2
    · rw [if_neg (show ¬ ((2 ≤ x ∧ x ≤ 8) ∧ d 3 = 0) by omega)]
      simp (disch := omega) only [l_0, l_1, l_2, l_3, l_4, l_5, l_6, l_7, l_8, l_9, l_10, l_11, l_12, l_13, l_14, l_16, l_20, l_21, l_23, l_24, l_30, l_32, l_40, l_41, l_44, l_48, l_57, l_59, l_60, l_63, l_64, l_80, l_84, l_96, l_97, l_99, l_120, l_122, l_127, l_200, l_240, l_255, l_840, l_999, l_1000, l_1001, l_2400, l_3064, l_9999, l_10000, l_13849, l_16383, l_25173, l_65535, l_65536, l_99999, l_1000000000, neg_nI, pk_mul, nI_add, nI_subL, tn_nI, inb_t, grd_true, bnd_some, elS_l, elS_r, nI_ltI, nI_leI, nI_inj, fa_and, fa_or, m1_eq, eq_m1, m1_lt, m1_le, lt_m1, le_m1, m1_lt0, up2_at, up2_no, ite_true, ite_false, if_true, if_false, Bool.false_eq_true, reduceIte, reduceCtorEq, not_true_eq_false, not_false_eq_true, eq_self, decide_true, decide_false, le_tt, le_ff, lt_tt, lt_ff, eq_ff, and_true, true_and, and_false, false_and, or_true, true_or, or_false, false_or, ne_eq, decide_eq_true_eq, decide_eq_false_iff_not, Bool.not_true, Bool.not_false, Bool.and_true, Bool.true_and, Bool.and_false, Bool.false_and, gs_at, gs_no, oI_n, oI_s, h3]
    · by_cases c2 : 8 < x
      · rw [if_neg (show ¬ ((2 ≤ x ∧ x ≤ 8) ∧ d 3 = 0) by omega)]
        simp (disch := omega) only [l_0, l_1, l_2, l_3, l_4, l_5, l_6, l_7, l_8, l_9, l_10, l_11, l_12, l_13, l_14, l_16, l_20, l_21, l_23, l_24, l_30, l_32, l_40, l_41, l_44, l_48, l_57, l_59, l_60, l_63, l_64, l_80, l_84, l_96, l_97, l_99, l_120, l_122, l_127, l_200, l_240, l_255, l_840, l_999, l_1000, l_1001, l_2400, l_3064, l_9999, l_10000, l_13849, l_16383, l_25173, l_65535, l_65536, l_99999, l_1000000000, neg_nI, pk_mul, nI_add, nI_subL, tn_nI, inb_t, grd_true, bnd_some, elS_l, elS_r, nI_ltI, nI_leI, nI_inj, fa_and, fa_or, m1_eq, eq_m1, m1_lt, m1_le, lt_m1, le_m1, m1_lt0, up2_at, up2_no, ite_true, ite_false, if_true, if_false, Bool.false_eq_true, reduceIte, reduceCtorEq, not_true_eq_false, not_false_eq_true, eq_self, decide_true, decide_false, le_tt, le_ff, lt_tt, lt_ff, eq_ff, and_true, true_and, and_false, false_and, or_true, true_or, or_false, false_or, ne_eq, decide_eq_true_eq, decide_eq_false_iff_not, Bool.not_true, Bool.not_false, Bool.and_true, Bool.true_and, Bool.and_false, Bool.false_and, gs_at, gs_no, oI_n, oI_s, h3]
      · by_cases c3 : d 3 = 0
        · rw [if_pos (show (2 ≤ x ∧ x ≤ 8) ∧ d 3 = 0 by omega)]
          rw [c3] at h3
          simp (disch := omega) only [l_0, l_1, l_2, l_3, l_4, l_5, l_6, l_7, l_8, l_9, l_10, l_11, l_12, l_13, l_14, l_16, l_20, l_21, l_23, l_24, l_30, l_32, l_40, l_41, l_44, l_48, l_57, l_59, l_60, l_63, l_64, l_80, l_84, l_96, l_97, l_99, l_120, l_122, l_127, l_200, l_240, l_255, l_840, l_999, l_1000, l_1001, l_2400, l_3064, l_9999, l_10000, l_13849, l_16383, l_25173, l_65535, l_65536, l_99999, l_1000000000, neg_nI, pk_mul, nI_add, nI_subL, tn_nI, inb_t, grd_true, bnd_some, elS_l, elS_r, nI_ltI, nI_leI, nI_inj, fa_and, fa_or, m1_eq, eq_m1, m1_lt, m1_le, lt_m1, le_m1, m1_lt0, up2_at, up2_no, ite_true, ite_false, if_true, if_false, Bool.false_eq_true, reduceIte, reduceCtorEq, not_true_eq_false, not_false_eq_true, eq_self, decide_true, decide_false, le_tt, le_ff, lt_tt, lt_ff, eq_ff, and_true, true_and, and_false, false_and, or_true, true_or, or_false, false_or, ne_eq, decide_eq_true_eq, decide_eq_false_iff_not, Bool.not_true, Bool.not_false, Bool.and_true, Bool.true_and, Bool.and_false, Bool.false_and, gs_at, gs_no, oI_n, oI_s, h3]
        · rw [if_neg (show ¬ ((2 ≤ x ∧ x ≤ 8) ∧ d 3 = 0) by omega)]
          simp (disch := omega) only [l_0, l_1, l_2, l_3, l_4, l_5, l_6, l_7, l_8, l_9, l_10, l_11, l_12, l_13, l_14, l_16, l_20, l_21, l_23, l_24, l_30, l_32, l_40, l_41, l_44, l_48, l_57, l_59, l_60, l_63, l_64, l_80, l_84, l_96, l_97, l_99, l_120, l_122, l_127, l_200, l_240, l_255, l_840, l_999, l_1000, l_1001, l_2400, l_3064, l_9999, l_10000, l_13849, l_16383, l_25173, l_65535, l_65536, l_99999, l_1000000000, neg_nI, pk_mul, nI_add, nI_subL, tn_nI, inb_t, grd_true, bnd_some, elS_l, elS_r, nI_ltI, nI_leI, nI_inj, fa_and, fa_or, m1_eq, eq_m1, m1_lt, m1_le, lt_m1, le_m1, m1_lt0, up2_at, up2_no, ite_true, ite_false, if_true, if_false, Bool.false_eq_true, reduceIte, reduceCtorEq, not_true_eq_false, not_false_eq_true, eq_self, decide_true, decide_false, le_tt, le_ff, lt_tt, lt_ff, eq_ff, and_true, true_and, and_false, false_and, or_true, true_or, or_false, false_or, ne_eq, decide_eq_true_eq, decide_eq_false_iff_not, Bool.not_true, Bool.not_false, Bool.and_true, Bool.true_and, Bool.and_false, Bool.false_and, gs_at, gs_no, oI_n, oI_s, h3]
  · unfold Fm_readsNodes
    rw [l_2, l_8, h, bnd_some]
    rfl
  · have h3 := hm' 3 (by omega)
    rw [ho] at h3
    unfold Fm_readsNodes
    rw [l_2, l_8, h]
    simp (disch := omega) only [l_0, l_1, l_2, l_3, l_4, l_5, l_6, l_7, l_8, l_9, l_10, l_11, l_12, l_13, l_14, l_16, l_20, l_21, l_23, l_24, l_30, l_32, l_40, l_41, l_44, l_48, l_57, l_59, l_60, l_63, l_64, l_80, l_84, l_96, l_97, l_99, l_120, l_122, l_127, l_200, l_240, l_255, l_840, l_999, l_1000, l_1001, l_2400, l_3064, l_9999, l_10000, l_13849, l_16383, l_25173, l_65535, l_65536, l_99999, l_1000000000, neg_nI, pk_mul, nI_add, nI_subL, tn_nI, inb_t, grd_true, bnd_some, elS_l, elS_r, nI_ltI, nI_leI, nI_inj, fa_and, fa_or, m1_eq, eq_m1, m1_lt, m1_le, lt_m1, le_m1, m1_lt0, up2_at, up2_no, ite_true, ite_false, if_true, if_false, Bool.false_eq_true, reduceIte, reduceCtorEq, not_true_eq_false, not_false_eq_true, eq_self, decide_true, decide_false, le_tt, le_ff, lt_tt, lt_ff, eq_ff, and_true, true_and, and_false, false_and, or_true, true_or, or_false, false_or, ne_eq, decide_eq_true_eq, decide_eq_false_iff_not, Bool.not_true, Bool.not_false, Bool.and_true, Bool.true_and, Bool.and_false, Bool.false_and, gs_at, gs_no, oI_n, oI_s, h3]
  · have h3 := hm' 3 (by omega)
    unfold Fm_readsNodes Fm_wrongAt
    rw [l_2, l_8, h]
    simp (disch := omega) only [l_0, l_1, l_2, l_3, l_4, l_5, l_6, l_7, l_8, l_9, l_10, l_11, l_12, l_13, l_14, l_16, l_20, l_21, l_23, l_24, l_30, l_32, l_40, l_41, l_44, l_48, l_57, l_59, l_60, l_63, l_64, l_80, l_84, l_96, l_97, l_99, l_120, l_122, l_127, l_200, l_240, l_255, l_840, l_999, l_1000, l_1001, l_2400, l_3064, l_9999, l_10000, l_13849, l_16383, l_25173, l_65535, l_65536, l_99999, l_1000000000, neg_nI, pk_mul, nI_add, nI_subL, tn_nI, inb_t, grd_true, bnd_some, elS_l, elS_r, nI_ltI, nI_leI, nI_inj, fa_and, fa_or, m1_eq, eq_m1, m1_lt, m1_le, lt_m1, le_m1, m1_lt0, up2_at, up2_no, ite_true, ite_false, if_true, if_false, Bool.false_eq_true, reduceIte, reduceCtorEq, not_true_eq_false, not_false_eq_true, eq_self, decide_true, decide_false, le_tt, le_ff, lt_tt, lt_ff, eq_ff, and_true, true_and, and_false, false_and, or_true, true_or, or_false, false_or, ne_eq, decide_eq_true_eq, decide_eq_false_iff_not, Bool.not_true, Bool.not_false, Bool.and_true, Bool.true_and, Bool.and_false, Bool.false_and, gs_at, gs_no, oI_n, oI_s, h3, h9]
    rfl
  · obtain ⟨⟨a1, a2, a3, a4⟩, b2, b3, b4, b5, b6, b7⟩ := hd
    have e3 : gs d 0 x 3 = 0 := by rw [gs_no (by omega)]; exact ho
    refine ⟨⟨?_, fun f hf => ?_, fun l hl => ?_, fun l m hl hm => ?_⟩, fun l m hl hm => ?_, fun j => ?_, ?_, ?_, ?_, ?_⟩
    · rw [e3, gs_at, gs_no (by omega), gs_no (by omega), gs_no (by omega), b7]
      omega
    · rw [gs_no (by omega)]; exact a2 f hf
    · omega
    · omega
    · omega
    · by_cases c : j = 0
      · rw [c, gs_at]; omega
      · rw [gs_no c]; exact b3 j
    · rw [gs_no (by omega)]; exact b4
    · rw [gs_no (by omega)]; exact b5
    · rw [gs_no (by omega)]; exact b6
    · rw [gs_no (by omega)]; exact b7
theorem ND.set {v x : Nat} (hd : ND d) (hv : v = 1 ∨ v = 2) (hx : (v = 1 ∧ 8 ≤ x ∧ x ≤ 60) ∨ (v = 2 ∧ x ≤ 4)) : ND (gs d v x) := by
  obtain ⟨⟨a1, a2, a3, a4⟩, b2, b3, b4, b5, b6, b7⟩ := hd
  have e0 : gs d v x 0 = d 0 := gs_no (by omega)
  have e3 : gs d v x 3 = d 3 := gs_no (by omega)
  have e12 : gs d v x 12 = d 12 := gs_no (by omega)
  refine ⟨⟨?_, fun f hf => ?_, fun l hl => ?_, fun l m hl hm => ?_⟩, fun l m hl hm => ?_, fun j => ?_, ?_, ?_, ?_, ?_⟩
  · rw [e0, e3, e12]
    rcases hv with rfl | rfl
    · rw [gs_at, gs_no (by omega)]
      omega
    · rw [gs_at, gs_no (by omega)]
      omega
  · rw [gs_no (by omega)]; exact a2 f hf
  · rw [e3] at hl
    rw [e0, gs_no (by omega), gs_no (by omega), gs_no (by omega)]
    exact a3 l hl
  · rw [e3] at hl hm
    rw [gs_no (by omega), gs_no (by omega), gs_no (by omega), gs_no (by omega)]
    exact a4 l m hl hm
  · rw [e3] at hl hm
    rw [gs_no (by omega), gs_no (by omega), gs_no (by omega), gs_no (by omega)]
    exact b2 l m hl hm
  · by_cases c : j = v
    · rw [c, gs_at]; omega
    · rw [gs_no c]; exact b3 j
  · rw [gs_no (by omega)]; exact b4
  · rw [gs_no (by omega)]; exact b5
  · rw [gs_no (by omega)]; exact b6
  · rw [gs_no (by omega)]; exact b7
theorem cl_slots (hL : L ≤ 200) (hB : ∀ i, b i < 256) (hn : 300 < n) (hk : k < 24) (hp : p ≤ L) (hC : RC b L k p 1 C) (hN : RM b L (k + 1) p N) (hd : ND d) (hc : CN C 4 d) (hm : MD96 N d) : ∃ C' z, loop (fun s1 : Int32 × Mm => Rd_readClause_b146 n (nI 1) (nI 1) s1.1 s1.2) n (nI 0, C) = some C' ∧ bnd (Fm_readsNumber n (8 : Int32) (60 : Int32) N) (fun z17 => if z17.1 = true then bnd (Fm_keepsNumber (1 : Int32) z17.2) (fun z20 => if z20.1 = true then some (true, z20.2) else some (false, z20.2)) else some (false, z17.2)) = some z ∧ NO b L k 1 DG C' z := by
  refine one_num (v := 1) (lo := 8) (hi := 60) (ok := True) (fm := fun N => bnd (Fm_readsNumber n (8 : Int32) (60 : Int32) N) (fun z17 => if z17.1 = true then bnd (Fm_keepsNumber (1 : Int32) z17.2) (fun z20 => if z20.1 = true then some (true, z20.2) else some (false, z20.2)) else some (false, z17.2))) hL hB hn hk hp (by omega) (by omega) (by omega) hC hN hd hc hm (fun x C1 hx h3 => ?_) (fun N' h => ?_) (fun N' h hm' ho => ?_) (fun N' q h hm' h9 ho => absurd trivial ho) (fun x x1 x2 ho => hd.set (.inl rfl) (.inl ⟨rfl, x1, x2⟩))
  · unfold Rd_gridFault
    by_cases c1 : x < 8
    · rw [if_neg (show ¬ ((8 ≤ x ∧ x ≤ 60) ∧ True) from fun q => by omega)]
      simp (disch := omega) only [l_0, l_1, l_2, l_3, l_4, l_5, l_6, l_7, l_8, l_9, l_10, l_11, l_12, l_13, l_14, l_16, l_20, l_21, l_23, l_24, l_30, l_32, l_40, l_41, l_44, l_48, l_57, l_59, l_60, l_63, l_64, l_80, l_84, l_96, l_97, l_99, l_120, l_122, l_127, l_200, l_240, l_255, l_840, l_999, l_1000, l_1001, l_2400, l_3064, l_9999, l_10000, l_13849, l_16383, l_25173, l_65535, l_65536, l_99999, l_1000000000, neg_nI, pk_mul, nI_add, nI_subL, tn_nI, inb_t, grd_true, bnd_some, elS_l, elS_r, nI_ltI, nI_leI, nI_inj, fa_and, fa_or, m1_eq, eq_m1, m1_lt, m1_le, lt_m1, le_m1, m1_lt0, up2_at, up2_no, ite_true, ite_false, if_true, if_false, Bool.false_eq_true, reduceIte, reduceCtorEq, not_true_eq_false, not_false_eq_true, eq_self, decide_true, decide_false, le_tt, le_ff, lt_tt, lt_ff, eq_ff, and_true, true_and, and_false, false_and, or_true, true_or, or_false, false_or, ne_eq, decide_eq_true_eq, decide_eq_false_iff_not, Bool.not_true, Bool.not_false, Bool.and_true, Bool.true_and, Bool.and_false, Bool.false_and, gs_at, gs_no, oI_n, oI_s, h3]
    · by_cases c2 : 60 < x
      · rw [if_neg (show ¬ ((8 ≤ x ∧ x ≤ 60) ∧ True) from fun q => by omega)]
        simp (disch := omega) only [l_0, l_1, l_2, l_3, l_4, l_5, l_6, l_7, l_8, l_9, l_10, l_11, l_12, l_13, l_14, l_16, l_20, l_21, l_23, l_24, l_30, l_32, l_40, l_41, l_44, l_48, l_57, l_59, l_60, l_63, l_64, l_80, l_84, l_96, l_97, l_99, l_120, l_122, l_127, l_200, l_240, l_255, l_840, l_999, l_1000, l_1001, l_2400, l_3064, l_9999, l_10000, l_13849, l_16383, l_25173, l_65535, l_65536, l_99999, l_1000000000, neg_nI, pk_mul, nI_add, nI_subL, tn_nI, inb_t, grd_true, bnd_some, elS_l, elS_r, nI_ltI, nI_leI, nI_inj, fa_and, fa_or, m1_eq, eq_m1, m1_lt, m1_le, lt_m1, le_m1, m1_lt0, up2_at, up2_no, ite_true, ite_false, if_true, if_false, Bool.false_eq_true, reduceIte, reduceCtorEq, not_true_eq_false, not_false_eq_true, eq_self, decide_true, decide_false, le_tt, le_ff, lt_tt, lt_ff, eq_ff, and_true, true_and, and_false, false_and, or_true, true_or, or_false, false_or, ne_eq, decide_eq_true_eq, decide_eq_false_iff_not, Bool.not_true, Bool.not_false, Bool.and_true, Bool.true_and, Bool.and_false, Bool.false_and, gs_at, gs_no, oI_n, oI_s, h3]
      · rw [if_pos (show (8 ≤ x ∧ x ≤ 60) ∧ True from ⟨by omega, trivial⟩)]
        simp (disch := omega) only [l_0, l_1, l_2, l_3, l_4, l_5, l_6, l_7, l_8, l_9, l_10, l_11, l_12, l_13, l_14, l_16, l_20, l_21, l_23, l_24, l_30, l_32, l_40, l_41, l_44, l_48, l_57, l_59, l_60, l_63, l_64, l_80, l_84, l_96, l_97, l_99, l_120, l_122, l_127, l_200, l_240, l_255, l_840, l_999, l_1000, l_1001, l_2400, l_3064, l_9999, l_10000, l_13849, l_16383, l_25173, l_65535, l_65536, l_99999, l_1000000000, neg_nI, pk_mul, nI_add, nI_subL, tn_nI, inb_t, grd_true, bnd_some, elS_l, elS_r, nI_ltI, nI_leI, nI_inj, fa_and, fa_or, m1_eq, eq_m1, m1_lt, m1_le, lt_m1, le_m1, m1_lt0, up2_at, up2_no, ite_true, ite_false, if_true, if_false, Bool.false_eq_true, reduceIte, reduceCtorEq, not_true_eq_false, not_false_eq_true, eq_self, decide_true, decide_false, le_tt, le_ff, lt_tt, lt_ff, eq_ff, and_true, true_and, and_false, false_and, or_true, true_or, or_false, false_or, ne_eq, decide_eq_true_eq, decide_eq_false_iff_not, Bool.not_true, Bool.not_false, Bool.and_true, Bool.true_and, Bool.and_false, Bool.false_and, gs_at, gs_no, oI_n, oI_s, h3]
  · rw [l_8, l_60, h, bnd_some]
    rfl
  · unfold Fm_keepsNumber
    rw [l_8, l_60, h]
    simp (disch := omega) only [l_0, l_1, l_2, l_3, l_4, l_5, l_6, l_7, l_8, l_9, l_10, l_11, l_12, l_13, l_14, l_16, l_20, l_21, l_23, l_24, l_30, l_32, l_40, l_41, l_44, l_48, l_57, l_59, l_60, l_63, l_64, l_80, l_84, l_96, l_97, l_99, l_120, l_122, l_127, l_200, l_240, l_255, l_840, l_999, l_1000, l_1001, l_2400, l_3064, l_9999, l_10000, l_13849, l_16383, l_25173, l_65535, l_65536, l_99999, l_1000000000, neg_nI, pk_mul, nI_add, nI_subL, tn_nI, inb_t, grd_true, bnd_some, elS_l, elS_r, nI_ltI, nI_leI, nI_inj, fa_and, fa_or, m1_eq, eq_m1, m1_lt, m1_le, lt_m1, le_m1, m1_lt0, up2_at, up2_no, ite_true, ite_false, if_true, if_false, Bool.false_eq_true, reduceIte, reduceCtorEq, not_true_eq_false, not_false_eq_true, eq_self, decide_true, decide_false, le_tt, le_ff, lt_tt, lt_ff, eq_ff, and_true, true_and, and_false, false_and, or_true, true_or, or_false, false_or, ne_eq, decide_eq_true_eq, decide_eq_false_iff_not, Bool.not_true, Bool.not_false, Bool.and_true, Bool.true_and, Bool.and_false, Bool.false_and, gs_at, gs_no, oI_n, oI_s]
theorem cl_between (hL : L ≤ 200) (hB : ∀ i, b i < 256) (hn : 300 < n) (hk : k < 24) (hp : p ≤ L) (hC : RC b L k p 1 C) (hN : RM b L (k + 1) p N) (hd : ND d) (hc : CN C 4 d) (hm : MD96 N d) : ∃ C' z, loop (fun s1 : Int32 × Mm => Rd_readClause_b146 n (nI 2) (nI 1) s1.1 s1.2) n (nI 0, C) = some C' ∧ bnd (Fm_readsNumber n (0 : Int32) (4 : Int32) N) (fun z11 => if z11.1 = true then bnd (Fm_keepsNumber (2 : Int32) z11.2) (fun z14 => if z14.1 = true then some (true, z14.2) else Fm_readsClause_j139 z14.2) else Fm_readsClause_j139 z11.2) = some z ∧ NO b L k 1 DG C' z := by
  refine one_num (v := 2) (lo := 0) (hi := 4) (ok := True) (fm := fun N => bnd (Fm_readsNumber n (0 : Int32) (4 : Int32) N) (fun z11 => if z11.1 = true then bnd (Fm_keepsNumber (2 : Int32) z11.2) (fun z14 => if z14.1 = true then some (true, z14.2) else Fm_readsClause_j139 z14.2) else Fm_readsClause_j139 z11.2)) hL hB hn hk hp (by omega) (by omega) (by omega) hC hN hd hc hm (fun x C1 hx h3 => ?_) (fun N' h => ?_) (fun N' h hm' ho => ?_) (fun N' q h hm' h9 ho => absurd trivial ho) (fun x x1 x2 ho => hd.set (.inr rfl) (.inr ⟨rfl, x2⟩))
  · unfold Rd_gridFault
    by_cases c2 : 4 < x
    · rw [if_neg (show ¬ ((0 ≤ x ∧ x ≤ 4) ∧ True) from fun q => by omega)]
      simp (disch := omega) only [l_0, l_1, l_2, l_3, l_4, l_5, l_6, l_7, l_8, l_9, l_10, l_11, l_12, l_13, l_14, l_16, l_20, l_21, l_23, l_24, l_30, l_32, l_40, l_41, l_44, l_48, l_57, l_59, l_60, l_63, l_64, l_80, l_84, l_96, l_97, l_99, l_120, l_122, l_127, l_200, l_240, l_255, l_840, l_999, l_1000, l_1001, l_2400, l_3064, l_9999, l_10000, l_13849, l_16383, l_25173, l_65535, l_65536, l_99999, l_1000000000, neg_nI, pk_mul, nI_add, nI_subL, tn_nI, inb_t, grd_true, bnd_some, elS_l, elS_r, nI_ltI, nI_leI, nI_inj, fa_and, fa_or, m1_eq, eq_m1, m1_lt, m1_le, lt_m1, le_m1, m1_lt0, up2_at, up2_no, ite_true, ite_false, if_true, if_false, Bool.false_eq_true, reduceIte, reduceCtorEq, not_true_eq_false, not_false_eq_true, eq_self, decide_true, decide_false, le_tt, le_ff, lt_tt, lt_ff, eq_ff, and_true, true_and, and_false, false_and, or_true, true_or, or_false, false_or, ne_eq, decide_eq_true_eq, decide_eq_false_iff_not, Bool.not_true, Bool.not_false, Bool.and_true, Bool.true_and, Bool.and_false, Bool.false_and, gs_at, gs_no, oI_n, oI_s, h3]
    · rw [if_pos (show (0 ≤ x ∧ x ≤ 4) ∧ True from ⟨by omega, trivial⟩)]
      simp (disch := omega) only [l_0, l_1, l_2, l_3, l_4, l_5, l_6, l_7, l_8, l_9, l_10, l_11, l_12, l_13, l_14, l_16, l_20, l_21, l_23, l_24, l_30, l_32, l_40, l_41, l_44, l_48, l_57, l_59, l_60, l_63, l_64, l_80, l_84, l_96, l_97, l_99, l_120, l_122, l_127, l_200, l_240, l_255, l_840, l_999, l_1000, l_1001, l_2400, l_3064, l_9999, l_10000, l_13849, l_16383, l_25173, l_65535, l_65536, l_99999, l_1000000000, neg_nI, pk_mul, nI_add, nI_subL, tn_nI, inb_t, grd_true, bnd_some, elS_l, elS_r, nI_ltI, nI_leI, nI_inj, fa_and, fa_or, m1_eq, eq_m1, m1_lt, m1_le, lt_m1, le_m1, m1_lt0, up2_at, up2_no, ite_true, ite_false, if_true, if_false, Bool.false_eq_true, reduceIte, reduceCtorEq, not_true_eq_false, not_false_eq_true, eq_self, decide_true, decide_false, le_tt, le_ff, lt_tt, lt_ff, eq_ff, and_true, true_and, and_false, false_and, or_true, true_or, or_false, false_or, ne_eq, decide_eq_true_eq, decide_eq_false_iff_not, Bool.not_true, Bool.not_false, Bool.and_true, Bool.true_and, Bool.and_false, Bool.false_and, gs_at, gs_no, oI_n, oI_s, h3]
  · rw [l_0, l_4, h, bnd_some]
    rfl
  · unfold Fm_keepsNumber
    rw [l_0, l_4, h]
    simp (disch := omega) only [l_0, l_1, l_2, l_3, l_4, l_5, l_6, l_7, l_8, l_9, l_10, l_11, l_12, l_13, l_14, l_16, l_20, l_21, l_23, l_24, l_30, l_32, l_40, l_41, l_44, l_48, l_57, l_59, l_60, l_63, l_64, l_80, l_84, l_96, l_97, l_99, l_120, l_122, l_127, l_200, l_240, l_255, l_840, l_999, l_1000, l_1001, l_2400, l_3064, l_9999, l_10000, l_13849, l_16383, l_25173, l_65535, l_65536, l_99999, l_1000000000, neg_nI, pk_mul, nI_add, nI_subL, tn_nI, inb_t, grd_true, bnd_some, elS_l, elS_r, nI_ltI, nI_leI, nI_inj, fa_and, fa_or, m1_eq, eq_m1, m1_lt, m1_le, lt_m1, le_m1, m1_lt0, up2_at, up2_no, ite_true, ite_false, if_true, if_false, Bool.false_eq_true, reduceIte, reduceCtorEq, not_true_eq_false, not_false_eq_true, eq_self, decide_true, decide_false, le_tt, le_ff, lt_tt, lt_ff, eq_ff, and_true, true_and, and_false, false_and, or_true, true_or, or_false, false_or, ne_eq, decide_eq_true_eq, decide_eq_false_iff_not, Bool.not_true, Bool.not_false, Bool.and_true, Bool.true_and, Bool.and_false, Bool.false_and, gs_at, gs_no, oI_n, oI_s]
end
