/-! the beginning, and the end -/
def g0F : Nat → Nat := fun j => if j < 64 then (if j = 6 then 1 else d0F j) else if (j - 64) % 10 = 7 then 1 else 0
theorem g0_o {j : Nat} (h : j < 64) (h6 : j ≠ 6) : g0F j = d0F j := by
  unfold g0F
  rw [if_pos h, if_neg h6]
theorem g0_3 : g0F 3 = 0 := rfl
theorem g0_7 : g0F 7 = 0 := rfl
theorem GV_0 : GV g0F := by
  refine ⟨⟨⟨fun j => ?_, by decide⟩, ⟨by decide, by decide, fun l hl => absurd hl (by rw [g0_3]; omega), fun l m hl => absurd hl (by rw [g0_3]; omega)⟩, fun l m hl => absurd hl (by rw [g0_3]; omega), fun d hd => absurd hd (by rw [g0_7]; omega), fun d e hd => absurd hd (by rw [g0_7]; omega)⟩, ⟨by decide, fun d hd => absurd hd (by rw [g0_7]; omega)⟩, by decide⟩
  have := ND_0.2.2.1 j
  unfold g0F
  by_cases c : j < 64
  · rw [if_pos c]
    by_cases c6 : j = 6
    · rw [if_pos c6]; omega
    · rw [if_neg c6]; omega
  · rw [if_neg c]
    by_cases c7 : (j - 64) % 10 = 7
    · rw [if_pos c7]; omega
    · rw [if_neg c7]; omega
section
variable {M : Mm} {n : Nat}
theorem nb_i {s : Nat} (hn : 100 < n) : ∃ z, bnd (bnd (Nt_begin n (s + 1) M) (fun z1 => some z1)) (fun z1 => some (((up2 (up2 (up2 (up2 z1.1 s 1 (0 : Int32)) s 2 (0 : Int32)) s 3 (1 : Int32)) s 4 (0 : Int32)), z1.2) : Mm)) = some z ∧ CN z (s + 1) d0F ∧ (z.1 s 1 = nI 0 ∧ z.1 s 2 = nI 0 ∧ z.1 s 3 = nI 1 ∧ z.1 s 4 = nI 0) ∧ Fr (fun c _ => s ≤ c ∧ c < s + 7) M z := by
  obtain ⟨M1, a1, a2, a3⟩ := Nt_begin_e (M := M) (a := s + 1) (n := n) hn
  refine ⟨_, by rw [a1, bnd_some, bnd_some], a2.fr (P := fun c _ => c = s) (Fr.I (Fr.I (Fr.I (Fr.I Fr.rf rfl) rfl) rfl) rfl) (fun k j hk => by omega), ⟨by simp (disch := omega) only [l_0, l_1, l_2, l_3, l_4, l_5, l_6, l_7, l_8, l_9, l_10, l_11, l_12, l_13, l_14, l_16, l_20, l_21, l_23, l_24, l_30, l_32, l_40, l_41, l_44, l_48, l_57, l_59, l_60, l_63, l_64, l_80, l_84, l_96, l_97, l_99, l_120, l_122, l_127, l_200, l_240, l_255, l_840, l_999, l_1000, l_1001, l_2400, l_3064, l_9999, l_10000, l_13849, l_16383, l_25173, l_65535, l_65536, l_99999, l_1000000000, neg_nI, pk_mul, nI_add, nI_subL, tn_nI, inb_t, grd_true, bnd_some, elS_l, elS_r, nI_ltI, nI_leI, nI_inj, fa_and, fa_or, m1_eq, eq_m1, m1_lt, m1_le, lt_m1, le_m1, m1_lt0, up2_at, up2_no, ite_true, ite_false, if_true, if_false, Bool.false_eq_true, reduceIte, reduceCtorEq, not_true_eq_false, not_false_eq_true, eq_self, decide_true, decide_false, le_tt, le_ff, lt_tt, lt_ff, eq_ff, and_true, true_and, and_false, false_and, or_true, true_or, or_false, false_or, ne_eq, decide_eq_true_eq, decide_eq_false_iff_not, Bool.not_true, Bool.not_false, Bool.and_true, Bool.true_and, Bool.and_false, Bool.false_and, gs_at, gs_no, oI_n, oI_s], by simp (disch := omega) only [l_0, l_1, l_2, l_3, l_4, l_5, l_6, l_7, l_8, l_9, l_10, l_11, l_12, l_13, l_14, l_16, l_20, l_21, l_23, l_24, l_30, l_32, l_40, l_41, l_44, l_48, l_57, l_59, l_60, l_63, l_64, l_80, l_84, l_96, l_97, l_99, l_120, l_122, l_127, l_200, l_240, l_255, l_840, l_999, l_1000, l_1001, l_2400, l_3064, l_9999, l_10000, l_13849, l_16383, l_25173, l_65535, l_65536, l_99999, l_1000000000, neg_nI, pk_mul, nI_add, nI_subL, tn_nI, inb_t, grd_true, bnd_some, elS_l, elS_r, nI_ltI, nI_leI, nI_inj, fa_and, fa_or, m1_eq, eq_m1, m1_lt, m1_le, lt_m1, le_m1, m1_lt0, up2_at, up2_no, ite_true, ite_false, if_true, if_false, Bool.false_eq_true, reduceIte, reduceCtorEq, not_true_eq_false, not_false_eq_true, eq_self, decide_true, decide_false, le_tt, le_ff, lt_tt, lt_ff, eq_ff, and_true, true_and, and_false, false_and, or_true, true_or, or_false, false_or, ne_eq, decide_eq_true_eq, decide_eq_false_iff_not, Bool.not_true, Bool.not_false, Bool.and_true, Bool.true_and, Bool.and_false, Bool.false_and, gs_at, gs_no, oI_n, oI_s], by simp (disch := omega) only [l_0, l_1, l_2, l_3, l_4, l_5, l_6, l_7, l_8, l_9, l_10, l_11, l_12, l_13, l_14, l_16, l_20, l_21, l_23, l_24, l_30, l_32, l_40, l_41, l_44, l_48, l_57, l_59, l_60, l_63, l_64, l_80, l_84, l_96, l_97, l_99, l_120, l_122, l_127, l_200, l_240, l_255, l_840, l_999, l_1000, l_1001, l_2400, l_3064, l_9999, l_10000, l_13849, l_16383, l_25173, l_65535, l_65536, l_99999, l_1000000000, neg_nI, pk_mul, nI_add, nI_subL, tn_nI, inb_t, grd_true, bnd_some, elS_l, elS_r, nI_ltI, nI_leI, nI_inj, fa_and, fa_or, m1_eq, eq_m1, m1_lt, m1_le, lt_m1, le_m1, m1_lt0, up2_at, up2_no, ite_true, ite_false, if_true, if_false, Bool.false_eq_true, reduceIte, reduceCtorEq, not_true_eq_false, not_false_eq_true, eq_self, decide_true, decide_false, le_tt, le_ff, lt_tt, lt_ff, eq_ff, and_true, true_and, and_false, false_and, or_true, true_or, or_false, false_or, ne_eq, decide_eq_true_eq, decide_eq_false_iff_not, Bool.not_true, Bool.not_false, Bool.and_true, Bool.true_and, Bool.and_false, Bool.false_and, gs_at, gs_no, oI_n, oI_s], by simp (disch := omega) only [l_0, l_1, l_2, l_3, l_4, l_5, l_6, l_7, l_8, l_9, l_10, l_11, l_12, l_13, l_14, l_16, l_20, l_21, l_23, l_24, l_30, l_32, l_40, l_41, l_44, l_48, l_57, l_59, l_60, l_63, l_64, l_80, l_84, l_96, l_97, l_99, l_120, l_122, l_127, l_200, l_240, l_255, l_840, l_999, l_1000, l_1001, l_2400, l_3064, l_9999, l_10000, l_13849, l_16383, l_25173, l_65535, l_65536, l_99999, l_1000000000, neg_nI, pk_mul, nI_add, nI_subL, tn_nI, inb_t, grd_true, bnd_some, elS_l, elS_r, nI_ltI, nI_leI, nI_inj, fa_and, fa_or, m1_eq, eq_m1, m1_lt, m1_le, lt_m1, le_m1, m1_lt0, up2_at, up2_no, ite_true, ite_false, if_true, if_false, Bool.false_eq_true, reduceIte, reduceCtorEq, not_true_eq_false, not_false_eq_true, eq_self, decide_true, decide_false, le_tt, le_ff, lt_tt, lt_ff, eq_ff, and_true, true_and, and_false, false_and, or_true, true_or, or_false, false_or, ne_eq, decide_eq_true_eq, decide_eq_false_iff_not, Bool.not_true, Bool.not_false, Bool.and_true, Bool.true_and, Bool.and_false, Bool.false_and, gs_at, gs_no, oI_n, oI_s]⟩, ?_⟩
  exact (a3.mono (fun c j q => by unfold fp_Nt_begin at q; omega)).tr (Fr.I (Fr.I (Fr.I (Fr.I Fr.rf (by omega)) (by omega)) (by omega)) (by omega))
theorem init_c (hn : 100 < n) : ∃ z, Fg_init0 n M0 = some z ∧ KC z (g0F, none, 0, fun _ => 0) ∧ Fr (fun c _ => c < 94) M0 z := by
  obtain ⟨M1, hM1⟩ : ∃ M1 : Mm, M1 = (up2 M0.1 1 1 (nI 0), M0.2) := ⟨_, rfl⟩
  have f1 : Fr (fun c _ => c = 1) M0 M1 := by rw [hM1]; exact Fr.I Fr.rf rfl
  obtain ⟨M2, a1, a2, a3⟩ := Nt_begin_e (M := M1) (a := 4) (n := n) hn
  obtain ⟨M3, hM3⟩ : ∃ M3 : Mm, M3 = ((up2 (up2 (up2 (up2 (up2 M2.1 3 4 (0 : Int32)) 3 5 (0 : Int32)) 3 6 (0 : Int32)) 3 7 (0 : Int32)) 3 8 (0 : Int32)), M2.2) := ⟨_, rfl⟩
  have f3 : Fr (fun c _ => 3 ≤ c ∧ c < 10) M1 M3 := by
    rw [hM3]
    exact (a3.mono (fun c j q => by unfold fp_Nt_begin at q; omega)).tr (Fr.I (Fr.I (Fr.I (Fr.I (Fr.I Fr.rf (by omega)) (by omega)) (by omega)) (by omega)) (by omega))
  obtain ⟨M4, b1, b2, b3⟩ := Wy_forget_e (M := ((up2 (up2 (up2 M3.1 13 5 (0 : Int32)) 13 6 (0 : Int32)) 13 7 (0 : Int32)), M3.2)) (n := n) hn
  unfold Fi_forgetWays at b1
  obtain ⟨M4', b0, b1'⟩ := bnd_s b1
  obtain rfl := Option.some.inj b1'
  obtain ⟨M5, hM5⟩ : ∃ M5 : Mm, M5 = ((up2 (up2 (up2 (up2 (up2 M4'.1 12 1 (-1 : Int32)) 12 2 (0 : Int32)) 12 3 (0 : Int32)) 12 4 (0 : Int32)) 12 5 (0 : Int32)), M4'.2) := ⟨_, rfl⟩
  have f5 : Fr (fun c _ => 12 ≤ c ∧ c < 18) M3 M5 := by
    rw [hM5]
    exact ((Fr.I (Fr.I (Fr.I Fr.rf (by omega)) (by omega)) (by omega)).tr (b3.mono (fun c j q => by omega))).tr (Fr.I (Fr.I (Fr.I (Fr.I (Fr.I Fr.rf (by omega)) (by omega)) (by omega)) (by omega)) (by omega))
  have h15 : ∀ i, i < 64 → M5.1 15 i = ng 1 := fun i hi => by
    rw [hM5]
    simp (disch := omega) only [l_0, l_1, l_2, l_3, l_4, l_5, l_6, l_7, l_8, l_9, l_10, l_11, l_12, l_13, l_14, l_16, l_20, l_21, l_23, l_24, l_30, l_32, l_40, l_41, l_44, l_48, l_57, l_59, l_60, l_63, l_64, l_80, l_84, l_96, l_97, l_99, l_120, l_122, l_127, l_200, l_240, l_255, l_840, l_999, l_1000, l_1001, l_2400, l_3064, l_9999, l_10000, l_13849, l_16383, l_25173, l_65535, l_65536, l_99999, l_1000000000, neg_nI, pk_mul, nI_add, nI_subL, tn_nI, inb_t, grd_true, bnd_some, elS_l, elS_r, nI_ltI, nI_leI, nI_inj, fa_and, fa_or, m1_eq, eq_m1, m1_lt, m1_le, lt_m1, le_m1, m1_lt0, up2_at, up2_no, ite_true, ite_false, if_true, if_false, Bool.false_eq_true, reduceIte, reduceCtorEq, not_true_eq_false, not_false_eq_true, eq_self, decide_true, decide_false, le_tt, le_ff, lt_tt, lt_ff, eq_ff, and_true, true_and, and_false, false_and, or_true, true_or, or_false, false_or, ne_eq, decide_eq_true_eq, decide_eq_false_iff_not, Bool.not_true, Bool.not_false, Bool.and_true, Bool.true_and, Bool.and_false, Bool.false_and, gs_at, gs_no, oI_n, oI_s, b2 i hi]
  obtain ⟨M6, c1, c2, c3, c4⟩ := nb_i (M := M5) (s := 18) hn
  obtain ⟨M7, d1, _, _, d4⟩ := nb_i (M := M6) (s := 36) hn
  obtain ⟨M8, e1, _, _, e4⟩ := nb_i (M := M7) (s := 54) hn
  obtain ⟨M9, i1, _, _, i4⟩ := nb_i (M := M8) (s := 73) hn
  obtain ⟨Ma, hMa⟩ : ∃ Ma : Mm, Ma = ((up2 M9.1 72 7 (0 : Int32)), (up2 (up2 M9.2 72 3 (0 : Int64)) 72 4 (0 : Int64))) := ⟨_, rfl⟩
  obtain ⟨Mb, hMb⟩ : ∃ Mb : Mm, Mb = ((up2 (up2 (up2 (up2 (up2 Ma.1 93 2 (0 : Int32)) 93 3 (0 : Int32)) 93 4 (0 : Int32)) 93 5 (-1 : Int32)) 93 6 (0 : Int32)), Ma.2) := ⟨_, rfl⟩
  obtain ⟨Mc, hMc⟩ : ∃ Mc : Mm, Mc = ((up2 Mb.1 0 8 (0 : Int32)), Mb.2) := ⟨_, rfl⟩
  have fa : Fr (fun c _ => 72 ≤ c ∧ c < 94) M8 Mb := by
    have x1 : Fr (fun c _ => 72 ≤ c ∧ c < 94) M9 Ma := by
      rw [hMa]
      exact Fr.I (Fr.L (Fr.L Fr.rf (by omega)) (by omega)) (by omega)
    have x2 : Fr (fun c _ => 72 ≤ c ∧ c < 94) Ma Mb := by
      rw [hMb]
      exact Fr.I (Fr.I (Fr.I (Fr.I (Fr.I Fr.rf (by omega)) (by omega)) (by omega)) (by omega)) (by omega)
    exact ((i4.mono (fun c j q => by omega)).tr x1).tr x2
  have fb : Fr (fun c _ => 36 ≤ c ∧ c < 94) M6 Mb := ((d4.mono (fun c j q => by omega)).tr (e4.mono (fun c j q => by omega))).tr (fa.mono (fun c j q => by omega))
  have fc : Fr (fun c _ => c = 0 ∨ (36 ≤ c ∧ c < 94)) M6 Mc := by
    refine (fb.mono (fun c j q => by omega)).tr ?_
    rw [hMc]
    exact Fr.I Fr.rf (by omega)
  have f16 : Fr (fun c _ => 3 ≤ c ∧ c < 36) M1 M6 := ((f3.mono (fun c j q => by omega)).tr (f5.mono (fun c j q => by omega))).tr (c4.mono (fun c j q => by omega))
  have fall : Fr (fun c _ => c < 94) M0 Mc := ((f1.mono (fun c j q => by omega)).tr (f16.mono (fun c j q => by omega))).tr (fc.mono (fun c j q => by omega))
  refine ⟨Mc, ?_, ⟨⟨⟨⟨?_, ?_, ?_, ?_⟩, ?_, fun d hd => absurd hd (by show ¬ d < g0F 7; rw [g0_7]; omega), fun l hl => absurd hl (by show ¬ l < g0F 3; rw [g0_3]; omega)⟩, CA_new (by decide) (fun i hi => ?_)⟩, ⟨?_, fun i hi => ?_⟩, ?_⟩, fall⟩
  · unfold Fg_init0 Tp_init1 Rd_init3 Nt_init4 Fi_init12 Wy_init13 St_init18 Nt_init19 St_init36 Nt_init37 St_init54 Nt_init55 Rp_init72 St_init73 Nt_init74 Tr_init93
    rw [bnd_some, l_0, ← hM1, a1, bnd_some, bnd_some, bnd_some]
    rw [← l_0, ← hM3, b0, bnd_some, bnd_some, bnd_some, ← hM5]
    rw [c1, bnd_some, d1, bnd_some, e1, bnd_some, i1, bnd_some, bnd_some, ← hMa, bnd_some, ← hMb, ← hMc]
  · exact (c2.cong (by decide) (fun k k1 k2 k3 => g0_o k1 (by omega)) (by rw [c2.1 4 (by omega)]; rfl)).fr fc (fun k j hk => by omega)
  · rw [(fc 18 1 (by omega)).1]; exact c3.1
  · rw [(fc 18 2 (by omega)).1]; exact c3.2.1
  · rw [(fc 18 3 (by omega)).1]; exact c3.2.2.1
  · rw [(fc 18 4 (by omega)).1]; exact c3.2.2.2
  · rw [(fc 15 i (by omega)).1, (c4 15 i (by omega)).1]; exact h15 i hi
  · rw [(fc 1 1 (by omega)).1, (f16 1 1 (by omega)).1, hM1]; exact at1u
  · rw [(fc 2 i (by omega)).1, (f16 2 i (by omega)).1, (f1 2 i (by omega)).1]; rfl
  · show Mc.1 0 8 = nI 0
    rw [hMc]
    exact at1u
theorem tk_m {N : Mm} {d : Nat → Nat} (h3 : d 3 ≤ 14) (hm : MD96 N d) (hn : 100 < n) : ∃ N', Fm_takesDraft n N = some N' ∧ (∀ j, j < 64 → j ≠ 6 → j ≠ 12 → N'.1 95 j = nI (d j)) ∧ N'.1 95 12 = nI (2 ^ d 3 - 1) ∧ Fr (fun c j => c = 95 ∧ j < 64) N N' := by
  have hp : 0 < 2 ^ d 3 := Nat.pos_of_ne_zero (by simp)
  have hlp : ∃ r, loop (fun s1 : Int32 × Mm => Fm_takesDraft_b2 s1.1 s1.2) n (nI 0, N) = some r ∧ ((∀ i, i < 64 → i ≠ 6 → r.1 95 i = nI (d i)) ∧ Fr (fun c j => c = 95 ∧ j < 64) N r) := by
    refine loop_I0 (fun i (st : Int32 × Mm) => st.1 = nI i ∧ (∀ j, j < i → j ≠ 6 → st.2.1 95 j = nI (d j)) ∧ Fr (fun c j => c = 95 ∧ j < 64) N st.2) _ 64 ⟨rfl, fun j hj => by omega, Fr.rf⟩ (by omega) ?_ ?_
    · rintro i ⟨s1, M1⟩ hi ⟨e1, e2, e3⟩
      simp only at e1 e2 e3
      subst e1
      left
      by_cases c6 : i = 6
      · refine ⟨(nI (i + 1), M1), ?_, rfl, fun j hj h6 => e2 j (by omega) h6, e3⟩
        show Fm_takesDraft_b2 (nI i) M1 = _
        unfold Fm_takesDraft_b2 Fm_takesDraft_j26
        subst c6
        simp (disch := omega) only [l_0, l_1, l_2, l_3, l_4, l_5, l_6, l_7, l_8, l_9, l_10, l_11, l_12, l_13, l_14, l_16, l_20, l_21, l_23, l_24, l_30, l_32, l_40, l_41, l_44, l_48, l_57, l_59, l_60, l_63, l_64, l_80, l_84, l_96, l_97, l_99, l_120, l_122, l_127, l_200, l_240, l_255, l_840, l_999, l_1000, l_1001, l_2400, l_3064, l_9999, l_10000, l_13849, l_16383, l_25173, l_65535, l_65536, l_99999, l_1000000000, neg_nI, pk_mul, nI_add, nI_subL, tn_nI, inb_t, grd_true, bnd_some, elS_l, elS_r, nI_ltI, nI_leI, nI_inj, fa_and, fa_or, m1_eq, eq_m1, m1_lt, m1_le, lt_m1, le_m1, m1_lt0, up2_at, up2_no, ite_true, ite_false, if_true, if_false, Bool.false_eq_true, reduceIte, reduceCtorEq, not_true_eq_false, not_false_eq_true, eq_self, decide_true, decide_false, le_tt, le_ff, lt_tt, lt_ff, eq_ff, and_true, true_and, and_false, false_and, or_true, true_or, or_false, false_or, ne_eq, decide_eq_true_eq, decide_eq_false_iff_not, Bool.not_true, Bool.not_false, Bool.and_true, Bool.true_and, Bool.and_false, Bool.false_and, gs_at, gs_no, oI_n, oI_s]
      · have hmi : M1.1 96 i = nI (d i) := by rw [(e3 96 i (by omega)).1]; exact hm i hi
        refine ⟨(nI (i + 1), (up2 M1.1 95 i (nI (d i)), M1.2)), ?_, rfl, fun j hj h6 => ?_, Fr.I e3 ⟨rfl, hi⟩⟩
        · show Fm_takesDraft_b2 (nI i) M1 = _
          unfold Fm_takesDraft_b2 Fm_takesDraft_j26
          simp (disch := omega) only [l_0, l_1, l_2, l_3, l_4, l_5, l_6, l_7, l_8, l_9, l_10, l_11, l_12, l_13, l_14, l_16, l_20, l_21, l_23, l_24, l_30, l_32, l_40, l_41, l_44, l_48, l_57, l_59, l_60, l_63, l_64, l_80, l_84, l_96, l_97, l_99, l_120, l_122, l_127, l_200, l_240, l_255, l_840, l_999, l_1000, l_1001, l_2400, l_3064, l_9999, l_10000, l_13849, l_16383, l_25173, l_65535, l_65536, l_99999, l_1000000000, neg_nI, pk_mul, nI_add, nI_subL, tn_nI, inb_t, grd_true, bnd_some, elS_l, elS_r, nI_ltI, nI_leI, nI_inj, fa_and, fa_or, m1_eq, eq_m1, m1_lt, m1_le, lt_m1, le_m1, m1_lt0, up2_at, up2_no, ite_true, ite_false, if_true, if_false, Bool.false_eq_true, reduceIte, reduceCtorEq, not_true_eq_false, not_false_eq_true, eq_self, decide_true, decide_false, le_tt, le_ff, lt_tt, lt_ff, eq_ff, and_true, true_and, and_false, false_and, or_true, true_or, or_false, false_or, ne_eq, decide_eq_true_eq, decide_eq_false_iff_not, Bool.not_true, Bool.not_false, Bool.and_true, Bool.true_and, Bool.and_false, Bool.false_and, gs_at, gs_no, oI_n, oI_s, hmi, c6]
        · show up2 M1.1 95 i (nI (d i)) 95 j = _
          by_cases c : j = i
          · subst c
            rw [up2_at]
          · rw [up2_no (by omega)]
            exact e2 j (by omega) h6
    · rintro ⟨s1, M1⟩ ⟨e1, e2, e3⟩
      simp only at e1 e2 e3
      subst e1
      refine ⟨M1, ?_, e2, e3⟩
      show Fm_takesDraft_b2 (nI 64) M1 = _
      unfold Fm_takesDraft_b2
      simp (disch := omega) only [l_0, l_1, l_2, l_3, l_4, l_5, l_6, l_7, l_8, l_9, l_10, l_11, l_12, l_13, l_14, l_16, l_20, l_21, l_23, l_24, l_30, l_32, l_40, l_41, l_44, l_48, l_57, l_59, l_60, l_63, l_64, l_80, l_84, l_96, l_97, l_99, l_120, l_122, l_127, l_200, l_240, l_255, l_840, l_999, l_1000, l_1001, l_2400, l_3064, l_9999, l_10000, l_13849, l_16383, l_25173, l_65535, l_65536, l_99999, l_1000000000, neg_nI, pk_mul, nI_add, nI_subL, tn_nI, inb_t, grd_true, bnd_some, elS_l, elS_r, nI_ltI, nI_leI, nI_inj, fa_and, fa_or, m1_eq, eq_m1, m1_lt, m1_le, lt_m1, le_m1, m1_lt0, up2_at, up2_no, ite_true, ite_false, if_true, if_false, Bool.false_eq_true, reduceIte, reduceCtorEq, not_true_eq_false, not_false_eq_true, eq_self, decide_true, decide_false, le_tt, le_ff, lt_tt, lt_ff, eq_ff, and_true, true_and, and_false, false_and, or_true, true_or, or_false, false_or, ne_eq, decide_eq_true_eq, decide_eq_false_iff_not, Bool.not_true, Bool.not_false, Bool.and_true, Bool.true_and, Bool.and_false, Bool.false_and, gs_at, gs_no, oI_n, oI_s]
  obtain ⟨r, h1, h2, hf⟩ := hlp
  have m3 : r.1 96 3 = nI (d 3) := by rw [(hf 96 3 (by omega)).1]; exact hm 3 (by omega)
  have hs := shl_e (k := d 3) (by omega)
  refine ⟨(up2 r.1 95 12 (nI (2 ^ d 3 - 1)), r.2), ?_, fun j hj h6 h12 => ?_, at1u, Fr.I hf ⟨rfl, by omega⟩⟩
  · unfold Fm_takesDraft
    refine (bnd_e h1).trans ?_
    rw [grd_t (by decide), grd_t (by decide), show tn (3 : Int32) = 3 from rfl, show tn (12 : Int32) = 12 from rfl, m3, l_1, hs, nI_subL (by omega)]
  · show up2 r.1 95 12 (nI (2 ^ d 3 - 1)) 95 j = _
    rw [up2_no (by omega)]
    exact h2 j hj h6
theorem init_m {z : Mm} (hn : 100 < n) (hz : Fr (fun c _ => c < 94) M0 z) : ∃ z2, Fm_init94 n z = some z2 ∧ KM z2 (g0F, none, 0, fun _ => 0) ∧ Fr (fun c _ => 94 ≤ c ∧ c ≠ 115) z z2 := by
  obtain ⟨N1, a1, a2, a3⟩ := Fm_begins_e (N := z) (n := n) hn
  obtain ⟨N2, b1, b2, b3, b4⟩ := tk_m (N := N1) (d := d0F) (n := n) (by decide) a2 hn
  obtain ⟨N3, hN3⟩ : ∃ N3 : Mm, N3 = (up2 N2.1 95 6 (nI 1), N2.2) := ⟨_, rfl⟩
  have f3 : Fr (fun c j => c = 96 ∨ (c = 95 ∧ j < 64)) z N3 := by
    rw [hN3]
    exact Fr.I ((a3.mono (fun c j q => by omega)).tr (b4.mono (fun c j q => by omega))) (by omega)
  have zz : ∀ c j, 94 ≤ c → (c ≠ 96 ∧ (c = 95 → 64 ≤ j)) → N3.1 c j = nI 0 := fun c j h1 h2 => by
    rw [(f3 c j (by omega)).1, (hz c j (by omega)).1]
    rfl
  refine ⟨N3, ?_, ⟨⟨fun j => N3.1 95 j, ⟨fun j hj => ?_, fun j _ _ => rfl⟩, zz 94 2 (by omega) (by omega)⟩, zz 94 4 (by omega) (by omega), fun i hi => ?_⟩, f3.mono (fun c j q => by omega)⟩
  · unfold Fm_init94
    rw [a1, bnd_some, b1, bnd_some, grd_t (by decide), show tn (6 : Int32) = 6 from rfl, l_1, ← hN3]
  · show N3.1 95 j = iv g0F j
    by_cases c : j < 64
    · rw [iv_lo c, hN3]
      show up2 N2.1 95 6 (nI 1) 95 j = _
      by_cases c6 : j = 6
      · rw [c6, up2_at]; rfl
      · rw [up2_no (by omega), g0_o c c6]
        by_cases c12 : j = 12
        · rw [c12, b3]; rfl
        · exact b2 j c c6 c12
    · rw [zz 95 j (by omega) (by omega)]
      unfold iv g0F
      by_cases c7 : (j - 64) % 10 = 7
      · rw [if_pos (show 64 ≤ j ∧ (j - 64) % 10 = 7 by omega), if_neg c, if_pos c7]
        rfl
      · rw [if_neg (show ¬ (64 ≤ j ∧ (j - 64) % 10 = 7) by omega), if_neg c, if_neg c7]
  · rw [zz 97 i (by omega) (by omega), fa_and, Nat.zero_and]
end
theorem law_x {n L i : Nat} {xs : Nat → Int32} {M : Mm} (hi : i < 2 ^ 20) (hL : L ≤ 3072) (h : L < i + 6) : La_law_b18 n L xs (nI i) M = some (.inr (.inl M)) := by
  have hq : (Int32.ofNat L) - (6 : Int32) < nI i := by
    show nI L - (6 : Int32) < nI i
    by_cases c : L < 6
    · have hs : ∀ k : Fin 6, nI k.val - (6 : Int32) = ng (6 - k.val) := by decide
      have h6 := hs ⟨L, c⟩
      dsimp only at h6
      rw [h6]
      simp (disch := omega) only [l_0, l_1, l_2, l_3, l_4, l_5, l_6, l_7, l_8, l_9, l_10, l_11, l_12, l_13, l_14, l_16, l_20, l_21, l_23, l_24, l_30, l_32, l_40, l_41, l_44, l_48, l_57, l_59, l_60, l_63, l_64, l_80, l_84, l_96, l_97, l_99, l_120, l_122, l_127, l_200, l_240, l_255, l_840, l_999, l_1000, l_1001, l_2400, l_3064, l_9999, l_10000, l_13849, l_16383, l_25173, l_65535, l_65536, l_99999, l_1000000000, neg_nI, pk_mul, nI_add, nI_subL, tn_nI, inb_t, grd_true, bnd_some, elS_l, elS_r, nI_ltI, nI_leI, nI_inj, fa_and, fa_or, m1_eq, eq_m1, m1_lt, m1_le, lt_m1, le_m1, m1_lt0, up2_at, up2_no, ite_true, ite_false, if_true, if_false, Bool.false_eq_true, reduceIte, reduceCtorEq, not_true_eq_false, not_false_eq_true, eq_self, decide_true, decide_false, le_tt, le_ff, lt_tt, lt_ff, eq_ff, and_true, true_and, and_false, false_and, or_true, true_or, or_false, false_or, ne_eq, decide_eq_true_eq, decide_eq_false_iff_not, Bool.not_true, Bool.not_false, Bool.and_true, Bool.true_and, Bool.and_false, Bool.false_and, gs_at, gs_no, oI_n, oI_s]
    · rw [l_6, nI_subL (by omega)]
      simp (disch := omega) only [l_0, l_1, l_2, l_3, l_4, l_5, l_6, l_7, l_8, l_9, l_10, l_11, l_12, l_13, l_14, l_16, l_20, l_21, l_23, l_24, l_30, l_32, l_40, l_41, l_44, l_48, l_57, l_59, l_60, l_63, l_64, l_80, l_84, l_96, l_97, l_99, l_120, l_122, l_127, l_200, l_240, l_255, l_840, l_999, l_1000, l_1001, l_2400, l_3064, l_9999, l_10000, l_13849, l_16383, l_25173, l_65535, l_65536, l_99999, l_1000000000, neg_nI, pk_mul, nI_add, nI_subL, tn_nI, inb_t, grd_true, bnd_some, elS_l, elS_r, nI_ltI, nI_leI, nI_inj, fa_and, fa_or, m1_eq, eq_m1, m1_lt, m1_le, lt_m1, le_m1, m1_lt0, up2_at, up2_no, ite_true, ite_false, if_true, if_false, Bool.false_eq_true, reduceIte, reduceCtorEq, not_true_eq_false, not_false_eq_true, eq_self, decide_true, decide_false, le_tt, le_ff, lt_tt, lt_ff, eq_ff, and_true, true_and, and_false, false_and, or_true, true_or, or_false, false_or, ne_eq, decide_eq_true_eq, decide_eq_false_iff_not, Bool.not_true, Bool.not_false, Bool.and_true, Bool.true_and, Bool.and_false, Bool.false_and, gs_at, gs_no, oI_n, oI_s]
  unfold La_law_b18
  exact if_pos hq
theorem pure_all : PURE := by
  intro L xs hL
  obtain ⟨z1, a1, a2, a3⟩ := init_c (n := 1099511627777) (by omega)
  obtain ⟨z2, b1, b2, b3⟩ := init_m (n := 1099511627777) (z := z1) (by omega) a3
  have hv : VA (g0F, none, 0, fun _ => 0) := ⟨GV_0, fun kg h => (by cases h), by show 0 ≤ 240; omega, fun i => by show 0 < 256; omega⟩
  have hc : KC z2 (g0F, none, 0, fun _ => 0) := a2.fr b3 (fun c j q => q)
  have hlp : ∃ r, loop (fun s1 : Int32 × Mm => La_law_b18 1099511627777 L xs s1.1 s1.2) 1099511627777 (nI 0, z2) = some r ∧ ∃ M', r = .inl M' := by
    refine loop_I0 (fun t (st : Int32 × Mm) => st.1 = nI (6 * t) ∧ ∃ A, VA A ∧ KC st.2 A ∧ KM st.2 A) _ 600 ⟨rfl, _, hv, hc, b2⟩ (by omega) ?_ ?_
    · rintro t ⟨s1, M1⟩ ht ⟨e1, A, e2, e3, e4⟩
      simp only at e1 e2 e3 e4
      subst e1
      by_cases c : 6 * t + 6 ≤ L
      · left
        obtain ⟨M', A', x1, x2, x3, x4⟩ := law_s (n := 1099511627777) (xs := xs) (by omega) hL c e2 e3 e4
        refine ⟨_, x1, ?_, A', x2, x3, x4⟩
        show nI (6 * t) + (6 : Int32) = nI (6 * (t + 1))
        rw [l_6, nI_add]
        rfl
      · right
        exact ⟨.inl M1, law_x (by omega) hL (by omega), M1, rfl⟩
    · rintro ⟨s1, M1⟩ ⟨e1, A, e2, e3, e4⟩
      simp only at e1 e2 e3 e4
      subst e1
      exact ⟨.inl M1, law_x (by omega) hL (by omega), M1, rfl⟩
  obtain ⟨r, r1, M', r2⟩ := hlp
  refine ⟨1099511627777, z1, z2, (true, M'), a1, b1, ?_, rfl⟩
  unfold La_law
  rw [l_0, r1, bnd_some, r2]
  rfl
