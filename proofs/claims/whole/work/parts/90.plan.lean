/-! repacking: moves one behind another -/
def nxP (g gT gn : Nat → Nat) (lf : Nat → Bool) (d : Nat) : Bool := lf d && decide (fb_ct (clB gn gT d) (g 7) = 0)
/-- what holds while moves are done -/
def PV (g gT gn : Nat → Nat) (lf pk : Nat → Bool) (dn : Nat) : Prop := GV gn ∧ (∀ j, j < 64 → gn j = g j) ∧ (∀ d, d < g 7 → gn (64 + 10 * d + 3) = g (64 + 10 * d + 3)) ∧ (∀ d, lf d = true → d < g 7 ∧ mvB g gT d = true) ∧ dn + fb_ct lf (g 7) = fb_ct (mvB g gT) (g 7) ∧ ∀ d, pk d = true → d < g 7
section
variable {M : Mm} {g gT gn : Nat → Nat} {lf pk : Nat → Bool} {n dn : Nat} {h : Nat → Int32}
theorem cl_0 {d : Nat} : fb_ct (clB gn gT d) (g 7) = 0 ↔ ∀ b, b < g 7 → clB gn gT d b = false := fb_ct_zero
theorem nx_c (h40 : g 7 ≤ 40) (hg7 : gn 7 = g 7) (hC : PLN M g gT gn lf pk dn) (hn : 100 < n) : Rp_nextFree n M = some (oI (fstP (nxP g gT gn lf) 0 (g 7))) := by
  obtain ⟨s54, s73, hLf, hw, hdn, hpk⟩ := hC
  have h4 : M.1 54 4 = nI (g 7) := by rw [← hg7]; exact s54.2.1
  have key : ∀ i, i < g 7 → (M.2 91 i = (0 : Int64)) = (∀ b, (lf i && (decide (b < g 7) && clB gn gT i b)) = false) := fun i hi => LB_z (hw i hi)
  have hl := loop_fst (body := fun s1 : Int32 => Rp_nextFree_b2 M s1) (fun i => nI i) (nxP g gT gn lf) (g 7) (.inl ()) (fun i => .inr (nI i)) (fun i hi hp => by
      have hb := LB_bit hLf (d := i) (by omega)
      have hk := key i hi
      unfold Rp_nextFree_b2 Rp_nextFree_j39
      unfold nxP at hp
      cases hlf : lf i with
      | false => simp (disch := omega) only [l_0, l_1, l_2, l_3, l_4, l_5, l_6, l_7, l_8, l_9, l_10, l_11, l_12, l_13, l_14, l_16, l_20, l_21, l_23, l_24, l_30, l_32, l_40, l_41, l_44, l_48, l_57, l_59, l_60, l_63, l_64, l_80, l_84, l_96, l_97, l_99, l_120, l_122, l_127, l_200, l_240, l_255, l_840, l_999, l_1000, l_1001, l_2400, l_3064, l_9999, l_10000, l_13849, l_16383, l_25173, l_65535, l_65536, l_99999, l_1000000000, neg_nI, pk_mul, nI_add, nI_subL, tn_nI, inb_t, grd_true, bnd_some, elS_l, elS_r, nI_ltI, nI_leI, nI_inj, fa_and, fa_or, m1_eq, eq_m1, m1_lt, m1_le, lt_m1, le_m1, m1_lt0, up2_at, up2_no, ite_true, ite_false, if_true, if_false, Bool.false_eq_true, reduceIte, reduceCtorEq, not_true_eq_false, not_false_eq_true, eq_self, decide_true, decide_false, le_tt, le_ff, lt_tt, lt_ff, eq_ff, and_true, true_and, and_false, false_and, or_true, true_or, or_false, false_or, ne_eq, decide_eq_true_eq, decide_eq_false_iff_not, Bool.not_true, Bool.not_false, Bool.and_true, Bool.true_and, Bool.and_false, Bool.false_and, gs_at, gs_no, oI_n, oI_s, h4, hb, hlf]
      | true =>
        rw [hlf, Bool.true_and, decide_eq_false_iff_not] at hp
        have hne : ¬ (∀ b, (lf i && (decide (b < g 7) && clB gn gT i b)) = false) := fun q => hp (cl_0.mpr (fun b hb' => by
          have := q b
          rw [hlf, Bool.true_and, decide_eq_true hb', Bool.true_and] at this
          exact this))
        have hz : (M.2 91 i = (0 : Int64)) = False := hk.trans (eq_false hne)
        clear hk hne
        simp (disch := omega) only [l_0, l_1, l_2, l_3, l_4, l_5, l_6, l_7, l_8, l_9, l_10, l_11, l_12, l_13, l_14, l_16, l_20, l_21, l_23, l_24, l_30, l_32, l_40, l_41, l_44, l_48, l_57, l_59, l_60, l_63, l_64, l_80, l_84, l_96, l_97, l_99, l_120, l_122, l_127, l_200, l_240, l_255, l_840, l_999, l_1000, l_1001, l_2400, l_3064, l_9999, l_10000, l_13849, l_16383, l_25173, l_65535, l_65536, l_99999, l_1000000000, neg_nI, pk_mul, nI_add, nI_subL, tn_nI, inb_t, grd_true, bnd_some, elS_l, elS_r, nI_ltI, nI_leI, nI_inj, fa_and, fa_or, m1_eq, eq_m1, m1_lt, m1_le, lt_m1, le_m1, m1_lt0, up2_at, up2_no, ite_true, ite_false, if_true, if_false, Bool.false_eq_true, reduceIte, reduceCtorEq, not_true_eq_false, not_false_eq_true, eq_self, decide_true, decide_false, le_tt, le_ff, lt_tt, lt_ff, eq_ff, and_true, true_and, and_false, false_and, or_true, true_or, or_false, false_or, ne_eq, decide_eq_true_eq, decide_eq_false_iff_not, Bool.not_true, Bool.not_false, Bool.and_true, Bool.true_and, Bool.and_false, Bool.false_and, gs_at, gs_no, oI_n, oI_s, h4, hb, hlf, hz]) (fun i hi hp => by
      have hb := LB_bit hLf (d := i) (by omega)
      have hk := key i hi
      unfold nxP at hp
      rw [Bool.and_eq_true, decide_eq_true_eq] at hp
      have hall : ∀ b, (lf i && (decide (b < g 7) && clB gn gT i b)) = false := fun b => by
        by_cases c : b < g 7
        · rw [cl_0.mp hp.2 b c, Bool.and_false, Bool.and_false]
        · rw [decide_eq_false c, Bool.false_and, Bool.and_false]
      have hz : (M.2 91 i = (0 : Int64)) = True := hk.trans (eq_true hall)
      clear hk hall
      unfold Rp_nextFree_b2
      simp (disch := omega) only [l_0, l_1, l_2, l_3, l_4, l_5, l_6, l_7, l_8, l_9, l_10, l_11, l_12, l_13, l_14, l_16, l_20, l_21, l_23, l_24, l_30, l_32, l_40, l_41, l_44, l_48, l_57, l_59, l_60, l_63, l_64, l_80, l_84, l_96, l_97, l_99, l_120, l_122, l_127, l_200, l_240, l_255, l_840, l_999, l_1000, l_1001, l_2400, l_3064, l_9999, l_10000, l_13849, l_16383, l_25173, l_65535, l_65536, l_99999, l_1000000000, neg_nI, pk_mul, nI_add, nI_subL, tn_nI, inb_t, grd_true, bnd_some, elS_l, elS_r, nI_ltI, nI_leI, nI_inj, fa_and, fa_or, m1_eq, eq_m1, m1_lt, m1_le, lt_m1, le_m1, m1_lt0, up2_at, up2_no, ite_true, ite_false, if_true, if_false, Bool.false_eq_true, reduceIte, reduceCtorEq, not_true_eq_false, not_false_eq_true, eq_self, decide_true, decide_false, le_tt, le_ff, lt_tt, lt_ff, eq_ff, and_true, true_and, and_false, false_and, or_true, true_or, or_false, false_or, ne_eq, decide_eq_true_eq, decide_eq_false_iff_not, Bool.not_true, Bool.not_false, Bool.and_true, Bool.true_and, Bool.and_false, Bool.false_and, gs_at, gs_no, oI_n, oI_s, h4, hb, hp.1, hz]) (by
      unfold Rp_nextFree_b2
      simp (disch := omega) only [l_0, l_1, l_2, l_3, l_4, l_5, l_6, l_7, l_8, l_9, l_10, l_11, l_12, l_13, l_14, l_16, l_20, l_21, l_23, l_24, l_30, l_32, l_40, l_41, l_44, l_48, l_57, l_59, l_60, l_63, l_64, l_80, l_84, l_96, l_97, l_99, l_120, l_122, l_127, l_200, l_240, l_255, l_840, l_999, l_1000, l_1001, l_2400, l_3064, l_9999, l_10000, l_13849, l_16383, l_25173, l_65535, l_65536, l_99999, l_1000000000, neg_nI, pk_mul, nI_add, nI_subL, tn_nI, inb_t, grd_true, bnd_some, elS_l, elS_r, nI_ltI, nI_leI, nI_inj, fa_and, fa_or, m1_eq, eq_m1, m1_lt, m1_le, lt_m1, le_m1, m1_lt0, up2_at, up2_no, ite_true, ite_false, if_true, if_false, Bool.false_eq_true, reduceIte, reduceCtorEq, not_true_eq_false, not_false_eq_true, eq_self, decide_true, decide_false, le_tt, le_ff, lt_tt, lt_ff, eq_ff, and_true, true_and, and_false, false_and, or_true, true_or, or_false, false_or, ne_eq, decide_eq_true_eq, decide_eq_false_iff_not, Bool.not_true, Bool.not_false, Bool.and_true, Bool.true_and, Bool.and_false, Bool.false_and, gs_at, gs_no, oI_n, oI_s, h4]) (g 7) 0 n (by omega) (by omega)
  unfold Rp_nextFree
  rw [l_0, bnd_e hl]
  cases fstP (nxP g gT gn lf) 0 (g 7) with
  | none => rfl
  | some j => rfl
theorem wf_m (hV : PV g gT gn lf pk dn) (hT : LT g gT (g 7)) (hF : FK M gn h) (hC : PLm M g gT lf pk dn) {a b : Nat} (ha : a < g 7) (hb : b < g 7) (hl : g (64 + 10 * a + 3) = 0) : Fm_waitsFor (nI a) (nI b) M = some (clB gn gT a b) := by
  have hG := hV.1.1.1
  have e7 : gn 7 = g 7 := hV.2.1 7 (by omega)
  have h40 := hV.1.2.2
  have t7 : gT 7 = g 7 := hT.2.1 7 (by omega)
  have hsT : gT (64 + 10 * a + 3) = 0 := (T_lit hT ha).mpr ⟨ha, hl⟩
  have hlv := hT.1.2.2.2.1 a (by rw [t7]; exact ha) hsT
  have t1 : gT 1 = g 1 := hT.2.1 1 (by omega)
  have b1 := hV.1.1.2.1.1
  have n1 : gn 1 = g 1 := hV.2.1 1 (by omega)
  obtain ⟨x1, x2, x3⟩ := hC.1 a ha hl
  have hil := Fm_isLit_e (hF.FR hG) hG (d := b) (by rw [e7]; exact hb)
  have hkf := Fm_keepsFrom_e (hF.FR hG) hG (d := b) (by rw [e7]; exact hb) (l := gT (64 + 10 * a + 6)) (s := gT (64 + 10 * a + 4)) (v := gT (64 + 10 * a + 5)) (by omega) (by omega)
  unfold Fm_waitsFor clB agP
  by_cases c : a = b
  · subst c
    simp (disch := omega) only [l_0, l_1, l_2, l_3, l_4, l_5, l_6, l_7, l_8, l_9, l_10, l_11, l_12, l_13, l_14, l_16, l_20, l_21, l_23, l_24, l_30, l_32, l_40, l_41, l_44, l_48, l_57, l_59, l_60, l_63, l_64, l_80, l_84, l_96, l_97, l_99, l_120, l_122, l_127, l_200, l_240, l_255, l_840, l_999, l_1000, l_1001, l_2400, l_3064, l_9999, l_10000, l_13849, l_16383, l_25173, l_65535, l_65536, l_99999, l_1000000000, neg_nI, pk_mul, nI_add, nI_subL, tn_nI, inb_t, grd_true, bnd_some, elS_l, elS_r, nI_ltI, nI_leI, nI_inj, fa_and, fa_or, m1_eq, eq_m1, m1_lt, m1_le, lt_m1, le_m1, m1_lt0, up2_at, up2_no, ite_true, ite_false, if_true, if_false, Bool.false_eq_true, reduceIte, reduceCtorEq, not_true_eq_false, not_false_eq_true, eq_self, decide_true, decide_false, le_tt, le_ff, lt_tt, lt_ff, eq_ff, and_true, true_and, and_false, false_and, or_true, true_or, or_false, false_or, ne_eq, decide_eq_true_eq, decide_eq_false_iff_not, Bool.not_true, Bool.not_false, Bool.and_true, Bool.true_and, Bool.and_false, Bool.false_and, gs_at, gs_no, oI_n, oI_s]
  · rw [decide_eq_true (show b ≠ a from fun q => c q.symm), decide_eq_true (show some b ≠ none by simp), Bool.true_and, Bool.true_and]
    by_cases z : gn (64 + 10 * b + 3) = 0
    · cases hk : kfB gn b (gT (64 + 10 * a + 6)) (gT (64 + 10 * a + 4)) (gT (64 + 10 * a + 5)) with
      | true => simp (disch := omega) only [l_0, l_1, l_2, l_3, l_4, l_5, l_6, l_7, l_8, l_9, l_10, l_11, l_12, l_13, l_14, l_16, l_20, l_21, l_23, l_24, l_30, l_32, l_40, l_41, l_44, l_48, l_57, l_59, l_60, l_63, l_64, l_80, l_84, l_96, l_97, l_99, l_120, l_122, l_127, l_200, l_240, l_255, l_840, l_999, l_1000, l_1001, l_2400, l_3064, l_9999, l_10000, l_13849, l_16383, l_25173, l_65535, l_65536, l_99999, l_1000000000, neg_nI, pk_mul, nI_add, nI_subL, tn_nI, inb_t, grd_true, bnd_some, elS_l, elS_r, nI_ltI, nI_leI, nI_inj, fa_and, fa_or, m1_eq, eq_m1, m1_lt, m1_le, lt_m1, le_m1, m1_lt0, up2_at, up2_no, ite_true, ite_false, if_true, if_false, Bool.false_eq_true, reduceIte, reduceCtorEq, not_true_eq_false, not_false_eq_true, eq_self, decide_true, decide_false, le_tt, le_ff, lt_tt, lt_ff, eq_ff, and_true, true_and, and_false, false_and, or_true, true_or, or_false, false_or, ne_eq, decide_eq_true_eq, decide_eq_false_iff_not, Bool.not_true, Bool.not_false, Bool.and_true, Bool.true_and, Bool.and_false, Bool.false_and, gs_at, gs_no, oI_n, oI_s, c, hil, z, x1, x2, x3, hkf, hk]
      | false => simp (disch := omega) only [l_0, l_1, l_2, l_3, l_4, l_5, l_6, l_7, l_8, l_9, l_10, l_11, l_12, l_13, l_14, l_16, l_20, l_21, l_23, l_24, l_30, l_32, l_40, l_41, l_44, l_48, l_57, l_59, l_60, l_63, l_64, l_80, l_84, l_96, l_97, l_99, l_120, l_122, l_127, l_200, l_240, l_255, l_840, l_999, l_1000, l_1001, l_2400, l_3064, l_9999, l_10000, l_13849, l_16383, l_25173, l_65535, l_65536, l_99999, l_1000000000, neg_nI, pk_mul, nI_add, nI_subL, tn_nI, inb_t, grd_true, bnd_some, elS_l, elS_r, nI_ltI, nI_leI, nI_inj, fa_and, fa_or, m1_eq, eq_m1, m1_lt, m1_le, lt_m1, le_m1, m1_lt0, up2_at, up2_no, ite_true, ite_false, if_true, if_false, Bool.false_eq_true, reduceIte, reduceCtorEq, not_true_eq_false, not_false_eq_true, eq_self, decide_true, decide_false, le_tt, le_ff, lt_tt, lt_ff, eq_ff, and_true, true_and, and_false, false_and, or_true, true_or, or_false, false_or, ne_eq, decide_eq_true_eq, decide_eq_false_iff_not, Bool.not_true, Bool.not_false, Bool.and_true, Bool.true_and, Bool.and_false, Bool.false_and, gs_at, gs_no, oI_n, oI_s, c, hil, z, x1, x2, x3, hkf, hk]
    · simp (disch := omega) only [l_0, l_1, l_2, l_3, l_4, l_5, l_6, l_7, l_8, l_9, l_10, l_11, l_12, l_13, l_14, l_16, l_20, l_21, l_23, l_24, l_30, l_32, l_40, l_41, l_44, l_48, l_57, l_59, l_60, l_63, l_64, l_80, l_84, l_96, l_97, l_99, l_120, l_122, l_127, l_200, l_240, l_255, l_840, l_999, l_1000, l_1001, l_2400, l_3064, l_9999, l_10000, l_13849, l_16383, l_25173, l_65535, l_65536, l_99999, l_1000000000, neg_nI, pk_mul, nI_add, nI_subL, tn_nI, inb_t, grd_true, bnd_some, elS_l, elS_r, nI_ltI, nI_leI, nI_inj, fa_and, fa_or, m1_eq, eq_m1, m1_lt, m1_le, lt_m1, le_m1, m1_lt0, up2_at, up2_no, ite_true, ite_false, if_true, if_false, Bool.false_eq_true, reduceIte, reduceCtorEq, not_true_eq_false, not_false_eq_true, eq_self, decide_true, decide_false, le_tt, le_ff, lt_tt, lt_ff, eq_ff, and_true, true_and, and_false, false_and, or_true, true_or, or_false, false_or, ne_eq, decide_eq_true_eq, decide_eq_false_iff_not, Bool.not_true, Bool.not_false, Bool.and_true, Bool.true_and, Bool.and_false, Bool.false_and, gs_at, gs_no, oI_n, oI_s, c, hil, z]
theorem wm_m (hV : PV g gT gn lf pk dn) (hT : LT g gT (g 7)) (hF : FK M gn h) (hC : PLm M g gT lf pk dn) {a : Nat} (ha : a < g 7) (hl : g (64 + 10 * a + 3) = 0) (hn : 100 < n) : Fm_waitsMany n (nI a) M = some (nI (fb_ct (clB gn gT a) (g 7))) := by
  have e7 : gn 7 = g 7 := hV.2.1 7 (by omega)
  have h40 := hV.1.2.2
  have h7 : M.1 95 7 = nI (g 7) := by rw [hF.lo (by omega), e7]
  have hl2 := loop_zero (body := fun s1 : Int32 × Int32 => Fm_waitsMany_b4 (nI a) M s1.1 s1.2) (fun i => (nI (fb_ct (clB gn gT a) i), nI i)) (g 7) (nI (fb_ct (clB gn gT a) (g 7))) (fun i hi => by
      have hw := wf_m hV hT hF hC ha hi hl
      have hct := fb_ct_le (clB gn gT a) i
      rw [fb_ct_succ]
      show Fm_waitsMany_b4 (nI a) M (nI (fb_ct (clB gn gT a) i)) (nI i) = _
      unfold Fm_waitsMany_b4 Fm_waitsMany_j28
      cases hc : clB gn gT a i with
      | true => simp (disch := omega) only [l_0, l_1, l_2, l_3, l_4, l_5, l_6, l_7, l_8, l_9, l_10, l_11, l_12, l_13, l_14, l_16, l_20, l_21, l_23, l_24, l_30, l_32, l_40, l_41, l_44, l_48, l_57, l_59, l_60, l_63, l_64, l_80, l_84, l_96, l_97, l_99, l_120, l_122, l_127, l_200, l_240, l_255, l_840, l_999, l_1000, l_1001, l_2400, l_3064, l_9999, l_10000, l_13849, l_16383, l_25173, l_65535, l_65536, l_99999, l_1000000000, neg_nI, pk_mul, nI_add, nI_subL, tn_nI, inb_t, grd_true, bnd_some, elS_l, elS_r, nI_ltI, nI_leI, nI_inj, fa_and, fa_or, m1_eq, eq_m1, m1_lt, m1_le, lt_m1, le_m1, m1_lt0, up2_at, up2_no, ite_true, ite_false, if_true, if_false, Bool.false_eq_true, reduceIte, reduceCtorEq, not_true_eq_false, not_false_eq_true, eq_self, decide_true, decide_false, le_tt, le_ff, lt_tt, lt_ff, eq_ff, and_true, true_and, and_false, false_and, or_true, true_or, or_false, false_or, ne_eq, decide_eq_true_eq, decide_eq_false_iff_not, Bool.not_true, Bool.not_false, Bool.and_true, Bool.true_and, Bool.and_false, Bool.false_and, gs_at, gs_no, oI_n, oI_s, h7, hw, hc]
      | false => simp (disch := omega) only [l_0, l_1, l_2, l_3, l_4, l_5, l_6, l_7, l_8, l_9, l_10, l_11, l_12, l_13, l_14, l_16, l_20, l_21, l_23, l_24, l_30, l_32, l_40, l_41, l_44, l_48, l_57, l_59, l_60, l_63, l_64, l_80, l_84, l_96, l_97, l_99, l_120, l_122, l_127, l_200, l_240, l_255, l_840, l_999, l_1000, l_1001, l_2400, l_3064, l_9999, l_10000, l_13849, l_16383, l_25173, l_65535, l_65536, l_99999, l_1000000000, neg_nI, pk_mul, nI_add, nI_subL, tn_nI, inb_t, grd_true, bnd_some, elS_l, elS_r, nI_ltI, nI_leI, nI_inj, fa_and, fa_or, m1_eq, eq_m1, m1_lt, m1_le, lt_m1, le_m1, m1_lt0, up2_at, up2_no, ite_true, ite_false, if_true, if_false, Bool.false_eq_true, reduceIte, reduceCtorEq, not_true_eq_false, not_false_eq_true, eq_self, decide_true, decide_false, le_tt, le_ff, lt_tt, lt_ff, eq_ff, and_true, true_and, and_false, false_and, or_true, true_or, or_false, false_or, ne_eq, decide_eq_true_eq, decide_eq_false_iff_not, Bool.not_true, Bool.not_false, Bool.and_true, Bool.true_and, Bool.and_false, Bool.false_and, gs_at, gs_no, oI_n, oI_s, h7, hw, hc, Nat.add_zero]) (by
      show Fm_waitsMany_b4 (nI a) M _ (nI (g 7)) = _
      unfold Fm_waitsMany_b4
      simp (disch := omega) only [l_0, l_1, l_2, l_3, l_4, l_5, l_6, l_7, l_8, l_9, l_10, l_11, l_12, l_13, l_14, l_16, l_20, l_21, l_23, l_24, l_30, l_32, l_40, l_41, l_44, l_48, l_57, l_59, l_60, l_63, l_64, l_80, l_84, l_96, l_97, l_99, l_120, l_122, l_127, l_200, l_240, l_255, l_840, l_999, l_1000, l_1001, l_2400, l_3064, l_9999, l_10000, l_13849, l_16383, l_25173, l_65535, l_65536, l_99999, l_1000000000, neg_nI, pk_mul, nI_add, nI_subL, tn_nI, inb_t, grd_true, bnd_some, elS_l, elS_r, nI_ltI, nI_leI, nI_inj, fa_and, fa_or, m1_eq, eq_m1, m1_lt, m1_le, lt_m1, le_m1, m1_lt0, up2_at, up2_no, ite_true, ite_false, if_true, if_false, Bool.false_eq_true, reduceIte, reduceCtorEq, not_true_eq_false, not_false_eq_true, eq_self, decide_true, decide_false, le_tt, le_ff, lt_tt, lt_ff, eq_ff, and_true, true_and, and_false, false_and, or_true, true_or, or_false, false_or, ne_eq, decide_eq_true_eq, decide_eq_false_iff_not, Bool.not_true, Bool.not_false, Bool.and_true, Bool.true_and, Bool.and_false, Bool.false_and, gs_at, gs_no, oI_n, oI_s, h7]) (n := n) (by omega)
  unfold Fm_waitsMany
  rw [l_0]
  exact (bnd_e hl2).trans rfl
theorem left_m (hV : PV g gT gn lf pk dn) (h40 : g 7 ≤ 40) (hC : PLm M g gT lf pk dn) {d : Nat} (hd : d < g 7) : Fm_isLeft (nI d) M = some (lf d) := by
  have h1 := hC.2.1 d hd
  have h2 := hC.2.2.1 d hd
  unfold Fm_isLeft
  cases hm : mvB g gT d with
  | false =>
    rw [hm] at h1
    have : lf d = false := by
      cases hl : lf d with
      | false => rfl
      | true => have := (hV.2.2.2.1 d hl).2; rw [hm] at this; cases this
    simp (disch := omega) only [l_0, l_1, l_2, l_3, l_4, l_5, l_6, l_7, l_8, l_9, l_10, l_11, l_12, l_13, l_14, l_16, l_20, l_21, l_23, l_24, l_30, l_32, l_40, l_41, l_44, l_48, l_57, l_59, l_60, l_63, l_64, l_80, l_84, l_96, l_97, l_99, l_120, l_122, l_127, l_200, l_240, l_255, l_840, l_999, l_1000, l_1001, l_2400, l_3064, l_9999, l_10000, l_13849, l_16383, l_25173, l_65535, l_65536, l_99999, l_1000000000, neg_nI, pk_mul, nI_add, nI_subL, tn_nI, inb_t, grd_true, bnd_some, elS_l, elS_r, nI_ltI, nI_leI, nI_inj, fa_and, fa_or, m1_eq, eq_m1, m1_lt, m1_le, lt_m1, le_m1, m1_lt0, up2_at, up2_no, ite_true, ite_false, if_true, if_false, Bool.false_eq_true, reduceIte, reduceCtorEq, not_true_eq_false, not_false_eq_true, eq_self, decide_true, decide_false, le_tt, le_ff, lt_tt, lt_ff, eq_ff, and_true, true_and, and_false, false_and, or_true, true_or, or_false, false_or, ne_eq, decide_eq_true_eq, decide_eq_false_iff_not, Bool.not_true, Bool.not_false, Bool.and_true, Bool.true_and, Bool.and_false, Bool.false_and, gs_at, gs_no, oI_n, oI_s, show M.1 109 d = nI 0 from h1, this]
  | true =>
    rw [hm] at h1 h2
    cases hl : lf d with
    | true =>
      rw [hl] at h2
      simp (disch := omega) only [l_0, l_1, l_2, l_3, l_4, l_5, l_6, l_7, l_8, l_9, l_10, l_11, l_12, l_13, l_14, l_16, l_20, l_21, l_23, l_24, l_30, l_32, l_40, l_41, l_44, l_48, l_57, l_59, l_60, l_63, l_64, l_80, l_84, l_96, l_97, l_99, l_120, l_122, l_127, l_200, l_240, l_255, l_840, l_999, l_1000, l_1001, l_2400, l_3064, l_9999, l_10000, l_13849, l_16383, l_25173, l_65535, l_65536, l_99999, l_1000000000, neg_nI, pk_mul, nI_add, nI_subL, tn_nI, inb_t, grd_true, bnd_some, elS_l, elS_r, nI_ltI, nI_leI, nI_inj, fa_and, fa_or, m1_eq, eq_m1, m1_lt, m1_le, lt_m1, le_m1, m1_lt0, up2_at, up2_no, ite_true, ite_false, if_true, if_false, Bool.false_eq_true, reduceIte, reduceCtorEq, not_true_eq_false, not_false_eq_true, eq_self, decide_true, decide_false, le_tt, le_ff, lt_tt, lt_ff, eq_ff, and_true, true_and, and_false, false_and, or_true, true_or, or_false, false_or, ne_eq, decide_eq_true_eq, decide_eq_false_iff_not, Bool.not_true, Bool.not_false, Bool.and_true, Bool.true_and, Bool.and_false, Bool.false_and, gs_at, gs_no, oI_n, oI_s, show M.1 109 d = nI 1 from h1, show M.1 110 d = nI 0 from h2]
    | false =>
      rw [hl] at h2
      simp (disch := omega) only [l_0, l_1, l_2, l_3, l_4, l_5, l_6, l_7, l_8, l_9, l_10, l_11, l_12, l_13, l_14, l_16, l_20, l_21, l_23, l_24, l_30, l_32, l_40, l_41, l_44, l_48, l_57, l_59, l_60, l_63, l_64, l_80, l_84, l_96, l_97, l_99, l_120, l_122, l_127, l_200, l_240, l_255, l_840, l_999, l_1000, l_1001, l_2400, l_3064, l_9999, l_10000, l_13849, l_16383, l_25173, l_65535, l_65536, l_99999, l_1000000000, neg_nI, pk_mul, nI_add, nI_subL, tn_nI, inb_t, grd_true, bnd_some, elS_l, elS_r, nI_ltI, nI_leI, nI_inj, fa_and, fa_or, m1_eq, eq_m1, m1_lt, m1_le, lt_m1, le_m1, m1_lt0, up2_at, up2_no, ite_true, ite_false, if_true, if_false, Bool.false_eq_true, reduceIte, reduceCtorEq, not_true_eq_false, not_false_eq_true, eq_self, decide_true, decide_false, le_tt, le_ff, lt_tt, lt_ff, eq_ff, and_true, true_and, and_false, false_and, or_true, true_or, or_false, false_or, ne_eq, decide_eq_true_eq, decide_eq_false_iff_not, Bool.not_true, Bool.not_false, Bool.and_true, Bool.true_and, Bool.and_false, Bool.false_and, gs_at, gs_no, oI_n, oI_s, show M.1 109 d = nI 1 from h1, show M.1 110 d = nI 1 from h2]
theorem nx_m (hV : PV g gT gn lf pk dn) (hT : LT g gT (g 7)) (hF : FK M gn h) (hC : PLm M g gT lf pk dn) (hn : 100 < n) : Fm_nextMove n M = some (oI (fstP (nxP g gT gn lf) 0 (g 7))) := by
  have e7 : gn 7 = g 7 := hV.2.1 7 (by omega)
  have h40 : g 7 ≤ 40 := by rw [← e7]; exact hV.1.2.2
  have h7 : M.1 95 7 = nI (g 7) := by rw [hF.lo (by omega), e7]
  have hl := loop_fst (body := fun s1 : Int32 => Fm_nextMove_b2 n M s1) (fun i => nI i) (nxP g gT gn lf) (g 7) (.inl ()) (fun i => .inr (nI i)) (fun i hi hp => by
      have hlm := left_m hV h40 hC hi
      unfold Fm_nextMove_b2 Fm_nextMove_j31
      unfold nxP at hp
      cases hlf : lf i with
      | false => simp (disch := omega) only [l_0, l_1, l_2, l_3, l_4, l_5, l_6, l_7, l_8, l_9, l_10, l_11, l_12, l_13, l_14, l_16, l_20, l_21, l_23, l_24, l_30, l_32, l_40, l_41, l_44, l_48, l_57, l_59, l_60, l_63, l_64, l_80, l_84, l_96, l_97, l_99, l_120, l_122, l_127, l_200, l_240, l_255, l_840, l_999, l_1000, l_1001, l_2400, l_3064, l_9999, l_10000, l_13849, l_16383, l_25173, l_65535, l_65536, l_99999, l_1000000000, neg_nI, pk_mul, nI_add, nI_subL, tn_nI, inb_t, grd_true, bnd_some, elS_l, elS_r, nI_ltI, nI_leI, nI_inj, fa_and, fa_or, m1_eq, eq_m1, m1_lt, m1_le, lt_m1, le_m1, m1_lt0, up2_at, up2_no, ite_true, ite_false, if_true, if_false, Bool.false_eq_true, reduceIte, reduceCtorEq, not_true_eq_false, not_false_eq_true, eq_self, decide_true, decide_false, le_tt, le_ff, lt_tt, lt_ff, eq_ff, and_true, true_and, and_false, false_and, or_true, true_or, or_false, false_or, ne_eq, decide_eq_true_eq, decide_eq_false_iff_not, Bool.not_true, Bool.not_false, Bool.and_true, Bool.true_and, Bool.and_false, Bool.false_and, gs_at, gs_no, oI_n, oI_s, h7, hlm, hlf]
      | true =>
        rw [hlf, Bool.true_and, decide_eq_false_iff_not] at hp
        have hct := fb_ct_le (clB gn gT i) (g 7)
        have hwm := wm_m hV hT hF hC hi (of_decide_eq_true (hV.2.2.2.1 i hlf).2).1 hn
        simp (disch := omega) only [l_0, l_1, l_2, l_3, l_4, l_5, l_6, l_7, l_8, l_9, l_10, l_11, l_12, l_13, l_14, l_16, l_20, l_21, l_23, l_24, l_30, l_32, l_40, l_41, l_44, l_48, l_57, l_59, l_60, l_63, l_64, l_80, l_84, l_96, l_97, l_99, l_120, l_122, l_127, l_200, l_240, l_255, l_840, l_999, l_1000, l_1001, l_2400, l_3064, l_9999, l_10000, l_13849, l_16383, l_25173, l_65535, l_65536, l_99999, l_1000000000, neg_nI, pk_mul, nI_add, nI_subL, tn_nI, inb_t, grd_true, bnd_some, elS_l, elS_r, nI_ltI, nI_leI, nI_inj, fa_and, fa_or, m1_eq, eq_m1, m1_lt, m1_le, lt_m1, le_m1, m1_lt0, up2_at, up2_no, ite_true, ite_false, if_true, if_false, Bool.false_eq_true, reduceIte, reduceCtorEq, not_true_eq_false, not_false_eq_true, eq_self, decide_true, decide_false, le_tt, le_ff, lt_tt, lt_ff, eq_ff, and_true, true_and, and_false, false_and, or_true, true_or, or_false, false_or, ne_eq, decide_eq_true_eq, decide_eq_false_iff_not, Bool.not_true, Bool.not_false, Bool.and_true, Bool.true_and, Bool.and_false, Bool.false_and, gs_at, gs_no, oI_n, oI_s, h7, hlm, hlf, hwm, hp]) (fun i hi hp => by
      have hlm := left_m hV h40 hC hi
      unfold nxP at hp
      rw [Bool.and_eq_true, decide_eq_true_eq] at hp
      have hwm := wm_m hV hT hF hC hi (of_decide_eq_true (hV.2.2.2.1 i hp.1).2).1 hn
      unfold Fm_nextMove_b2
      simp (disch := omega) only [l_0, l_1, l_2, l_3, l_4, l_5, l_6, l_7, l_8, l_9, l_10, l_11, l_12, l_13, l_14, l_16, l_20, l_21, l_23, l_24, l_30, l_32, l_40, l_41, l_44, l_48, l_57, l_59, l_60, l_63, l_64, l_80, l_84, l_96, l_97, l_99, l_120, l_122, l_127, l_200, l_240, l_255, l_840, l_999, l_1000, l_1001, l_2400, l_3064, l_9999, l_10000, l_13849, l_16383, l_25173, l_65535, l_65536, l_99999, l_1000000000, neg_nI, pk_mul, nI_add, nI_subL, tn_nI, inb_t, grd_true, bnd_some, elS_l, elS_r, nI_ltI, nI_leI, nI_inj, fa_and, fa_or, m1_eq, eq_m1, m1_lt, m1_le, lt_m1, le_m1, m1_lt0, up2_at, up2_no, ite_true, ite_false, if_true, if_false, Bool.false_eq_true, reduceIte, reduceCtorEq, not_true_eq_false, not_false_eq_true, eq_self, decide_true, decide_false, le_tt, le_ff, lt_tt, lt_ff, eq_ff, and_true, true_and, and_false, false_and, or_true, true_or, or_false, false_or, ne_eq, decide_eq_true_eq, decide_eq_false_iff_not, Bool.not_true, Bool.not_false, Bool.and_true, Bool.true_and, Bool.and_false, Bool.false_and, gs_at, gs_no, oI_n, oI_s, h7, hlm, hp.1, hwm, hp.2]) (by
      unfold Fm_nextMove_b2
      simp (disch := omega) only [l_0, l_1, l_2, l_3, l_4, l_5, l_6, l_7, l_8, l_9, l_10, l_11, l_12, l_13, l_14, l_16, l_20, l_21, l_23, l_24, l_30, l_32, l_40, l_41, l_44, l_48, l_57, l_59, l_60, l_63, l_64, l_80, l_84, l_96, l_97, l_99, l_120, l_122, l_127, l_200, l_240, l_255, l_840, l_999, l_1000, l_1001, l_2400, l_3064, l_9999, l_10000, l_13849, l_16383, l_25173, l_65535, l_65536, l_99999, l_1000000000, neg_nI, pk_mul, nI_add, nI_subL, tn_nI, inb_t, grd_true, bnd_some, elS_l, elS_r, nI_ltI, nI_leI, nI_inj, fa_and, fa_or, m1_eq, eq_m1, m1_lt, m1_le, lt_m1, le_m1, m1_lt0, up2_at, up2_no, ite_true, ite_false, if_true, if_false, Bool.false_eq_true, reduceIte, reduceCtorEq, not_true_eq_false, not_false_eq_true, eq_self, decide_true, decide_false, le_tt, le_ff, lt_tt, lt_ff, eq_ff, and_true, true_and, and_false, false_and, or_true, true_or, or_false, false_or, ne_eq, decide_eq_true_eq, decide_eq_false_iff_not, Bool.not_true, Bool.not_false, Bool.and_true, Bool.true_and, Bool.and_false, Bool.false_and, gs_at, gs_no, oI_n, oI_s, h7]) (g 7) 0 n (by omega) (by omega)
  unfold Fm_nextMove
  rw [l_0, bnd_e hl]
  cases fstP (nxP g gT gn lf) 0 (g 7) with
  | none => rfl
  | some j => rfl
/-- one stands elsewhere: who waits for it -/
theorem anew_c (hg7 : gn 7 = g 7) (h40 : g 7 ≤ 40) (hgn : GV gn) (hT : LT g gT (g 7)) {d : Nat} (hd : d < g 7) (hlf : ∀ x, lf x = true → x < g 7 ∧ mvB g gT x = true) (s54 : SV M 54 gn) (s73 : SV M 73 gT) (hLf : LB (M.2 72 3) lf) {old : Nat → Nat → Bool} (hw : ∀ x, x < g 7 → LB (M.2 91 x) (fun b => lf x && (decide (b < g 7) && old x b))) (hold : ∀ x b, b ≠ d → old x b = clB gn gT x b) (hd0 : lf d = true → old d d = false) (hn : 100 < n) : ∃ M', Rp_waitAnewFor n (nI d) M = some M' ∧ (∀ x, x < g 7 → LB (M'.2 91 x) (fun b => lf x && (decide (b < g 7) && clB gn gT x b))) ∧ Fr (fun c _ => c = 91) M M' := by
  have b1 := hgn.1.2.1.1
  have t7 : gT 7 = g 7 := hT.2.1 7 (by omega)
  have t1 : gT 1 = g 1 := hT.2.1 1 (by omega)
  have hcd : clB gn gT d d = false := by unfold clB; rw [decide_eq_false (fun q => q rfl), Bool.false_and]
  have hlp : ∃ r, loop (fun s1 : Int32 × Mm => Rp_waitAnewFor_b2 (nI d) s1.1 s1.2) n (nI 0, M) = some r ∧ ((∀ x, x < g 7 → LB (r.2 91 x) (fun b => lf x && (decide (b < g 7) && clB gn gT x b))) ∧ Fr (fun c _ => c = 91) M r) := by
    refine loop_I0 (fun i (st : Int32 × Mm) => st.1 = nI i ∧ (∀ x, x < g 7 → LB (st.2.2 91 x) (fun b => lf x && (decide (b < g 7) && if x < i then clB gn gT x b else old x b))) ∧ Fr (fun c _ => c = 91) M st.2) _ (g 7) ⟨rfl, fun x hx => LB_cong (hw x hx) (fun b => by rw [if_neg (by omega)]), Fr.rf⟩ (by omega) ?_ ?_
    · rintro i ⟨s1, N1⟩ hi ⟨e1, e2, e3⟩
      simp only at e1 e2 e3
      subst e1
      left
      have n54 : SV N1 54 gn := s54.fr e3 (fun k j hk => by omega)
      have n73 : SV N1 73 gT := s73.fr e3 (fun k j hk => by omega)
      have nL : LB (N1.2 72 3) lf := by rw [(e3 72 3 (by omega)).2]; exact hLf
      have h4 : N1.1 54 4 = nI (g 7) := by rw [← hg7]; exact n54.2.1
      have hbit := LB_bit nL (d := i) (by omega)
      have ei := e2 i hi
      have same : (∀ b, (lf i && (decide (b < g 7) && old i b)) = (lf i && (decide (b < g 7) && clB gn gT i b))) → ∀ x, x < g 7 → LB (N1.2 91 x) (fun b => lf x && (decide (b < g 7) && if x < i + 1 then clB gn gT x b else old x b)) := fun q x hx => LB_cong (e2 x hx) (fun b => by
        by_cases c : x = i
        · subst c
          rw [if_neg (Nat.lt_irrefl _), if_pos (by omega)]
          exact q b
        · by_cases c2 : x < i
          · rw [if_pos c2, if_pos (by omega)]
          · rw [if_neg c2, if_neg (by omega)])
      show ∃ s', Rp_waitAnewFor_b2 (nI d) (nI i) N1 = some (.inl s') ∧ _
      unfold Rp_waitAnewFor_b2 Rp_waitAnewFor_j103 Rp_waitAnewFor_j104
      by_cases c : i = d
      · refine ⟨(nI (i + 1), N1), ?_, rfl, same (fun b => ?_), e3⟩
        · simp (disch := omega) only [l_0, l_1, l_2, l_3, l_4, l_5, l_6, l_7, l_8, l_9, l_10, l_11, l_12, l_13, l_14, l_16, l_20, l_21, l_23, l_24, l_30, l_32, l_40, l_41, l_44, l_48, l_57, l_59, l_60, l_63, l_64, l_80, l_84, l_96, l_97, l_99, l_120, l_122, l_127, l_200, l_240, l_255, l_840, l_999, l_1000, l_1001, l_2400, l_3064, l_9999, l_10000, l_13849, l_16383, l_25173, l_65535, l_65536, l_99999, l_1000000000, neg_nI, pk_mul, nI_add, nI_subL, tn_nI, inb_t, grd_true, bnd_some, elS_l, elS_r, nI_ltI, nI_leI, nI_inj, fa_and, fa_or, m1_eq, eq_m1, m1_lt, m1_le, lt_m1, le_m1, m1_lt0, up2_at, up2_no, ite_true, ite_false, if_true, if_false, Bool.false_eq_true, reduceIte, reduceCtorEq, not_true_eq_false, not_false_eq_true, eq_self, decide_true, decide_false, le_tt, le_ff, lt_tt, lt_ff, eq_ff, and_true, true_and, and_false, false_and, or_true, true_or, or_false, false_or, ne_eq, decide_eq_true_eq, decide_eq_false_iff_not, Bool.not_true, Bool.not_false, Bool.and_true, Bool.true_and, Bool.and_false, Bool.false_and, gs_at, gs_no, oI_n, oI_s, h4, c]
        · by_cases cb : b = d
          · rw [cb, c, hcd]
            cases hl : lf d with
            | false => rfl
            | true => rw [hd0 hl]
          · rw [hold i b cb]
      · cases hl : lf i with
        | false =>
          refine ⟨(nI (i + 1), N1), ?_, rfl, same (fun b => by rw [hl, Bool.false_and, Bool.false_and]), e3⟩
          simp (disch := omega) only [l_0, l_1, l_2, l_3, l_4, l_5, l_6, l_7, l_8, l_9, l_10, l_11, l_12, l_13, l_14, l_16, l_20, l_21, l_23, l_24, l_30, l_32, l_40, l_41, l_44, l_48, l_57, l_59, l_60, l_63, l_64, l_80, l_84, l_96, l_97, l_99, l_120, l_122, l_127, l_200, l_240, l_255, l_840, l_999, l_1000, l_1001, l_2400, l_3064, l_9999, l_10000, l_13849, l_16383, l_25173, l_65535, l_65536, l_99999, l_1000000000, neg_nI, pk_mul, nI_add, nI_subL, tn_nI, inb_t, grd_true, bnd_some, elS_l, elS_r, nI_ltI, nI_leI, nI_inj, fa_and, fa_or, m1_eq, eq_m1, m1_lt, m1_le, lt_m1, le_m1, m1_lt0, up2_at, up2_no, ite_true, ite_false, if_true, if_false, Bool.false_eq_true, reduceIte, reduceCtorEq, not_true_eq_false, not_false_eq_true, eq_self, decide_true, decide_false, le_tt, le_ff, lt_tt, lt_ff, eq_ff, and_true, true_and, and_false, false_and, or_true, true_or, or_false, false_or, ne_eq, decide_eq_true_eq, decide_eq_false_iff_not, Bool.not_true, Bool.not_false, Bool.and_true, Bool.true_and, Bool.and_false, Bool.false_and, gs_at, gs_no, oI_n, oI_s, h4, c, hbit, hl]
        | true =>
          have hil := (of_decide_eq_true (hlf i hl).2).1
          have hsT : gT (64 + 10 * i + 3) = 0 := (T_lit hT hi).mpr ⟨hi, hil⟩
          have hlv := hT.1.2.2.2.1 i (by rw [t7]; exact hi) hsT
          have hb3 := hT.1.2.1.1
          obtain ⟨x1, x2, x3, x4⟩ := (n73.2.2.1 i (by rw [t7]; exact hi)).2.2.2.2.2 hsT
          have x1' : N1.1 85 i = nI (gT (64 + 10 * i + 6)) := x1
          have x2' : N1.1 86 i = nI (gT (64 + 10 * i + 4)) := x2
          have x3' : N1.1 87 i = nI (gT (64 + 10 * i + 5)) := x3
          have hcl := St_clashes_e hgn n54 (d := d) (l := gT (64 + 10 * i + 6)) (f := gT (64 + 10 * i + 4)) (v := gT (64 + 10 * i + 5)) (by rw [hg7]; exact hd) (by omega) (by omega)
          have hce : clB gn gT i d = agP gn (gT (64 + 10 * i + 6)) (gT (64 + 10 * i + 4)) (gT (64 + 10 * i + 5)) none d := by
            unfold clB
            rw [decide_eq_true (show d ≠ i from fun q => c q.symm), Bool.true_and]
          have upd : ∀ x, LB x (fun b => lf i && (decide (b < g 7) && clB gn gT i b)) → (∀ y, y < g 7 → LB (up2 N1.2 91 i x 91 y) (fun b => lf y && (decide (b < g 7) && if y < i + 1 then clB gn gT y b else old y b))) := fun x hx y hy => by
            by_cases cy : y = i
            · subst cy
              rw [up2_at]
              refine LB_cong hx (fun b => ?_)
              rw [if_pos (by omega)]
            · rw [up2_no (by omega)]
              refine LB_cong (e2 y hy) (fun b => ?_)
              by_cases c2 : y < i
              · rw [if_pos c2, if_pos (by omega)]
              · rw [if_neg c2, if_neg (by omega)]
          have ei' : LB (N1.2 91 i) (fun b => decide (b < g 7) && old i b) := LB_cong ei (fun b => by rw [hl, if_neg (Nat.lt_irrefl _), Bool.true_and])
          cases ha : agP gn (gT (64 + 10 * i + 6)) (gT (64 + 10 * i + 4)) (gT (64 + 10 * i + 5)) none d with
          | true =>
            rw [ha] at hcl hce
            refine ⟨(nI (i + 1), (N1.1, up2 N1.2 91 i (N1.2 91 i ||| lshl (1 : Int64) (nI d)))), ?_, rfl, upd _ (LB_cong (LB_or ei' (by omega)) (fun b => ?_)), Fr.L e3 rfl⟩
            · simp (disch := omega) only [l_0, l_1, l_2, l_3, l_4, l_5, l_6, l_7, l_8, l_9, l_10, l_11, l_12, l_13, l_14, l_16, l_20, l_21, l_23, l_24, l_30, l_32, l_40, l_41, l_44, l_48, l_57, l_59, l_60, l_63, l_64, l_80, l_84, l_96, l_97, l_99, l_120, l_122, l_127, l_200, l_240, l_255, l_840, l_999, l_1000, l_1001, l_2400, l_3064, l_9999, l_10000, l_13849, l_16383, l_25173, l_65535, l_65536, l_99999, l_1000000000, neg_nI, pk_mul, nI_add, nI_subL, tn_nI, inb_t, grd_true, bnd_some, elS_l, elS_r, nI_ltI, nI_leI, nI_inj, fa_and, fa_or, m1_eq, eq_m1, m1_lt, m1_le, lt_m1, le_m1, m1_lt0, up2_at, up2_no, ite_true, ite_false, if_true, if_false, Bool.false_eq_true, reduceIte, reduceCtorEq, not_true_eq_false, not_false_eq_true, eq_self, decide_true, decide_false, le_tt, le_ff, lt_tt, lt_ff, eq_ff, and_true, true_and, and_false, false_and, or_true, true_or, or_false, false_or, ne_eq, decide_eq_true_eq, decide_eq_false_iff_not, Bool.not_true, Bool.not_false, Bool.and_true, Bool.true_and, Bool.and_false, Bool.false_and, gs_at, gs_no, oI_n, oI_s, h4, c, hbit, hl, x1', x2', x3', hcl]
            · rw [hl, Bool.true_and]
              by_cases cb : b = d
              · rw [cb, hce, decide_eq_true rfl, Bool.or_true, decide_eq_true hd]; rfl
              · rw [decide_eq_false cb, Bool.or_false, hold i b cb]
          | false =>
            rw [ha] at hcl hce
            refine ⟨(nI (i + 1), (N1.1, up2 N1.2 91 i (N1.2 91 i &&& (lshl (1 : Int64) (nI d) ^^^ (-1 : Int64))))), ?_, rfl, upd _ (LB_cong (LB_del ei' (by omega)) (fun b => ?_)), Fr.L e3 rfl⟩
            · simp (disch := omega) only [l_0, l_1, l_2, l_3, l_4, l_5, l_6, l_7, l_8, l_9, l_10, l_11, l_12, l_13, l_14, l_16, l_20, l_21, l_23, l_24, l_30, l_32, l_40, l_41, l_44, l_48, l_57, l_59, l_60, l_63, l_64, l_80, l_84, l_96, l_97, l_99, l_120, l_122, l_127, l_200, l_240, l_255, l_840, l_999, l_1000, l_1001, l_2400, l_3064, l_9999, l_10000, l_13849, l_16383, l_25173, l_65535, l_65536, l_99999, l_1000000000, neg_nI, pk_mul, nI_add, nI_subL, tn_nI, inb_t, grd_true, bnd_some, elS_l, elS_r, nI_ltI, nI_leI, nI_inj, fa_and, fa_or, m1_eq, eq_m1, m1_lt, m1_le, lt_m1, le_m1, m1_lt0, up2_at, up2_no, ite_true, ite_false, if_true, if_false, Bool.false_eq_true, reduceIte, reduceCtorEq, not_true_eq_false, not_false_eq_true, eq_self, decide_true, decide_false, le_tt, le_ff, lt_tt, lt_ff, eq_ff, and_true, true_and, and_false, false_and, or_true, true_or, or_false, false_or, ne_eq, decide_eq_true_eq, decide_eq_false_iff_not, Bool.not_true, Bool.not_false, Bool.and_true, Bool.true_and, Bool.and_false, Bool.false_and, gs_at, gs_no, oI_n, oI_s, h4, c, hbit, hl, x1', x2', x3', hcl]
            · rw [hl, Bool.true_and]
              by_cases cb : b = d
              · rw [cb, hce, decide_eq_true rfl, Bool.not_true, Bool.and_false, Bool.and_false]
              · rw [decide_eq_false cb, Bool.not_false, Bool.and_true, hold i b cb]
    · rintro ⟨s1, N1⟩ ⟨e1, e2, e3⟩
      simp only at e1 e2 e3
      subst e1
      have h4 : N1.1 54 4 = nI (g 7) := by rw [(e3 54 4 (by omega)).1, ← hg7]; exact s54.2.1
      refine ⟨N1, ?_, fun x hx => LB_cong (e2 x hx) (fun b => by rw [if_pos hx]), e3⟩
      show Rp_waitAnewFor_b2 (nI d) (nI (g 7)) N1 = _
      unfold Rp_waitAnewFor_b2
      simp (disch := omega) only [l_0, l_1, l_2, l_3, l_4, l_5, l_6, l_7, l_8, l_9, l_10, l_11, l_12, l_13, l_14, l_16, l_20, l_21, l_23, l_24, l_30, l_32, l_40, l_41, l_44, l_48, l_57, l_59, l_60, l_63, l_64, l_80, l_84, l_96, l_97, l_99, l_120, l_122, l_127, l_200, l_240, l_255, l_840, l_999, l_1000, l_1001, l_2400, l_3064, l_9999, l_10000, l_13849, l_16383, l_25173, l_65535, l_65536, l_99999, l_1000000000, neg_nI, pk_mul, nI_add, nI_subL, tn_nI, inb_t, grd_true, bnd_some, elS_l, elS_r, nI_ltI, nI_leI, nI_inj, fa_and, fa_or, m1_eq, eq_m1, m1_lt, m1_le, lt_m1, le_m1, m1_lt0, up2_at, up2_no, ite_true, ite_false, if_true, if_false, Bool.false_eq_true, reduceIte, reduceCtorEq, not_true_eq_false, not_false_eq_true, eq_self, decide_true, decide_false, le_tt, le_ff, lt_tt, lt_ff, eq_ff, and_true, true_and, and_false, false_and, or_true, true_or, or_false, false_or, ne_eq, decide_eq_true_eq, decide_eq_false_iff_not, Bool.not_true, Bool.not_false, Bool.and_true, Bool.true_and, Bool.and_false, Bool.false_and, gs_at, gs_no, oI_n, oI_s, h4]
  obtain ⟨r, r1, r2, r3⟩ := hlp
  refine ⟨r, ?_, r2, r3⟩
  unfold Rp_waitAnewFor
  simp (disch := omega) only [l_0, l_1, l_2, l_3, l_4, l_5, l_6, l_7, l_8, l_9, l_10, l_11, l_12, l_13, l_14, l_16, l_20, l_21, l_23, l_24, l_30, l_32, l_40, l_41, l_44, l_48, l_57, l_59, l_60, l_63, l_64, l_80, l_84, l_96, l_97, l_99, l_120, l_122, l_127, l_200, l_240, l_255, l_840, l_999, l_1000, l_1001, l_2400, l_3064, l_9999, l_10000, l_13849, l_16383, l_25173, l_65535, l_65536, l_99999, l_1000000000, neg_nI, pk_mul, nI_add, nI_subL, tn_nI, inb_t, grd_true, bnd_some, elS_l, elS_r, nI_ltI, nI_leI, nI_inj, fa_and, fa_or, m1_eq, eq_m1, m1_lt, m1_le, lt_m1, le_m1, m1_lt0, up2_at, up2_no, ite_true, ite_false, if_true, if_false, Bool.false_eq_true, reduceIte, reduceCtorEq, not_true_eq_false, not_false_eq_true, eq_self, decide_true, decide_false, le_tt, le_ff, lt_tt, lt_ff, eq_ff, and_true, true_and, and_false, false_and, or_true, true_or, or_false, false_or, ne_eq, decide_eq_true_eq, decide_eq_false_iff_not, Bool.not_true, Bool.not_false, Bool.and_true, Bool.true_and, Bool.and_false, Bool.false_and, gs_at, gs_no, oI_n, oI_s, r1]
end
