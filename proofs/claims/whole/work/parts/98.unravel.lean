/-! parking in the model, unravel -/
section
variable {M : Mm} {g gT gn : Nat → Nat} {lf pk : Nat → Bool} {dn n d : Nat} {h : Nat → Int32}
theorem pf_m (hgn : GV gn) (hF : FK M gn h) (hd : d < gn 7) (hl : gn (64 + 10 * d + 3) = 0) (hn : 300 < n) : Fm_parkFor n (nI d) M = some (oI (pfF gn d)) := by
  have b1 := hgn.1.2.1.1
  have h40 := hgn.2.2
  obtain ⟨y1, y2, y3, y4⟩ := hgn.1.2.2.2.1 d hd hl
  have o5 := hF.of (d := d) (w := 5) (by omega) (by omega) (by omega)
  have h1 : M.1 95 1 = nI (gn 1) := hF.lo (by omega)
  have hlp := loop_fst (body := fun s1 : Int32 => Fm_parkFor_b2 n (nI d) M s1) (fun i => nI i) (cjB gn d) (gn 1 + 1 - gn (64 + 10 * d + 5)) (.inl ()) (fun i => .inr (nI i)) (fun i hi hP => by
    have hj := Fm_canJump_e hgn hF hd hl (f := i) (n := n) (by omega) hn
    rw [hP] at hj
    show Fm_parkFor_b2 n (nI d) M (nI i) = _
    unfold Fm_parkFor_b2
    simp (disch := omega) only [l_0, l_1, l_2, l_3, l_4, l_5, l_6, l_7, l_8, l_9, l_10, l_11, l_12, l_13, l_14, l_16, l_20, l_21, l_23, l_24, l_30, l_32, l_40, l_41, l_44, l_48, l_57, l_59, l_60, l_63, l_64, l_80, l_84, l_96, l_97, l_99, l_120, l_122, l_127, l_200, l_240, l_255, l_840, l_999, l_1000, l_1001, l_2400, l_3064, l_9999, l_10000, l_13849, l_16383, l_25173, l_65535, l_65536, l_99999, l_1000000000, neg_nI, pk_mul, nI_add, nI_subL, tn_nI, inb_t, grd_true, bnd_some, elS_l, elS_r, nI_ltI, nI_leI, nI_inj, fa_and, fa_or, m1_eq, eq_m1, m1_lt, m1_le, lt_m1, le_m1, m1_lt0, up2_at, up2_no, ite_true, ite_false, if_true, if_false, Bool.false_eq_true, reduceIte, reduceCtorEq, not_true_eq_false, not_false_eq_true, eq_self, decide_true, decide_false, le_tt, le_ff, lt_tt, lt_ff, eq_ff, and_true, true_and, and_false, false_and, or_true, true_or, or_false, false_or, ne_eq, decide_eq_true_eq, decide_eq_false_iff_not, Bool.not_true, Bool.not_false, Bool.and_true, Bool.true_and, Bool.and_false, Bool.false_and, gs_at, gs_no, oI_n, oI_s, o5, h1, hj]) (fun i hi hP => by
    have hj := Fm_canJump_e hgn hF hd hl (f := i) (n := n) (by omega) hn
    rw [hP] at hj
    show Fm_parkFor_b2 n (nI d) M (nI i) = _
    unfold Fm_parkFor_b2
    simp (disch := omega) only [l_0, l_1, l_2, l_3, l_4, l_5, l_6, l_7, l_8, l_9, l_10, l_11, l_12, l_13, l_14, l_16, l_20, l_21, l_23, l_24, l_30, l_32, l_40, l_41, l_44, l_48, l_57, l_59, l_60, l_63, l_64, l_80, l_84, l_96, l_97, l_99, l_120, l_122, l_127, l_200, l_240, l_255, l_840, l_999, l_1000, l_1001, l_2400, l_3064, l_9999, l_10000, l_13849, l_16383, l_25173, l_65535, l_65536, l_99999, l_1000000000, neg_nI, pk_mul, nI_add, nI_subL, tn_nI, inb_t, grd_true, bnd_some, elS_l, elS_r, nI_ltI, nI_leI, nI_inj, fa_and, fa_or, m1_eq, eq_m1, m1_lt, m1_le, lt_m1, le_m1, m1_lt0, up2_at, up2_no, ite_true, ite_false, if_true, if_false, Bool.false_eq_true, reduceIte, reduceCtorEq, not_true_eq_false, not_false_eq_true, eq_self, decide_true, decide_false, le_tt, le_ff, lt_tt, lt_ff, eq_ff, and_true, true_and, and_false, false_and, or_true, true_or, or_false, false_or, ne_eq, decide_eq_true_eq, decide_eq_false_iff_not, Bool.not_true, Bool.not_false, Bool.and_true, Bool.true_and, Bool.and_false, Bool.false_and, gs_at, gs_no, oI_n, oI_s, o5, h1, hj]) (by
    show Fm_parkFor_b2 n (nI d) M (nI (gn 1 + 1 - gn (64 + 10 * d + 5))) = _
    unfold Fm_parkFor_b2
    obtain ⟨z, hz⟩ : ∃ z, z = gn 1 + 1 - gn (64 + 10 * d + 5) := ⟨_, rfl⟩
    rw [← hz]
    simp (disch := omega) only [l_0, l_1, l_2, l_3, l_4, l_5, l_6, l_7, l_8, l_9, l_10, l_11, l_12, l_13, l_14, l_16, l_20, l_21, l_23, l_24, l_30, l_32, l_40, l_41, l_44, l_48, l_57, l_59, l_60, l_63, l_64, l_80, l_84, l_96, l_97, l_99, l_120, l_122, l_127, l_200, l_240, l_255, l_840, l_999, l_1000, l_1001, l_2400, l_3064, l_9999, l_10000, l_13849, l_16383, l_25173, l_65535, l_65536, l_99999, l_1000000000, neg_nI, pk_mul, nI_add, nI_subL, tn_nI, inb_t, grd_true, bnd_some, elS_l, elS_r, nI_ltI, nI_leI, nI_inj, fa_and, fa_or, m1_eq, eq_m1, m1_lt, m1_le, lt_m1, le_m1, m1_lt0, up2_at, up2_no, ite_true, ite_false, if_true, if_false, Bool.false_eq_true, reduceIte, reduceCtorEq, not_true_eq_false, not_false_eq_true, eq_self, decide_true, decide_false, le_tt, le_ff, lt_tt, lt_ff, eq_ff, and_true, true_and, and_false, false_and, or_true, true_or, or_false, false_or, ne_eq, decide_eq_true_eq, decide_eq_false_iff_not, Bool.not_true, Bool.not_false, Bool.and_true, Bool.true_and, Bool.and_false, Bool.false_and, gs_at, gs_no, oI_n, oI_s, o5, h1]) (gn 1 + 1 - gn (64 + 10 * d + 5)) 0 n (by omega) (by omega)
  unfold Fm_parkFor
  rw [l_0]
  refine (bnd_e hlp).trans ?_
  unfold pfF
  cases fstP (cjB gn d) 0 (gn 1 + 1 - gn (64 + 10 * d + 5)) with
  | none => rfl
  | some f => rfl
theorem pk_m (hV : PV g gT gn lf pk dn) (hF : FK M gn h) (hC : PLm M g gT lf pk dn) (hn : 300 < n) : (fstP (pkB gn lf pk) 0 (g 7) = none ∧ Fm_parks n M = some (false, M)) ∨ ∃ d f M', fstP (pkB gn lf pk) 0 (g 7) = some d ∧ pfF gn d = some f ∧ Fm_parks n M = some (true, M') ∧ FK M' (gs gn (64 + 10 * d + 4) f) h ∧ PLm M' g gT lf (pk1 pk d) dn := by
  obtain ⟨v1, v2, v3, v4, v5, v6⟩ := id hV
  have e7 : gn 7 = g 7 := v2 7 (by omega)
  have h40 : g 7 ≤ 40 := by rw [← e7]; exact v1.2.2
  have b1 := v1.1.2.1.1
  have h7 : M.1 95 7 = nI (g 7) := by rw [hF.lo (by omega), e7]
  have key := loop_park (body := fun s1 : Int32 => Fm_parks_b2 n M s1) (pkB gn lf pk) (g 7) (fun d M' => ∃ f, pfF gn d = some f ∧ FK M' (gs gn (64 + 10 * d + 4) f) h ∧ PLm M' g gT lf (pk1 pk d) dn) (n := n) (by omega) (fun i hi hP => ?_) (fun i hi hP => ?_) ?_
  · rcases key with ⟨k1, k2⟩ | ⟨d, M', k1, k2, f, k3, k4, k5⟩
    · refine .inl ⟨k1, ?_⟩
      unfold Fm_parks
      rw [l_0, k2]
      rfl
    · refine .inr ⟨d, f, M', k1, k3, ?_, k4, k5⟩
      unfold Fm_parks
      rw [l_0, k2]
      rfl
  · show Fm_parks_b2 n M (nI i) = _
    have hle := left_m hV h40 hC hi
    have h111 := hC.2.2.2.1 i hi
    unfold pkB at hP
    unfold Fm_parks_b2 Fm_parks_j72
    cases hl : lf i with
    | false =>
      rw [hl] at hle
      simp (disch := omega) only [l_0, l_1, l_2, l_3, l_4, l_5, l_6, l_7, l_8, l_9, l_10, l_11, l_12, l_13, l_14, l_16, l_20, l_21, l_23, l_24, l_30, l_32, l_40, l_41, l_44, l_48, l_57, l_59, l_60, l_63, l_64, l_80, l_84, l_96, l_97, l_99, l_120, l_122, l_127, l_200, l_240, l_255, l_840, l_999, l_1000, l_1001, l_2400, l_3064, l_9999, l_10000, l_13849, l_16383, l_25173, l_65535, l_65536, l_99999, l_1000000000, neg_nI, pk_mul, nI_add, nI_subL, tn_nI, inb_t, grd_true, bnd_some, elS_l, elS_r, nI_ltI, nI_leI, nI_inj, fa_and, fa_or, m1_eq, eq_m1, m1_lt, m1_le, lt_m1, le_m1, m1_lt0, up2_at, up2_no, ite_true, ite_false, if_true, if_false, Bool.false_eq_true, reduceIte, reduceCtorEq, not_true_eq_false, not_false_eq_true, eq_self, decide_true, decide_false, le_tt, le_ff, lt_tt, lt_ff, eq_ff, and_true, true_and, and_false, false_and, or_true, true_or, or_false, false_or, ne_eq, decide_eq_true_eq, decide_eq_false_iff_not, Bool.not_true, Bool.not_false, Bool.and_true, Bool.true_and, Bool.and_false, Bool.false_and, gs_at, gs_no, oI_n, oI_s, h7, hle]
    | true =>
      rw [hl] at hle hP
      have hln : gn (64 + 10 * i + 3) = 0 := by rw [v3 i hi]; exact (of_decide_eq_true (v4 i hl).2).1
      cases hp : pk i with
      | true =>
        rw [hp] at h111
        simp (disch := omega) only [l_0, l_1, l_2, l_3, l_4, l_5, l_6, l_7, l_8, l_9, l_10, l_11, l_12, l_13, l_14, l_16, l_20, l_21, l_23, l_24, l_30, l_32, l_40, l_41, l_44, l_48, l_57, l_59, l_60, l_63, l_64, l_80, l_84, l_96, l_97, l_99, l_120, l_122, l_127, l_200, l_240, l_255, l_840, l_999, l_1000, l_1001, l_2400, l_3064, l_9999, l_10000, l_13849, l_16383, l_25173, l_65535, l_65536, l_99999, l_1000000000, neg_nI, pk_mul, nI_add, nI_subL, tn_nI, inb_t, grd_true, bnd_some, elS_l, elS_r, nI_ltI, nI_leI, nI_inj, fa_and, fa_or, m1_eq, eq_m1, m1_lt, m1_le, lt_m1, le_m1, m1_lt0, up2_at, up2_no, ite_true, ite_false, if_true, if_false, Bool.false_eq_true, reduceIte, reduceCtorEq, not_true_eq_false, not_false_eq_true, eq_self, decide_true, decide_false, le_tt, le_ff, lt_tt, lt_ff, eq_ff, and_true, true_and, and_false, false_and, or_true, true_or, or_false, false_or, ne_eq, decide_eq_true_eq, decide_eq_false_iff_not, Bool.not_true, Bool.not_false, Bool.and_true, Bool.true_and, Bool.and_false, Bool.false_and, gs_at, gs_no, oI_n, oI_s, h7, hle, show M.1 111 i = nI 1 from h111]
      | false =>
        rw [hp] at h111 hP
        have hpf := pf_m v1 hF (d := i) (by rw [e7]; exact hi) hln hn
        cases hq : pfF gn i with
        | none =>
          rw [hq] at hpf
          have hpf' : Fm_parkFor n (nI i) M = some (-1 : Int32) := hpf
          simp (disch := omega) only [l_0, l_1, l_2, l_3, l_4, l_5, l_6, l_7, l_8, l_9, l_10, l_11, l_12, l_13, l_14, l_16, l_20, l_21, l_23, l_24, l_30, l_32, l_40, l_41, l_44, l_48, l_57, l_59, l_60, l_63, l_64, l_80, l_84, l_96, l_97, l_99, l_120, l_122, l_127, l_200, l_240, l_255, l_840, l_999, l_1000, l_1001, l_2400, l_3064, l_9999, l_10000, l_13849, l_16383, l_25173, l_65535, l_65536, l_99999, l_1000000000, neg_nI, pk_mul, nI_add, nI_subL, tn_nI, inb_t, grd_true, bnd_some, elS_l, elS_r, nI_ltI, nI_leI, nI_inj, fa_and, fa_or, m1_eq, eq_m1, m1_lt, m1_le, lt_m1, le_m1, m1_lt0, up2_at, up2_no, ite_true, ite_false, if_true, if_false, Bool.false_eq_true, reduceIte, reduceCtorEq, not_true_eq_false, not_false_eq_true, eq_self, decide_true, decide_false, le_tt, le_ff, lt_tt, lt_ff, eq_ff, and_true, true_and, and_false, false_and, or_true, true_or, or_false, false_or, ne_eq, decide_eq_true_eq, decide_eq_false_iff_not, Bool.not_true, Bool.not_false, Bool.and_true, Bool.true_and, Bool.and_false, Bool.false_and, gs_at, gs_no, oI_n, oI_s, h7, hle, show M.1 111 i = nI 0 from h111, hpf']
        | some f => rw [hq] at hP; cases hP
  · show ∃ M', Fm_parks_b2 n M (nI i) = _ ∧ _
    have hle := left_m hV h40 hC hi
    have h111 := hC.2.2.2.1 i hi
    have hct := fb_ct_le pk (g 7)
    unfold pkB at hP
    rw [Bool.and_eq_true] at hP
    have hP1 := hP.1
    rw [Bool.and_eq_true, Bool.not_eq_true'] at hP1
    have hln : gn (64 + 10 * i + 3) = 0 := by rw [v3 i hi]; exact (of_decide_eq_true (v4 i hP1.1).2).1
    rw [hP1.1] at hle
    rw [hP1.2] at h111
    have hpf := pf_m v1 hF (d := i) (by rw [e7]; exact hi) hln hn
    cases hp : pfF gn i with
    | none => rw [hp] at hP; cases hP.2
    | some f =>
      obtain ⟨_, p2, p3, p4⟩ := fstP_some hp
      have hlt := cj_lt p3
      rw [hp] at hpf
      have hpf' : Fm_parkFor n (nI i) M = some (nI f) := hpf
      obtain ⟨M2, t1, t2, t3⟩ := hF.sets (d := i) (w := 4) (v := f) (by omega) (by omega) (by omega)
      have h34 : M2.1 94 34 = nI (fb_ct pk (g 7)) := by rw [(t3 94 34 (by omega)).1]; exact hC.2.2.2.2.2.1
      obtain ⟨M3, hM3⟩ : ∃ M3 : Mm, M3 = (up2 (up2 M2.1 111 i (nI 1)) 94 34 (nI (fb_ct pk (g 7) + 1)), M2.2) := ⟨_, rfl⟩
      have g3 : Fr (fun c j => (c = 111 ∧ j = i) ∨ (c = 94 ∧ j = 34)) M2 M3 := by rw [hM3]; exact Fr.I (Fr.I Fr.rf (.inl ⟨rfl, rfl⟩)) (.inr ⟨rfl, rfl⟩)
      refine ⟨M3, ?_, f, rfl, t2.fr g3 (fun j => by omega), ?_⟩
      · unfold Fm_parks_b2
        rw [hM3]
        generalize fb_ct pk (g 7) = z at h34 hct ⊢
        simp (disch := omega) only [l_0, l_1, l_2, l_3, l_4, l_5, l_6, l_7, l_8, l_9, l_10, l_11, l_12, l_13, l_14, l_16, l_20, l_21, l_23, l_24, l_30, l_32, l_40, l_41, l_44, l_48, l_57, l_59, l_60, l_63, l_64, l_80, l_84, l_96, l_97, l_99, l_120, l_122, l_127, l_200, l_240, l_255, l_840, l_999, l_1000, l_1001, l_2400, l_3064, l_9999, l_10000, l_13849, l_16383, l_25173, l_65535, l_65536, l_99999, l_1000000000, neg_nI, pk_mul, nI_add, nI_subL, tn_nI, inb_t, grd_true, bnd_some, elS_l, elS_r, nI_ltI, nI_leI, nI_inj, fa_and, fa_or, m1_eq, eq_m1, m1_lt, m1_le, lt_m1, le_m1, m1_lt0, up2_at, up2_no, ite_true, ite_false, if_true, if_false, Bool.false_eq_true, reduceIte, reduceCtorEq, not_true_eq_false, not_false_eq_true, eq_self, decide_true, decide_false, le_tt, le_ff, lt_tt, lt_ff, eq_ff, and_true, true_and, and_false, false_and, or_true, true_or, or_false, false_or, ne_eq, decide_eq_true_eq, decide_eq_false_iff_not, Bool.not_true, Bool.not_false, Bool.and_true, Bool.true_and, Bool.and_false, Bool.false_and, gs_at, gs_no, oI_n, oI_s, h7, hle, show M.1 111 i = nI 0 from h111, hpf', t1, nar1, h34]
      · obtain ⟨h1, h2, h4, h5, h6, h8, h9⟩ := hC
        refine ⟨fun x q1 q2 => ?_, fun x hx => ?_, fun x hx => ?_, fun x hx => ?_, ?_, ?_, ?_⟩
        · rw [(g3 105 x (by omega)).1, (g3 106 x (by omega)).1, (g3 107 x (by omega)).1, (t3 105 x (by omega)).1, (t3 106 x (by omega)).1, (t3 107 x (by omega)).1]; exact h1 x q1 q2
        · rw [(g3 109 x (by omega)).1, (t3 109 x (by omega)).1]; exact h2 x hx
        · rw [(g3 110 x (by omega)).1, (t3 110 x (by omega)).1]; exact h4 x hx
        · unfold pk1
          by_cases c : x = i
          · rw [c, decide_eq_true rfl, Bool.or_true, hM3]
            show up2 (up2 M2.1 111 i (nI 1)) 94 34 (nI (fb_ct pk (g 7) + 1)) 111 i = _
            rw [up2_no (by omega), up2_at]
            rfl
          · rw [(g3 111 x (by omega)).1, (t3 111 x (by omega)).1, decide_eq_false c, Bool.or_false]; exact h5 x hx
        · rw [(g3 94 33 (by omega)).1, (t3 94 33 (by omega)).1]; exact h6
        · rw [pk1_ct hi hP1.2, hM3]
          show up2 (up2 M2.1 111 i (nI 1)) 94 34 (nI (fb_ct pk (g 7) + 1)) 94 34 = _
          exact up2_at
        · rw [(g3 94 32 (by omega)).1, (t3 94 32 (by omega)).1]; exact h9
  · show Fm_parks_b2 n M (nI (g 7)) = _
    unfold Fm_parks_b2
    simp (disch := omega) only [l_0, l_1, l_2, l_3, l_4, l_5, l_6, l_7, l_8, l_9, l_10, l_11, l_12, l_13, l_14, l_16, l_20, l_21, l_23, l_24, l_30, l_32, l_40, l_41, l_44, l_48, l_57, l_59, l_60, l_63, l_64, l_80, l_84, l_96, l_97, l_99, l_120, l_122, l_127, l_200, l_240, l_255, l_840, l_999, l_1000, l_1001, l_2400, l_3064, l_9999, l_10000, l_13849, l_16383, l_25173, l_65535, l_65536, l_99999, l_1000000000, neg_nI, pk_mul, nI_add, nI_subL, tn_nI, inb_t, grd_true, bnd_some, elS_l, elS_r, nI_ltI, nI_leI, nI_inj, fa_and, fa_or, m1_eq, eq_m1, m1_lt, m1_le, lt_m1, le_m1, m1_lt0, up2_at, up2_no, ite_true, ite_false, if_true, if_false, Bool.false_eq_true, reduceIte, reduceCtorEq, not_true_eq_false, not_false_eq_true, eq_self, decide_true, decide_false, le_tt, le_ff, lt_tt, lt_ff, eq_ff, and_true, true_and, and_false, false_and, or_true, true_or, or_false, false_or, ne_eq, decide_eq_true_eq, decide_eq_false_iff_not, Bool.not_true, Bool.not_false, Bool.and_true, Bool.true_and, Bool.and_false, Bool.false_and, gs_at, gs_no, oI_n, oI_s, h7]
end
