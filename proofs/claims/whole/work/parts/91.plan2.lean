/-! repacking: one move, all moves; calls: plan, planned, waits -/
section
variable {M : Mm} {g gT gn : Nat → Nat} {lf pk : Nat → Bool} {n dn d : Nat} {h : Nat → Int32}
def mvG (gn gT : Nat → Nat) (d : Nat) : Nat → Nat := litG gn d (gT (64 + 10 * d + 6)) (gT (64 + 10 * d + 4)) (gT (64 + 10 * d + 5))
def lf1 (lf : Nat → Bool) (d : Nat) : Nat → Bool := fun x => lf x && !decide (x = d)
theorem lf1_ct (hd : d < g 7) (hl : lf d = true) : fb_ct (lf1 lf d) (g 7) + 1 = fb_ct lf (g 7) := by
  have hu := fb_ct_upd lf false hd
  rw [hl, if_pos rfl, if_neg (show ¬ false = true by simp)] at hu
  have : fb_ct (lf1 lf d) (g 7) = fb_ct (fun k => if k = d then false else lf k) (g 7) := fb_ct_cong (fun x _ => by
    unfold lf1
    by_cases c : x = d
    · rw [if_pos c, decide_eq_true c, Bool.not_true, Bool.and_false]
    · rw [if_neg c, decide_eq_false c, Bool.not_false, Bool.and_true])
  rw [this]
  omega
theorem cl_mv {x b : Nat} (hb : b ≠ d) : clB (mvG gn gT d) gT x b = clB gn gT x b := by
  unfold clB agP kfB mvG
  rw [lit_ne hb (by omega), lit_ne hb (by omega), lit_ne hb (by omega), lit_ne hb (by omega), lit_lo (by omega)]
theorem cl_kf {b : Nat} (h : clB gn gT d b = false) (hb : b ≠ d) (hl : gn (64 + 10 * b + 3) = 0) : gn (64 + 10 * b + 6) &&& gT (64 + 10 * d + 6) = 0 ∨ gn (64 + 10 * b + 4) + gn (64 + 10 * b + 5) + gn 2 ≤ gT (64 + 10 * d + 4) ∨ gT (64 + 10 * d + 4) + gT (64 + 10 * d + 5) + gn 2 ≤ gn (64 + 10 * b + 4) := by
  unfold clB agP at h
  rw [decide_eq_true hb, decide_eq_true (show some b ≠ none by simp), decide_eq_true hl, Bool.true_and, Bool.true_and, Bool.true_and, Bool.not_eq_false'] at h
  exact of_decide_eq_true h
theorem pv_step (hV : PV g gT gn lf pk dn) (hT : LT g gT (g 7)) (hd : d < g 7) (hx : nxP g gT gn lf d = true) : PV g gT (mvG gn gT d) (lf1 lf d) pk (dn + 1) ∧ dn < 40 := by
  obtain ⟨v1, v2, v3, v4, v5, v6⟩ := hV
  unfold nxP at hx
  rw [Bool.and_eq_true, decide_eq_true_eq, cl_0] at hx
  have hl := (of_decide_eq_true (v4 d hx.1).2).1
  have hln : gn (64 + 10 * d + 3) = 0 := by rw [v3 d hd]; exact hl
  have e7 : gn 7 = g 7 := v2 7 (by omega)
  have t7 : gT 7 = g 7 := hT.2.1 7 (by omega)
  have hsT : gT (64 + 10 * d + 3) = 0 := (T_lit hT hd).mpr ⟨hd, hl⟩
  obtain ⟨y1, y2, y3, y4⟩ := hT.1.2.2.2.1 d (by rw [t7]; exact hd) hsT
  rw [hT.2.1 1 (by omega)] at y2
  rw [hT.2.1 3 (by omega)] at y4
  have hct := lf1_ct (lf := lf) hd hx.1
  have hle := fb_ct_le (mvB g gT) (g 7)
  have h40 := v1.2.2
  refine ⟨⟨GV_lit v1 (by rw [e7]; exact hd) y1 y3 (by rw [v2 3 (by omega)]; exact y4) (fit_iff.mpr ⟨by rw [v2 1 (by omega)]; exact y2, fun e he hne hle' hs => ?_⟩) (.inl hln), fun j hj => (lit_lo hj).trans (v2 j hj), fun x hx' => ?_, fun x hx' => ?_, by omega, v6⟩, by omega⟩
  · rw [e7] at he
    have hed : e ≠ d := fun q => hne (by rw [q])
    rcases cl_kf (hx.2 e he) hed hle' with q | q | q
    · exact absurd q hs
    · exact .inl q
    · exact .inr q
  · unfold mvG
    by_cases c : x = d
    · subst c; rw [lit_3, hl]
    · rw [lit_ne c (by omega)]; exact v3 x hx'
  · unfold lf1 at hx'
    rw [Bool.and_eq_true] at hx'
    exact v4 x hx'.1
theorem mv_c (hV : PV g gT gn lf pk dn) (hT : LT g gT (g 7)) (hd : d < g 7) (hx : nxP g gT gn lf d = true) (hC : PLN M g gT gn lf pk dn) (hn : 100 < n) : ∃ M', Rp_carryOut_b5 n (nI d) M = some (.inl (oI (fstP (nxP g gT (mvG gn gT d) (lf1 lf d)) 0 (g 7)), M')) ∧ PLN M' g gT (mvG gn gT d) (lf1 lf d) pk (dn + 1) ∧ M'.1 92 dn = nI d ∧ ∀ j, j ≠ dn → M'.1 92 j = M.1 92 j := by
  obtain ⟨hV', hdn⟩ := pv_step hV hT hd hx
  obtain ⟨s54, s73, hLf, hw, h77, hpk⟩ := id hC
  obtain ⟨v1, v2, v3, v4, v5, v6⟩ := id hV
  have hx' := hx
  unfold nxP at hx'
  rw [Bool.and_eq_true, decide_eq_true_eq, cl_0] at hx'
  have hl := (of_decide_eq_true (v4 d hx'.1).2).1
  have e7 : gn 7 = g 7 := v2 7 (by omega)
  have t7 : gT 7 = g 7 := hT.2.1 7 (by omega)
  have h40 : g 7 ≤ 40 := by rw [← e7]; exact v1.2.2
  have hsT : gT (64 + 10 * d + 3) = 0 := (T_lit hT hd).mpr ⟨hd, hl⟩
  obtain ⟨y1, y2, y3, y4⟩ := hT.1.2.2.2.1 d (by rw [t7]; exact hd) hsT
  have hb3 := hT.1.2.1.1
  rw [hT.2.1 3 (by omega)] at y4
  obtain ⟨x1, x2, x3, x4⟩ := (s73.2.2.1 d (by rw [t7]; exact hd)).2.2.2.2.2 hsT
  have x1' : M.1 85 d = nI (gT (64 + 10 * d + 6)) := x1
  have x2' : M.1 86 d = nI (gT (64 + 10 * d + 4)) := x2
  have x3' : M.1 87 d = nI (gT (64 + 10 * d + 5)) := x3
  obtain ⟨M1, hM1⟩ : ∃ M1 : Mm, M1 = (up2 (up2 M.1 92 dn (nI d)) 72 7 (nI (dn + 1)), up2 M.2 72 3 (M.2 72 3 &&& (lshl (1 : Int64) (nI d) ^^^ (-1 : Int64)))) := ⟨_, rfl⟩
  have f1 : Fr (fun c j => c = 92 ∧ j = dn ∨ c = 72 ∧ (j = 7 ∨ j = 3)) M M1 := by
    rw [hM1]
    exact Fr.L (Fr.I (Fr.I Fr.rf (.inl ⟨rfl, rfl⟩)) (.inr ⟨rfl, .inl rfl⟩)) (.inr ⟨rfl, .inr rfl⟩)
  have k54 : SV M1 54 gn := s54.fr f1 (fun k j hk => by omega)
  obtain ⟨M2, a1, a2, a3⟩ := SV_move v1.1 v1.2.2 k54 (n := n) (d := d) (on := gT (64 + 10 * d + 6)) (f := gT (64 + 10 * d + 4)) (w := gT (64 + 10 * d + 5)) (by rw [e7]; exact hd) (by rw [v2 3 (by omega)]; exact y4) (by omega) hn
  have k73 : SV M2 73 gT := (s73.fr f1 (fun k j hk => by omega)).fr a3 (fun k j hk => by unfold fp_St_move; omega)
  have kL : LB (M2.2 72 3) (lf1 lf d) := by
    rw [(a3 72 3 (by unfold fp_St_move; omega)).2, hM1]
    show LB (up2 M.2 72 3 (M.2 72 3 &&& (lshl (1 : Int64) (nI d) ^^^ (-1 : Int64))) 72 3) _
    rw [up2_at]
    exact LB_del hLf (by omega)
  have kw : ∀ x, x < g 7 → LB (M2.2 91 x) (fun b => lf1 lf d x && (decide (b < g 7) && clB gn gT x b)) := fun x hx2 => by
    rw [(a3 91 x (by unfold fp_St_move; omega)).2, (f1 91 x (by omega)).2]
    refine LB_cong (hw x hx2) (fun b => ?_)
    unfold lf1
    by_cases c : x = d
    · rw [c, decide_eq_true rfl, Bool.not_true, Bool.and_false, Bool.false_and]
      by_cases cb : b < g 7
      · rw [hx'.2 b cb, Bool.and_false, Bool.and_false]
      · rw [decide_eq_false cb, Bool.false_and, Bool.and_false]
    · rw [decide_eq_false c, Bool.not_false, Bool.and_true]
  obtain ⟨M3, c1, c2, c3⟩ := anew_c (g := g) (gn := mvG gn gT d) (lf := lf1 lf d) (n := n) (d := d) ((hV'.2.1 7 (by omega))) h40 hV'.1 hT hd hV'.2.2.2.1 a2 k73 kL (old := clB gn gT) kw (fun x b hb => (cl_mv hb).symm) (fun q => by unfold clB; rw [decide_eq_false (fun w => w rfl), Bool.false_and]) hn
  have hP3 : PLN M3 g gT (mvG gn gT d) (lf1 lf d) pk (dn + 1) := by
    refine ⟨a2.fr c3 (fun k j hk => by omega), k73.fr c3 (fun k j hk => by omega), ?_, c2, ?_, ?_⟩
    · rw [(c3 72 3 (by omega)).2]; exact kL
    · rw [(c3 72 7 (by omega)).1, (a3 72 7 (by unfold fp_St_move; omega)).1, hM1]
      show up2 (up2 M.1 92 dn (nI d)) 72 7 (nI (dn + 1)) 72 7 = _
      exact up2_at
    · rw [(c3 72 4 (by omega)).2, (a3 72 4 (by unfold fp_St_move; omega)).2, (f1 72 4 (by omega)).2]; exact hpk
  have hnx := nx_c (n := n) h40 (hV'.2.1 7 (by omega)) hP3 hn
  refine ⟨M3, ?_, hP3, ?_, fun j hj => ?_⟩
  · rw [hM1] at a1
    unfold Rp_carryOut_b5
    simp (disch := omega) only [l_0, l_1, l_2, l_3, l_4, l_5, l_6, l_7, l_8, l_9, l_10, l_11, l_12, l_13, l_14, l_16, l_20, l_21, l_23, l_24, l_30, l_32, l_40, l_41, l_44, l_48, l_57, l_59, l_60, l_63, l_64, l_80, l_84, l_96, l_97, l_99, l_120, l_122, l_127, l_200, l_240, l_255, l_840, l_999, l_1000, l_1001, l_2400, l_3064, l_9999, l_10000, l_13849, l_16383, l_25173, l_65535, l_65536, l_99999, l_1000000000, neg_nI, pk_mul, nI_add, nI_subL, tn_nI, inb_t, grd_true, bnd_some, elS_l, elS_r, nI_ltI, nI_leI, nI_inj, fa_and, fa_or, m1_eq, eq_m1, m1_lt, m1_le, lt_m1, le_m1, m1_lt0, up2_at, up2_no, ite_true, ite_false, if_true, if_false, Bool.false_eq_true, reduceIte, reduceCtorEq, not_true_eq_false, not_false_eq_true, eq_self, decide_true, decide_false, le_tt, le_ff, lt_tt, lt_ff, eq_ff, and_true, true_and, and_false, false_and, or_true, true_or, or_false, false_or, ne_eq, decide_eq_true_eq, decide_eq_false_iff_not, Bool.not_true, Bool.not_false, Bool.and_true, Bool.true_and, Bool.and_false, Bool.false_and, gs_at, gs_no, oI_n, oI_s, h77, x1', x2', x3', a1, c1, hnx]
  · rw [(c3 92 dn (by omega)).1, (a3 92 dn (by unfold fp_St_move; omega)).1, hM1]
    show up2 (up2 M.1 92 dn (nI d)) 72 7 (nI (dn + 1)) 92 dn = _
    rw [up2_no (by omega), up2_at]
  · rw [(c3 92 j (by omega)).1, (a3 92 j (by unfold fp_St_move; omega)).1, (f1 92 j (by omega)).1]
theorem lit_3s {on f w : Nat} (hl : gn (64 + 10 * d + 3) = 0) : gs (gs (gs gn (64 + 10 * d + 4) f) (64 + 10 * d + 5) w) (64 + 10 * d + 6) on = litG gn d on f w := by
  funext j
  unfold litG gs
  by_cases c6 : j = 64 + 10 * d + 6
  · rw [if_pos c6, if_pos c6]
  · rw [if_neg c6, if_neg c6]
    by_cases c5 : j = 64 + 10 * d + 5
    · rw [if_pos c5, if_pos c5]
    · rw [if_neg c5, if_neg c5]
      by_cases c4 : j = 64 + 10 * d + 4
      · rw [if_pos c4, if_pos c4]
      · rw [if_neg c4, if_neg c4]
        by_cases c3 : j = 64 + 10 * d + 3
        · rw [if_pos c3, c3, hl]
        · rw [if_neg c3]
theorem mv_m (hV : PV g gT gn lf pk dn) (hT : LT g gT (g 7)) (hd : d < g 7) (hx : nxP g gT gn lf d = true) (hF : FK M gn h) (hC : PLm M g gT lf pk dn) (hn : 100 < n) : ∃ M', Fm_plans_b5 n (nI d) M = some (.inl (oI (fstP (nxP g gT (mvG gn gT d) (lf1 lf d)) 0 (g 7)), M')) ∧ FK M' (mvG gn gT d) h ∧ PLm M' g gT (lf1 lf d) pk (dn + 1) ∧ M'.1 108 dn = nI d ∧ ∀ j, j ≠ dn → M'.1 108 j = M.1 108 j := by
  obtain ⟨hV', hdn⟩ := pv_step hV hT hd hx
  obtain ⟨v1, v2, v3, v4, v5, v6⟩ := id hV
  have hx' := hx
  unfold nxP at hx'
  rw [Bool.and_eq_true, decide_eq_true_eq] at hx'
  have hm := (v4 d hx'.1).2
  have hl := (of_decide_eq_true hm).1
  have e7 : gn 7 = g 7 := v2 7 (by omega)
  have h40 : g 7 ≤ 40 := by rw [← e7]; exact v1.2.2
  have hln : gn (64 + 10 * d + 3) = 0 := by rw [v3 d hd]; exact hl
  obtain ⟨p1, p2, p3, p4, p5, p6, p7⟩ := id hC
  obtain ⟨x1, x2, x3⟩ := p1 d hd hl
  obtain ⟨M1, a1, a2, a3⟩ := hF.sets (d := d) (w := 4) (v := gT (64 + 10 * d + 4)) (by omega) (by omega) (by omega)
  obtain ⟨M2, b1, b2, b3⟩ := a2.sets (d := d) (w := 5) (v := gT (64 + 10 * d + 5)) (by omega) (by omega) (by omega)
  obtain ⟨M3, c1, c2, c3⟩ := b2.sets (d := d) (w := 6) (v := gT (64 + 10 * d + 6)) (by omega) (by omega) (by omega)
  rw [lit_3s hln] at c2
  have F3 : Fr (fun c _ => c = 95) M M3 := (a3.tr b3).tr c3
  have w2 : M1.1 106 d = nI (gT (64 + 10 * d + 5)) := by rw [(a3 106 d (by omega)).1]; exact x2
  have w3 : M2.1 107 d = nI (gT (64 + 10 * d + 6)) := by rw [((a3.tr b3) 107 d (by omega)).1]; exact x3
  have w33 : M3.1 94 33 = nI dn := by rw [(F3 94 33 (by omega)).1]; exact p5
  have nar1 : vp_nar .boolean (nI 1) = nI 1 := rfl
  obtain ⟨M4, hM4⟩ : ∃ M4 : Mm, M4 = (up2 (up2 (up2 M3.1 110 d (nI 1)) 108 dn (nI d)) 94 33 (nI (dn + 1)), M3.2) := ⟨_, rfl⟩
  have f4 : Fr (fun c j => c = 110 ∧ j = d ∨ c = 108 ∧ j = dn ∨ c = 94 ∧ j = 33) M3 M4 := by
    rw [hM4]
    exact Fr.I (Fr.I (Fr.I Fr.rf (.inl ⟨rfl, rfl⟩)) (.inr (.inl ⟨rfl, rfl⟩))) (.inr (.inr ⟨rfl, rfl⟩))
  have hF4 : FK M4 (mvG gn gT d) h := c2.fr f4 (fun j => by omega)
  have g4 : ∀ c j, c ≠ 95 → ¬ (c = 110 ∧ j = d ∨ c = 108 ∧ j = dn ∨ c = 94 ∧ j = 33) → M4.1 c j = M.1 c j := fun c j q1 q2 => by rw [(f4 c j q2).1, (F3 c j q1).1]
  have hP4 : PLm M4 g gT (lf1 lf d) pk (dn + 1) := by
    refine ⟨fun x q1 q2 => ?_, fun x hx2 => ?_, fun x hx2 => ?_, fun x hx2 => ?_, ?_, ?_, ?_⟩
    · rw [g4 105 x (by omega) (by omega), g4 106 x (by omega) (by omega), g4 107 x (by omega) (by omega)]; exact p1 x q1 q2
    · rw [g4 109 x (by omega) (by omega)]; exact p2 x hx2
    · unfold lf1
      by_cases c : x = d
      · rw [c, hm, decide_eq_true rfl, Bool.not_true, Bool.and_false, hM4]
        show up2 (up2 (up2 M3.1 110 d (nI 1)) 108 dn (nI d)) 94 33 (nI (dn + 1)) 110 d = _
        rw [up2_no (by omega), up2_no (by omega), up2_at]
        rfl
      · rw [decide_eq_false c, Bool.not_false, Bool.and_true, g4 110 x (by omega) (by omega)]; exact p3 x hx2
    · rw [g4 111 x (by omega) (by omega)]; exact p4 x hx2
    · rw [hM4]
      show up2 (up2 (up2 M3.1 110 d (nI 1)) 108 dn (nI d)) 94 33 (nI (dn + 1)) 94 33 = _
      exact up2_at
    · rw [g4 94 34 (by omega) (by omega)]; exact p6
    · rw [g4 94 32 (by omega) (by omega)]; exact p7
  have hnx := nx_m (n := n) hV' hT hF4 hP4 hn
  refine ⟨M4, ?_, hF4, hP4, ?_, fun j hj => g4 108 j (by omega) (by omega)⟩
  · rw [hM4] at hnx ⊢
    unfold Fm_plans_b5
    simp (disch := omega) only [l_0, l_1, l_2, l_3, l_4, l_5, l_6, l_7, l_8, l_9, l_10, l_11, l_12, l_13, l_14, l_16, l_20, l_21, l_23, l_24, l_30, l_32, l_40, l_41, l_44, l_48, l_57, l_59, l_60, l_63, l_64, l_80, l_84, l_96, l_97, l_99, l_120, l_122, l_127, l_200, l_240, l_255, l_840, l_999, l_1000, l_1001, l_2400, l_3064, l_9999, l_10000, l_13849, l_16383, l_25173, l_65535, l_65536, l_99999, l_1000000000, neg_nI, pk_mul, nI_add, nI_subL, tn_nI, inb_t, grd_true, bnd_some, elS_l, elS_r, nI_ltI, nI_leI, nI_inj, fa_and, fa_or, m1_eq, eq_m1, m1_lt, m1_le, lt_m1, le_m1, m1_lt0, up2_at, up2_no, ite_true, ite_false, if_true, if_false, Bool.false_eq_true, reduceIte, reduceCtorEq, not_true_eq_false, not_false_eq_true, eq_self, decide_true, decide_false, le_tt, le_ff, lt_tt, lt_ff, eq_ff, and_true, true_and, and_false, false_and, or_true, true_or, or_false, false_or, ne_eq, decide_eq_true_eq, decide_eq_false_iff_not, Bool.not_true, Bool.not_false, Bool.and_true, Bool.true_and, Bool.and_false, Bool.false_and, gs_at, gs_no, oI_n, oI_s, x1, a1, w2, b1, w3, c1, w33, nar1, hnx]
  · rw [hM4]
    show up2 (up2 (up2 M3.1 110 d (nI 1)) 108 dn (nI d)) 94 33 (nI (dn + 1)) 108 dn = _
    rw [up2_no (by omega), up2_at]
end
theorem plan_k {g gT : Nat → Nat} {n : Nat} (hT : LT g gT (g 7)) (hn : 1000 < n) : ∀ (k : Nat) (gn : Nat → Nat) (lf pk : Nat → Bool) (dn : Nat), PV g gT gn lf pk dn → fb_ct lf (g 7) ≤ k → ∃ (gn' : Nat → Nat) (lf' : Nat → Bool) (dn' : Nat) (L : List Nat), PV g gT gn' lf' pk dn' ∧ dn' = dn + L.length ∧ (∀ x, x ∈ L → x < g 7 ∧ mvB g gT x = true) ∧ fstP (nxP g gT gn' lf') 0 (g 7) = none ∧ (∀ x, lf' x = true → lf x = true ∧ ∀ w, w < 10 → gn' (64 + 10 * x + w) = gn (64 + 10 * x + w)) ∧ (∀ C : Nat → Bool, (∀ x, C x = true → lf x = true ∧ ∃ y, y < g 7 ∧ C y = true ∧ clB gn gT x y = true) → ∀ x, C x = true → lf' x = true) ∧ (∀ m M, k < m → PLN M g gT gn lf pk dn → ∃ M', loop (fun s1 : Int32 × Mm => Rp_carryOut_b5 n s1.1 s1.2) m (oI (fstP (nxP g gT gn lf) 0 (g 7)), M) = some M' ∧ PLN M' g gT gn' lf' pk dn' ∧ HN M' 92 dn L ∧ ∀ j, j < dn → M'.1 92 j = M.1 92 j) ∧ (∀ m M h, k < m → FK M gn h → PLm M g gT lf pk dn → ∃ M', loop (fun s1 : Int32 × Mm => Fm_plans_b5 n s1.1 s1.2) m (oI (fstP (nxP g gT gn lf) 0 (g 7)), M) = some M' ∧ FK M' gn' h ∧ PLm M' g gT lf' pk dn' ∧ HN M' 108 dn L ∧ ∀ j, j < dn → M'.1 108 j = M.1 108 j) := by
  intro k
  induction k with
  | zero =>
    intro gn lf pk dn hV hk
    have hnone : fstP (nxP g gT gn lf) 0 (g 7) = none := fstP_none.mpr (fun x _ hx => by
      unfold nxP
      rw [fb_ct_zero.mp (Nat.le_zero.mp hk) x (by omega), Bool.false_and])
    refine ⟨gn, lf, dn, [], hV, rfl, fun x hx => (by cases hx), hnone, fun x hx => ⟨hx, fun _ _ => rfl⟩, fun C hC x hx => (hC x hx).1, fun m M hm hC => ?_, fun m M h hm hF hC => ?_⟩
    · rw [hnone]
      refine ⟨M, loop_inr (r := M) ?_ hm, hC, trivial, fun _ _ => rfl⟩
      show Rp_carryOut_b5 n (ng 1) M = _
      unfold Rp_carryOut_b5
      rw [if_pos (by decide)]
    · rw [hnone]
      refine ⟨M, loop_inr (r := M) ?_ hm, hF, hC, trivial, fun _ _ => rfl⟩
      show Fm_plans_b5 n (ng 1) M = _
      unfold Fm_plans_b5
      rw [if_pos (show ng 1 = (-1 : Int32) from rfl)]
  | succ k ih =>
    intro gn lf pk dn hV hk
    cases hx : fstP (nxP g gT gn lf) 0 (g 7) with
    | none =>
      refine ⟨gn, lf, dn, [], hV, rfl, fun x hx => (by cases hx), hx, fun x hx => ⟨hx, fun _ _ => rfl⟩, fun C hC x hx => (hC x hx).1, fun m M hm hC => ?_, fun m M h hm hF hC => ?_⟩
      · refine ⟨M, loop_inr (r := M) ?_ (by omega), hC, trivial, fun _ _ => rfl⟩
        show Rp_carryOut_b5 n (ng 1) M = _
        unfold Rp_carryOut_b5
        rw [if_pos (by decide)]
      · refine ⟨M, loop_inr (r := M) ?_ (by omega), hF, hC, trivial, fun _ _ => rfl⟩
        show Fm_plans_b5 n (ng 1) M = _
        unfold Fm_plans_b5
        rw [if_pos (show ng 1 = (-1 : Int32) from rfl)]
    | some d =>
      obtain ⟨_, x2, x3, x4⟩ := fstP_some hx
      have hd : d < g 7 := by omega
      have hlf : lf d = true := by
        unfold nxP at x3
        rw [Bool.and_eq_true] at x3
        exact x3.1
      obtain ⟨hV', hdn⟩ := pv_step hV hT hd x3
      have hct := lf1_ct (lf := lf) hd hlf
      obtain ⟨gn', lf', dn', L, r1, r2, r3, r4, r5, r6, r7, r8⟩ := ih (mvG gn gT d) (lf1 lf d) pk (dn + 1) hV' (by omega)
      refine ⟨gn', lf', dn', d :: L, r1, by rw [r2, List.length_cons]; omega, fun x hx2 => ?_, r4, fun x hx2 => ?_, fun C hC => ?_, fun m M hm hC => ?_, fun m M h hm hF hC => ?_⟩
      · rcases List.mem_cons.mp hx2 with q | q
        · rw [q]; exact hV.2.2.2.1 d hlf
        · exact r3 x q
      · obtain ⟨w1, w2⟩ := r5 x hx2
        unfold lf1 at w1
        rw [Bool.and_eq_true, Bool.not_eq_true', decide_eq_false_iff_not] at w1
        refine ⟨w1.1, fun w hw => ?_⟩
        rw [w2 w hw]
        exact lit_ne w1.2 hw
      · have hCd : C d = false := by
          cases hc : C d with
          | false => rfl
          | true =>
            obtain ⟨_, y, y1, y2, y3⟩ := hC d hc
            have x3' := x3
            unfold nxP at x3'
            rw [Bool.and_eq_true, decide_eq_true_eq, cl_0] at x3'
            rw [x3'.2 y y1] at y3
            cases y3
        refine r6 C (fun x hx2 => ?_)
        obtain ⟨q1, y, y1, y2, y3⟩ := hC x hx2
        have hxd : x ≠ d := fun q => by rw [q, hCd] at hx2; cases hx2
        have hyd : y ≠ d := fun q => by rw [q, hCd] at y2; cases y2
        refine ⟨?_, y, y1, y2, ?_⟩
        · unfold lf1
          rw [q1, decide_eq_false hxd]; rfl
        · rw [cl_mv hyd]; exact y3
      · obtain ⟨M1, a1, a2, a3, a4⟩ := mv_c (n := n) hV hT hd x3 hC (by omega)
        obtain ⟨M2, c1, c2, c3, c4⟩ := r7 (m - 1) M1 (by omega) a2
        refine ⟨M2, ?_, c2, ⟨(c4 dn (by omega)).trans a3, c3⟩, fun j hj => (c4 j (by omega)).trans (a4 j (by omega))⟩
        rw [← c1]
        exact loop_inl a1 (by omega)
      · obtain ⟨M1, a1, a2, a3, a4, a5⟩ := mv_m (n := n) hV hT hd x3 hF hC (by omega)
        obtain ⟨M2, c1, c2, c3, c4, c5⟩ := r8 (m - 1) M1 h (by omega) a2 a3
        refine ⟨M2, ?_, c2, c3, ⟨(c5 dn (by omega)).trans a4, c4⟩, fun j hj => (c5 j (by omega)).trans (a5 j (by omega))⟩
        rw [← c1]
        exact loop_inl a1 (by omega)
