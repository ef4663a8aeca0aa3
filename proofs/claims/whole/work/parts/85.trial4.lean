/-! trials: a time of the model; all times; calls: trial, bestRule -/
section
variable {g : Nat → Nat} {n t N load u B R : Nat} {T : Option Nat}
theorem step_m {M : Mm} {h : Nat → Int32} (ht : t < 200) (htN : t < N) (hN2 : N ≤ 200) (hT : TG g t (t + 1)) (hl : 1 ≤ load) (hl2 : load ≤ 64) (hu : u < 4) (hB : B ≤ 200) (hRr : R ≤ 12800) (hs : smO T) (hF : FK M g h) (hR : TRm M B R T) (hn : 1099511627776 < n) : ∃ M', Fm_tries_b32 n (nI N) (nI load) (nI u) (nI t) M = some (.inl (nI (t + 1), M')) ∧ FK M' (stG g t load u) h ∧ TRm M' (bN g t load u B) (raN g t load u R) (mxO T (tpF (stG g t load u) 16383 (t + 1))) ∧ Fr PM M M' := by
  have hTn := st_TG ht hT hl hl2 hu
  obtain ⟨hW, h7, h6, hd⟩ := id hT
  have b1 := hW.2.1.1
  obtain ⟨p1, p2, p3, p4, p5⟩ := pr_ok hW hl hl2
  have hWd := dr_W (t := t) hW
  have d7 : drG g t 7 = t := by rw [dr_lo (by omega) (by omega)]; exact h7
  have d0 : drG g t 0 = g 0 := dr_lo (by omega) (by omega)
  have hx0 := dr_lt (g 6)
  have hx1 := dr_lt (drN (g 6))
  have hx2 := dr_lt (drN (drN (g 6)))
  have hx3 := dr_lt (drN (drN (drN (g 6))))
  obtain ⟨M1, a1, a2, a3⟩ := Fm_ends_e (n := n) (T := t) hW.1 hF (by omega) (by omega)
  have o6 : ofS g (enB g t) (g 7) 6 = g 6 := of_lo (by omega)
  have o0 : ofS g (enB g t) (g 7) 0 = g 0 := of_lo (by omega)
  obtain ⟨M2, c1, c2, c3⟩ := Fm_drawn_e (m := g 0) a2 (by rw [o6]; omega) (by omega) (by omega)
  rw [o6] at c1 c2
  obtain ⟨M3, e1, e2, e3⟩ := Fm_drawn_e (m := g 0 - 1) c2 (by rw [gs_at]; omega) (by omega) (by omega)
  rw [gs_at] at e1
  rw [gs_at, gs_gs] at e2
  obtain ⟨M4, f1, f2, f3⟩ := Fm_drawn_e (m := load) e2 (by rw [gs_at]; omega) (by omega) (by omega)
  rw [gs_at] at f1
  rw [gs_at, gs_gs] at f2
  obtain ⟨M5, i1, i2, i3⟩ := Fm_drawn_e (m := 20) f2 (by rw [gs_at]; omega) (by omega) (by omega)
  rw [gs_at] at i1
  rw [gs_at, gs_gs] at i2
  have hFd : FK M5 (drG g t) h := i2
  obtain ⟨M6, j1, j2, j3, j4⟩ := find_m (a := fmN g) (b := toN g) (rate := rtN g load) (rule := u) hWd hFd hn (by rw [d0]; exact p1) (by rw [d0]; exact p2) p3 p4 p5 hu
  have F6 : Fr PM M M6 := (((((a3.mono (fun c j q => .inl q)).tr (c3.mono (fun c j q => .inl q))).tr (e3.mono (fun c j q => .inl q))).tr (f3.mono (fun c j q => .inl q))).tr (i3.mono (fun c j q => .inl q))).tr (j4.mono (fun c j q => by unfold fp_Fm_findsFor at q; unfold PM; omega))
  have G6 : ∀ j, j = 36 ∨ j = 37 ∨ j = 38 → M6.1 94 j = M.1 94 j := fun j hj => by
    rw [(j4 94 j (by unfold fp_Fm_findsFor; omega)).1, (i3 94 j (by omega)).1, (f3 94 j (by omega)).1, (e3 94 j (by omega)).1, (c3 94 j (by omega)).1, (a3 94 j (by omega)).1]
  have w1 : M1.1 95 0 = nI (g 0) := by rw [a2.lo (by omega), o0]
  have w2 : M2.1 95 0 = nI (g 0) := by rw [c2.lo (by omega), gs_no (by omega), o0]
  have w3 : M3.1 95 0 = nI (g 0) := by rw [e2.lo (by omega), gs_no (by omega), o0]
  have hf1 : drN (drN (g 6)) % (g 0 - 1) < g 0 - 1 := Nat.mod_lt _ (by omega)
  have hirm : irm (nI (fmN g + 1 + drN (drN (g 6)) % (g 0 - 1))) (nI (g 0)) = nI (toN g) := by
    rw [irm_e (by omega) (by omega) (by omega)]
    rfl
  have hfm : nI (drN (g 6) % g 0) = nI (fmN g) := rfl
  have h20 : drN (drN (drN (drN (g 6)))) % 20 < 20 := Nat.mod_lt _ (by decide)
  have hs7 : stG g t load u 7 = t + 1 := hTn.2.1
  have hsm : smO (tpF (stG g t load u) 16383 (t + 1)) := fun x hx => by
    rw [← hs7] at hx
    have := tp_lt hTn.1.2.1 hTn.1.2.2.2.1 hx
    omega
  have htop : ∀ M', FK M' (stG g t load u) h → Fm_top n M' = some (oI (tpF (stG g t load u) 16383 (t + 1))) := fun M' hF' => by
    rw [Fm_top_e hTn.1.1 hTn.1.2.1 hTn.1.2.2.2.1 hF' (by omega), hs7]
  have h179 : ∀ M', FK M' (stG g t load u) h → M'.1 94 38 = oI T → Fm_tries_j179 n (nI t) M' = some (.inl (nI (t + 1), (up2 M'.1 94 38 (oI (mxO T (tpF (stG g t load u) 16383 (t + 1)))), M'.2))) := fun M' hF' hh => by
    unfold Fm_tries_j179
    rw [htop M' hF', bnd_some, hh, Fm_max_O hs hsm, bnd_some, l_1, nI_add]
  cases hf : fdW (drG g t) (fmN g) (toN g) (rtN g load) u with
  | none =>
    rw [hf] at j1
    have hst : stG g t load u = gs (addG (drG g t) (fmN g) (toN g) (rtN g load)) (64 + 10 * t + 7) 0 := by unfold stG; rw [hf]
    obtain ⟨M7, k1, k2, k3⟩ := comes_m (a := fmN g) (b := toN g) (r := rtN g load) (n := n) j3 (by omega) (by omega)
    rw [d7] at k1
    obtain ⟨M8, l1, l2, l3⟩ := k2.setE (d := t) (v := 0) (x := ng 1) (by omega) rfl
    rw [← hst] at l2
    have G8 : ∀ j, j = 36 ∨ j = 37 ∨ j = 38 → M8.1 94 j = M.1 94 j := fun j hj => by
      rw [(l3 94 j (by omega)).1, (k3 94 j (by omega)).1, G6 j hj]
    have hF9 : FK (up2 (up2 M8.1 94 36 (nI (B + 1))) 94 37 (nI (R + rtN g load)), M8.2) (stG g t load u) h := l2.fr (P := fun c _ => c = 94) (Fr.I (Fr.I Fr.rf rfl) rfl) (fun j => by omega)
    have y36 : M8.1 94 36 = nI B := (G8 36 (by omega)).trans hR.1
    have y37 : M8.1 94 37 = nI R := (G8 37 (by omega)).trans hR.2.1
    have y38 : M8.1 94 38 = oI T := (G8 38 (by omega)).trans hR.2.2
    have h9 := h179 (up2 (up2 M8.1 94 36 (nI (B + 1))) 94 37 (nI (R + rtN g load)), M8.2) hF9 (by show up2 (up2 M8.1 94 36 (nI (B + 1))) 94 37 (nI (R + rtN g load)) 94 38 = _; simp (disch := omega) only [l_0, l_1, l_2, l_3, l_4, l_5, l_6, l_7, l_8, l_9, l_10, l_11, l_12, l_13, l_14, l_16, l_20, l_21, l_23, l_24, l_30, l_32, l_40, l_41, l_44, l_48, l_57, l_59, l_60, l_63, l_64, l_80, l_84, l_96, l_97, l_99, l_120, l_122, l_127, l_200, l_240, l_255, l_840, l_999, l_1000, l_1001, l_2400, l_3064, l_9999, l_10000, l_13849, l_16383, l_25173, l_65535, l_65536, l_99999, l_1000000000, neg_nI, pk_mul, nI_add, nI_subL, tn_nI, inb_t, grd_true, bnd_some, elS_l, elS_r, nI_ltI, nI_leI, nI_inj, fa_and, fa_or, m1_eq, eq_m1, m1_lt, m1_le, lt_m1, le_m1, m1_lt0, up2_at, up2_no, ite_true, ite_false, if_true, if_false, Bool.false_eq_true, reduceIte, reduceCtorEq, not_true_eq_false, not_false_eq_true, eq_self, decide_true, decide_false, le_tt, le_ff, lt_tt, lt_ff, eq_ff, and_true, true_and, and_false, false_and, or_true, true_or, or_false, false_or, ne_eq, decide_eq_true_eq, decide_eq_false_iff_not, Bool.not_true, Bool.not_false, Bool.and_true, Bool.true_and, Bool.and_false, Bool.false_and, gs_at, gs_no, oI_n, oI_s, y38])
    refine ⟨(up2 (up2 (up2 M8.1 94 36 (nI (B + 1))) 94 37 (nI (R + rtN g load))) 94 38 (oI (mxO T (tpF (stG g t load u) 16383 (t + 1)))), M8.2), ?_, hF9.fr (P := fun c _ => c = 94) (Fr.I Fr.rf rfl) (fun j => by omega), ⟨?_, ?_, ?_⟩, ?_⟩
    · unfold Fm_tries_b32 Fm_tries_j145 Fm_tries_j163
      simp (disch := omega) only [l_0, l_1, l_2, l_3, l_4, l_5, l_6, l_7, l_8, l_9, l_10, l_11, l_12, l_13, l_14, l_16, l_20, l_21, l_23, l_24, l_30, l_32, l_40, l_41, l_44, l_48, l_57, l_59, l_60, l_63, l_64, l_80, l_84, l_96, l_97, l_99, l_120, l_122, l_127, l_200, l_240, l_255, l_840, l_999, l_1000, l_1001, l_2400, l_3064, l_9999, l_10000, l_13849, l_16383, l_25173, l_65535, l_65536, l_99999, l_1000000000, neg_nI, pk_mul, nI_add, nI_subL, tn_nI, inb_t, grd_true, bnd_some, elS_l, elS_r, nI_ltI, nI_leI, nI_inj, fa_and, fa_or, m1_eq, eq_m1, m1_lt, m1_le, lt_m1, le_m1, m1_lt0, up2_at, up2_no, ite_true, ite_false, if_true, if_false, Bool.false_eq_true, reduceIte, reduceCtorEq, not_true_eq_false, not_false_eq_true, eq_self, decide_true, decide_false, le_tt, le_ff, lt_tt, lt_ff, eq_ff, and_true, true_and, and_false, false_and, or_true, true_or, or_false, false_or, ne_eq, decide_eq_true_eq, decide_eq_false_iff_not, Bool.not_true, Bool.not_false, Bool.and_true, Bool.true_and, Bool.and_false, Bool.false_and, gs_at, gs_no, oI_n, oI_s, a1, w1, c1, w2, e1, w3, nz_e, f1, i1, hfm, hirm, show 1 + drN (drN (drN (g 6))) % load = rtN g load from rfl, j1, Option.isSome_none, k1, l1, show b2i false = nI 0 from rfl, y36, y37, h9]
    · have : bN g t load u B = B + 1 := by unfold bN; rw [hf]
      rw [this]
      show up2 (up2 (up2 M8.1 94 36 (nI (B + 1))) 94 37 (nI (R + rtN g load))) 94 38 (oI (mxO T (tpF (stG g t load u) 16383 (t + 1)))) 94 36 = _
      rw [up2_no (by omega), up2_no (by omega), up2_at]
    · have : raN g t load u R = R + rtN g load := by unfold raN; rw [hf]
      rw [this]
      show up2 (up2 (up2 M8.1 94 36 (nI (B + 1))) 94 37 (nI (R + rtN g load))) 94 38 (oI (mxO T (tpF (stG g t load u) 16383 (t + 1)))) 94 37 = _
      rw [up2_no (by omega), up2_at]
    · show up2 (up2 (up2 M8.1 94 36 (nI (B + 1))) 94 37 (nI (R + rtN g load))) 94 38 (oI (mxO T (tpF (stG g t load u) 16383 (t + 1)))) 94 38 = _
      exact up2_at
    · exact Fr.I (Fr.I (Fr.I (F6.tr ((k3.mono (fun c j q => .inl q)).tr (l3.mono (fun c j q => .inl q)))) (by unfold PM; omega)) (by unfold PM; omega)) (by unfold PM; omega)
  | some p =>
    rw [hf] at j1
    obtain ⟨z1, z2, z3, z4⟩ := j2 p hf
    have hst : stG g t load u = gs (layG (drG g t) (fmN g) (toN g) (rtN g load) p) (64 + 10 * t + 7) (edN g t + 1) := by unfold stG; rw [hf]
    obtain ⟨M7, k1, k2, k3⟩ := lay_m (n := n) (u := u) hWd (by rw [d0]; exact p1) p3 p4 p5 (by omega) hf j3 z1 z2 z3 z4 (by omega)
    rw [d7] at k1
    obtain ⟨M8, l1, l2, l3⟩ := k2.setE (d := t) (v := edN g t + 1) (x := nI (edN g t)) (by omega) (by rw [end_e (by omega), Nat.add_sub_cancel])
    rw [← hst] at l2
    have G8 : ∀ j, j = 36 ∨ j = 37 ∨ j = 38 → M8.1 94 j = M.1 94 j := fun j hj => by
      rw [(l3 94 j (by omega)).1, (k3 94 j (by omega)).1, G6 j hj]
    have y38 : M8.1 94 38 = oI T := (G8 38 (by omega)).trans hR.2.2
    have h9 := h179 M8 l2 y38
    have hed : nI (t + 1 + drN (drN (drN (drN (g 6)))) % 20) = nI (edN g t) := rfl
    refine ⟨(up2 M8.1 94 38 (oI (mxO T (tpF (stG g t load u) 16383 (t + 1)))), M8.2), ?_, l2.fr (P := fun c _ => c = 94) (Fr.I Fr.rf rfl) (fun j => by omega), ⟨?_, ?_, ?_⟩, ?_⟩
    · unfold Fm_tries_b32 Fm_tries_j145 Fm_tries_j163
      simp (disch := omega) only [l_0, l_1, l_2, l_3, l_4, l_5, l_6, l_7, l_8, l_9, l_10, l_11, l_12, l_13, l_14, l_16, l_20, l_21, l_23, l_24, l_30, l_32, l_40, l_41, l_44, l_48, l_57, l_59, l_60, l_63, l_64, l_80, l_84, l_96, l_97, l_99, l_120, l_122, l_127, l_200, l_240, l_255, l_840, l_999, l_1000, l_1001, l_2400, l_3064, l_9999, l_10000, l_13849, l_16383, l_25173, l_65535, l_65536, l_99999, l_1000000000, neg_nI, pk_mul, nI_add, nI_subL, tn_nI, inb_t, grd_true, bnd_some, elS_l, elS_r, nI_ltI, nI_leI, nI_inj, fa_and, fa_or, m1_eq, eq_m1, m1_lt, m1_le, lt_m1, le_m1, m1_lt0, up2_at, up2_no, ite_true, ite_false, if_true, if_false, Bool.false_eq_true, reduceIte, reduceCtorEq, not_true_eq_false, not_false_eq_true, eq_self, decide_true, decide_false, le_tt, le_ff, lt_tt, lt_ff, eq_ff, and_true, true_and, and_false, false_and, or_true, true_or, or_false, false_or, ne_eq, decide_eq_true_eq, decide_eq_false_iff_not, Bool.not_true, Bool.not_false, Bool.and_true, Bool.true_and, Bool.and_false, Bool.false_and, gs_at, gs_no, oI_n, oI_s, a1, w1, c1, w2, e1, w3, nz_e, f1, i1, hfm, hirm, show 1 + drN (drN (drN (g 6))) % load = rtN g load from rfl, j1, Option.isSome_some, k1, hed, l1, show b2i true = nI 1 from rfl, h9]
    · have : bN g t load u B = B := by unfold bN; rw [hf]
      rw [this]
      show up2 M8.1 94 38 (oI (mxO T (tpF (stG g t load u) 16383 (t + 1)))) 94 36 = _
      rw [up2_no (by omega)]
      exact (G8 36 (by omega)).trans hR.1
    · have : raN g t load u R = R := by unfold raN; rw [hf]
      rw [this]
      show up2 M8.1 94 38 (oI (mxO T (tpF (stG g t load u) 16383 (t + 1)))) 94 37 = _
      rw [up2_no (by omega)]
      exact (G8 37 (by omega)).trans hR.2.1
    · show up2 M8.1 94 38 (oI (mxO T (tpF (stG g t load u) 16383 (t + 1)))) 94 38 = _
      exact up2_at
    · exact Fr.I (F6.tr ((k3.mono (fun c j q => .inl q)).tr (l3.mono (fun c j q => .inl q)))) (by unfold PM; omega)
theorem tr_k (hN : N ≤ 200) (hl : 1 ≤ load) (hl2 : load ≤ 64) (hu : u < 4) (hn : 1099511627776 < n) : ∀ (k t : Nat) (g : Nat → Nat) (B R : Nat) (T : Option Nat), t + k = N → TG g t (t + 1) → B ≤ t → R ≤ 64 * t → smO T → leO (tpF g 16383 (g 7)) T → ∃ (B' R' : Nat) (T' : Option Nat) (L' : Nat), B' ≤ N ∧ (∀ m M, k < m → TRc M g B R T → ∃ M', loop (fun s1 : Int32 × Mm => Tr_run_b46 n (nI N) (nI load) (nI u) s1.1 s1.2) m (nI t, M) = some M' ∧ (M'.1 93 3 = nI B' ∧ M'.1 93 4 = nI R' ∧ M'.1 93 5 = oI T' ∧ M'.1 93 6 = nI L') ∧ CA M' g) ∧ (∀ m M h, k < m → FK M g h → TRm M B R T → ∃ M' g', loop (fun s1 : Int32 × Mm => Fm_tries_b32 n (nI N) (nI load) (nI u) s1.1 s1.2) m (nI t, M) = some M' ∧ FK M' g' h ∧ GB g' ∧ TRm M' B' R' T' ∧ fb_ct (ltS g') (g' 7) = L' ∧ Fr PM M M') := by
  intro k
  induction k with
  | zero =>
    intro t g B R T ht hT hB hR hs hle
    refine ⟨B, R, T, fb_ct (ltS g) (g 7), by omega, fun m M hm hC => ?_, fun m M h hm hF hC => ?_⟩
    · refine ⟨M, loop_inr ?_ hm, ⟨hC.2.2.2.1, hC.2.2.2.2.1, hC.2.2.2.2.2.1, hC.2.2.2.2.2.2⟩, hC.1.2.2.2⟩
      show Tr_run_b46 n (nI N) (nI load) (nI u) (nI t) M = _
      unfold Tr_run_b46
      simp (disch := omega) only [l_0, l_1, l_2, l_3, l_4, l_5, l_6, l_7, l_8, l_9, l_10, l_11, l_12, l_13, l_14, l_16, l_20, l_21, l_23, l_24, l_30, l_32, l_40, l_41, l_44, l_48, l_57, l_59, l_60, l_63, l_64, l_80, l_84, l_96, l_97, l_99, l_120, l_122, l_127, l_200, l_240, l_255, l_840, l_999, l_1000, l_1001, l_2400, l_3064, l_9999, l_10000, l_13849, l_16383, l_25173, l_65535, l_65536, l_99999, l_1000000000, neg_nI, pk_mul, nI_add, nI_subL, tn_nI, inb_t, grd_true, bnd_some, elS_l, elS_r, nI_ltI, nI_leI, nI_inj, fa_and, fa_or, m1_eq, eq_m1, m1_lt, m1_le, lt_m1, le_m1, m1_lt0, up2_at, up2_no, ite_true, ite_false, if_true, if_false, Bool.false_eq_true, reduceIte, reduceCtorEq, not_true_eq_false, not_false_eq_true, eq_self, decide_true, decide_false, le_tt, le_ff, lt_tt, lt_ff, eq_ff, and_true, true_and, and_false, false_and, or_true, true_or, or_false, false_or, ne_eq, decide_eq_true_eq, decide_eq_false_iff_not, Bool.not_true, Bool.not_false, Bool.and_true, Bool.true_and, Bool.and_false, Bool.false_and, gs_at, gs_no, oI_n, oI_s]
    · refine ⟨M, g, loop_inr ?_ hm, hF, hT.1.1, hC, rfl, Fr.rf⟩
      show Fm_tries_b32 n (nI N) (nI load) (nI u) (nI t) M = _
      unfold Fm_tries_b32
      simp (disch := omega) only [l_0, l_1, l_2, l_3, l_4, l_5, l_6, l_7, l_8, l_9, l_10, l_11, l_12, l_13, l_14, l_16, l_20, l_21, l_23, l_24, l_30, l_32, l_40, l_41, l_44, l_48, l_57, l_59, l_60, l_63, l_64, l_80, l_84, l_96, l_97, l_99, l_120, l_122, l_127, l_200, l_240, l_255, l_840, l_999, l_1000, l_1001, l_2400, l_3064, l_9999, l_10000, l_13849, l_16383, l_25173, l_65535, l_65536, l_99999, l_1000000000, neg_nI, pk_mul, nI_add, nI_subL, tn_nI, inb_t, grd_true, bnd_some, elS_l, elS_r, nI_ltI, nI_leI, nI_inj, fa_and, fa_or, m1_eq, eq_m1, m1_lt, m1_le, lt_m1, le_m1, m1_lt0, up2_at, up2_no, ite_true, ite_false, if_true, if_false, Bool.false_eq_true, reduceIte, reduceCtorEq, not_true_eq_false, not_false_eq_true, eq_self, decide_true, decide_false, le_tt, le_ff, lt_tt, lt_ff, eq_ff, and_true, true_and, and_false, false_and, or_true, true_or, or_false, false_or, ne_eq, decide_eq_true_eq, decide_eq_false_iff_not, Bool.not_true, Bool.not_false, Bool.and_true, Bool.true_and, Bool.and_false, Bool.false_and, gs_at, gs_no, oI_n, oI_s]
  | succ k ih =>
    intro t g B R T ht hT hB hR hs hle
    have hTn := st_TG (by omega) hT hl hl2 hu
    have hs7 : stG g t load u 7 = t + 1 := hTn.2.1
    have hsm : smO (tpF (stG g t load u) 16383 (t + 1)) := fun x hx => by
      rw [← hs7] at hx
      have := tp_lt hTn.1.2.1 hTn.1.2.2.2.1 hx
      omega
    have hb' : bN g t load u B ≤ t + 1 := by
      unfold bN
      split <;> omega
    have hr' : raN g t load u R ≤ 64 * (t + 1) := by
      have := (pr_ok hT.1 hl hl2).2.2.2.2
      unfold raN
      split <;> omega
    have hle' : leO (tpF (stG g t load u) 16383 (stG g t load u 7)) (mxO T (tpF (stG g t load u) 16383 (t + 1))) := by
      rw [hs7]
      exact le_mx
    obtain ⟨B', R', T', L', v0, v1, v2⟩ := ih (t + 1) (stG g t load u) (bN g t load u B) (raN g t load u R) (mxO T (tpF (stG g t load u) 16383 (t + 1))) (by omega) hTn hb' hr' (mx_sm hs hsm) hle'
    refine ⟨B', R', T', L', v0, fun m M hm hC => ?_, fun m M h hm hF hC => ?_⟩
    · obtain ⟨M1, M2, a1, a2, a3⟩ := step_c (n := n) (by omega) hT hl hl2 hu (by omega) (by omega) hs hle hC (by omega)
      obtain ⟨M3, c1, c2, c3⟩ := v1 (m - 1) M2 (by omega) a3
      refine ⟨M3, ?_, c2, c3.cong (by rw [st_lo (by omega) (by omega) (by omega)]; exact hT.1.2.1.1.2.2.2.2.2.1) (fun k h1 h2 h3 => (st_lo h1 (by omega) (by omega)).symm)⟩
      rw [← c1]
      refine loop_inl ?_ (by omega)
      show Tr_run_b46 n (nI N) (nI load) (nI u) (nI t) M = _
      unfold Tr_run_b46
      simp (disch := omega) only [l_0, l_1, l_2, l_3, l_4, l_5, l_6, l_7, l_8, l_9, l_10, l_11, l_12, l_13, l_14, l_16, l_20, l_21, l_23, l_24, l_30, l_32, l_40, l_41, l_44, l_48, l_57, l_59, l_60, l_63, l_64, l_80, l_84, l_96, l_97, l_99, l_120, l_122, l_127, l_200, l_240, l_255, l_840, l_999, l_1000, l_1001, l_2400, l_3064, l_9999, l_10000, l_13849, l_16383, l_25173, l_65535, l_65536, l_99999, l_1000000000, neg_nI, pk_mul, nI_add, nI_subL, tn_nI, inb_t, grd_true, bnd_some, elS_l, elS_r, nI_ltI, nI_leI, nI_inj, fa_and, fa_or, m1_eq, eq_m1, m1_lt, m1_le, lt_m1, le_m1, m1_lt0, up2_at, up2_no, ite_true, ite_false, if_true, if_false, Bool.false_eq_true, reduceIte, reduceCtorEq, not_true_eq_false, not_false_eq_true, eq_self, decide_true, decide_false, le_tt, le_ff, lt_tt, lt_ff, eq_ff, and_true, true_and, and_false, false_and, or_true, true_or, or_false, false_or, ne_eq, decide_eq_true_eq, decide_eq_false_iff_not, Bool.not_true, Bool.not_false, Bool.and_true, Bool.true_and, Bool.and_false, Bool.false_and, gs_at, gs_no, oI_n, oI_s, a1, a2]
    · obtain ⟨M1, a1, a2, a3, a4⟩ := step_m (n := n) (N := N) (by omega) (by omega) hN hT hl hl2 hu (by omega) (by omega) hs hF hC hn
      obtain ⟨M3, g', c1, c2, c3, c4, c5, c6⟩ := v2 (m - 1) M1 h (by omega) a2 a3
      refine ⟨M3, g', ?_, c2, c3, c4, c5, a4.tr c6⟩
      rw [← c1]
      exact loop_inl a1 (by omega)
theorem clr_e {M : Mm} {s : Nat} (hn : 100 < n) : ∃ M', St_clearDemands n s M = some M' ∧ (∀ p, p < 40 → M'.1 (s + 10) p = nI 3) ∧ (∀ l, l < 14 → M'.2 (s + 16) l = lN 0) ∧ M'.1 s 4 = nI 0 ∧ Fr (fp_St_clearDemands s) M M' := by
  have h1 : ∃ r, loop (fun s1 : Int32 × Mm => St_clearDemands_b7 s s1.1 s1.2) n (nI 0, (up2 M.1 s 4 (nI 0), M.2)) = some r ∧ ((∀ p, p < 40 → r.1 (s + 10) p = nI 3) ∧ r.1 s 4 = nI 0) := by
    refine loop_I0 (fun i (st : Int32 × Mm) => st.1 = nI i ∧ (∀ p, p < i → st.2.1 (s + 10) p = nI 3) ∧ st.2.1 s 4 = nI 0) _ 40 ⟨rfl, fun p hp => by omega, (show up2 M.1 s 4 (nI 0) s 4 = _ from up2_at)⟩ (by omega) ?_ ?_
    · rintro i ⟨s1, M1⟩ hi ⟨e1, e2, e3⟩
      simp only at e1 e2 e3
      subst e1
      left
      refine ⟨(nI (i + 1), (up2 M1.1 (s + 10) i (nI 3), M1.2)), ?_, rfl, fun p hp => ?_, ?_⟩
      · show St_clearDemands_b7 s (nI i) M1 = _
        unfold St_clearDemands_b7
        simp (disch := omega) only [l_0, l_1, l_2, l_3, l_4, l_5, l_6, l_7, l_8, l_9, l_10, l_11, l_12, l_13, l_14, l_16, l_20, l_21, l_23, l_24, l_30, l_32, l_40, l_41, l_44, l_48, l_57, l_59, l_60, l_63, l_64, l_80, l_84, l_96, l_97, l_99, l_120, l_122, l_127, l_200, l_240, l_255, l_840, l_999, l_1000, l_1001, l_2400, l_3064, l_9999, l_10000, l_13849, l_16383, l_25173, l_65535, l_65536, l_99999, l_1000000000, neg_nI, pk_mul, nI_add, nI_subL, tn_nI, inb_t, grd_true, bnd_some, elS_l, elS_r, nI_ltI, nI_leI, nI_inj, fa_and, fa_or, m1_eq, eq_m1, m1_lt, m1_le, lt_m1, le_m1, m1_lt0, up2_at, up2_no, ite_true, ite_false, if_true, if_false, Bool.false_eq_true, reduceIte, reduceCtorEq, not_true_eq_false, not_false_eq_true, eq_self, decide_true, decide_false, le_tt, le_ff, lt_tt, lt_ff, eq_ff, and_true, true_and, and_false, false_and, or_true, true_or, or_false, false_or, ne_eq, decide_eq_true_eq, decide_eq_false_iff_not, Bool.not_true, Bool.not_false, Bool.and_true, Bool.true_and, Bool.and_false, Bool.false_and, gs_at, gs_no, oI_n, oI_s]
      · show up2 M1.1 (s + 10) i (nI 3) (s + 10) p = _
        by_cases c : p = i
        · subst c; exact up2_at
        · rw [up2_no (by omega)]; exact e2 p (by omega)
      · show up2 M1.1 (s + 10) i (nI 3) s 4 = _
        rw [up2_no (by omega)]; exact e3
    · rintro ⟨s1, M1⟩ ⟨e1, e2, e3⟩
      simp only at e1 e2 e3
      subst e1
      refine ⟨M1, ?_, e2, e3⟩
      show St_clearDemands_b7 s (nI 40) M1 = _
      unfold St_clearDemands_b7
      simp (disch := omega) only [l_0, l_1, l_2, l_3, l_4, l_5, l_6, l_7, l_8, l_9, l_10, l_11, l_12, l_13, l_14, l_16, l_20, l_21, l_23, l_24, l_30, l_32, l_40, l_41, l_44, l_48, l_57, l_59, l_60, l_63, l_64, l_80, l_84, l_96, l_97, l_99, l_120, l_122, l_127, l_200, l_240, l_255, l_840, l_999, l_1000, l_1001, l_2400, l_3064, l_9999, l_10000, l_13849, l_16383, l_25173, l_65535, l_65536, l_99999, l_1000000000, neg_nI, pk_mul, nI_add, nI_subL, tn_nI, inb_t, grd_true, bnd_some, elS_l, elS_r, nI_ltI, nI_leI, nI_inj, fa_and, fa_or, m1_eq, eq_m1, m1_lt, m1_le, lt_m1, le_m1, m1_lt0, up2_at, up2_no, ite_true, ite_false, if_true, if_false, Bool.false_eq_true, reduceIte, reduceCtorEq, not_true_eq_false, not_false_eq_true, eq_self, decide_true, decide_false, le_tt, le_ff, lt_tt, lt_ff, eq_ff, and_true, true_and, and_false, false_and, or_true, true_or, or_false, false_or, ne_eq, decide_eq_true_eq, decide_eq_false_iff_not, Bool.not_true, Bool.not_false, Bool.and_true, Bool.true_and, Bool.and_false, Bool.false_and, gs_at, gs_no, oI_n, oI_s]
  obtain ⟨r, r1, r2, r3⟩ := h1
  have h2 : ∃ q, loop (fun s1 : Int32 × Mm => St_clearSlots_b2 s s1.1 s1.2) n (nI 0, r) = some q ∧ (q.1 = r.1 ∧ ∀ l, l < 14 → q.2 (s + 16) l = lN 0) := by
    refine loop_I0 (fun i (st : Int32 × Mm) => st.1 = nI i ∧ st.2.1 = r.1 ∧ ∀ l, l < i → st.2.2 (s + 16) l = lN 0) _ 14 ⟨rfl, rfl, fun l hl => by omega⟩ (by omega) ?_ ?_
    · rintro i ⟨s1, M1⟩ hi ⟨e1, e2, e3⟩
      simp only at e1 e2 e3
      subst e1
      left
      refine ⟨(nI (i + 1), (M1.1, up2 M1.2 (s + 16) i (lN 0))), ?_, rfl, e2, fun l hl => ?_⟩
      · show St_clearSlots_b2 s (nI i) M1 = _
        unfold St_clearSlots_b2
        simp (disch := omega) only [l_0, l_1, l_2, l_3, l_4, l_5, l_6, l_7, l_8, l_9, l_10, l_11, l_12, l_13, l_14, l_16, l_20, l_21, l_23, l_24, l_30, l_32, l_40, l_41, l_44, l_48, l_57, l_59, l_60, l_63, l_64, l_80, l_84, l_96, l_97, l_99, l_120, l_122, l_127, l_200, l_240, l_255, l_840, l_999, l_1000, l_1001, l_2400, l_3064, l_9999, l_10000, l_13849, l_16383, l_25173, l_65535, l_65536, l_99999, l_1000000000, neg_nI, pk_mul, nI_add, nI_subL, tn_nI, inb_t, grd_true, bnd_some, elS_l, elS_r, nI_ltI, nI_leI, nI_inj, fa_and, fa_or, m1_eq, eq_m1, m1_lt, m1_le, lt_m1, le_m1, m1_lt0, up2_at, up2_no, ite_true, ite_false, if_true, if_false, Bool.false_eq_true, reduceIte, reduceCtorEq, not_true_eq_false, not_false_eq_true, eq_self, decide_true, decide_false, le_tt, le_ff, lt_tt, lt_ff, eq_ff, and_true, true_and, and_false, false_and, or_true, true_or, or_false, false_or, ne_eq, decide_eq_true_eq, decide_eq_false_iff_not, Bool.not_true, Bool.not_false, Bool.and_true, Bool.true_and, Bool.and_false, Bool.false_and, gs_at, gs_no, oI_n, oI_s, show (0 : Int64) = lN 0 from rfl]
      · show up2 M1.2 (s + 16) i (lN 0) (s + 16) l = _
        by_cases c : l = i
        · subst c; exact up2_at
        · rw [up2_no (by omega)]; exact e3 l (by omega)
    · rintro ⟨s1, M1⟩ ⟨e1, e2, e3⟩
      simp only at e1 e2 e3
      subst e1
      refine ⟨M1, ?_, e2, e3⟩
      show St_clearSlots_b2 s (nI 14) M1 = _
      unfold St_clearSlots_b2
      simp (disch := omega) only [l_0, l_1, l_2, l_3, l_4, l_5, l_6, l_7, l_8, l_9, l_10, l_11, l_12, l_13, l_14, l_16, l_20, l_21, l_23, l_24, l_30, l_32, l_40, l_41, l_44, l_48, l_57, l_59, l_60, l_63, l_64, l_80, l_84, l_96, l_97, l_99, l_120, l_122, l_127, l_200, l_240, l_255, l_840, l_999, l_1000, l_1001, l_2400, l_3064, l_9999, l_10000, l_13849, l_16383, l_25173, l_65535, l_65536, l_99999, l_1000000000, neg_nI, pk_mul, nI_add, nI_subL, tn_nI, inb_t, grd_true, bnd_some, elS_l, elS_r, nI_ltI, nI_leI, nI_inj, fa_and, fa_or, m1_eq, eq_m1, m1_lt, m1_le, lt_m1, le_m1, m1_lt0, up2_at, up2_no, ite_true, ite_false, if_true, if_false, Bool.false_eq_true, reduceIte, reduceCtorEq, not_true_eq_false, not_false_eq_true, eq_self, decide_true, decide_false, le_tt, le_ff, lt_tt, lt_ff, eq_ff, and_true, true_and, and_false, false_and, or_true, true_or, or_false, false_or, ne_eq, decide_eq_true_eq, decide_eq_false_iff_not, Bool.not_true, Bool.not_false, Bool.and_true, Bool.true_and, Bool.and_false, Bool.false_and, gs_at, gs_no, oI_n, oI_s]
  obtain ⟨q, q1, q2, q3⟩ := h2
  have hrun : St_clearDemands n s M = some q := by
    unfold St_clearDemands St_clearSlots
    simp (disch := omega) only [l_0, l_1, l_2, l_3, l_4, l_5, l_6, l_7, l_8, l_9, l_10, l_11, l_12, l_13, l_14, l_16, l_20, l_21, l_23, l_24, l_30, l_32, l_40, l_41, l_44, l_48, l_57, l_59, l_60, l_63, l_64, l_80, l_84, l_96, l_97, l_99, l_120, l_122, l_127, l_200, l_240, l_255, l_840, l_999, l_1000, l_1001, l_2400, l_3064, l_9999, l_10000, l_13849, l_16383, l_25173, l_65535, l_65536, l_99999, l_1000000000, neg_nI, pk_mul, nI_add, nI_subL, tn_nI, inb_t, grd_true, bnd_some, elS_l, elS_r, nI_ltI, nI_leI, nI_inj, fa_and, fa_or, m1_eq, eq_m1, m1_lt, m1_le, lt_m1, le_m1, m1_lt0, up2_at, up2_no, ite_true, ite_false, if_true, if_false, Bool.false_eq_true, reduceIte, reduceCtorEq, not_true_eq_false, not_false_eq_true, eq_self, decide_true, decide_false, le_tt, le_ff, lt_tt, lt_ff, eq_ff, and_true, true_and, and_false, false_and, or_true, true_or, or_false, false_or, ne_eq, decide_eq_true_eq, decide_eq_false_iff_not, Bool.not_true, Bool.not_false, Bool.and_true, Bool.true_and, Bool.and_false, Bool.false_and, gs_at, gs_no, oI_n, oI_s, r1, q1]
  exact ⟨q, hrun, fun p hp => by rw [q2]; exact r2 p hp, q3, by rw [q2]; exact r3, fr_St_clearDemands hrun⟩
theorem TG_0 (hg : GV g) : TG (gs g 7 0) 0 1 := by
  obtain ⟨hG, ⟨n1, n2, n3, n4⟩, hU, hL, hO⟩ := hg.1
  have e : ∀ k, k ≠ 7 → gs g 7 0 k = g k := fun k hk => gs_no hk
  refine ⟨⟨⟨fun k => ?_, by rw [gs_at]; omega⟩, ⟨?_, fun f hf => ?_, fun l hl => ?_, fun l m hl hm => ?_⟩, fun l m hl hm => ?_, fun d hd => ?_, fun d e hd => ?_⟩, gs_at, ?_, fun d hd => by omega⟩
  · unfold gs
    split
    · omega
    · exact hG.1 k
  · rw [e 0 (by omega), e 1 (by omega), e 2 (by omega), e 3 (by omega), e 12 (by omega)]; exact n1
  · rw [e _ (by omega)]; exact n2 f hf
  · rw [e 3 (by omega)] at hl
    rw [e _ (by omega), e _ (by omega), e _ (by omega), e _ (by omega)]; exact n3 l hl
  · rw [e 3 (by omega)] at hl hm
    rw [e _ (by omega), e _ (by omega), e _ (by omega), e _ (by omega)]; exact n4 l m hl hm
  · rw [e 3 (by omega)] at hl hm
    rw [e _ (by omega), e _ (by omega), e _ (by omega), e _ (by omega)]; exact hU l m hl hm
  · rw [gs_at] at hd; omega
  · rw [gs_at] at hd; omega
  · rw [e 6 (by omega)]; exact hg.2.1.1.2.1
theorem tr_ex (hg : GV g) (hN1 : 1 ≤ N) (hN : N ≤ 200) (hl : 1 ≤ load) (hl2 : load ≤ 64) (hu : u < 4) (hn : 1099511627776 < n) : ∃ (B' R' : Nat) (T' : Option Nat) (L' : Nat), B' ≤ N ∧ (∀ M, SV M 18 g → CA M g → ∃ M', Tr_run n 18 (nI N) (nI load) (nI u) M = some M' ∧ (M'.1 93 3 = nI B' ∧ M'.1 93 4 = nI R' ∧ M'.1 93 5 = oI T' ∧ M'.1 93 6 = nI L') ∧ SV M' 18 g ∧ CA M' g ∧ Fr PC M M') ∧ (∀ M h, FK M g h → ∃ M' h', Fm_tries n (nI N) (nI load) (nI u) M = some M' ∧ (M'.1 94 36 = nI B' ∧ M'.1 94 37 = nI R' ∧ M'.1 94 38 = oI T' ∧ M'.1 94 39 = nI L') ∧ FK M' g h' ∧ (∀ j, j < 3064 → h' (3064 + j) = h (3064 + j)) ∧ Fr PM M M') := by
  have b1 := hg.1.2.1.1
  have h40 := hg.2.2
  have hT0 := TG_0 hg
  have hsm0 : smO none := fun x hx => by cases hx
  obtain ⟨B', R', T', L', v0, v1, v2⟩ := tr_k (n := n) (N := N) (load := load) (u := u) hN hl hl2 hu hn N 0 (gs g 7 0) 0 0 none (by omega) hT0 (Nat.le_refl _) (by omega) hsm0 (by rw [gs_at]; intro x hx; cases hx)
  refine ⟨B', R', T', L', v0, fun M hS hA => ?_, fun M h hF => ?_⟩
  · obtain ⟨M1, a1, a2, a3, a4⟩ := St_copy_e (s := 54) (o := 18) (by omega) b1.2.2.2.2.2.1 h40 hS
    obtain ⟨M2, c1, c2, c3, c4, c5⟩ := clr_e (M := M1) (s := 54) (n := n) (by omega)
    have x3 : M2.1 18 3 = nI (g 6) := by rw [(c5 18 3 (by unfold fp_St_clearDemands; omega)).1]; exact a3.1.2.2.2
    obtain ⟨M3, hM3⟩ : ∃ M3 : Mm, M3 = (up2 (up2 (up2 (up2 (up2 M2.1 93 2 (nI (g 6))) 93 3 (nI 0)) 93 4 (nI 0)) 93 5 (ng 1)) 93 6 (nI 0), M2.2) := ⟨_, rfl⟩
    have f3 : Fr (fun c _ => c = 93) M2 M3 := by rw [hM3]; exact Fr.I (Fr.I (Fr.I (Fr.I (Fr.I Fr.rf rfl) rfl) rfl) rfl) rfl
    have hC2 : CN M2 55 g := a2.1.1.fr c5 (fun k j hk q => by unfold fp_St_clearDemands at q; omega)
    have hTR : TRc M3 (gs g 7 0) 0 0 none := by
      refine ⟨⟨(hC2.fr f3 (fun k j hk q => by omega)).cong b1.2.2.2.2.2.1 (fun k h1 h2 h3 => gs_no (by omega)) ?_, ?_, fun l hl' i => ?_, ?_⟩, ⟨fun p hp _ => ?_, fun d hd => ?_⟩, ?_, ?_, ?_, ?_, ?_⟩
      · rw [gs_no (by omega), (f3 55 4 (by omega)).1]; exact hC2.1 4 (by omega)
      · rw [gs_no (by omega), (f3 54 1 (by omega)).1, (c5 54 1 (by unfold fp_St_clearDemands; omega)).1]; exact a2.1.2.1
      · rw [gs_no (by omega)] at hl'
        have hz : usN M3 54 l = 0 := usN_at (by rw [(f3 (54 + 16) l (by omega)).2]; exact c3 l (by omega)) (by decide)
        rw [hz, Nat.zero_testBit]
        constructor
        · intro q; cases q
        · rintro ⟨d, h1, _⟩
          rw [gs_at] at h1
          omega
      · exact ((((hA.fr a4 (fun j => by unfold fp_St_copy; omega)).fr c5 (fun j => by unfold fp_St_clearDemands; omega)).fr f3 (fun j => by omega)).cong b1.2.2.2.2.2.1 (fun k h1 h2 h3 => gs_no (by omega)))
      · rw [(f3 64 p (by omega)).1]; exact c2 p hp
      · rw [gs_at] at hd; omega
      · rw [gs_no (by omega), hM3]; simp (disch := omega) only [l_0, l_1, l_2, l_3, l_4, l_5, l_6, l_7, l_8, l_9, l_10, l_11, l_12, l_13, l_14, l_16, l_20, l_21, l_23, l_24, l_30, l_32, l_40, l_41, l_44, l_48, l_57, l_59, l_60, l_63, l_64, l_80, l_84, l_96, l_97, l_99, l_120, l_122, l_127, l_200, l_240, l_255, l_840, l_999, l_1000, l_1001, l_2400, l_3064, l_9999, l_10000, l_13849, l_16383, l_25173, l_65535, l_65536, l_99999, l_1000000000, neg_nI, pk_mul, nI_add, nI_subL, tn_nI, inb_t, grd_true, bnd_some, elS_l, elS_r, nI_ltI, nI_leI, nI_inj, fa_and, fa_or, m1_eq, eq_m1, m1_lt, m1_le, lt_m1, le_m1, m1_lt0, up2_at, up2_no, ite_true, ite_false, if_true, if_false, Bool.false_eq_true, reduceIte, reduceCtorEq, not_true_eq_false, not_false_eq_true, eq_self, decide_true, decide_false, le_tt, le_ff, lt_tt, lt_ff, eq_ff, and_true, true_and, and_false, false_and, or_true, true_or, or_false, false_or, ne_eq, decide_eq_true_eq, decide_eq_false_iff_not, Bool.not_true, Bool.not_false, Bool.and_true, Bool.true_and, Bool.and_false, Bool.false_and, gs_at, gs_no, oI_n, oI_s]
      · rw [hM3]; simp (disch := omega) only [l_0, l_1, l_2, l_3, l_4, l_5, l_6, l_7, l_8, l_9, l_10, l_11, l_12, l_13, l_14, l_16, l_20, l_21, l_23, l_24, l_30, l_32, l_40, l_41, l_44, l_48, l_57, l_59, l_60, l_63, l_64, l_80, l_84, l_96, l_97, l_99, l_120, l_122, l_127, l_200, l_240, l_255, l_840, l_999, l_1000, l_1001, l_2400, l_3064, l_9999, l_10000, l_13849, l_16383, l_25173, l_65535, l_65536, l_99999, l_1000000000, neg_nI, pk_mul, nI_add, nI_subL, tn_nI, inb_t, grd_true, bnd_some, elS_l, elS_r, nI_ltI, nI_leI, nI_inj, fa_and, fa_or, m1_eq, eq_m1, m1_lt, m1_le, lt_m1, le_m1, m1_lt0, up2_at, up2_no, ite_true, ite_false, if_true, if_false, Bool.false_eq_true, reduceIte, reduceCtorEq, not_true_eq_false, not_false_eq_true, eq_self, decide_true, decide_false, le_tt, le_ff, lt_tt, lt_ff, eq_ff, and_true, true_and, and_false, false_and, or_true, true_or, or_false, false_or, ne_eq, decide_eq_true_eq, decide_eq_false_iff_not, Bool.not_true, Bool.not_false, Bool.and_true, Bool.true_and, Bool.and_false, Bool.false_and, gs_at, gs_no, oI_n, oI_s]
      · rw [hM3]; simp (disch := omega) only [l_0, l_1, l_2, l_3, l_4, l_5, l_6, l_7, l_8, l_9, l_10, l_11, l_12, l_13, l_14, l_16, l_20, l_21, l_23, l_24, l_30, l_32, l_40, l_41, l_44, l_48, l_57, l_59, l_60, l_63, l_64, l_80, l_84, l_96, l_97, l_99, l_120, l_122, l_127, l_200, l_240, l_255, l_840, l_999, l_1000, l_1001, l_2400, l_3064, l_9999, l_10000, l_13849, l_16383, l_25173, l_65535, l_65536, l_99999, l_1000000000, neg_nI, pk_mul, nI_add, nI_subL, tn_nI, inb_t, grd_true, bnd_some, elS_l, elS_r, nI_ltI, nI_leI, nI_inj, fa_and, fa_or, m1_eq, eq_m1, m1_lt, m1_le, lt_m1, le_m1, m1_lt0, up2_at, up2_no, ite_true, ite_false, if_true, if_false, Bool.false_eq_true, reduceIte, reduceCtorEq, not_true_eq_false, not_false_eq_true, eq_self, decide_true, decide_false, le_tt, le_ff, lt_tt, lt_ff, eq_ff, and_true, true_and, and_false, false_and, or_true, true_or, or_false, false_or, ne_eq, decide_eq_true_eq, decide_eq_false_iff_not, Bool.not_true, Bool.not_false, Bool.and_true, Bool.true_and, Bool.and_false, Bool.false_and, gs_at, gs_no, oI_n, oI_s]
      · rw [hM3]; simp (disch := omega) only [l_0, l_1, l_2, l_3, l_4, l_5, l_6, l_7, l_8, l_9, l_10, l_11, l_12, l_13, l_14, l_16, l_20, l_21, l_23, l_24, l_30, l_32, l_40, l_41, l_44, l_48, l_57, l_59, l_60, l_63, l_64, l_80, l_84, l_96, l_97, l_99, l_120, l_122, l_127, l_200, l_240, l_255, l_840, l_999, l_1000, l_1001, l_2400, l_3064, l_9999, l_10000, l_13849, l_16383, l_25173, l_65535, l_65536, l_99999, l_1000000000, neg_nI, pk_mul, nI_add, nI_subL, tn_nI, inb_t, grd_true, bnd_some, elS_l, elS_r, nI_ltI, nI_leI, nI_inj, fa_and, fa_or, m1_eq, eq_m1, m1_lt, m1_le, lt_m1, le_m1, m1_lt0, up2_at, up2_no, ite_true, ite_false, if_true, if_false, Bool.false_eq_true, reduceIte, reduceCtorEq, not_true_eq_false, not_false_eq_true, eq_self, decide_true, decide_false, le_tt, le_ff, lt_tt, lt_ff, eq_ff, and_true, true_and, and_false, false_and, or_true, true_or, or_false, false_or, ne_eq, decide_eq_true_eq, decide_eq_false_iff_not, Bool.not_true, Bool.not_false, Bool.and_true, Bool.true_and, Bool.and_false, Bool.false_and, gs_at, gs_no, oI_n, oI_s]
      · rw [gs_at, hM3]; simp (disch := omega) only [l_0, l_1, l_2, l_3, l_4, l_5, l_6, l_7, l_8, l_9, l_10, l_11, l_12, l_13, l_14, l_16, l_20, l_21, l_23, l_24, l_30, l_32, l_40, l_41, l_44, l_48, l_57, l_59, l_60, l_63, l_64, l_80, l_84, l_96, l_97, l_99, l_120, l_122, l_127, l_200, l_240, l_255, l_840, l_999, l_1000, l_1001, l_2400, l_3064, l_9999, l_10000, l_13849, l_16383, l_25173, l_65535, l_65536, l_99999, l_1000000000, neg_nI, pk_mul, nI_add, nI_subL, tn_nI, inb_t, grd_true, bnd_some, elS_l, elS_r, nI_ltI, nI_leI, nI_inj, fa_and, fa_or, m1_eq, eq_m1, m1_lt, m1_le, lt_m1, le_m1, m1_lt0, up2_at, up2_no, ite_true, ite_false, if_true, if_false, Bool.false_eq_true, reduceIte, reduceCtorEq, not_true_eq_false, not_false_eq_true, eq_self, decide_true, decide_false, le_tt, le_ff, lt_tt, lt_ff, eq_ff, and_true, true_and, and_false, false_and, or_true, true_or, or_false, false_or, ne_eq, decide_eq_true_eq, decide_eq_false_iff_not, Bool.not_true, Bool.not_false, Bool.and_true, Bool.true_and, Bool.and_false, Bool.false_and, gs_at, gs_no, oI_n, oI_s]; rfl
    obtain ⟨M4, d1, d2, d3⟩ := v1 n M3 (by omega) hTR
    have hrun : Tr_run n 18 (nI N) (nI load) (nI u) M = some M4 := by
      rw [hM3] at d1
      unfold Tr_run
      simp (disch := omega) only [l_0, l_1, l_2, l_3, l_4, l_5, l_6, l_7, l_8, l_9, l_10, l_11, l_12, l_13, l_14, l_16, l_20, l_21, l_23, l_24, l_30, l_32, l_40, l_41, l_44, l_48, l_57, l_59, l_60, l_63, l_64, l_80, l_84, l_96, l_97, l_99, l_120, l_122, l_127, l_200, l_240, l_255, l_840, l_999, l_1000, l_1001, l_2400, l_3064, l_9999, l_10000, l_13849, l_16383, l_25173, l_65535, l_65536, l_99999, l_1000000000, neg_nI, pk_mul, nI_add, nI_subL, tn_nI, inb_t, grd_true, bnd_some, elS_l, elS_r, nI_ltI, nI_leI, nI_inj, fa_and, fa_or, m1_eq, eq_m1, m1_lt, m1_le, lt_m1, le_m1, m1_lt0, up2_at, up2_no, ite_true, ite_false, if_true, if_false, Bool.false_eq_true, reduceIte, reduceCtorEq, not_true_eq_false, not_false_eq_true, eq_self, decide_true, decide_false, le_tt, le_ff, lt_tt, lt_ff, eq_ff, and_true, true_and, and_false, false_and, or_true, true_or, or_false, false_or, ne_eq, decide_eq_true_eq, decide_eq_false_iff_not, Bool.not_true, Bool.not_false, Bool.and_true, Bool.true_and, Bool.and_false, Bool.false_and, gs_at, gs_no, oI_n, oI_s, a1, c1, x3, d1]
    have hfr := fr_Tr_run hrun
    refine ⟨M4, hrun, d2, hS.fr hfr (fun k j hk => by unfold fp_Tr_run; omega), d3.cong (by rw [gs_no (by omega)]; exact b1.2.2.2.2.2.1) (fun k h1 h2 h3 => (gs_no (by omega)).symm), hfr.mono (fun c j q => by unfold fp_Tr_run at q; unfold PC; omega)⟩
  · obtain ⟨M1, h', a1, a2, a3, a4, a5⟩ := hF.out (b := 2) (n := n) (by omega) (by omega) (by omega)
    have hF2 : FK (up2 M1.1 95 7 (nI 0), M1.2) (gs g 7 0) h' := a2.set (by omega) (by rw [iv_lo (by omega), gs_at])
    have hF3 : FK (up2 (up2 (up2 (up2 M1.1 95 7 (nI 0)) 94 36 (nI 0)) 94 37 (nI 0)) 94 38 (ng 1), M1.2) (gs g 7 0) h' := hF2.fr (P := fun c _ => c = 94) (Fr.I (Fr.I (Fr.I Fr.rf rfl) rfl) rfl) (fun j => by omega)
    obtain ⟨M4, g', d1, d2, d3, d4, d5, d6⟩ := v2 n (up2 (up2 (up2 (up2 M1.1 95 7 (nI 0)) 94 36 (nI 0)) 94 37 (nI 0)) 94 38 (ng 1), M1.2) h' (by omega) hF3 ⟨(by simp (disch := omega) only [l_0, l_1, l_2, l_3, l_4, l_5, l_6, l_7, l_8, l_9, l_10, l_11, l_12, l_13, l_14, l_16, l_20, l_21, l_23, l_24, l_30, l_32, l_40, l_41, l_44, l_48, l_57, l_59, l_60, l_63, l_64, l_80, l_84, l_96, l_97, l_99, l_120, l_122, l_127, l_200, l_240, l_255, l_840, l_999, l_1000, l_1001, l_2400, l_3064, l_9999, l_10000, l_13849, l_16383, l_25173, l_65535, l_65536, l_99999, l_1000000000, neg_nI, pk_mul, nI_add, nI_subL, tn_nI, inb_t, grd_true, bnd_some, elS_l, elS_r, nI_ltI, nI_leI, nI_inj, fa_and, fa_or, m1_eq, eq_m1, m1_lt, m1_le, lt_m1, le_m1, m1_lt0, up2_at, up2_no, ite_true, ite_false, if_true, if_false, Bool.false_eq_true, reduceIte, reduceCtorEq, not_true_eq_false, not_false_eq_true, eq_self, decide_true, decide_false, le_tt, le_ff, lt_tt, lt_ff, eq_ff, and_true, true_and, and_false, false_and, or_true, true_or, or_false, false_or, ne_eq, decide_eq_true_eq, decide_eq_false_iff_not, Bool.not_true, Bool.not_false, Bool.and_true, Bool.true_and, Bool.and_false, Bool.false_and, gs_at, gs_no, oI_n, oI_s]), (by simp (disch := omega) only [l_0, l_1, l_2, l_3, l_4, l_5, l_6, l_7, l_8, l_9, l_10, l_11, l_12, l_13, l_14, l_16, l_20, l_21, l_23, l_24, l_30, l_32, l_40, l_41, l_44, l_48, l_57, l_59, l_60, l_63, l_64, l_80, l_84, l_96, l_97, l_99, l_120, l_122, l_127, l_200, l_240, l_255, l_840, l_999, l_1000, l_1001, l_2400, l_3064, l_9999, l_10000, l_13849, l_16383, l_25173, l_65535, l_65536, l_99999, l_1000000000, neg_nI, pk_mul, nI_add, nI_subL, tn_nI, inb_t, grd_true, bnd_some, elS_l, elS_r, nI_ltI, nI_leI, nI_inj, fa_and, fa_or, m1_eq, eq_m1, m1_lt, m1_le, lt_m1, le_m1, m1_lt0, up2_at, up2_no, ite_true, ite_false, if_true, if_false, Bool.false_eq_true, reduceIte, reduceCtorEq, not_true_eq_false, not_false_eq_true, eq_self, decide_true, decide_false, le_tt, le_ff, lt_tt, lt_ff, eq_ff, and_true, true_and, and_false, false_and, or_true, true_or, or_false, false_or, ne_eq, decide_eq_true_eq, decide_eq_false_iff_not, Bool.not_true, Bool.not_false, Bool.and_true, Bool.true_and, Bool.and_false, Bool.false_and, gs_at, gs_no, oI_n, oI_s]), (by simp (disch := omega) only [l_0, l_1, l_2, l_3, l_4, l_5, l_6, l_7, l_8, l_9, l_10, l_11, l_12, l_13, l_14, l_16, l_20, l_21, l_23, l_24, l_30, l_32, l_40, l_41, l_44, l_48, l_57, l_59, l_60, l_63, l_64, l_80, l_84, l_96, l_97, l_99, l_120, l_122, l_127, l_200, l_240, l_255, l_840, l_999, l_1000, l_1001, l_2400, l_3064, l_9999, l_10000, l_13849, l_16383, l_25173, l_65535, l_65536, l_99999, l_1000000000, neg_nI, pk_mul, nI_add, nI_subL, tn_nI, inb_t, grd_true, bnd_some, elS_l, elS_r, nI_ltI, nI_leI, nI_inj, fa_and, fa_or, m1_eq, eq_m1, m1_lt, m1_le, lt_m1, le_m1, m1_lt0, up2_at, up2_no, ite_true, ite_false, if_true, if_false, Bool.false_eq_true, reduceIte, reduceCtorEq, not_true_eq_false, not_false_eq_true, eq_self, decide_true, decide_false, le_tt, le_ff, lt_tt, lt_ff, eq_ff, and_true, true_and, and_false, false_and, or_true, true_or, or_false, false_or, ne_eq, decide_eq_true_eq, decide_eq_false_iff_not, Bool.not_true, Bool.not_false, Bool.and_true, Bool.true_and, Bool.and_false, Bool.false_and, gs_at, gs_no, oI_n, oI_s])⟩
    have hlm := litMany_m (n := n) d3 d2 (by omega)
    rw [d5] at hlm
    have hF5 : FK (up2 M4.1 94 39 (nI L'), M4.2) g' h' := d2.fr (P := fun c _ => c = 94) (Fr.I Fr.rf rfl) (fun j => by omega)
    obtain ⟨M6, f1, f2, f3⟩ := hF5.back (b := 2) (n := n) (g' := g) (by omega) (by omega) a3 (by omega)
    refine ⟨M6, h', ?_, ⟨?_, ?_, ?_, ?_⟩, f2, fun j hj => a4 _ (by omega) (by omega), ?_⟩
    · unfold Fm_tries
      simp (disch := omega) only [l_0, l_1, l_2, l_3, l_4, l_5, l_6, l_7, l_8, l_9, l_10, l_11, l_12, l_13, l_14, l_16, l_20, l_21, l_23, l_24, l_30, l_32, l_40, l_41, l_44, l_48, l_57, l_59, l_60, l_63, l_64, l_80, l_84, l_96, l_97, l_99, l_120, l_122, l_127, l_200, l_240, l_255, l_840, l_999, l_1000, l_1001, l_2400, l_3064, l_9999, l_10000, l_13849, l_16383, l_25173, l_65535, l_65536, l_99999, l_1000000000, neg_nI, pk_mul, nI_add, nI_subL, tn_nI, inb_t, grd_true, bnd_some, elS_l, elS_r, nI_ltI, nI_leI, nI_inj, fa_and, fa_or, m1_eq, eq_m1, m1_lt, m1_le, lt_m1, le_m1, m1_lt0, up2_at, up2_no, ite_true, ite_false, if_true, if_false, Bool.false_eq_true, reduceIte, reduceCtorEq, not_true_eq_false, not_false_eq_true, eq_self, decide_true, decide_false, le_tt, le_ff, lt_tt, lt_ff, eq_ff, and_true, true_and, and_false, false_and, or_true, true_or, or_false, false_or, ne_eq, decide_eq_true_eq, decide_eq_false_iff_not, Bool.not_true, Bool.not_false, Bool.and_true, Bool.true_and, Bool.and_false, Bool.false_and, gs_at, gs_no, oI_n, oI_s, a1, d1, hlm, f1]
    · rw [(f3 94 36 (by omega)).1]; show up2 M4.1 94 39 (nI L') 94 36 = _; rw [up2_no (by omega)]; exact d4.1
    · rw [(f3 94 37 (by omega)).1]; show up2 M4.1 94 39 (nI L') 94 37 = _; rw [up2_no (by omega)]; exact d4.2.1
    · rw [(f3 94 38 (by omega)).1]; show up2 M4.1 94 39 (nI L') 94 38 = _; rw [up2_no (by omega)]; exact d4.2.2
    · rw [(f3 94 39 (by omega)).1]; show up2 M4.1 94 39 (nI L') 94 39 = _; exact up2_at
    · have q1 : Fr PM M (up2 (up2 (up2 (up2 M1.1 95 7 (nI 0)) 94 36 (nI 0)) 94 37 (nI 0)) 94 38 (ng 1), M1.2) := Fr.I (Fr.I (Fr.I (Fr.I (a5.mono (fun c j q => .inl q)) (.inl rfl)) (by unfold PM; omega)) (by unfold PM; omega)) (by unfold PM; omega)
      have q2 : Fr PM M4 (up2 M4.1 94 39 (nI L'), M4.2) := Fr.I Fr.rf (by unfold PM; omega)
      exact ((q1.tr d6).tr q2).tr (f3.mono (fun c j q => .inl q))
end
theorem Fg_isTrial_e {x y : Int32} {M : Mm} : Fg_isTrial x y M = some (rg x 1 200 && rg y 1 64) := by
  unfold Fg_isTrial
  rcases i32c x with ⟨k, hk, rfl⟩ | h
  · rw [rg_n hk]
    by_cases c : k < 1
    · rw [decide_eq_false (by omega)]
      simp (disch := omega) only [l_0, l_1, l_2, l_3, l_4, l_5, l_6, l_7, l_8, l_9, l_10, l_11, l_12, l_13, l_14, l_16, l_20, l_21, l_23, l_24, l_30, l_32, l_40, l_41, l_44, l_48, l_57, l_59, l_60, l_63, l_64, l_80, l_84, l_96, l_97, l_99, l_120, l_122, l_127, l_200, l_240, l_255, l_840, l_999, l_1000, l_1001, l_2400, l_3064, l_9999, l_10000, l_13849, l_16383, l_25173, l_65535, l_65536, l_99999, l_1000000000, neg_nI, pk_mul, nI_add, nI_subL, tn_nI, inb_t, grd_true, bnd_some, elS_l, elS_r, nI_ltI, nI_leI, nI_inj, fa_and, fa_or, m1_eq, eq_m1, m1_lt, m1_le, lt_m1, le_m1, m1_lt0, up2_at, up2_no, ite_true, ite_false, if_true, if_false, Bool.false_eq_true, reduceIte, reduceCtorEq, not_true_eq_false, not_false_eq_true, eq_self, decide_true, decide_false, le_tt, le_ff, lt_tt, lt_ff, eq_ff, and_true, true_and, and_false, false_and, or_true, true_or, or_false, false_or, ne_eq, decide_eq_true_eq, decide_eq_false_iff_not, Bool.not_true, Bool.not_false, Bool.and_true, Bool.true_and, Bool.and_false, Bool.false_and, gs_at, gs_no, oI_n, oI_s]
    · by_cases c2 : 200 < k
      · rw [decide_eq_false (by omega)]
        simp (disch := omega) only [l_0, l_1, l_2, l_3, l_4, l_5, l_6, l_7, l_8, l_9, l_10, l_11, l_12, l_13, l_14, l_16, l_20, l_21, l_23, l_24, l_30, l_32, l_40, l_41, l_44, l_48, l_57, l_59, l_60, l_63, l_64, l_80, l_84, l_96, l_97, l_99, l_120, l_122, l_127, l_200, l_240, l_255, l_840, l_999, l_1000, l_1001, l_2400, l_3064, l_9999, l_10000, l_13849, l_16383, l_25173, l_65535, l_65536, l_99999, l_1000000000, neg_nI, pk_mul, nI_add, nI_subL, tn_nI, inb_t, grd_true, bnd_some, elS_l, elS_r, nI_ltI, nI_leI, nI_inj, fa_and, fa_or, m1_eq, eq_m1, m1_lt, m1_le, lt_m1, le_m1, m1_lt0, up2_at, up2_no, ite_true, ite_false, if_true, if_false, Bool.false_eq_true, reduceIte, reduceCtorEq, not_true_eq_false, not_false_eq_true, eq_self, decide_true, decide_false, le_tt, le_ff, lt_tt, lt_ff, eq_ff, and_true, true_and, and_false, false_and, or_true, true_or, or_false, false_or, ne_eq, decide_eq_true_eq, decide_eq_false_iff_not, Bool.not_true, Bool.not_false, Bool.and_true, Bool.true_and, Bool.and_false, Bool.false_and, gs_at, gs_no, oI_n, oI_s]
      · rw [decide_eq_true (by omega)]
        rcases i32c y with ⟨j, hj, rfl⟩ | h2
        · rw [rg_n hj]
          by_cases d : j < 1
          · rw [decide_eq_false (by omega)]
            simp (disch := omega) only [l_0, l_1, l_2, l_3, l_4, l_5, l_6, l_7, l_8, l_9, l_10, l_11, l_12, l_13, l_14, l_16, l_20, l_21, l_23, l_24, l_30, l_32, l_40, l_41, l_44, l_48, l_57, l_59, l_60, l_63, l_64, l_80, l_84, l_96, l_97, l_99, l_120, l_122, l_127, l_200, l_240, l_255, l_840, l_999, l_1000, l_1001, l_2400, l_3064, l_9999, l_10000, l_13849, l_16383, l_25173, l_65535, l_65536, l_99999, l_1000000000, neg_nI, pk_mul, nI_add, nI_subL, tn_nI, inb_t, grd_true, bnd_some, elS_l, elS_r, nI_ltI, nI_leI, nI_inj, fa_and, fa_or, m1_eq, eq_m1, m1_lt, m1_le, lt_m1, le_m1, m1_lt0, up2_at, up2_no, ite_true, ite_false, if_true, if_false, Bool.false_eq_true, reduceIte, reduceCtorEq, not_true_eq_false, not_false_eq_true, eq_self, decide_true, decide_false, le_tt, le_ff, lt_tt, lt_ff, eq_ff, and_true, true_and, and_false, false_and, or_true, true_or, or_false, false_or, ne_eq, decide_eq_true_eq, decide_eq_false_iff_not, Bool.not_true, Bool.not_false, Bool.and_true, Bool.true_and, Bool.and_false, Bool.false_and, gs_at, gs_no, oI_n, oI_s]
          · by_cases d2 : 64 < j
            · rw [decide_eq_false (by omega)]
              simp (disch := omega) only [l_0, l_1, l_2, l_3, l_4, l_5, l_6, l_7, l_8, l_9, l_10, l_11, l_12, l_13, l_14, l_16, l_20, l_21, l_23, l_24, l_30, l_32, l_40, l_41, l_44, l_48, l_57, l_59, l_60, l_63, l_64, l_80, l_84, l_96, l_97, l_99, l_120, l_122, l_127, l_200, l_240, l_255, l_840, l_999, l_1000, l_1001, l_2400, l_3064, l_9999, l_10000, l_13849, l_16383, l_25173, l_65535, l_65536, l_99999, l_1000000000, neg_nI, pk_mul, nI_add, nI_subL, tn_nI, inb_t, grd_true, bnd_some, elS_l, elS_r, nI_ltI, nI_leI, nI_inj, fa_and, fa_or, m1_eq, eq_m1, m1_lt, m1_le, lt_m1, le_m1, m1_lt0, up2_at, up2_no, ite_true, ite_false, if_true, if_false, Bool.false_eq_true, reduceIte, reduceCtorEq, not_true_eq_false, not_false_eq_true, eq_self, decide_true, decide_false, le_tt, le_ff, lt_tt, lt_ff, eq_ff, and_true, true_and, and_false, false_and, or_true, true_or, or_false, false_or, ne_eq, decide_eq_true_eq, decide_eq_false_iff_not, Bool.not_true, Bool.not_false, Bool.and_true, Bool.true_and, Bool.and_false, Bool.false_and, gs_at, gs_no, oI_n, oI_s]
            · rw [decide_eq_true (by omega)]
              simp (disch := omega) only [l_0, l_1, l_2, l_3, l_4, l_5, l_6, l_7, l_8, l_9, l_10, l_11, l_12, l_13, l_14, l_16, l_20, l_21, l_23, l_24, l_30, l_32, l_40, l_41, l_44, l_48, l_57, l_59, l_60, l_63, l_64, l_80, l_84, l_96, l_97, l_99, l_120, l_122, l_127, l_200, l_240, l_255, l_840, l_999, l_1000, l_1001, l_2400, l_3064, l_9999, l_10000, l_13849, l_16383, l_25173, l_65535, l_65536, l_99999, l_1000000000, neg_nI, pk_mul, nI_add, nI_subL, tn_nI, inb_t, grd_true, bnd_some, elS_l, elS_r, nI_ltI, nI_leI, nI_inj, fa_and, fa_or, m1_eq, eq_m1, m1_lt, m1_le, lt_m1, le_m1, m1_lt0, up2_at, up2_no, ite_true, ite_false, if_true, if_false, Bool.false_eq_true, reduceIte, reduceCtorEq, not_true_eq_false, not_false_eq_true, eq_self, decide_true, decide_false, le_tt, le_ff, lt_tt, lt_ff, eq_ff, and_true, true_and, and_false, false_and, or_true, true_or, or_false, false_or, ne_eq, decide_eq_true_eq, decide_eq_false_iff_not, Bool.not_true, Bool.not_false, Bool.and_true, Bool.true_and, Bool.and_false, Bool.false_and, gs_at, gs_no, oI_n, oI_s]
        · rw [xrg h2]
          simp (disch := omega) only [l_0, l_1, l_2, l_3, l_4, l_5, l_6, l_7, l_8, l_9, l_10, l_11, l_12, l_13, l_14, l_16, l_20, l_21, l_23, l_24, l_30, l_32, l_40, l_41, l_44, l_48, l_57, l_59, l_60, l_63, l_64, l_80, l_84, l_96, l_97, l_99, l_120, l_122, l_127, l_200, l_240, l_255, l_840, l_999, l_1000, l_1001, l_2400, l_3064, l_9999, l_10000, l_13849, l_16383, l_25173, l_65535, l_65536, l_99999, l_1000000000, neg_nI, pk_mul, nI_add, nI_subL, tn_nI, inb_t, grd_true, bnd_some, elS_l, elS_r, nI_ltI, nI_leI, nI_inj, fa_and, fa_or, m1_eq, eq_m1, m1_lt, m1_le, lt_m1, le_m1, m1_lt0, up2_at, up2_no, ite_true, ite_false, if_true, if_false, Bool.false_eq_true, reduceIte, reduceCtorEq, not_true_eq_false, not_false_eq_true, eq_self, decide_true, decide_false, le_tt, le_ff, lt_tt, lt_ff, eq_ff, and_true, true_and, and_false, false_and, or_true, true_or, or_false, false_or, ne_eq, decide_eq_true_eq, decide_eq_false_iff_not, Bool.not_true, Bool.not_false, Bool.and_true, Bool.true_and, Bool.and_false, Bool.false_and, gs_at, gs_no, oI_n, oI_s, xlt h2]
  · rw [xrg h]
    simp (disch := omega) only [l_0, l_1, l_2, l_3, l_4, l_5, l_6, l_7, l_8, l_9, l_10, l_11, l_12, l_13, l_14, l_16, l_20, l_21, l_23, l_24, l_30, l_32, l_40, l_41, l_44, l_48, l_57, l_59, l_60, l_63, l_64, l_80, l_84, l_96, l_97, l_99, l_120, l_122, l_127, l_200, l_240, l_255, l_840, l_999, l_1000, l_1001, l_2400, l_3064, l_9999, l_10000, l_13849, l_16383, l_25173, l_65535, l_65536, l_99999, l_1000000000, neg_nI, pk_mul, nI_add, nI_subL, tn_nI, inb_t, grd_true, bnd_some, elS_l, elS_r, nI_ltI, nI_leI, nI_inj, fa_and, fa_or, m1_eq, eq_m1, m1_lt, m1_le, lt_m1, le_m1, m1_lt0, up2_at, up2_no, ite_true, ite_false, if_true, if_false, Bool.false_eq_true, reduceIte, reduceCtorEq, not_true_eq_false, not_false_eq_true, eq_self, decide_true, decide_false, le_tt, le_ff, lt_tt, lt_ff, eq_ff, and_true, true_and, and_false, false_and, or_true, true_or, or_false, false_or, ne_eq, decide_eq_true_eq, decide_eq_false_iff_not, Bool.not_true, Bool.not_false, Bool.and_true, Bool.true_and, Bool.and_false, Bool.false_and, gs_at, gs_no, oI_n, oI_s, xlt h]
theorem Fm_isTrial_e {x y : Int32} {M : Mm} : Fm_isTrial x y M = some (rg x 1 200 && rg y 1 64) := by
  unfold Fm_isTrial
  rw [l_1, l_200, l_64, Fm_in_x (by decide) (by decide), Fm_in_x (by decide) (by decide)]
  cases rg x 1 200
  · rfl
  · cases rg y 1 64 <;> rfl
theorem op_trial {n : Nat} (hn : 1099511627776 < n) (x y z v : Int32) : T2 (Fg_trial n x y z v) (Fm_trial n x y z v) := by
  refine T2.id (fun g hg => ?_)
  by_cases hx : (rg x 1 200 && rg y 1 64 && inb z 4 && rg v 0 3) = true
  · rw [Bool.and_eq_true, Bool.and_eq_true, Bool.and_eq_true] at hx
    obtain ⟨N, n1, n2, rfl⟩ := (rg_iff (by decide)).mp hx.1.1.1
    obtain ⟨load, l1, l2, rfl⟩ := (rg_iff (by decide)).mp hx.1.1.2
    obtain ⟨u, hu, rfl⟩ := (inb_iff (by decide)).mp hx.1.2
    obtain ⟨w, _, hw, rfl⟩ := (rg_iff (by decide)).mp hx.2
    obtain ⟨B', R', T', L', v0, v1, v2⟩ := tr_ex (n := n) hg n1 n2 l1 l2 hu hn
    refine ⟨if w = 0 then nI B' else if w = 1 then nI R' else if w = 2 then oI T' else nI L', fun M hS hA => ?_, fun M h hF => ?_⟩
    · obtain ⟨M', a1, ⟨c1, c2, c3, c4⟩, a3, a4, a5⟩ := v1 M hS hA
      refine ⟨M', ?_, a3, a4, a5⟩
      unfold Fg_trial
      rw [Fg_isTrial_e, hx.1.1.1, hx.1.1.2, Fg_isRule_e, hx.1.2]
      by_cases w0 : w = 0
      · simp (disch := omega) only [l_0, l_1, l_2, l_3, l_4, l_5, l_6, l_7, l_8, l_9, l_10, l_11, l_12, l_13, l_14, l_16, l_20, l_21, l_23, l_24, l_30, l_32, l_40, l_41, l_44, l_48, l_57, l_59, l_60, l_63, l_64, l_80, l_84, l_96, l_97, l_99, l_120, l_122, l_127, l_200, l_240, l_255, l_840, l_999, l_1000, l_1001, l_2400, l_3064, l_9999, l_10000, l_13849, l_16383, l_25173, l_65535, l_65536, l_99999, l_1000000000, neg_nI, pk_mul, nI_add, nI_subL, tn_nI, inb_t, grd_true, bnd_some, elS_l, elS_r, nI_ltI, nI_leI, nI_inj, fa_and, fa_or, m1_eq, eq_m1, m1_lt, m1_le, lt_m1, le_m1, m1_lt0, up2_at, up2_no, ite_true, ite_false, if_true, if_false, Bool.false_eq_true, reduceIte, reduceCtorEq, not_true_eq_false, not_false_eq_true, eq_self, decide_true, decide_false, le_tt, le_ff, lt_tt, lt_ff, eq_ff, and_true, true_and, and_false, false_and, or_true, true_or, or_false, false_or, ne_eq, decide_eq_true_eq, decide_eq_false_iff_not, Bool.not_true, Bool.not_false, Bool.and_true, Bool.true_and, Bool.and_false, Bool.false_and, gs_at, gs_no, oI_n, oI_s, w0, a1, c1]
      by_cases w1 : w = 1
      · simp (disch := omega) only [l_0, l_1, l_2, l_3, l_4, l_5, l_6, l_7, l_8, l_9, l_10, l_11, l_12, l_13, l_14, l_16, l_20, l_21, l_23, l_24, l_30, l_32, l_40, l_41, l_44, l_48, l_57, l_59, l_60, l_63, l_64, l_80, l_84, l_96, l_97, l_99, l_120, l_122, l_127, l_200, l_240, l_255, l_840, l_999, l_1000, l_1001, l_2400, l_3064, l_9999, l_10000, l_13849, l_16383, l_25173, l_65535, l_65536, l_99999, l_1000000000, neg_nI, pk_mul, nI_add, nI_subL, tn_nI, inb_t, grd_true, bnd_some, elS_l, elS_r, nI_ltI, nI_leI, nI_inj, fa_and, fa_or, m1_eq, eq_m1, m1_lt, m1_le, lt_m1, le_m1, m1_lt0, up2_at, up2_no, ite_true, ite_false, if_true, if_false, Bool.false_eq_true, reduceIte, reduceCtorEq, not_true_eq_false, not_false_eq_true, eq_self, decide_true, decide_false, le_tt, le_ff, lt_tt, lt_ff, eq_ff, and_true, true_and, and_false, false_and, or_true, true_or, or_false, false_or, ne_eq, decide_eq_true_eq, decide_eq_false_iff_not, Bool.not_true, Bool.not_false, Bool.and_true, Bool.true_and, Bool.and_false, Bool.false_and, gs_at, gs_no, oI_n, oI_s, w1, a1, c2]
      by_cases w2 : w = 2
      · simp (disch := omega) only [l_0, l_1, l_2, l_3, l_4, l_5, l_6, l_7, l_8, l_9, l_10, l_11, l_12, l_13, l_14, l_16, l_20, l_21, l_23, l_24, l_30, l_32, l_40, l_41, l_44, l_48, l_57, l_59, l_60, l_63, l_64, l_80, l_84, l_96, l_97, l_99, l_120, l_122, l_127, l_200, l_240, l_255, l_840, l_999, l_1000, l_1001, l_2400, l_3064, l_9999, l_10000, l_13849, l_16383, l_25173, l_65535, l_65536, l_99999, l_1000000000, neg_nI, pk_mul, nI_add, nI_subL, tn_nI, inb_t, grd_true, bnd_some, elS_l, elS_r, nI_ltI, nI_leI, nI_inj, fa_and, fa_or, m1_eq, eq_m1, m1_lt, m1_le, lt_m1, le_m1, m1_lt0, up2_at, up2_no, ite_true, ite_false, if_true, if_false, Bool.false_eq_true, reduceIte, reduceCtorEq, not_true_eq_false, not_false_eq_true, eq_self, decide_true, decide_false, le_tt, le_ff, lt_tt, lt_ff, eq_ff, and_true, true_and, and_false, false_and, or_true, true_or, or_false, false_or, ne_eq, decide_eq_true_eq, decide_eq_false_iff_not, Bool.not_true, Bool.not_false, Bool.and_true, Bool.true_and, Bool.and_false, Bool.false_and, gs_at, gs_no, oI_n, oI_s, w2, a1, c3]
      simp (disch := omega) only [l_0, l_1, l_2, l_3, l_4, l_5, l_6, l_7, l_8, l_9, l_10, l_11, l_12, l_13, l_14, l_16, l_20, l_21, l_23, l_24, l_30, l_32, l_40, l_41, l_44, l_48, l_57, l_59, l_60, l_63, l_64, l_80, l_84, l_96, l_97, l_99, l_120, l_122, l_127, l_200, l_240, l_255, l_840, l_999, l_1000, l_1001, l_2400, l_3064, l_9999, l_10000, l_13849, l_16383, l_25173, l_65535, l_65536, l_99999, l_1000000000, neg_nI, pk_mul, nI_add, nI_subL, tn_nI, inb_t, grd_true, bnd_some, elS_l, elS_r, nI_ltI, nI_leI, nI_inj, fa_and, fa_or, m1_eq, eq_m1, m1_lt, m1_le, lt_m1, le_m1, m1_lt0, up2_at, up2_no, ite_true, ite_false, if_true, if_false, Bool.false_eq_true, reduceIte, reduceCtorEq, not_true_eq_false, not_false_eq_true, eq_self, decide_true, decide_false, le_tt, le_ff, lt_tt, lt_ff, eq_ff, and_true, true_and, and_false, false_and, or_true, true_or, or_false, false_or, ne_eq, decide_eq_true_eq, decide_eq_false_iff_not, Bool.not_true, Bool.not_false, Bool.and_true, Bool.true_and, Bool.and_false, Bool.false_and, gs_at, gs_no, oI_n, oI_s, w0, w1, w2, a1, c4]
    · obtain ⟨M', h', a1, ⟨c1, c2, c3, c4⟩, a3, a4, a5⟩ := v2 M h hF
      refine ⟨M', h', ?_, a3, a4, a5⟩
      unfold Fm_trial
      rw [Fm_isTrial_e, hx.1.1.1, hx.1.1.2, Fm_isRule_e, hx.1.2, l_0, l_3, Fm_in_x (by decide) (by decide), hx.2]
      by_cases w0 : w = 0
      · simp (disch := omega) only [l_0, l_1, l_2, l_3, l_4, l_5, l_6, l_7, l_8, l_9, l_10, l_11, l_12, l_13, l_14, l_16, l_20, l_21, l_23, l_24, l_30, l_32, l_40, l_41, l_44, l_48, l_57, l_59, l_60, l_63, l_64, l_80, l_84, l_96, l_97, l_99, l_120, l_122, l_127, l_200, l_240, l_255, l_840, l_999, l_1000, l_1001, l_2400, l_3064, l_9999, l_10000, l_13849, l_16383, l_25173, l_65535, l_65536, l_99999, l_1000000000, neg_nI, pk_mul, nI_add, nI_subL, tn_nI, inb_t, grd_true, bnd_some, elS_l, elS_r, nI_ltI, nI_leI, nI_inj, fa_and, fa_or, m1_eq, eq_m1, m1_lt, m1_le, lt_m1, le_m1, m1_lt0, up2_at, up2_no, ite_true, ite_false, if_true, if_false, Bool.false_eq_true, reduceIte, reduceCtorEq, not_true_eq_false, not_false_eq_true, eq_self, decide_true, decide_false, le_tt, le_ff, lt_tt, lt_ff, eq_ff, and_true, true_and, and_false, false_and, or_true, true_or, or_false, false_or, ne_eq, decide_eq_true_eq, decide_eq_false_iff_not, Bool.not_true, Bool.not_false, Bool.and_true, Bool.true_and, Bool.and_false, Bool.false_and, gs_at, gs_no, oI_n, oI_s, w0, a1, c1]
      by_cases w1 : w = 1
      · simp (disch := omega) only [l_0, l_1, l_2, l_3, l_4, l_5, l_6, l_7, l_8, l_9, l_10, l_11, l_12, l_13, l_14, l_16, l_20, l_21, l_23, l_24, l_30, l_32, l_40, l_41, l_44, l_48, l_57, l_59, l_60, l_63, l_64, l_80, l_84, l_96, l_97, l_99, l_120, l_122, l_127, l_200, l_240, l_255, l_840, l_999, l_1000, l_1001, l_2400, l_3064, l_9999, l_10000, l_13849, l_16383, l_25173, l_65535, l_65536, l_99999, l_1000000000, neg_nI, pk_mul, nI_add, nI_subL, tn_nI, inb_t, grd_true, bnd_some, elS_l, elS_r, nI_ltI, nI_leI, nI_inj, fa_and, fa_or, m1_eq, eq_m1, m1_lt, m1_le, lt_m1, le_m1, m1_lt0, up2_at, up2_no, ite_true, ite_false, if_true, if_false, Bool.false_eq_true, reduceIte, reduceCtorEq, not_true_eq_false, not_false_eq_true, eq_self, decide_true, decide_false, le_tt, le_ff, lt_tt, lt_ff, eq_ff, and_true, true_and, and_false, false_and, or_true, true_or, or_false, false_or, ne_eq, decide_eq_true_eq, decide_eq_false_iff_not, Bool.not_true, Bool.not_false, Bool.and_true, Bool.true_and, Bool.and_false, Bool.false_and, gs_at, gs_no, oI_n, oI_s, w1, a1, c2]
      by_cases w2 : w = 2
      · simp (disch := omega) only [l_0, l_1, l_2, l_3, l_4, l_5, l_6, l_7, l_8, l_9, l_10, l_11, l_12, l_13, l_14, l_16, l_20, l_21, l_23, l_24, l_30, l_32, l_40, l_41, l_44, l_48, l_57, l_59, l_60, l_63, l_64, l_80, l_84, l_96, l_97, l_99, l_120, l_122, l_127, l_200, l_240, l_255, l_840, l_999, l_1000, l_1001, l_2400, l_3064, l_9999, l_10000, l_13849, l_16383, l_25173, l_65535, l_65536, l_99999, l_1000000000, neg_nI, pk_mul, nI_add, nI_subL, tn_nI, inb_t, grd_true, bnd_some, elS_l, elS_r, nI_ltI, nI_leI, nI_inj, fa_and, fa_or, m1_eq, eq_m1, m1_lt, m1_le, lt_m1, le_m1, m1_lt0, up2_at, up2_no, ite_true, ite_false, if_true, if_false, Bool.false_eq_true, reduceIte, reduceCtorEq, not_true_eq_false, not_false_eq_true, eq_self, decide_true, decide_false, le_tt, le_ff, lt_tt, lt_ff, eq_ff, and_true, true_and, and_false, false_and, or_true, true_or, or_false, false_or, ne_eq, decide_eq_true_eq, decide_eq_false_iff_not, Bool.not_true, Bool.not_false, Bool.and_true, Bool.true_and, Bool.and_false, Bool.false_and, gs_at, gs_no, oI_n, oI_s, w2, a1, c3]
      simp (disch := omega) only [l_0, l_1, l_2, l_3, l_4, l_5, l_6, l_7, l_8, l_9, l_10, l_11, l_12, l_13, l_14, l_16, l_20, l_21, l_23, l_24, l_30, l_32, l_40, l_41, l_44, l_48, l_57, l_59, l_60, l_63, l_64, l_80, l_84, l_96, l_97, l_99, l_120, l_122, l_127, l_200, l_240, l_255, l_840, l_999, l_1000, l_1001, l_2400, l_3064, l_9999, l_10000, l_13849, l_16383, l_25173, l_65535, l_65536, l_99999, l_1000000000, neg_nI, pk_mul, nI_add, nI_subL, tn_nI, inb_t, grd_true, bnd_some, elS_l, elS_r, nI_ltI, nI_leI, nI_inj, fa_and, fa_or, m1_eq, eq_m1, m1_lt, m1_le, lt_m1, le_m1, m1_lt0, up2_at, up2_no, ite_true, ite_false, if_true, if_false, Bool.false_eq_true, reduceIte, reduceCtorEq, not_true_eq_false, not_false_eq_true, eq_self, decide_true, decide_false, le_tt, le_ff, lt_tt, lt_ff, eq_ff, and_true, true_and, and_false, false_and, or_true, true_or, or_false, false_or, ne_eq, decide_eq_true_eq, decide_eq_false_iff_not, Bool.not_true, Bool.not_false, Bool.and_true, Bool.true_and, Bool.and_false, Bool.false_and, gs_at, gs_no, oI_n, oI_s, w0, w1, w2, a1, c4]
  · have hx' := ts_nt hx
    refine ⟨ng 2, fun M hS hA => TC.id hS hA ?_, fun M h hF => TM.id hF ?_⟩
    · unfold Fg_trial
      rw [Fg_isTrial_e, bnd_some]
      cases hp : (rg x 1 200 && rg y 1 64) with
      | false => rfl
      | true =>
        rw [hp, Bool.true_and] at hx'
        rw [Fg_isRule_e]
        cases hq : inb z 4 with
        | false => rfl
        | true =>
          rw [hq, Bool.true_and] at hx'
          rcases i32c v with ⟨w, hw, rfl⟩ | h
          · rw [rg_n hw] at hx'
            have := of_decide_eq_false hx'
            have : 3 < w := by omega
            simp (disch := omega) only [l_0, l_1, l_2, l_3, l_4, l_5, l_6, l_7, l_8, l_9, l_10, l_11, l_12, l_13, l_14, l_16, l_20, l_21, l_23, l_24, l_30, l_32, l_40, l_41, l_44, l_48, l_57, l_59, l_60, l_63, l_64, l_80, l_84, l_96, l_97, l_99, l_120, l_122, l_127, l_200, l_240, l_255, l_840, l_999, l_1000, l_1001, l_2400, l_3064, l_9999, l_10000, l_13849, l_16383, l_25173, l_65535, l_65536, l_99999, l_1000000000, neg_nI, pk_mul, nI_add, nI_subL, tn_nI, inb_t, grd_true, bnd_some, elS_l, elS_r, nI_ltI, nI_leI, nI_inj, fa_and, fa_or, m1_eq, eq_m1, m1_lt, m1_le, lt_m1, le_m1, m1_lt0, up2_at, up2_no, ite_true, ite_false, if_true, if_false, Bool.false_eq_true, reduceIte, reduceCtorEq, not_true_eq_false, not_false_eq_true, eq_self, decide_true, decide_false, le_tt, le_ff, lt_tt, lt_ff, eq_ff, and_true, true_and, and_false, false_and, or_true, true_or, or_false, false_or, ne_eq, decide_eq_true_eq, decide_eq_false_iff_not, Bool.not_true, Bool.not_false, Bool.and_true, Bool.true_and, Bool.and_false, Bool.false_and, gs_at, gs_no, oI_n, oI_s]
          · simp (disch := omega) only [l_0, l_1, l_2, l_3, l_4, l_5, l_6, l_7, l_8, l_9, l_10, l_11, l_12, l_13, l_14, l_16, l_20, l_21, l_23, l_24, l_30, l_32, l_40, l_41, l_44, l_48, l_57, l_59, l_60, l_63, l_64, l_80, l_84, l_96, l_97, l_99, l_120, l_122, l_127, l_200, l_240, l_255, l_840, l_999, l_1000, l_1001, l_2400, l_3064, l_9999, l_10000, l_13849, l_16383, l_25173, l_65535, l_65536, l_99999, l_1000000000, neg_nI, pk_mul, nI_add, nI_subL, tn_nI, inb_t, grd_true, bnd_some, elS_l, elS_r, nI_ltI, nI_leI, nI_inj, fa_and, fa_or, m1_eq, eq_m1, m1_lt, m1_le, lt_m1, le_m1, m1_lt0, up2_at, up2_no, ite_true, ite_false, if_true, if_false, Bool.false_eq_true, reduceIte, reduceCtorEq, not_true_eq_false, not_false_eq_true, eq_self, decide_true, decide_false, le_tt, le_ff, lt_tt, lt_ff, eq_ff, and_true, true_and, and_false, false_and, or_true, true_or, or_false, false_or, ne_eq, decide_eq_true_eq, decide_eq_false_iff_not, Bool.not_true, Bool.not_false, Bool.and_true, Bool.true_and, Bool.and_false, Bool.false_and, gs_at, gs_no, oI_n, oI_s, xlt h]
    · unfold Fm_trial
      rw [Fm_isTrial_e, bnd_some]
      cases hp : (rg x 1 200 && rg y 1 64) with
      | false => rfl
      | true =>
        rw [hp, Bool.true_and] at hx'
        rw [Fm_isRule_e]
        cases hq : inb z 4 with
        | false => rfl
        | true =>
          rw [hq, Bool.true_and] at hx'
          rw [l_0, l_3, Fm_in_x (by decide) (by decide), hx']
          rfl
theorem best_k {n N load : Nat} {g : Nat → Nat} (hg : GV g) (n1 : 1 ≤ N) (n2 : N ≤ 200) (l1 : 1 ≤ load) (l2 : load ≤ 64) (hn : 1099511627776 < n) : ∀ (k u best few : Nat), u + k = 4 → best < 4 → few ≤ 200 → ∃ r, (∀ m M, k < m → SV M 18 g → CA M g → ∃ M', loop (fun s1 : Int32 × Int32 × Int32 × Mm => Fg_bestRule_b21 n (nI N) (nI load) s1.1 s1.2.1 s1.2.2.1 s1.2.2.2) m (nI best, nI few, nI u, M) = some (nI r, M') ∧ SV M' 18 g ∧ CA M' g ∧ Fr PC M M') ∧ (∀ m M h, k < m → FK M g h → ∃ M' h', loop (fun s1 : Int32 × Int32 × Int32 × Mm => Fm_bestRule_b20 n (nI N) (nI load) s1.1 s1.2.1 s1.2.2.1 s1.2.2.2) m (nI best, nI few, nI u, M) = some (nI r, M') ∧ FK M' g h' ∧ (∀ j, j < 3064 → h' (3064 + j) = h (3064 + j)) ∧ Fr PM M M') := by
  intro k
  induction k with
  | zero =>
    intro u best few hu hb hf
    refine ⟨best, fun m M hm hS hA => ⟨M, loop_inr (r := (nI best, M)) ?_ hm, hS, hA, Fr.rf⟩, fun m M h hm hF => ⟨M, h, loop_inr (r := (nI best, M)) ?_ hm, hF, fun _ _ => rfl, Fr.rf⟩⟩
    · show Fg_bestRule_b21 n (nI N) (nI load) (nI best) (nI few) (nI u) M = _
      unfold Fg_bestRule_b21
      simp (disch := omega) only [l_0, l_1, l_2, l_3, l_4, l_5, l_6, l_7, l_8, l_9, l_10, l_11, l_12, l_13, l_14, l_16, l_20, l_21, l_23, l_24, l_30, l_32, l_40, l_41, l_44, l_48, l_57, l_59, l_60, l_63, l_64, l_80, l_84, l_96, l_97, l_99, l_120, l_122, l_127, l_200, l_240, l_255, l_840, l_999, l_1000, l_1001, l_2400, l_3064, l_9999, l_10000, l_13849, l_16383, l_25173, l_65535, l_65536, l_99999, l_1000000000, neg_nI, pk_mul, nI_add, nI_subL, tn_nI, inb_t, grd_true, bnd_some, elS_l, elS_r, nI_ltI, nI_leI, nI_inj, fa_and, fa_or, m1_eq, eq_m1, m1_lt, m1_le, lt_m1, le_m1, m1_lt0, up2_at, up2_no, ite_true, ite_false, if_true, if_false, Bool.false_eq_true, reduceIte, reduceCtorEq, not_true_eq_false, not_false_eq_true, eq_self, decide_true, decide_false, le_tt, le_ff, lt_tt, lt_ff, eq_ff, and_true, true_and, and_false, false_and, or_true, true_or, or_false, false_or, ne_eq, decide_eq_true_eq, decide_eq_false_iff_not, Bool.not_true, Bool.not_false, Bool.and_true, Bool.true_and, Bool.and_false, Bool.false_and, gs_at, gs_no, oI_n, oI_s]
    · show Fm_bestRule_b20 n (nI N) (nI load) (nI best) (nI few) (nI u) M = _
      unfold Fm_bestRule_b20
      simp (disch := omega) only [l_0, l_1, l_2, l_3, l_4, l_5, l_6, l_7, l_8, l_9, l_10, l_11, l_12, l_13, l_14, l_16, l_20, l_21, l_23, l_24, l_30, l_32, l_40, l_41, l_44, l_48, l_57, l_59, l_60, l_63, l_64, l_80, l_84, l_96, l_97, l_99, l_120, l_122, l_127, l_200, l_240, l_255, l_840, l_999, l_1000, l_1001, l_2400, l_3064, l_9999, l_10000, l_13849, l_16383, l_25173, l_65535, l_65536, l_99999, l_1000000000, neg_nI, pk_mul, nI_add, nI_subL, tn_nI, inb_t, grd_true, bnd_some, elS_l, elS_r, nI_ltI, nI_leI, nI_inj, fa_and, fa_or, m1_eq, eq_m1, m1_lt, m1_le, lt_m1, le_m1, m1_lt0, up2_at, up2_no, ite_true, ite_false, if_true, if_false, Bool.false_eq_true, reduceIte, reduceCtorEq, not_true_eq_false, not_false_eq_true, eq_self, decide_true, decide_false, le_tt, le_ff, lt_tt, lt_ff, eq_ff, and_true, true_and, and_false, false_and, or_true, true_or, or_false, false_or, ne_eq, decide_eq_true_eq, decide_eq_false_iff_not, Bool.not_true, Bool.not_false, Bool.and_true, Bool.true_and, Bool.and_false, Bool.false_and, gs_at, gs_no, oI_n, oI_s]
  | succ k ih =>
    intro u best few hu hb hf
    obtain ⟨B', R', T', L', v0, v1, v2⟩ := tr_ex (n := n) (u := u) hg n1 n2 l1 l2 (by omega) hn
    by_cases c : few ≤ B'
    · obtain ⟨r, t1, t2⟩ := ih (u + 1) best few (by omega) hb hf
      refine ⟨r, fun m M hm hS hA => ?_, fun m M h hm hF => ?_⟩
      · obtain ⟨M', a1, ⟨c1, c2, c3, c4⟩, a3, a4, a5⟩ := v1 M hS hA
        obtain ⟨M2, e1, e2, e3, e4⟩ := t1 (m - 1) M' (by omega) a3 a4
        refine ⟨M2, ?_, e2, e3, a5.tr e4⟩
        rw [← e1]
        refine loop_inl ?_ (by omega)
        show Fg_bestRule_b21 n (nI N) (nI load) (nI best) (nI few) (nI u) M = _
        unfold Fg_bestRule_b21 Fg_bestRule_j66
        simp (disch := omega) only [l_0, l_1, l_2, l_3, l_4, l_5, l_6, l_7, l_8, l_9, l_10, l_11, l_12, l_13, l_14, l_16, l_20, l_21, l_23, l_24, l_30, l_32, l_40, l_41, l_44, l_48, l_57, l_59, l_60, l_63, l_64, l_80, l_84, l_96, l_97, l_99, l_120, l_122, l_127, l_200, l_240, l_255, l_840, l_999, l_1000, l_1001, l_2400, l_3064, l_9999, l_10000, l_13849, l_16383, l_25173, l_65535, l_65536, l_99999, l_1000000000, neg_nI, pk_mul, nI_add, nI_subL, tn_nI, inb_t, grd_true, bnd_some, elS_l, elS_r, nI_ltI, nI_leI, nI_inj, fa_and, fa_or, m1_eq, eq_m1, m1_lt, m1_le, lt_m1, le_m1, m1_lt0, up2_at, up2_no, ite_true, ite_false, if_true, if_false, Bool.false_eq_true, reduceIte, reduceCtorEq, not_true_eq_false, not_false_eq_true, eq_self, decide_true, decide_false, le_tt, le_ff, lt_tt, lt_ff, eq_ff, and_true, true_and, and_false, false_and, or_true, true_or, or_false, false_or, ne_eq, decide_eq_true_eq, decide_eq_false_iff_not, Bool.not_true, Bool.not_false, Bool.and_true, Bool.true_and, Bool.and_false, Bool.false_and, gs_at, gs_no, oI_n, oI_s, a1, c1]
      · obtain ⟨M', h', a1, ⟨c1, c2, c3, c4⟩, a3, a4, a5⟩ := v2 M h hF
        obtain ⟨M2, h2, e1, e2, e3, e4⟩ := t2 (m - 1) M' h' (by omega) a3
        refine ⟨M2, h2, ?_, e2, fun j hj => (e3 j hj).trans (a4 j hj), a5.tr e4⟩
        rw [← e1]
        refine loop_inl ?_ (by omega)
        show Fm_bestRule_b20 n (nI N) (nI load) (nI best) (nI few) (nI u) M = _
        unfold Fm_bestRule_b20 Fm_bestRule_j46
        simp (disch := omega) only [l_0, l_1, l_2, l_3, l_4, l_5, l_6, l_7, l_8, l_9, l_10, l_11, l_12, l_13, l_14, l_16, l_20, l_21, l_23, l_24, l_30, l_32, l_40, l_41, l_44, l_48, l_57, l_59, l_60, l_63, l_64, l_80, l_84, l_96, l_97, l_99, l_120, l_122, l_127, l_200, l_240, l_255, l_840, l_999, l_1000, l_1001, l_2400, l_3064, l_9999, l_10000, l_13849, l_16383, l_25173, l_65535, l_65536, l_99999, l_1000000000, neg_nI, pk_mul, nI_add, nI_subL, tn_nI, inb_t, grd_true, bnd_some, elS_l, elS_r, nI_ltI, nI_leI, nI_inj, fa_and, fa_or, m1_eq, eq_m1, m1_lt, m1_le, lt_m1, le_m1, m1_lt0, up2_at, up2_no, ite_true, ite_false, if_true, if_false, Bool.false_eq_true, reduceIte, reduceCtorEq, not_true_eq_false, not_false_eq_true, eq_self, decide_true, decide_false, le_tt, le_ff, lt_tt, lt_ff, eq_ff, and_true, true_and, and_false, false_and, or_true, true_or, or_false, false_or, ne_eq, decide_eq_true_eq, decide_eq_false_iff_not, Bool.not_true, Bool.not_false, Bool.and_true, Bool.true_and, Bool.and_false, Bool.false_and, gs_at, gs_no, oI_n, oI_s, a1, c1, Fm_min_e, Nat.min_eq_left c]
    · obtain ⟨r, t1, t2⟩ := ih (u + 1) u B' (by omega) (by omega) (by omega)
      refine ⟨r, fun m M hm hS hA => ?_, fun m M h hm hF => ?_⟩
      · obtain ⟨M', a1, ⟨c1, c2, c3, c4⟩, a3, a4, a5⟩ := v1 M hS hA
        obtain ⟨M2, e1, e2, e3, e4⟩ := t1 (m - 1) M' (by omega) a3 a4
        refine ⟨M2, ?_, e2, e3, a5.tr e4⟩
        rw [← e1]
        refine loop_inl ?_ (by omega)
        show Fg_bestRule_b21 n (nI N) (nI load) (nI best) (nI few) (nI u) M = _
        unfold Fg_bestRule_b21 Fg_bestRule_j66
        simp (disch := omega) only [l_0, l_1, l_2, l_3, l_4, l_5, l_6, l_7, l_8, l_9, l_10, l_11, l_12, l_13, l_14, l_16, l_20, l_21, l_23, l_24, l_30, l_32, l_40, l_41, l_44, l_48, l_57, l_59, l_60, l_63, l_64, l_80, l_84, l_96, l_97, l_99, l_120, l_122, l_127, l_200, l_240, l_255, l_840, l_999, l_1000, l_1001, l_2400, l_3064, l_9999, l_10000, l_13849, l_16383, l_25173, l_65535, l_65536, l_99999, l_1000000000, neg_nI, pk_mul, nI_add, nI_subL, tn_nI, inb_t, grd_true, bnd_some, elS_l, elS_r, nI_ltI, nI_leI, nI_inj, fa_and, fa_or, m1_eq, eq_m1, m1_lt, m1_le, lt_m1, le_m1, m1_lt0, up2_at, up2_no, ite_true, ite_false, if_true, if_false, Bool.false_eq_true, reduceIte, reduceCtorEq, not_true_eq_false, not_false_eq_true, eq_self, decide_true, decide_false, le_tt, le_ff, lt_tt, lt_ff, eq_ff, and_true, true_and, and_false, false_and, or_true, true_or, or_false, false_or, ne_eq, decide_eq_true_eq, decide_eq_false_iff_not, Bool.not_true, Bool.not_false, Bool.and_true, Bool.true_and, Bool.and_false, Bool.false_and, gs_at, gs_no, oI_n, oI_s, a1, c1]
      · obtain ⟨M', h', a1, ⟨c1, c2, c3, c4⟩, a3, a4, a5⟩ := v2 M h hF
        obtain ⟨M2, h2, e1, e2, e3, e4⟩ := t2 (m - 1) M' h' (by omega) a3
        refine ⟨M2, h2, ?_, e2, fun j hj => (e3 j hj).trans (a4 j hj), a5.tr e4⟩
        rw [← e1]
        refine loop_inl ?_ (by omega)
        show Fm_bestRule_b20 n (nI N) (nI load) (nI best) (nI few) (nI u) M = _
        unfold Fm_bestRule_b20 Fm_bestRule_j46
        simp (disch := omega) only [l_0, l_1, l_2, l_3, l_4, l_5, l_6, l_7, l_8, l_9, l_10, l_11, l_12, l_13, l_14, l_16, l_20, l_21, l_23, l_24, l_30, l_32, l_40, l_41, l_44, l_48, l_57, l_59, l_60, l_63, l_64, l_80, l_84, l_96, l_97, l_99, l_120, l_122, l_127, l_200, l_240, l_255, l_840, l_999, l_1000, l_1001, l_2400, l_3064, l_9999, l_10000, l_13849, l_16383, l_25173, l_65535, l_65536, l_99999, l_1000000000, neg_nI, pk_mul, nI_add, nI_subL, tn_nI, inb_t, grd_true, bnd_some, elS_l, elS_r, nI_ltI, nI_leI, nI_inj, fa_and, fa_or, m1_eq, eq_m1, m1_lt, m1_le, lt_m1, le_m1, m1_lt0, up2_at, up2_no, ite_true, ite_false, if_true, if_false, Bool.false_eq_true, reduceIte, reduceCtorEq, not_true_eq_false, not_false_eq_true, eq_self, decide_true, decide_false, le_tt, le_ff, lt_tt, lt_ff, eq_ff, and_true, true_and, and_false, false_and, or_true, true_or, or_false, false_or, ne_eq, decide_eq_true_eq, decide_eq_false_iff_not, Bool.not_true, Bool.not_false, Bool.and_true, Bool.true_and, Bool.and_false, Bool.false_and, gs_at, gs_no, oI_n, oI_s, a1, c1, Fm_min_e, Nat.min_eq_right (show B' ≤ few by omega)]
theorem op_bestRule {n : Nat} (hn : 1099511627776 < n) (x y : Int32) : T2 (Fg_bestRule n x y) (Fm_bestRule n x y) := by
  refine T2.id (fun g hg => ?_)
  by_cases hx : (rg x 1 200 && rg y 1 64) = true
  · have hx' := hx
    rw [Bool.and_eq_true] at hx
    obtain ⟨N, n1, n2, rfl⟩ := (rg_iff (by decide)).mp hx.1
    obtain ⟨load, l1, l2, rfl⟩ := (rg_iff (by decide)).mp hx.2
    obtain ⟨B', R', T', L', v0, v1, v2⟩ := tr_ex (n := n) (u := 0) hg n1 n2 l1 l2 (by omega) hn
    obtain ⟨r, t1, t2⟩ := best_k (n := n) hg n1 n2 l1 l2 hn 3 1 0 B' (by omega) (by omega) (by omega)
    refine ⟨nI r, fun M hS hA => ?_, fun M h hF => ?_⟩
    · obtain ⟨M', a1, ⟨c1, c2, c3, c4⟩, a3, a4, a5⟩ := v1 M hS hA
      obtain ⟨M2, e1, e2, e3, e4⟩ := t1 (n - 1) M' (by omega) a3 a4
      refine ⟨M2, ?_, e2, e3, a5.tr e4⟩
      have hlp : loop (fun s1 : Int32 × Int32 × Int32 × Mm => Fg_bestRule_b21 n (nI N) (nI load) s1.1 s1.2.1 s1.2.2.1 s1.2.2.2) n (nI 0, nI (N + 1), nI 0, M) = some (nI r, M2) := by
        rw [← e1]
        refine loop_inl ?_ (by omega)
        show Fg_bestRule_b21 n (nI N) (nI load) (nI 0) (nI (N + 1)) (nI 0) M = _
        unfold Fg_bestRule_b21 Fg_bestRule_j66
        simp (disch := omega) only [l_0, l_1, l_2, l_3, l_4, l_5, l_6, l_7, l_8, l_9, l_10, l_11, l_12, l_13, l_14, l_16, l_20, l_21, l_23, l_24, l_30, l_32, l_40, l_41, l_44, l_48, l_57, l_59, l_60, l_63, l_64, l_80, l_84, l_96, l_97, l_99, l_120, l_122, l_127, l_200, l_240, l_255, l_840, l_999, l_1000, l_1001, l_2400, l_3064, l_9999, l_10000, l_13849, l_16383, l_25173, l_65535, l_65536, l_99999, l_1000000000, neg_nI, pk_mul, nI_add, nI_subL, tn_nI, inb_t, grd_true, bnd_some, elS_l, elS_r, nI_ltI, nI_leI, nI_inj, fa_and, fa_or, m1_eq, eq_m1, m1_lt, m1_le, lt_m1, le_m1, m1_lt0, up2_at, up2_no, ite_true, ite_false, if_true, if_false, Bool.false_eq_true, reduceIte, reduceCtorEq, not_true_eq_false, not_false_eq_true, eq_self, decide_true, decide_false, le_tt, le_ff, lt_tt, lt_ff, eq_ff, and_true, true_and, and_false, false_and, or_true, true_or, or_false, false_or, ne_eq, decide_eq_true_eq, decide_eq_false_iff_not, Bool.not_true, Bool.not_false, Bool.and_true, Bool.true_and, Bool.and_false, Bool.false_and, gs_at, gs_no, oI_n, oI_s, a1, c1]
      unfold Fg_bestRule
      rw [Fg_isTrial_e, hx']
      simp (disch := omega) only [l_0, l_1, l_2, l_3, l_4, l_5, l_6, l_7, l_8, l_9, l_10, l_11, l_12, l_13, l_14, l_16, l_20, l_21, l_23, l_24, l_30, l_32, l_40, l_41, l_44, l_48, l_57, l_59, l_60, l_63, l_64, l_80, l_84, l_96, l_97, l_99, l_120, l_122, l_127, l_200, l_240, l_255, l_840, l_999, l_1000, l_1001, l_2400, l_3064, l_9999, l_10000, l_13849, l_16383, l_25173, l_65535, l_65536, l_99999, l_1000000000, neg_nI, pk_mul, nI_add, nI_subL, tn_nI, inb_t, grd_true, bnd_some, elS_l, elS_r, nI_ltI, nI_leI, nI_inj, fa_and, fa_or, m1_eq, eq_m1, m1_lt, m1_le, lt_m1, le_m1, m1_lt0, up2_at, up2_no, ite_true, ite_false, if_true, if_false, Bool.false_eq_true, reduceIte, reduceCtorEq, not_true_eq_false, not_false_eq_true, eq_self, decide_true, decide_false, le_tt, le_ff, lt_tt, lt_ff, eq_ff, and_true, true_and, and_false, false_and, or_true, true_or, or_false, false_or, ne_eq, decide_eq_true_eq, decide_eq_false_iff_not, Bool.not_true, Bool.not_false, Bool.and_true, Bool.true_and, Bool.and_false, Bool.false_and, gs_at, gs_no, oI_n, oI_s, hlp]
    · obtain ⟨M', h', a1, ⟨c1, c2, c3, c4⟩, a3, a4, a5⟩ := v2 M h hF
      obtain ⟨M2, h2, e1, e2, e3, e4⟩ := t2 (n - 1) M' h' (by omega) a3
      refine ⟨M2, h2, ?_, e2, fun j hj => (e3 j hj).trans (a4 j hj), a5.tr e4⟩
      have hlp : loop (fun s1 : Int32 × Int32 × Int32 × Mm => Fm_bestRule_b20 n (nI N) (nI load) s1.1 s1.2.1 s1.2.2.1 s1.2.2.2) n (ng 1, nI 1000000000, nI 0, M) = some (nI r, M2) := by
        rw [← e1]
        refine loop_inl ?_ (by omega)
        show Fm_bestRule_b20 n (nI N) (nI load) (ng 1) (nI 1000000000) (nI 0) M = _
        unfold Fm_bestRule_b20 Fm_bestRule_j46
        simp (disch := omega) only [l_0, l_1, l_2, l_3, l_4, l_5, l_6, l_7, l_8, l_9, l_10, l_11, l_12, l_13, l_14, l_16, l_20, l_21, l_23, l_24, l_30, l_32, l_40, l_41, l_44, l_48, l_57, l_59, l_60, l_63, l_64, l_80, l_84, l_96, l_97, l_99, l_120, l_122, l_127, l_200, l_240, l_255, l_840, l_999, l_1000, l_1001, l_2400, l_3064, l_9999, l_10000, l_13849, l_16383, l_25173, l_65535, l_65536, l_99999, l_1000000000, neg_nI, pk_mul, nI_add, nI_subL, tn_nI, inb_t, grd_true, bnd_some, elS_l, elS_r, nI_ltI, nI_leI, nI_inj, fa_and, fa_or, m1_eq, eq_m1, m1_lt, m1_le, lt_m1, le_m1, m1_lt0, up2_at, up2_no, ite_true, ite_false, if_true, if_false, Bool.false_eq_true, reduceIte, reduceCtorEq, not_true_eq_false, not_false_eq_true, eq_self, decide_true, decide_false, le_tt, le_ff, lt_tt, lt_ff, eq_ff, and_true, true_and, and_false, false_and, or_true, true_or, or_false, false_or, ne_eq, decide_eq_true_eq, decide_eq_false_iff_not, Bool.not_true, Bool.not_false, Bool.and_true, Bool.true_and, Bool.and_false, Bool.false_and, gs_at, gs_no, oI_n, oI_s, a1, c1, Fm_min_e, Nat.min_eq_right (show B' ≤ 1000000000 by omega)]
      unfold Fm_bestRule
      rw [Fm_isTrial_e, hx']
      simp (disch := omega) only [l_0, l_1, l_2, l_3, l_4, l_5, l_6, l_7, l_8, l_9, l_10, l_11, l_12, l_13, l_14, l_16, l_20, l_21, l_23, l_24, l_30, l_32, l_40, l_41, l_44, l_48, l_57, l_59, l_60, l_63, l_64, l_80, l_84, l_96, l_97, l_99, l_120, l_122, l_127, l_200, l_240, l_255, l_840, l_999, l_1000, l_1001, l_2400, l_3064, l_9999, l_10000, l_13849, l_16383, l_25173, l_65535, l_65536, l_99999, l_1000000000, neg_nI, pk_mul, nI_add, nI_subL, tn_nI, inb_t, grd_true, bnd_some, elS_l, elS_r, nI_ltI, nI_leI, nI_inj, fa_and, fa_or, m1_eq, eq_m1, m1_lt, m1_le, lt_m1, le_m1, m1_lt0, up2_at, up2_no, ite_true, ite_false, if_true, if_false, Bool.false_eq_true, reduceIte, reduceCtorEq, not_true_eq_false, not_false_eq_true, eq_self, decide_true, decide_false, le_tt, le_ff, lt_tt, lt_ff, eq_ff, and_true, true_and, and_false, false_and, or_true, true_or, or_false, false_or, ne_eq, decide_eq_true_eq, decide_eq_false_iff_not, Bool.not_true, Bool.not_false, Bool.and_true, Bool.true_and, Bool.and_false, Bool.false_and, gs_at, gs_no, oI_n, oI_s, hlp]
  · have hx' := ts_nt hx
    refine ⟨ng 2, fun M hS hA => TC.id hS hA ?_, fun M h hF => TM.id hF ?_⟩
    · unfold Fg_bestRule
      rw [Fg_isTrial_e, hx']
      rfl
    · unfold Fm_bestRule
      rw [Fm_isTrial_e, hx']
      rfl
