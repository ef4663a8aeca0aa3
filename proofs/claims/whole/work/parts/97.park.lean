/-! parking -/
def pfF (gn : Nat → Nat) (d : Nat) : Option Nat := fstP (cjB gn d) 0 (gn 1 + 1 - gn (64 + 10 * d + 5))
def pkB (gn : Nat → Nat) (lf pk : Nat → Bool) (d : Nat) : Bool := (lf d && !pk d) && (pfF gn d).isSome
def pk1 (pk : Nat → Bool) (d : Nat) : Nat → Bool := fun x => pk x || decide (x = d)
theorem LB_an {x y : Int64} {P Q : Nat → Bool} (h : LB x P) (h' : LB y Q) : LB (x &&& (y ^^^ (-1 : Int64))) (fun b => P b && !Q b) := by
  obtain ⟨W, rfl, h2, h3⟩ := h
  obtain ⟨V, rfl, g2, g3⟩ := h'
  refine ⟨dl W V, by rw [landnot_e], dl_lt h2, fun b => ?_⟩
  rw [dl_tb, h3, g3]
theorem fstP_is {P : Nat → Bool} {N d : Nat} (hd : d < N) (h1 : P d = true) (h2 : ∀ j, j < d → P j = false) : fstP P 0 N = some d := by
  cases h : fstP P 0 N with
  | none =>
    have := fstP_none.mp h d (by omega) (by omega)
    rw [h1] at this; cases this
  | some e =>
    obtain ⟨_, _, e3, e4⟩ := fstP_some h
    rcases Nat.lt_trichotomy d e with q | q | q
    · have := e4 d (by omega) q
      rw [h1] at this; cases this
    · rw [q]
    · have := h2 e q
      rw [e3] at this; cases this
theorem loop_park {body : Int32 → Option (Int32 ⊕ (Unit ⊕ (Bool × Mm)))} (P : Nat → Bool) (N : Nat) (K : Nat → Mm → Prop) {n : Nat} (hN : N < n) (h1 : ∀ i, i < N → P i = false → body (nI i) = some (.inl (nI (i + 1)))) (h2 : ∀ i, i < N → P i = true → ∃ M', body (nI i) = some (.inr (.inr (true, M'))) ∧ K i M') (h3 : body (nI N) = some (.inr (.inl ()))) : (fstP P 0 N = none ∧ loop body n (nI 0) = some (.inl ())) ∨ ∃ d M', fstP P 0 N = some d ∧ loop body n (nI 0) = some (.inr (true, M')) ∧ K d M' := by
  have hl : ∃ r : Unit ⊕ (Bool × Mm), loop body n (nI 0) = some r ∧ ((fstP P 0 N = none ∧ r = .inl ()) ∨ ∃ d M', fstP P 0 N = some d ∧ r = .inr (true, M') ∧ K d M') := by
    refine loop_I0 (fun i (s : Int32) => s = nI i ∧ ∀ j, j < i → P j = false) (fun r : Unit ⊕ (Bool × Mm) => (fstP P 0 N = none ∧ r = .inl ()) ∨ ∃ d M', fstP P 0 N = some d ∧ r = .inr (true, M') ∧ K d M') N ⟨rfl, fun j hj => by omega⟩ hN ?_ ?_
    · rintro i s hi ⟨rfl, e2⟩
      cases c : P i with
      | false =>
        refine .inl ⟨_, h1 i hi c, rfl, fun j hj => ?_⟩
        by_cases q : j = i
        · rw [q]; exact c
        · exact e2 j (by omega)
      | true =>
        obtain ⟨M', a1, a2⟩ := h2 i hi c
        exact .inr ⟨_, a1, .inr ⟨i, M', fstP_is hi c e2, rfl, a2⟩⟩
    · rintro s ⟨rfl, e2⟩
      exact ⟨_, h3, .inl ⟨fstP_none.mpr (fun m _ hm => e2 m (by omega)), rfl⟩⟩
  obtain ⟨r, r1, r2⟩ := hl
  rcases r2 with ⟨q, rfl⟩ | ⟨d, M', q1, rfl, q2⟩
  · exact .inl ⟨q, r1⟩
  · exact .inr ⟨d, M', q1, r1, q2⟩
section
variable {M : Mm} {g gT gn : Nat → Nat} {lf pk : Nat → Bool} {dn n d : Nat} {h : Nat → Int32}
theorem cj_lt {f : Nat} (hc : cjB gn d f = true) : f + gn (64 + 10 * d + 5) ≤ gn 1 := by
  unfold cjB at hc
  rw [Bool.and_eq_true] at hc
  exact (fit_iff.mp hc.1).1
theorem pk1_ct (hd : d < g 7) (hp : pk d = false) : fb_ct (pk1 pk d) (g 7) = fb_ct pk (g 7) + 1 := by
  have := lf1_ct (g := g) (lf := pk1 pk d) hd (by unfold pk1; rw [decide_eq_true rfl, Bool.or_true])
  rw [← this]
  congr 1
  refine fb_ct_cong (fun x hx => ?_)
  unfold lf1 pk1
  by_cases c : x = d
  · rw [c, hp, decide_eq_true rfl]; rfl
  · rw [decide_eq_false c, Bool.or_false, Bool.not_false, Bool.and_true]
theorem pk_V {f : Nat} (hV : PV g gT gn lf pk dn) (hd : d < g 7) (hl : lf d = true) (hc : cjB gn d f = true) : PV g gT (gs gn (64 + 10 * d + 4) f) lf (pk1 pk d) dn := by
  obtain ⟨v1, v2, v3, v4, v5, v6⟩ := hV
  have e7 : gn 7 = g 7 := v2 7 (by omega)
  have hln : gn (64 + 10 * d + 3) = 0 := by rw [v3 d hd]; exact (of_decide_eq_true (v4 d hl).2).1
  obtain ⟨y1, y2, y3, y4⟩ := v1.1.2.2.2.1 d (by rw [e7]; exact hd) hln
  unfold cjB at hc
  rw [Bool.and_eq_true] at hc
  rw [← lit_same hln]
  refine ⟨GV_lit v1 (by rw [e7]; exact hd) y1 y3 y4 hc.1 (.inl hln), fun j hj => (lit_lo hj).trans (v2 j hj), fun x hx => ?_, v4, v5, fun x hx => ?_⟩
  · by_cases c : x = d
    · rw [c, lit_3, ← v3 d hd, hln]
    · rw [lit_ne c (by omega)]; exact v3 x hx
  · unfold pk1 at hx
    rw [Bool.or_eq_true, decide_eq_true_eq] at hx
    rcases hx with q | q
    · exact v6 x q
    · rw [q]; exact hd
theorem pk_c (hV : PV g gT gn lf pk dn) (hT : LT g gT (g 7)) (hC : PLN M g gT gn lf pk dn) (hn : 100 < n) : (fstP (pkB gn lf pk) 0 (g 7) = none ∧ Rp_parkOne n M = some (false, M)) ∨ ∃ d f M', fstP (pkB gn lf pk) 0 (g 7) = some d ∧ pfF gn d = some f ∧ Rp_parkOne n M = some (true, M') ∧ PLN M' g gT (gs gn (64 + 10 * d + 4) f) lf (pk1 pk d) dn := by
  obtain ⟨s54, s73, hLf, hw, h77, hpk⟩ := id hC
  obtain ⟨v1, v2, v3, v4, v5, v6⟩ := id hV
  have e7 : gn 7 = g 7 := v2 7 (by omega)
  have h40 : g 7 ≤ 40 := by rw [← e7]; exact v1.2.2
  have b1 := v1.1.2.1.1
  have h4 : M.1 54 4 = nI (g 7) := by rw [← e7]; exact s54.2.1
  have hb : ∀ i, i < g 7 → (lushr (M.2 72 3 &&& (M.2 72 4 ^^^ (-1 : Int64))) (nI i) &&& (1 : Int64) = (0 : Int64)) = ((lf i && !pk i) = false) := fun i hi => LB_bit (LB_an hLf hpk) (by omega)
  have key := loop_park (body := fun s1 : Int32 => Rp_parkOne_b2 n M s1) (pkB gn lf pk) (g 7) (fun d M' => ∃ f, pfF gn d = some f ∧ PLN M' g gT (gs gn (64 + 10 * d + 4) f) lf (pk1 pk d) dn) (n := n) (by omega) (fun i hi hP => ?_) (fun i hi hP => ?_) ?_
  · rcases key with ⟨k1, k2⟩ | ⟨d, M', k1, k2, f, k3, k4⟩
    · refine .inl ⟨k1, ?_⟩
      unfold Rp_parkOne
      rw [l_0, k2]
      rfl
    · refine .inr ⟨d, f, M', k1, k3, ?_, k4⟩
      unfold Rp_parkOne
      rw [l_0, k2]
      rfl
  · show Rp_parkOne_b2 n M (nI i) = _
    unfold pkB at hP
    unfold Rp_parkOne_b2 Rp_parkOne_j40 Rp_parkOne_j57
    have hb' := hb i hi
    cases hc : (lf i && !pk i) with
    | false =>
      rw [hc] at hb'
      simp (disch := omega) only [l_0, l_1, l_2, l_3, l_4, l_5, l_6, l_7, l_8, l_9, l_10, l_11, l_12, l_13, l_14, l_16, l_20, l_21, l_23, l_24, l_30, l_32, l_40, l_41, l_44, l_48, l_57, l_59, l_60, l_63, l_64, l_80, l_84, l_96, l_97, l_99, l_120, l_122, l_127, l_200, l_240, l_255, l_840, l_999, l_1000, l_1001, l_2400, l_3064, l_9999, l_10000, l_13849, l_16383, l_25173, l_65535, l_65536, l_99999, l_1000000000, neg_nI, pk_mul, nI_add, nI_subL, tn_nI, inb_t, grd_true, bnd_some, elS_l, elS_r, nI_ltI, nI_leI, nI_inj, fa_and, fa_or, m1_eq, eq_m1, m1_lt, m1_le, lt_m1, le_m1, m1_lt0, up2_at, up2_no, ite_true, ite_false, if_true, if_false, Bool.false_eq_true, reduceIte, reduceCtorEq, not_true_eq_false, not_false_eq_true, eq_self, decide_true, decide_false, le_tt, le_ff, lt_tt, lt_ff, eq_ff, and_true, true_and, and_false, false_and, or_true, true_or, or_false, false_or, ne_eq, decide_eq_true_eq, decide_eq_false_iff_not, Bool.not_true, Bool.not_false, Bool.and_true, Bool.true_and, Bool.and_false, Bool.false_and, gs_at, gs_no, oI_n, oI_s, h4, hb']
    | true =>
      rw [hc] at hb' hP
      have hlf : lf i = true := (Bool.and_eq_true _ _ ▸ hc).1
      have hln : gn (64 + 10 * i + 3) = 0 := by rw [v3 i hi]; exact (of_decide_eq_true (v4 i hlf).2).1
      obtain ⟨F, f1, f2, f3⟩ := St_landings_e v1 s54 (d := i) (by rw [e7]; exact hi) hln hn
      have hF0 : F = 0 := by
        apply Nat.eq_of_testBit_eq
        intro f
        rw [Nat.zero_testBit, f3]
        cases hcj : cjB gn i f with
        | false => rfl
        | true =>
          have hlt := cj_lt hcj
          rw [Bool.true_and] at hP
          cases hp : pfF gn i with
          | none =>
            have := fstP_none.mp hp f (by omega) (by omega)
            rw [hcj] at this; cases this
          | some q => rw [hp] at hP; cases hP
      rw [hF0] at f1
      simp (disch := omega) only [l_0, l_1, l_2, l_3, l_4, l_5, l_6, l_7, l_8, l_9, l_10, l_11, l_12, l_13, l_14, l_16, l_20, l_21, l_23, l_24, l_30, l_32, l_40, l_41, l_44, l_48, l_57, l_59, l_60, l_63, l_64, l_80, l_84, l_96, l_97, l_99, l_120, l_122, l_127, l_200, l_240, l_255, l_840, l_999, l_1000, l_1001, l_2400, l_3064, l_9999, l_10000, l_13849, l_16383, l_25173, l_65535, l_65536, l_99999, l_1000000000, neg_nI, pk_mul, nI_add, nI_subL, tn_nI, inb_t, grd_true, bnd_some, elS_l, elS_r, nI_ltI, nI_leI, nI_inj, fa_and, fa_or, m1_eq, eq_m1, m1_lt, m1_le, lt_m1, le_m1, m1_lt0, up2_at, up2_no, ite_true, ite_false, if_true, if_false, Bool.false_eq_true, reduceIte, reduceCtorEq, not_true_eq_false, not_false_eq_true, eq_self, decide_true, decide_false, le_tt, le_ff, lt_tt, lt_ff, eq_ff, and_true, true_and, and_false, false_and, or_true, true_or, or_false, false_or, ne_eq, decide_eq_true_eq, decide_eq_false_iff_not, Bool.not_true, Bool.not_false, Bool.and_true, Bool.true_and, Bool.and_false, Bool.false_and, gs_at, gs_no, oI_n, oI_s, h4, hb', f1, lz0]
  · show ∃ M', Rp_parkOne_b2 n M (nI i) = _ ∧ _
    unfold pkB at hP
    rw [Bool.and_eq_true] at hP
    have hb' := hb i hi
    rw [hP.1] at hb'
    have hlf : lf i = true := (Bool.and_eq_true _ _ ▸ hP.1).1
    have hln : gn (64 + 10 * i + 3) = 0 := by rw [v3 i hi]; exact (of_decide_eq_true (v4 i hlf).2).1
    obtain ⟨F, f1, f2, f3⟩ := St_landings_e v1 s54 (d := i) (by rw [e7]; exact hi) hln hn
    cases hp : pfF gn i with
    | none => rw [hp] at hP; cases hP.2
    | some f =>
      obtain ⟨_, p2, p3, p4⟩ := fstP_some hp
      have hlt := cj_lt p3
      have hF0 : F ≠ 0 := fun q => by
        have := f3 f
        rw [q, Nat.zero_testBit, p3] at this
        cases this
      have hF64 : F < 2 ^ 64 := Nat.lt_trans f2 (by decide)
      obtain ⟨k, k1, k2, k3, k4⟩ := Fg_lowest_t (M := M) hF0 hF64
      have hkf : k = f := by
        rcases Nat.lt_trichotomy k f with q | q | q
        · have := p4 k (by omega) q
          rw [← f3, k2] at this; cases this
        · exact q
        · have := k3 f q
          rw [f3, p3] at this; cases this
      rw [hkf] at k1
      obtain ⟨y1, y2, y3, y4⟩ := v1.1.2.2.2.1 i (by rw [e7]; exact hi) hln
      obtain ⟨x1, x2, x3, x4⟩ := (s54.2.2.1 i (by rw [e7]; exact hi)).2.2.2.2.2 hln
      have x1' : M.1 66 i = nI (gn (64 + 10 * i + 6)) := x1
      have x3' : M.1 68 i = nI (gn (64 + 10 * i + 5)) := x3
      obtain ⟨M2, a1, a2, a3⟩ := SV_move v1.1 v1.2.2 s54 (n := n) (d := i) (on := gn (64 + 10 * i + 6)) (f := f) (w := gn (64 + 10 * i + 5)) (by rw [e7]; exact hi) y4 (by omega) hn
      rw [lit_same hln] at a2
      obtain ⟨M3, hM3⟩ : ∃ M3 : Mm, M3 = (M2.1, up2 M2.2 72 4 (M2.2 72 4 ||| lshl (1 : Int64) (nI i))) := ⟨_, rfl⟩
      have g3 : Fr (fun c j => c = 72 ∧ j = 4) M2 M3 := by rw [hM3]; exact Fr.L Fr.rf ⟨rfl, rfl⟩
      have k54 : SV M3 54 (gs gn (64 + 10 * i + 4) f) := a2.fr g3 (fun k j hk => by omega)
      have k73 : SV M3 73 gT := (s73.fr a3 (fun k j hk => by unfold fp_St_move; omega)).fr g3 (fun k j hk => by omega)
      have kL : LB (M3.2 72 3) lf := by
        rw [(g3 72 3 (by omega)).2, (a3 72 3 (by unfold fp_St_move; omega)).2]; exact hLf
      have kw : ∀ x, x < g 7 → LB (M3.2 91 x) (fun b => lf x && (decide (b < g 7) && clB gn gT x b)) := fun x hx2 => by
        rw [(g3 91 x (by omega)).2, (a3 91 x (by unfold fp_St_move; omega)).2]; exact hw x hx2
      have hV' := pk_V hV hi hlf p3
      obtain ⟨M4, c1, c2, c3⟩ := anew_c (g := g) (gn := gs gn (64 + 10 * i + 4) f) (lf := lf) (n := n) (d := i) (hV'.2.1 7 (by omega)) h40 hV'.1 hT hi v4 k54 k73 kL (old := clB gn gT) kw (fun x b hb => (cl_eq (fun w hw => gs_no (by omega)) (gs_no (by omega))).symm) (fun q => by unfold clB; rw [decide_eq_false (fun w => w rfl), Bool.false_and]) hn
      refine ⟨M4, ?_, f, rfl, k54.fr c3 (fun k j hk => by omega), k73.fr c3 (fun k j hk => by omega), ?_, c2, ?_, ?_⟩
      · have hz : (lN F = (0 : Int64)) = False := by rw [lz0 hF64]; exact eq_false hF0
        rw [hM3] at c1
        unfold Rp_parkOne_b2 Rp_parkOne_j40 Rp_parkOne_j57
        simp (disch := omega) only [l_0, l_1, l_2, l_3, l_4, l_5, l_6, l_7, l_8, l_9, l_10, l_11, l_12, l_13, l_14, l_16, l_20, l_21, l_23, l_24, l_30, l_32, l_40, l_41, l_44, l_48, l_57, l_59, l_60, l_63, l_64, l_80, l_84, l_96, l_97, l_99, l_120, l_122, l_127, l_200, l_240, l_255, l_840, l_999, l_1000, l_1001, l_2400, l_3064, l_9999, l_10000, l_13849, l_16383, l_25173, l_65535, l_65536, l_99999, l_1000000000, neg_nI, pk_mul, nI_add, nI_subL, tn_nI, inb_t, grd_true, bnd_some, elS_l, elS_r, nI_ltI, nI_leI, nI_inj, fa_and, fa_or, m1_eq, eq_m1, m1_lt, m1_le, lt_m1, le_m1, m1_lt0, up2_at, up2_no, ite_true, ite_false, if_true, if_false, Bool.false_eq_true, reduceIte, reduceCtorEq, not_true_eq_false, not_false_eq_true, eq_self, decide_true, decide_false, le_tt, le_ff, lt_tt, lt_ff, eq_ff, and_true, true_and, and_false, false_and, or_true, true_or, or_false, false_or, ne_eq, decide_eq_true_eq, decide_eq_false_iff_not, Bool.not_true, Bool.not_false, Bool.and_true, Bool.true_and, Bool.and_false, Bool.false_and, gs_at, gs_no, oI_n, oI_s, h4, hb', f1, hz, k1, x1', x3', a1, c1]
      · rw [(c3 72 3 (by omega)).2]; exact kL
      · rw [(c3 72 7 (by omega)).1, (g3 72 7 (by omega)).1, (a3 72 7 (by unfold fp_St_move; omega)).1]; exact h77
      · rw [(c3 72 4 (by omega)).2, hM3]
        show LB (up2 M2.2 72 4 (M2.2 72 4 ||| lshl (1 : Int64) (nI i)) 72 4) _
        rw [up2_at, (a3 72 4 (by unfold fp_St_move; omega)).2]
        exact LB_or hpk (by omega)
  · show Rp_parkOne_b2 n M (nI (g 7)) = _
    unfold Rp_parkOne_b2
    simp (disch := omega) only [l_0, l_1, l_2, l_3, l_4, l_5, l_6, l_7, l_8, l_9, l_10, l_11, l_12, l_13, l_14, l_16, l_20, l_21, l_23, l_24, l_30, l_32, l_40, l_41, l_44, l_48, l_57, l_59, l_60, l_63, l_64, l_80, l_84, l_96, l_97, l_99, l_120, l_122, l_127, l_200, l_240, l_255, l_840, l_999, l_1000, l_1001, l_2400, l_3064, l_9999, l_10000, l_13849, l_16383, l_25173, l_65535, l_65536, l_99999, l_1000000000, neg_nI, pk_mul, nI_add, nI_subL, tn_nI, inb_t, grd_true, bnd_some, elS_l, elS_r, nI_ltI, nI_leI, nI_inj, fa_and, fa_or, m1_eq, eq_m1, m1_lt, m1_le, lt_m1, le_m1, m1_lt0, up2_at, up2_no, ite_true, ite_false, if_true, if_false, Bool.false_eq_true, reduceIte, reduceCtorEq, not_true_eq_false, not_false_eq_true, eq_self, decide_true, decide_false, le_tt, le_ff, lt_tt, lt_ff, eq_ff, and_true, true_and, and_false, false_and, or_true, true_or, or_false, false_or, ne_eq, decide_eq_true_eq, decide_eq_false_iff_not, Bool.not_true, Bool.not_false, Bool.and_true, Bool.true_and, Bool.and_false, Bool.false_and, gs_at, gs_no, oI_n, oI_s, h4]
end
