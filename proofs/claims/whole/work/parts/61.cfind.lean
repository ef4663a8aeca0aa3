/-! the class: windows by a rule -/
def wlO (L : List We) (k : Nat) : Nat := (L.getD k (0, 0, 0, 0)).1
def wkO (L : List We) (k : Nat) : Nat := (L.getD k (0, 0, 0, 0)).2.2.2
/-- the finder as it is -/
def FB (wk : Nat → Nat) (rule : Nat) (M : Mm) (p : Option (Nat × Nat × Nat × Nat)) : Prop := match p with
  | none => M.1 12 1 = ng 1
  | some q => M.1 12 1 = nI q.1 ∧ M.1 12 2 = nI (wk q.1) ∧ M.1 12 3 = nI q.2.1 ∧ M.1 12 4 = nI q.2.2.1 ∧ (rule = 2 → M.1 12 5 = nI q.2.2.2) ∧ (rule = 1 → q.2.1 = q.2.2.2) ∧ q.1 < 100 ∧ q.2.1 < 100 ∧ q.2.2.1 < 100 ∧ q.2.2.2 < 100
def f12 (c j : Nat) : Prop := c = 12
theorem lt0_no {k : Nat} (h : k < 2 ^ 31) : (nI k < nI 0) = False := eq_false (fun q => by rw [nI_ltI h (by decide)] at q; omega)
section
variable {M : Mm} {g : Nat → Nat} {n l : Nat} {wk : Nat → Nat}
theorem Fi_choose_e {rule w s v y : Nat} (hw : wk w = l) (b1 : w < 100) (b2 : s < 100) (b3 : v < 100) (b4 : y < 100) (h1 : rule = 1 → s = y) (h2 : rule ≠ 2) : ∃ M', Fi_choose (nI w) (nI l) (nI s) (nI v) M = some M' ∧ FB wk rule M' (some (w, s, v, y)) ∧ Fr f12 M M' := by
  refine ⟨_, rfl, ?_, Fr.I (Fr.I (Fr.I (Fr.I Fr.rf rfl) rfl) rfl) rfl⟩
  refine ⟨?_, ?_, ?_, ?_, fun q => absurd q h2, h1, b1, b2, b3, b4⟩
  · simp (disch := omega) only [l_0, l_1, l_2, l_3, l_4, l_5, l_6, l_7, l_8, l_9, l_10, l_11, l_12, l_13, l_14, l_16, l_20, l_21, l_23, l_24, l_30, l_32, l_40, l_41, l_44, l_48, l_57, l_59, l_60, l_63, l_64, l_80, l_84, l_96, l_97, l_99, l_120, l_122, l_127, l_200, l_240, l_255, l_840, l_999, l_1000, l_1001, l_2400, l_3064, l_9999, l_10000, l_13849, l_16383, l_25173, l_65535, l_65536, l_99999, l_1000000000, neg_nI, pk_mul, nI_add, nI_subL, tn_nI, inb_t, grd_true, bnd_some, elS_l, elS_r, nI_ltI, nI_leI, nI_inj, fa_and, fa_or, m1_eq, eq_m1, m1_lt, m1_le, lt_m1, le_m1, m1_lt0, up2_at, up2_no, ite_true, ite_false, if_true, if_false, Bool.false_eq_true, reduceIte, reduceCtorEq, not_true_eq_false, not_false_eq_true, eq_self, decide_true, decide_false, le_tt, le_ff, lt_tt, lt_ff, eq_ff, and_true, true_and, and_false, false_and, or_true, true_or, or_false, false_or, ne_eq, decide_eq_true_eq, decide_eq_false_iff_not, Bool.not_true, Bool.not_false, Bool.and_true, Bool.true_and, Bool.and_false, Bool.false_and, gs_at, gs_no, oI_n, oI_s]
  · rw [hw]; simp (disch := omega) only [l_0, l_1, l_2, l_3, l_4, l_5, l_6, l_7, l_8, l_9, l_10, l_11, l_12, l_13, l_14, l_16, l_20, l_21, l_23, l_24, l_30, l_32, l_40, l_41, l_44, l_48, l_57, l_59, l_60, l_63, l_64, l_80, l_84, l_96, l_97, l_99, l_120, l_122, l_127, l_200, l_240, l_255, l_840, l_999, l_1000, l_1001, l_2400, l_3064, l_9999, l_10000, l_13849, l_16383, l_25173, l_65535, l_65536, l_99999, l_1000000000, neg_nI, pk_mul, nI_add, nI_subL, tn_nI, inb_t, grd_true, bnd_some, elS_l, elS_r, nI_ltI, nI_leI, nI_inj, fa_and, fa_or, m1_eq, eq_m1, m1_lt, m1_le, lt_m1, le_m1, m1_lt0, up2_at, up2_no, ite_true, ite_false, if_true, if_false, Bool.false_eq_true, reduceIte, reduceCtorEq, not_true_eq_false, not_false_eq_true, eq_self, decide_true, decide_false, le_tt, le_ff, lt_tt, lt_ff, eq_ff, and_true, true_and, and_false, false_and, or_true, true_or, or_false, false_or, ne_eq, decide_eq_true_eq, decide_eq_false_iff_not, Bool.not_true, Bool.not_false, Bool.and_true, Bool.true_and, Bool.and_false, Bool.false_and, gs_at, gs_no, oI_n, oI_s]
  · simp (disch := omega) only [l_0, l_1, l_2, l_3, l_4, l_5, l_6, l_7, l_8, l_9, l_10, l_11, l_12, l_13, l_14, l_16, l_20, l_21, l_23, l_24, l_30, l_32, l_40, l_41, l_44, l_48, l_57, l_59, l_60, l_63, l_64, l_80, l_84, l_96, l_97, l_99, l_120, l_122, l_127, l_200, l_240, l_255, l_840, l_999, l_1000, l_1001, l_2400, l_3064, l_9999, l_10000, l_13849, l_16383, l_25173, l_65535, l_65536, l_99999, l_1000000000, neg_nI, pk_mul, nI_add, nI_subL, tn_nI, inb_t, grd_true, bnd_some, elS_l, elS_r, nI_ltI, nI_leI, nI_inj, fa_and, fa_or, m1_eq, eq_m1, m1_lt, m1_le, lt_m1, le_m1, m1_lt0, up2_at, up2_no, ite_true, ite_false, if_true, if_false, Bool.false_eq_true, reduceIte, reduceCtorEq, not_true_eq_false, not_false_eq_true, eq_self, decide_true, decide_false, le_tt, le_ff, lt_tt, lt_ff, eq_ff, and_true, true_and, and_false, false_and, or_true, true_or, or_false, false_or, ne_eq, decide_eq_true_eq, decide_eq_false_iff_not, Bool.not_true, Bool.not_false, Bool.and_true, Bool.true_and, Bool.and_false, Bool.false_and, gs_at, gs_no, oI_n, oI_s]
  · simp (disch := omega) only [l_0, l_1, l_2, l_3, l_4, l_5, l_6, l_7, l_8, l_9, l_10, l_11, l_12, l_13, l_14, l_16, l_20, l_21, l_23, l_24, l_30, l_32, l_40, l_41, l_44, l_48, l_57, l_59, l_60, l_63, l_64, l_80, l_84, l_96, l_97, l_99, l_120, l_122, l_127, l_200, l_240, l_255, l_840, l_999, l_1000, l_1001, l_2400, l_3064, l_9999, l_10000, l_13849, l_16383, l_25173, l_65535, l_65536, l_99999, l_1000000000, neg_nI, pk_mul, nI_add, nI_subL, tn_nI, inb_t, grd_true, bnd_some, elS_l, elS_r, nI_ltI, nI_leI, nI_inj, fa_and, fa_or, m1_eq, eq_m1, m1_lt, m1_le, lt_m1, le_m1, m1_lt0, up2_at, up2_no, ite_true, ite_false, if_true, if_false, Bool.false_eq_true, reduceIte, reduceCtorEq, not_true_eq_false, not_false_eq_true, eq_self, decide_true, decide_false, le_tt, le_ff, lt_tt, lt_ff, eq_ff, and_true, true_and, and_false, false_and, or_true, true_or, or_false, false_or, ne_eq, decide_eq_true_eq, decide_eq_false_iff_not, Bool.not_true, Bool.not_false, Bool.and_true, Bool.true_and, Bool.and_false, Bool.false_and, gs_at, gs_no, oI_n, oI_s]
theorem Fi_weighRows_e {s : Nat} (hN : NV g) (hL : LV g) (hC : CN M (s + 1) g) (hU : UB M s g) (hs : 18 ≤ s ∧ s < 90) (hl : l < 2 ^ g 3) (hn : 100 < n) {w v F : Nat} (hwk : wk w = l) (hw : w < 4) (hv : 1 ≤ v) (hv2 : v ≤ 64) (hF : F < 2 ^ 60) (hFf : ∀ f, F.testBit f = fitB g l f v none) {b : Option (Nat × Nat × Nat × Nat)} (hb : FB wk 2 M b) : ∃ M', Fi_weighRows n s (nI w) (nI l) (nI v) (lN F) M = some M' ∧ FB wk 2 M' (fdI (g 1) (fun l s v => fitB g l s v none) (rowS g) 2 w l v b (g 1 + 1)) ∧ Fr f12 M M' := by
  have b1 := hN.1
  obtain ⟨B, q1, q2, q3⟩ := St_busy_none hN hL hC hU hl hn
  have hlp : ∃ r, loop (fun s1 : Int32 × Int32 × Mm => Fi_weighRows_b14 s (nI w) (nI l) (nI v) (lN F) (lN B) s1.1 s1.2.1 s1.2.2) n (nI 0, nI 0, M) = some r ∧ (FB wk 2 r (fdI (g 1) (fun l s v => fitB g l s v none) (rowS g) 2 w l v b (g 1 + 1)) ∧ Fr f12 M r) := by
    refine loop_I0 (fun slot st => ∃ beg, st.1 = nI beg ∧ st.2.1 = nI slot ∧ beg ≤ slot ∧ (beg = 0 ∨ OC g l none (beg - 1) ∨ beg = g 1 + 1) ∧ (∀ j, beg ≤ j → j < slot → ¬ OC g l none j) ∧ (slot = g 1 + 1 → beg = slot) ∧ FB wk 2 st.2.2 (fdI (g 1) (fun l s v => fitB g l s v none) (rowS g) 2 w l v b beg) ∧ Fr f12 M st.2.2) _ (g 1 + 1) ⟨0, rfl, rfl, Nat.le_refl _, .inl rfl, fun j a1 a2 => by omega, fun q => by omega, hb, Fr.rf⟩ (by omega) ?_ ?_
    · rintro slot ⟨s1, s2, M1⟩ hslot ⟨beg, e1, e2, e3, e4, e5, _, e7, e8⟩
      simp only at e1 e2 e7 e8
      subst e1 e2
      left
      have c1 : M1.1 (s + 1) 1 = nI (g 1) := (e8 (s + 1) 1 (by unfold f12; omega)).1.trans (hC.1 1 (by omega))
      show ∃ s', Fi_weighRows_b14 s (nI w) (nI l) (nI v) (lN F) (lN B) (nI beg) (nI slot) M1 = some (.inl s') ∧ _
      by_cases hend : slot = g 1 ∨ OC g l none slot
      · have hj50 : Fi_weighRows_b14 s (nI w) (nI l) (nI v) (lN F) (lN B) (nI beg) (nI slot) M1 = Fi_weighRows_j50 (nI w) (nI l) (nI v) (lN F) (nI beg) (nI slot) M1 := by
          unfold Fi_weighRows_b14
          simp (disch := omega) only [l_0, l_1, l_2, l_3, l_4, l_5, l_6, l_7, l_8, l_9, l_10, l_11, l_12, l_13, l_14, l_16, l_20, l_21, l_23, l_24, l_30, l_32, l_40, l_41, l_44, l_48, l_57, l_59, l_60, l_63, l_64, l_80, l_84, l_96, l_97, l_99, l_120, l_122, l_127, l_200, l_240, l_255, l_840, l_999, l_1000, l_1001, l_2400, l_3064, l_9999, l_10000, l_13849, l_16383, l_25173, l_65535, l_65536, l_99999, l_1000000000, neg_nI, pk_mul, nI_add, nI_subL, tn_nI, inb_t, grd_true, bnd_some, elS_l, elS_r, nI_ltI, nI_leI, nI_inj, fa_and, fa_or, m1_eq, eq_m1, m1_lt, m1_le, lt_m1, le_m1, m1_lt0, up2_at, up2_no, ite_true, ite_false, if_true, if_false, Bool.false_eq_true, reduceIte, reduceCtorEq, not_true_eq_false, not_false_eq_true, eq_self, decide_true, decide_false, le_tt, le_ff, lt_tt, lt_ff, eq_ff, and_true, true_and, and_false, false_and, or_true, true_or, or_false, false_or, ne_eq, decide_eq_true_eq, decide_eq_false_iff_not, Bool.not_true, Bool.not_false, Bool.and_true, Bool.true_and, Bool.and_false, Bool.false_and, gs_at, gs_no, oI_n, oI_s, c1]
          by_cases c : slot = g 1
          · simp (disch := omega) only [l_0, l_1, l_2, l_3, l_4, l_5, l_6, l_7, l_8, l_9, l_10, l_11, l_12, l_13, l_14, l_16, l_20, l_21, l_23, l_24, l_30, l_32, l_40, l_41, l_44, l_48, l_57, l_59, l_60, l_63, l_64, l_80, l_84, l_96, l_97, l_99, l_120, l_122, l_127, l_200, l_240, l_255, l_840, l_999, l_1000, l_1001, l_2400, l_3064, l_9999, l_10000, l_13849, l_16383, l_25173, l_65535, l_65536, l_99999, l_1000000000, neg_nI, pk_mul, nI_add, nI_subL, tn_nI, inb_t, grd_true, bnd_some, elS_l, elS_r, nI_ltI, nI_leI, nI_inj, fa_and, fa_or, m1_eq, eq_m1, m1_lt, m1_le, lt_m1, le_m1, m1_lt0, up2_at, up2_no, ite_true, ite_false, if_true, if_false, Bool.false_eq_true, reduceIte, reduceCtorEq, not_true_eq_false, not_false_eq_true, eq_self, decide_true, decide_false, le_tt, le_ff, lt_tt, lt_ff, eq_ff, and_true, true_and, and_false, false_and, or_true, true_or, or_false, false_or, ne_eq, decide_eq_true_eq, decide_eq_false_iff_not, Bool.not_true, Bool.not_false, Bool.and_true, Bool.true_and, Bool.and_false, Bool.false_and, gs_at, gs_no, oI_n, oI_s, c]
          · have hbit : B.testBit slot = true := (q3 slot).mpr (hend.resolve_left c)
            simp (disch := omega) only [l_0, l_1, l_2, l_3, l_4, l_5, l_6, l_7, l_8, l_9, l_10, l_11, l_12, l_13, l_14, l_16, l_20, l_21, l_23, l_24, l_30, l_32, l_40, l_41, l_44, l_48, l_57, l_59, l_60, l_63, l_64, l_80, l_84, l_96, l_97, l_99, l_120, l_122, l_127, l_200, l_240, l_255, l_840, l_999, l_1000, l_1001, l_2400, l_3064, l_9999, l_10000, l_13849, l_16383, l_25173, l_65535, l_65536, l_99999, l_1000000000, neg_nI, pk_mul, nI_add, nI_subL, tn_nI, inb_t, grd_true, bnd_some, elS_l, elS_r, nI_ltI, nI_leI, nI_inj, fa_and, fa_or, m1_eq, eq_m1, m1_lt, m1_le, lt_m1, le_m1, m1_lt0, up2_at, up2_no, ite_true, ite_false, if_true, if_false, Bool.false_eq_true, reduceIte, reduceCtorEq, not_true_eq_false, not_false_eq_true, eq_self, decide_true, decide_false, le_tt, le_ff, lt_tt, lt_ff, eq_ff, and_true, true_and, and_false, false_and, or_true, true_or, or_false, false_or, ne_eq, decide_eq_true_eq, decide_eq_false_iff_not, Bool.not_true, Bool.not_false, Bool.and_true, Bool.true_and, Bool.and_false, Bool.false_and, gs_at, gs_no, oI_n, oI_s, c, lb0, hbit]
        rw [hj50]
        have hnofit : fitB g l slot v none = false := by
          rw [← Bool.not_eq_true, fit_oc hL hv]
          intro h
          obtain ⟨a1, a2⟩ := h 0 (by omega)
          rcases hend with c | c
          · omega
          · exact a2 ⟨slot, c, by omega, by omega⟩
        have hwin : ∀ f, beg ≤ f → f < slot → fitB g l f v none = true → f + v ≤ slot := fun f a1 a2 a3 => by
          have h := (fit_oc hL hv).mp a3
          rcases Nat.lt_or_ge slot (f + v) with c | c
          · exfalso
            obtain ⟨x1, x2⟩ := h (slot - f) (by omega)
            rcases hend with c2 | c2
            · omega
            · exact x2 ⟨slot, c2, by omega, by omega⟩
          · exact c
        have hfree : ∀ j, beg ≤ j → j < slot → fzB g l j = true := fun j a1 a2 => fz_oc.mpr ⟨by omega, e5 j a1 a2⟩
        have hdn0 : beg = 0 ∨ fzB g l (beg - 1) = false := by
          rcases e4 with c | c | c
          · exact .inl c
          · right
            rw [← Bool.not_eq_true, fz_oc]
            exact fun q => q.2 c
          · omega
        have hrow : ∀ f, beg ≤ f → f < slot + 1 → (fun l s v => fitB g l s v none) l f v = true → rowS g l f v = slot - beg := fun f a1 a2 a3 => by
          have a3' : fitB g l f v none = true := a3
          have a4 : f < slot := by
            by_cases c : f = slot
            · rw [c, hnofit] at a3'; cases a3'
            · omega
          have hw1 := hwin f a1 a4 a3'
          unfold rowS
          rw [dnS_at hdn0 f a1 (fun j x1 x2 => hfree j x1 (by omega)), upS_at (fin := slot) (g 1 - (f + v)) (f + v) hw1 (by
            rcases hend with c | c
            · left; omega
            · have := OC_lt hL c
              right
              refine ⟨by omega, ?_⟩
              rw [← Bool.not_eq_true, fz_oc]
              exact fun q => q.2 c) (fun j x1 x2 => hfree j (by omega) x2)]
        have hfr := fdI_row (ft := fun l s v => fitB g l s v none) (rw' := rowS g) (R := slot - beg) (slots := g 1) (w := w) (v := v) (b := b) (l := l) (beg := beg) hrow (slot + 1) (by omega) (Nat.le_refl _)
        have hspan := Fg_span_e (a := beg) (b := slot) (M := M1) e3 (by omega)
        have hinr : ∀ f, (F &&& (2 ^ slot - 2 ^ beg)).testBit f = true ↔ fitB g l f v none = true ∧ beg ≤ f ∧ f < slot := fun f => by
          rw [Nat.testBit_and, Bool.and_eq_true, hFf, span_tb e3, decide_eq_true_eq]
        have hltF : F &&& (2 ^ slot - 2 ^ beg) < 2 ^ 60 := Nat.lt_of_le_of_lt Nat.and_le_left hF
        have hnext : ∀ (M2 : Mm), Fr f12 M M2 → FB wk 2 M2 (fdI (g 1) (fun l s v => fitB g l s v none) (rowS g) 2 w l v b (slot + 1)) → ∃ s', Fi_weighRows_j110 (nI slot) M2 = some (.inl s') ∧ (∃ beg', s'.1 = nI beg' ∧ s'.2.1 = nI (slot + 1) ∧ beg' ≤ slot + 1 ∧ (beg' = 0 ∨ OC g l none (beg' - 1) ∨ beg' = g 1 + 1) ∧ (∀ j, beg' ≤ j → j < slot + 1 → ¬ OC g l none j) ∧ (slot + 1 = g 1 + 1 → beg' = slot + 1) ∧ FB wk 2 s'.2.2 (fdI (g 1) (fun l s v => fitB g l s v none) (rowS g) 2 w l v b beg') ∧ Fr f12 M s'.2.2) := fun M2 h1 h2 => by
          refine ⟨(nI (slot + 1), nI (slot + 1), M2), ?_, slot + 1, rfl, rfl, Nat.le_refl _, ?_, fun j a1 a2 => by omega, fun _ => rfl, h2, h1⟩
          · unfold Fi_weighRows_j110 Fi_weighRows_j116
            simp (disch := omega) only [l_0, l_1, l_2, l_3, l_4, l_5, l_6, l_7, l_8, l_9, l_10, l_11, l_12, l_13, l_14, l_16, l_20, l_21, l_23, l_24, l_30, l_32, l_40, l_41, l_44, l_48, l_57, l_59, l_60, l_63, l_64, l_80, l_84, l_96, l_97, l_99, l_120, l_122, l_127, l_200, l_240, l_255, l_840, l_999, l_1000, l_1001, l_2400, l_3064, l_9999, l_10000, l_13849, l_16383, l_25173, l_65535, l_65536, l_99999, l_1000000000, neg_nI, pk_mul, nI_add, nI_subL, tn_nI, inb_t, grd_true, bnd_some, elS_l, elS_r, nI_ltI, nI_leI, nI_inj, fa_and, fa_or, m1_eq, eq_m1, m1_lt, m1_le, lt_m1, le_m1, m1_lt0, up2_at, up2_no, ite_true, ite_false, if_true, if_false, Bool.false_eq_true, reduceIte, reduceCtorEq, not_true_eq_false, not_false_eq_true, eq_self, decide_true, decide_false, le_tt, le_ff, lt_tt, lt_ff, eq_ff, and_true, true_and, and_false, false_and, or_true, true_or, or_false, false_or, ne_eq, decide_eq_true_eq, decide_eq_false_iff_not, Bool.not_true, Bool.not_false, Bool.and_true, Bool.true_and, Bool.and_false, Bool.false_and, gs_at, gs_no, oI_n, oI_s]
          · rcases hend with c | c
            · right; right; omega
            · right; left; rw [Nat.add_sub_cancel]; exact c
        have hge : fitB g l slot v none = false := hnofit
        by_cases hz : F &&& (2 ^ slot - 2 ^ beg) = 0
        · have hnone : fstP (fun s => (fun l s v => fitB g l s v none) l s v) beg (slot + 1 - beg) = none := by
            apply fstP_none.mpr
            intro m m1 m2
            show fitB g l m v none = false
            by_cases c : m = slot
            · rw [c]; exact hge
            · rw [← Bool.not_eq_true]
              intro q
              have := (hinr m).mpr ⟨q, m1, by omega⟩
              rw [hz, Nat.zero_testBit] at this
              cases this
          rw [hnone] at hfr
          simp only at hfr
          obtain ⟨s', a1, a2⟩ := hnext M1 e8 (by rw [hfr]; exact e7)
          refine ⟨s', ?_, a2⟩
          unfold Fi_weighRows_j50
          simp (disch := omega) only [l_0, l_1, l_2, l_3, l_4, l_5, l_6, l_7, l_8, l_9, l_10, l_11, l_12, l_13, l_14, l_16, l_20, l_21, l_23, l_24, l_30, l_32, l_40, l_41, l_44, l_48, l_57, l_59, l_60, l_63, l_64, l_80, l_84, l_96, l_97, l_99, l_120, l_122, l_127, l_200, l_240, l_255, l_840, l_999, l_1000, l_1001, l_2400, l_3064, l_9999, l_10000, l_13849, l_16383, l_25173, l_65535, l_65536, l_99999, l_1000000000, neg_nI, pk_mul, nI_add, nI_subL, tn_nI, inb_t, grd_true, bnd_some, elS_l, elS_r, nI_ltI, nI_leI, nI_inj, fa_and, fa_or, m1_eq, eq_m1, m1_lt, m1_le, lt_m1, le_m1, m1_lt0, up2_at, up2_no, ite_true, ite_false, if_true, if_false, Bool.false_eq_true, reduceIte, reduceCtorEq, not_true_eq_false, not_false_eq_true, eq_self, decide_true, decide_false, le_tt, le_ff, lt_tt, lt_ff, eq_ff, and_true, true_and, and_false, false_and, or_true, true_or, or_false, false_or, ne_eq, decide_eq_true_eq, decide_eq_false_iff_not, Bool.not_true, Bool.not_false, Bool.and_true, Bool.true_and, Bool.and_false, Bool.false_and, gs_at, gs_no, oI_n, oI_s, hspan, land_e, lz0, hz]
          exact a1
        · obtain ⟨k, k1, k2, k3, _⟩ := Fg_lowest_t (M := M1) hz (by omega)
          obtain ⟨f1, f2, f3⟩ := (hinr k).mp k2
          have hsome : fstP (fun s => (fun l s v => fitB g l s v none) l s v) beg (slot + 1 - beg) = some k := by
            cases hf : fstP (fun s => (fun l s v => fitB g l s v none) l s v) beg (slot + 1 - beg) with
            | none =>
              have this : fitB g l k v none = false := fstP_none.mp hf k f2 (by omega)
              rw [f1] at this
              cases this
            | some k' =>
              obtain ⟨x1, x2, x3, x4⟩ := fstP_some hf
              have x3' : fitB g l k' v none = true := x3
              have hk' : k' < slot := by
                by_cases c : k' = slot
                · rw [c, hge] at x3'; cases x3'
                · omega
              rcases Nat.lt_trichotomy k k' with c | c | c
              · have this : fitB g l k v none = false := x4 k f2 c
                rw [f1] at this; cases this
              · rw [c]
              · have := k3 k' c
                rw [(hinr k').mpr ⟨x3', x1, hk'⟩] at this; cases this
          rw [hsome] at hfr
          simp only at hfr
          have hj88 : ∃ M2, Fi_weighRows_j88 (nI w) (nI l) (nI v) (nI beg) (nI slot) (lN (F &&& (2 ^ slot - 2 ^ beg))) M1 = Fi_weighRows_j110 (nI slot) M2 ∧ FB wk 2 M2 (some (w, k, v, slot - beg)) ∧ Fr f12 M M2 := by
            refine ⟨(up2 (up2 (up2 (up2 (up2 M1.1 12 1 (nI w)) 12 2 (nI l)) 12 3 (nI k)) 12 4 (nI v)) 12 5 (nI (slot - beg)), M1.2), ?_, ⟨?_, ?_, ?_, ?_, fun _ => ?_, fun q => by omega, ?_, ?_, ?_, ?_⟩, Fr.I (Fr.I (Fr.I (Fr.I (Fr.I e8 rfl) rfl) rfl) rfl) rfl⟩
            · unfold Fi_weighRows_j88 Fi_choose
              simp (disch := omega) only [l_0, l_1, l_2, l_3, l_4, l_5, l_6, l_7, l_8, l_9, l_10, l_11, l_12, l_13, l_14, l_16, l_20, l_21, l_23, l_24, l_30, l_32, l_40, l_41, l_44, l_48, l_57, l_59, l_60, l_63, l_64, l_80, l_84, l_96, l_97, l_99, l_120, l_122, l_127, l_200, l_240, l_255, l_840, l_999, l_1000, l_1001, l_2400, l_3064, l_9999, l_10000, l_13849, l_16383, l_25173, l_65535, l_65536, l_99999, l_1000000000, neg_nI, pk_mul, nI_add, nI_subL, tn_nI, inb_t, grd_true, bnd_some, elS_l, elS_r, nI_ltI, nI_leI, nI_inj, fa_and, fa_or, m1_eq, eq_m1, m1_lt, m1_le, lt_m1, le_m1, m1_lt0, up2_at, up2_no, ite_true, ite_false, if_true, if_false, Bool.false_eq_true, reduceIte, reduceCtorEq, not_true_eq_false, not_false_eq_true, eq_self, decide_true, decide_false, le_tt, le_ff, lt_tt, lt_ff, eq_ff, and_true, true_and, and_false, false_and, or_true, true_or, or_false, false_or, ne_eq, decide_eq_true_eq, decide_eq_false_iff_not, Bool.not_true, Bool.not_false, Bool.and_true, Bool.true_and, Bool.and_false, Bool.false_and, gs_at, gs_no, oI_n, oI_s, k1]
            · simp (disch := omega) only [l_0, l_1, l_2, l_3, l_4, l_5, l_6, l_7, l_8, l_9, l_10, l_11, l_12, l_13, l_14, l_16, l_20, l_21, l_23, l_24, l_30, l_32, l_40, l_41, l_44, l_48, l_57, l_59, l_60, l_63, l_64, l_80, l_84, l_96, l_97, l_99, l_120, l_122, l_127, l_200, l_240, l_255, l_840, l_999, l_1000, l_1001, l_2400, l_3064, l_9999, l_10000, l_13849, l_16383, l_25173, l_65535, l_65536, l_99999, l_1000000000, neg_nI, pk_mul, nI_add, nI_subL, tn_nI, inb_t, grd_true, bnd_some, elS_l, elS_r, nI_ltI, nI_leI, nI_inj, fa_and, fa_or, m1_eq, eq_m1, m1_lt, m1_le, lt_m1, le_m1, m1_lt0, up2_at, up2_no, ite_true, ite_false, if_true, if_false, Bool.false_eq_true, reduceIte, reduceCtorEq, not_true_eq_false, not_false_eq_true, eq_self, decide_true, decide_false, le_tt, le_ff, lt_tt, lt_ff, eq_ff, and_true, true_and, and_false, false_and, or_true, true_or, or_false, false_or, ne_eq, decide_eq_true_eq, decide_eq_false_iff_not, Bool.not_true, Bool.not_false, Bool.and_true, Bool.true_and, Bool.and_false, Bool.false_and, gs_at, gs_no, oI_n, oI_s]
            · rw [hwk]; simp (disch := omega) only [l_0, l_1, l_2, l_3, l_4, l_5, l_6, l_7, l_8, l_9, l_10, l_11, l_12, l_13, l_14, l_16, l_20, l_21, l_23, l_24, l_30, l_32, l_40, l_41, l_44, l_48, l_57, l_59, l_60, l_63, l_64, l_80, l_84, l_96, l_97, l_99, l_120, l_122, l_127, l_200, l_240, l_255, l_840, l_999, l_1000, l_1001, l_2400, l_3064, l_9999, l_10000, l_13849, l_16383, l_25173, l_65535, l_65536, l_99999, l_1000000000, neg_nI, pk_mul, nI_add, nI_subL, tn_nI, inb_t, grd_true, bnd_some, elS_l, elS_r, nI_ltI, nI_leI, nI_inj, fa_and, fa_or, m1_eq, eq_m1, m1_lt, m1_le, lt_m1, le_m1, m1_lt0, up2_at, up2_no, ite_true, ite_false, if_true, if_false, Bool.false_eq_true, reduceIte, reduceCtorEq, not_true_eq_false, not_false_eq_true, eq_self, decide_true, decide_false, le_tt, le_ff, lt_tt, lt_ff, eq_ff, and_true, true_and, and_false, false_and, or_true, true_or, or_false, false_or, ne_eq, decide_eq_true_eq, decide_eq_false_iff_not, Bool.not_true, Bool.not_false, Bool.and_true, Bool.true_and, Bool.and_false, Bool.false_and, gs_at, gs_no, oI_n, oI_s]
            · simp (disch := omega) only [l_0, l_1, l_2, l_3, l_4, l_5, l_6, l_7, l_8, l_9, l_10, l_11, l_12, l_13, l_14, l_16, l_20, l_21, l_23, l_24, l_30, l_32, l_40, l_41, l_44, l_48, l_57, l_59, l_60, l_63, l_64, l_80, l_84, l_96, l_97, l_99, l_120, l_122, l_127, l_200, l_240, l_255, l_840, l_999, l_1000, l_1001, l_2400, l_3064, l_9999, l_10000, l_13849, l_16383, l_25173, l_65535, l_65536, l_99999, l_1000000000, neg_nI, pk_mul, nI_add, nI_subL, tn_nI, inb_t, grd_true, bnd_some, elS_l, elS_r, nI_ltI, nI_leI, nI_inj, fa_and, fa_or, m1_eq, eq_m1, m1_lt, m1_le, lt_m1, le_m1, m1_lt0, up2_at, up2_no, ite_true, ite_false, if_true, if_false, Bool.false_eq_true, reduceIte, reduceCtorEq, not_true_eq_false, not_false_eq_true, eq_self, decide_true, decide_false, le_tt, le_ff, lt_tt, lt_ff, eq_ff, and_true, true_and, and_false, false_and, or_true, true_or, or_false, false_or, ne_eq, decide_eq_true_eq, decide_eq_false_iff_not, Bool.not_true, Bool.not_false, Bool.and_true, Bool.true_and, Bool.and_false, Bool.false_and, gs_at, gs_no, oI_n, oI_s]
            · simp (disch := omega) only [l_0, l_1, l_2, l_3, l_4, l_5, l_6, l_7, l_8, l_9, l_10, l_11, l_12, l_13, l_14, l_16, l_20, l_21, l_23, l_24, l_30, l_32, l_40, l_41, l_44, l_48, l_57, l_59, l_60, l_63, l_64, l_80, l_84, l_96, l_97, l_99, l_120, l_122, l_127, l_200, l_240, l_255, l_840, l_999, l_1000, l_1001, l_2400, l_3064, l_9999, l_10000, l_13849, l_16383, l_25173, l_65535, l_65536, l_99999, l_1000000000, neg_nI, pk_mul, nI_add, nI_subL, tn_nI, inb_t, grd_true, bnd_some, elS_l, elS_r, nI_ltI, nI_leI, nI_inj, fa_and, fa_or, m1_eq, eq_m1, m1_lt, m1_le, lt_m1, le_m1, m1_lt0, up2_at, up2_no, ite_true, ite_false, if_true, if_false, Bool.false_eq_true, reduceIte, reduceCtorEq, not_true_eq_false, not_false_eq_true, eq_self, decide_true, decide_false, le_tt, le_ff, lt_tt, lt_ff, eq_ff, and_true, true_and, and_false, false_and, or_true, true_or, or_false, false_or, ne_eq, decide_eq_true_eq, decide_eq_false_iff_not, Bool.not_true, Bool.not_false, Bool.and_true, Bool.true_and, Bool.and_false, Bool.false_and, gs_at, gs_no, oI_n, oI_s]
            · simp (disch := omega) only [l_0, l_1, l_2, l_3, l_4, l_5, l_6, l_7, l_8, l_9, l_10, l_11, l_12, l_13, l_14, l_16, l_20, l_21, l_23, l_24, l_30, l_32, l_40, l_41, l_44, l_48, l_57, l_59, l_60, l_63, l_64, l_80, l_84, l_96, l_97, l_99, l_120, l_122, l_127, l_200, l_240, l_255, l_840, l_999, l_1000, l_1001, l_2400, l_3064, l_9999, l_10000, l_13849, l_16383, l_25173, l_65535, l_65536, l_99999, l_1000000000, neg_nI, pk_mul, nI_add, nI_subL, tn_nI, inb_t, grd_true, bnd_some, elS_l, elS_r, nI_ltI, nI_leI, nI_inj, fa_and, fa_or, m1_eq, eq_m1, m1_lt, m1_le, lt_m1, le_m1, m1_lt0, up2_at, up2_no, ite_true, ite_false, if_true, if_false, Bool.false_eq_true, reduceIte, reduceCtorEq, not_true_eq_false, not_false_eq_true, eq_self, decide_true, decide_false, le_tt, le_ff, lt_tt, lt_ff, eq_ff, and_true, true_and, and_false, false_and, or_true, true_or, or_false, false_or, ne_eq, decide_eq_true_eq, decide_eq_false_iff_not, Bool.not_true, Bool.not_false, Bool.and_true, Bool.true_and, Bool.and_false, Bool.false_and, gs_at, gs_no, oI_n, oI_s]
            · show w < 100; omega
            · show k < 100; omega
            · show v < 100; omega
            · show slot - beg < 100; omega
          obtain ⟨M2, y1, y2, y3⟩ := hj88
          have hzF : (F &&& (2 ^ slot - 2 ^ beg) = 0) = False := eq_false hz
          cases hp : fdI (g 1) (fun l s v => fitB g l s v none) (rowS g) 2 w l v b beg with
          | none =>
            rw [hp] at hfr e7
            have h121 : M1.1 12 1 = ng 1 := e7
            obtain ⟨s', a1, a2⟩ := hnext M2 y3 (by rw [hfr]; exact y2)
            refine ⟨s', ?_, a2⟩
            unfold Fi_weighRows_j50
            simp (disch := omega) only [l_0, l_1, l_2, l_3, l_4, l_5, l_6, l_7, l_8, l_9, l_10, l_11, l_12, l_13, l_14, l_16, l_20, l_21, l_23, l_24, l_30, l_32, l_40, l_41, l_44, l_48, l_57, l_59, l_60, l_63, l_64, l_80, l_84, l_96, l_97, l_99, l_120, l_122, l_127, l_200, l_240, l_255, l_840, l_999, l_1000, l_1001, l_2400, l_3064, l_9999, l_10000, l_13849, l_16383, l_25173, l_65535, l_65536, l_99999, l_1000000000, neg_nI, pk_mul, nI_add, nI_subL, tn_nI, inb_t, grd_true, bnd_some, elS_l, elS_r, nI_ltI, nI_leI, nI_inj, fa_and, fa_or, m1_eq, eq_m1, m1_lt, m1_le, lt_m1, le_m1, m1_lt0, up2_at, up2_no, ite_true, ite_false, if_true, if_false, Bool.false_eq_true, reduceIte, reduceCtorEq, not_true_eq_false, not_false_eq_true, eq_self, decide_true, decide_false, le_tt, le_ff, lt_tt, lt_ff, eq_ff, and_true, true_and, and_false, false_and, or_true, true_or, or_false, false_or, ne_eq, decide_eq_true_eq, decide_eq_false_iff_not, Bool.not_true, Bool.not_false, Bool.and_true, Bool.true_and, Bool.and_false, Bool.false_and, gs_at, gs_no, oI_n, oI_s, hspan, land_e, lz0, hzF, h121, y1]
            exact a1
          | some q =>
            rw [hp] at hfr e7
            obtain ⟨z1, z2, z3, z4, z5, z6, z7, z8, z9, z10⟩ := e7
            have z5' := z5 rfl
            by_cases c : slot - beg < q.2.2.2
            · rw [if_pos (show ltO (slot - beg) (some q) = true from decide_eq_true c)] at hfr
              obtain ⟨s', a1, a2⟩ := hnext M2 y3 (by rw [hfr]; exact y2)
              refine ⟨s', ?_, a2⟩
              unfold Fi_weighRows_j50
              simp (disch := omega) only [l_0, l_1, l_2, l_3, l_4, l_5, l_6, l_7, l_8, l_9, l_10, l_11, l_12, l_13, l_14, l_16, l_20, l_21, l_23, l_24, l_30, l_32, l_40, l_41, l_44, l_48, l_57, l_59, l_60, l_63, l_64, l_80, l_84, l_96, l_97, l_99, l_120, l_122, l_127, l_200, l_240, l_255, l_840, l_999, l_1000, l_1001, l_2400, l_3064, l_9999, l_10000, l_13849, l_16383, l_25173, l_65535, l_65536, l_99999, l_1000000000, neg_nI, pk_mul, nI_add, nI_subL, tn_nI, inb_t, grd_true, bnd_some, elS_l, elS_r, nI_ltI, nI_leI, nI_inj, fa_and, fa_or, m1_eq, eq_m1, m1_lt, m1_le, lt_m1, le_m1, m1_lt0, up2_at, up2_no, ite_true, ite_false, if_true, if_false, Bool.false_eq_true, reduceIte, reduceCtorEq, not_true_eq_false, not_false_eq_true, eq_self, decide_true, decide_false, le_tt, le_ff, lt_tt, lt_ff, eq_ff, and_true, true_and, and_false, false_and, or_true, true_or, or_false, false_or, ne_eq, decide_eq_true_eq, decide_eq_false_iff_not, Bool.not_true, Bool.not_false, Bool.and_true, Bool.true_and, Bool.and_false, Bool.false_and, gs_at, gs_no, oI_n, oI_s, hspan, land_e, lz0, hzF, z1, z5', y1]
              exact a1
            · rw [if_neg (show ¬ ltO (slot - beg) (some q) = true from fun h => c (of_decide_eq_true h))] at hfr
              obtain ⟨s', a1, a2⟩ := hnext M1 e8 (by rw [hfr]; exact ⟨z1, z2, z3, z4, z5, z6, z7, z8, z9, z10⟩)
              refine ⟨s', ?_, a2⟩
              unfold Fi_weighRows_j50
              simp (disch := omega) only [l_0, l_1, l_2, l_3, l_4, l_5, l_6, l_7, l_8, l_9, l_10, l_11, l_12, l_13, l_14, l_16, l_20, l_21, l_23, l_24, l_30, l_32, l_40, l_41, l_44, l_48, l_57, l_59, l_60, l_63, l_64, l_80, l_84, l_96, l_97, l_99, l_120, l_122, l_127, l_200, l_240, l_255, l_840, l_999, l_1000, l_1001, l_2400, l_3064, l_9999, l_10000, l_13849, l_16383, l_25173, l_65535, l_65536, l_99999, l_1000000000, neg_nI, pk_mul, nI_add, nI_subL, tn_nI, inb_t, grd_true, bnd_some, elS_l, elS_r, nI_ltI, nI_leI, nI_inj, fa_and, fa_or, m1_eq, eq_m1, m1_lt, m1_le, lt_m1, le_m1, m1_lt0, up2_at, up2_no, ite_true, ite_false, if_true, if_false, Bool.false_eq_true, reduceIte, reduceCtorEq, not_true_eq_false, not_false_eq_true, eq_self, decide_true, decide_false, le_tt, le_ff, lt_tt, lt_ff, eq_ff, and_true, true_and, and_false, false_and, or_true, true_or, or_false, false_or, ne_eq, decide_eq_true_eq, decide_eq_false_iff_not, Bool.not_true, Bool.not_false, Bool.and_true, Bool.true_and, Bool.and_false, Bool.false_and, gs_at, gs_no, oI_n, oI_s, hspan, land_e, lz0, hzF, z1, z5']
              exact a1
      · have h1 : slot ≠ g 1 := fun c => hend (.inl c)
        have h2 : ¬ OC g l none slot := fun c => hend (.inr c)
        have hbit : B.testBit slot = false := by
          rw [← Bool.not_eq_true, q3]; exact h2
        refine ⟨(nI beg, nI (slot + 1), M1), ?_, beg, rfl, rfl, by omega, e4, fun j a1 a2 => ?_, fun q => by omega, e7, e8⟩
        · unfold Fi_weighRows_b14 Fi_weighRows_j116
          simp (disch := omega) only [l_0, l_1, l_2, l_3, l_4, l_5, l_6, l_7, l_8, l_9, l_10, l_11, l_12, l_13, l_14, l_16, l_20, l_21, l_23, l_24, l_30, l_32, l_40, l_41, l_44, l_48, l_57, l_59, l_60, l_63, l_64, l_80, l_84, l_96, l_97, l_99, l_120, l_122, l_127, l_200, l_240, l_255, l_840, l_999, l_1000, l_1001, l_2400, l_3064, l_9999, l_10000, l_13849, l_16383, l_25173, l_65535, l_65536, l_99999, l_1000000000, neg_nI, pk_mul, nI_add, nI_subL, tn_nI, inb_t, grd_true, bnd_some, elS_l, elS_r, nI_ltI, nI_leI, nI_inj, fa_and, fa_or, m1_eq, eq_m1, m1_lt, m1_le, lt_m1, le_m1, m1_lt0, up2_at, up2_no, ite_true, ite_false, if_true, if_false, Bool.false_eq_true, reduceIte, reduceCtorEq, not_true_eq_false, not_false_eq_true, eq_self, decide_true, decide_false, le_tt, le_ff, lt_tt, lt_ff, eq_ff, and_true, true_and, and_false, false_and, or_true, true_or, or_false, false_or, ne_eq, decide_eq_true_eq, decide_eq_false_iff_not, Bool.not_true, Bool.not_false, Bool.and_true, Bool.true_and, Bool.and_false, Bool.false_and, gs_at, gs_no, oI_n, oI_s, c1, h1, lb0, hbit]
        · by_cases c : j = slot
          · rw [c]; exact h2
          · exact e5 j a1 (by omega)
    · rintro ⟨s1, s2, M1⟩ ⟨beg, e1, e2, e3, e4, e5, e6, e7, e8⟩
      simp only at e1 e2 e7 e8
      subst e1 e2
      have c1 : M1.1 (s + 1) 1 = nI (g 1) := (e8 (s + 1) 1 (by unfold f12; omega)).1.trans (hC.1 1 (by omega))
      have e9 := e6 rfl
      rw [e9] at e7
      refine ⟨M1, ?_, e7, e8⟩
      show Fi_weighRows_b14 s (nI w) (nI l) (nI v) (lN F) (lN B) (nI beg) (nI (g 1 + 1)) M1 = _
      unfold Fi_weighRows_b14
      simp (disch := omega) only [l_0, l_1, l_2, l_3, l_4, l_5, l_6, l_7, l_8, l_9, l_10, l_11, l_12, l_13, l_14, l_16, l_20, l_21, l_23, l_24, l_30, l_32, l_40, l_41, l_44, l_48, l_57, l_59, l_60, l_63, l_64, l_80, l_84, l_96, l_97, l_99, l_120, l_122, l_127, l_200, l_240, l_255, l_840, l_999, l_1000, l_1001, l_2400, l_3064, l_9999, l_10000, l_13849, l_16383, l_25173, l_65535, l_65536, l_99999, l_1000000000, neg_nI, pk_mul, nI_add, nI_subL, tn_nI, inb_t, grd_true, bnd_some, elS_l, elS_r, nI_ltI, nI_leI, nI_inj, fa_and, fa_or, m1_eq, eq_m1, m1_lt, m1_le, lt_m1, le_m1, m1_lt0, up2_at, up2_no, ite_true, ite_false, if_true, if_false, Bool.false_eq_true, reduceIte, reduceCtorEq, not_true_eq_false, not_false_eq_true, eq_self, decide_true, decide_false, le_tt, le_ff, lt_tt, lt_ff, eq_ff, and_true, true_and, and_false, false_and, or_true, true_or, or_false, false_or, ne_eq, decide_eq_true_eq, decide_eq_false_iff_not, Bool.not_true, Bool.not_false, Bool.and_true, Bool.true_and, Bool.and_false, Bool.false_and, gs_at, gs_no, oI_n, oI_s, c1]
  obtain ⟨r, h1, h2, h3⟩ := hlp
  refine ⟨r, ?_, h2, h3⟩
  unfold Fi_weighRows
  simp (disch := omega) only [l_0, l_1, l_2, l_3, l_4, l_5, l_6, l_7, l_8, l_9, l_10, l_11, l_12, l_13, l_14, l_16, l_20, l_21, l_23, l_24, l_30, l_32, l_40, l_41, l_44, l_48, l_57, l_59, l_60, l_63, l_64, l_80, l_84, l_96, l_97, l_99, l_120, l_122, l_127, l_200, l_240, l_255, l_840, l_999, l_1000, l_1001, l_2400, l_3064, l_9999, l_10000, l_13849, l_16383, l_25173, l_65535, l_65536, l_99999, l_1000000000, neg_nI, pk_mul, nI_add, nI_subL, tn_nI, inb_t, grd_true, bnd_some, elS_l, elS_r, nI_ltI, nI_leI, nI_inj, fa_and, fa_or, m1_eq, eq_m1, m1_lt, m1_le, lt_m1, le_m1, m1_lt0, up2_at, up2_no, ite_true, ite_false, if_true, if_false, Bool.false_eq_true, reduceIte, reduceCtorEq, not_true_eq_false, not_false_eq_true, eq_self, decide_true, decide_false, le_tt, le_ff, lt_tt, lt_ff, eq_ff, and_true, true_and, and_false, false_and, or_true, true_or, or_false, false_or, ne_eq, decide_eq_true_eq, decide_eq_false_iff_not, Bool.not_true, Bool.not_false, Bool.and_true, Bool.true_and, Bool.and_false, Bool.false_and, gs_at, gs_no, oI_n, oI_s, q1]
  exact bnd_e h1
end
