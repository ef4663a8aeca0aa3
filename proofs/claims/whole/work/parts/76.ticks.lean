/-! calls: ticks -/
def ofS (g : Nat → Nat) (P : Nat → Bool) (k : Nat) : Nat → Nat := fun j => if 64 ≤ j ∧ (j - 64) % 10 = 3 ∧ (j - 64) / 10 < k ∧ P ((j - 64) / 10) = true then 3 else g j
section
variable {g : Nat → Nat} {P Q : Nat → Bool} {k : Nat}
theorem of_lo {j : Nat} (h : j < 64) : ofS g P k j = g j := if_neg (by omega)
theorem of_w {d w : Nat} (h : w < 10) (h3 : w ≠ 3) : ofS g P k (64 + 10 * d + w) = g (64 + 10 * d + w) := if_neg (by omega)
theorem of_3 {d : Nat} : ofS g P k (64 + 10 * d + 3) = if d < k ∧ P d = true then 3 else g (64 + 10 * d + 3) := by
  unfold ofS
  rw [show (64 + 10 * d + 3 - 64) / 10 = d by omega]
  by_cases c : d < k ∧ P d = true
  · rw [if_pos ⟨by omega, by omega, c.1, c.2⟩, if_pos c]
  · rw [if_neg (fun q => c ⟨q.2.2.1, q.2.2.2⟩), if_neg c]
theorem of_0 : ofS g P 0 = g := funext fun j => if_neg (by omega)
theorem of_s : ofS g P (k + 1) = if P k = true then offG (ofS g P k) k 3 else ofS g P k := by
  funext j
  by_cases c : P k = true
  · rw [if_pos c]
    unfold offG gs
    by_cases e : j = 64 + 10 * k + 3
    · rw [if_pos e, e, of_3, if_pos ⟨by omega, c⟩]
    · rw [if_neg e]
      unfold ofS
      by_cases q : 64 ≤ j ∧ (j - 64) % 10 = 3 ∧ (j - 64) / 10 < k ∧ P ((j - 64) / 10) = true
      · rw [if_pos q, if_pos ⟨q.1, q.2.1, by omega, q.2.2.2⟩]
      · rw [if_neg q, if_neg (fun w => q ⟨w.1, w.2.1, by omega, w.2.2.2⟩)]
  · rw [if_neg c]
    unfold ofS
    by_cases q : 64 ≤ j ∧ (j - 64) % 10 = 3 ∧ (j - 64) / 10 < k ∧ P ((j - 64) / 10) = true
    · rw [if_pos q, if_pos ⟨q.1, q.2.1, by omega, q.2.2.2⟩]
    · rw [if_neg q, if_neg (fun w => ?_)]
      by_cases e : (j - 64) / 10 = k
      · rw [e] at w; exact c w.2.2.2
      · exact q ⟨w.1, w.2.1, by omega, w.2.2.2⟩
theorem of_W (hW : GW g) : ∀ k, GW (ofS g P k)
  | 0 => by rw [of_0]; exact hW
  | k + 1 => by
    rw [of_s]
    split
    · exact GW_off (of_W hW k) (by omega) (by omega)
    · exact of_W hW k
theorem of_gs {j v : Nat} (h : j < 64) : ofS (gs g j v) P k = gs (ofS g P k) j v := by
  funext i
  unfold ofS gs
  by_cases e : i = j
  · subst e; rw [if_neg (by omega), if_pos rfl, if_pos rfl]
  · rw [if_neg e, if_neg e]
theorem of_of : ofS (ofS g P k) Q k = ofS g (fun d => P d || Q d) k := by
  funext j
  show (if 64 ≤ j ∧ (j - 64) % 10 = 3 ∧ (j - 64) / 10 < k ∧ Q ((j - 64) / 10) = true then 3 else if 64 ≤ j ∧ (j - 64) % 10 = 3 ∧ (j - 64) / 10 < k ∧ P ((j - 64) / 10) = true then 3 else g j) = if 64 ≤ j ∧ (j - 64) % 10 = 3 ∧ (j - 64) / 10 < k ∧ (P ((j - 64) / 10) || Q ((j - 64) / 10)) = true then 3 else g j
  by_cases q : 64 ≤ j ∧ (j - 64) % 10 = 3 ∧ (j - 64) / 10 < k
  · generalize P ((j - 64) / 10) = p
    generalize Q ((j - 64) / 10) = r
    cases p <;> cases r <;> simp [q.1, q.2.1, q.2.2]
  · rw [if_neg (fun w => q ⟨w.1, w.2.1, w.2.2.1⟩), if_neg (fun w => q ⟨w.1, w.2.1, w.2.2.1⟩), if_neg (fun w => q ⟨w.1, w.2.1, w.2.2.1⟩)]
theorem of_cong (h : ∀ d, d < k → P d = Q d) : ofS g P k = ofS g Q k := by
  funext j
  unfold ofS
  by_cases q : 64 ≤ j ∧ (j - 64) % 10 = 3 ∧ (j - 64) / 10 < k
  · rw [h _ q.2.2]
  · rw [if_neg (fun w => q ⟨w.1, w.2.1, w.2.2.1⟩), if_neg (fun w => q ⟨w.1, w.2.1, w.2.2.1⟩)]
end
def duB (g : Nat → Nat) (T d : Nat) : Bool := decide ((g (64 + 10 * d + 3) = 0 ∨ g (64 + 10 * d + 3) = 2) ∧ g (64 + 10 * d + 7) ≠ 0 ∧ g (64 + 10 * d + 7) ≤ T + 1)
def enB (g : Nat → Nat) (T d : Nat) : Bool := decide ((g (64 + 10 * d + 3) = 0 ∨ g (64 + 10 * d + 3) = 2) ∧ g (64 + 10 * d + 7) = T + 1)
theorem Fm_ends_e {M : Mm} {g : Nat → Nat} {h : Nat → Int32} {n T : Nat} (hG : GB g) (hF : FK M g h) (hT : T < 1000000) (hn : 300 < n) : ∃ M', Fm_ends n (nI T) M = some (nI (fb_ct (enB g T) (g 7)), M') ∧ FK M' (ofS g (enB g T) (g 7)) h ∧ Fr (fun c _ => c = 95) M M' := by
  have h300 := hG.2
  have hlp : ∃ r, loop (fun s1 : Int32 × Int32 × Mm => Fm_ends_b4 (nI T) s1.1 s1.2.1 s1.2.2) n (nI 0, nI 0, M) = some r ∧ (r.1 = nI (fb_ct (enB g T) (g 7)) ∧ FK r.2 (ofS g (enB g T) (g 7)) h) := by
    refine loop_I0 (fun i (st : Int32 × Int32 × Mm) => st.1 = nI (fb_ct (enB g T) i) ∧ st.2.1 = nI i ∧ FK st.2.2 (ofS g (enB g T) i) h) _ (g 7) ⟨rfl, rfl, by rw [of_0]; exact hF⟩ (by omega) ?_ ?_
    · rintro i ⟨s1, s2, M1⟩ hi ⟨e1, e2, e3⟩
      simp only at e1 e2 e3
      subst e1 e2
      left
      have h7 := e3.lo (k := 7) (by omega)
      rw [of_lo (by omega)] at h7
      have o7 := e3.end_ (d := i) (by omega)
      rw [of_w (by omega) (by omega)] at o7
      have o3 := e3.of (d := i) (w := 3) (by omega) (by omega) (by omega)
      rw [of_3, if_neg (by omega)] at o3
      have g3 := hG.1 (64 + 10 * i + 3)
      have g7 := hG.1 (64 + 10 * i + 7)
      have hct := fb_ct_le (enB g T) i
      show ∃ s', Fm_ends_b4 (nI T) (nI (fb_ct (enB g T) i)) (nI i) M1 = some (.inl s') ∧ _
      have heq : (nI (g (64 + 10 * i + 7)) - nI 1 = nI T) = (g (64 + 10 * i + 7) = T + 1) := by
        rw [dI_s]
        cases hh : g (64 + 10 * i + 7) with
        | zero => exact propext ⟨fun q => by rw [show dI 0 = ng 1 from rfl, m1_eq (by omega) (by omega) (by omega)] at q; exact q.elim, fun q => by omega⟩
        | succ m =>
          rw [show dI (m + 1) = nI m from rfl, nI_inj (by omega) (by omega)]
          exact propext (by omega)
      rw [of_s, fb_ct_succ]
      unfold Fm_ends_b4 Fm_ends_j48 Fm_ends_j59
      by_cases c7 : g (64 + 10 * i + 7) = T + 1
      · by_cases c3 : g (64 + 10 * i + 3) = 0 ∨ g (64 + 10 * i + 3) = 2
        · have hb : enB g T i = true := decide_eq_true ⟨c3, c7⟩
          obtain ⟨M2, a1, a2, a3⟩ := e3.sets (d := i) (w := 3) (v := 3) (by omega) (by omega) (by omega)
          rw [if_pos hb, if_pos hb]
          refine ⟨(nI (fb_ct (enB g T) i + 1), nI (i + 1), M2), ?_, rfl, rfl, a2⟩
          rcases c3 with q | q
          · simp (disch := omega) only [l_0, l_1, l_2, l_3, l_4, l_5, l_6, l_7, l_8, l_9, l_10, l_11, l_12, l_13, l_14, l_16, l_20, l_21, l_23, l_24, l_30, l_32, l_40, l_41, l_44, l_48, l_57, l_59, l_60, l_63, l_64, l_80, l_84, l_96, l_97, l_99, l_120, l_122, l_127, l_200, l_240, l_255, l_840, l_999, l_1000, l_1001, l_2400, l_3064, l_9999, l_10000, l_13849, l_16383, l_25173, l_65535, l_65536, l_99999, l_1000000000, neg_nI, pk_mul, nI_add, nI_subL, tn_nI, inb_t, grd_true, bnd_some, elS_l, elS_r, nI_ltI, nI_leI, nI_inj, fa_and, fa_or, m1_eq, eq_m1, m1_lt, m1_le, lt_m1, le_m1, m1_lt0, up2_at, up2_no, ite_true, ite_false, if_true, if_false, Bool.false_eq_true, reduceIte, reduceCtorEq, not_true_eq_false, not_false_eq_true, eq_self, decide_true, decide_false, le_tt, le_ff, lt_tt, lt_ff, eq_ff, and_true, true_and, and_false, false_and, or_true, true_or, or_false, false_or, ne_eq, decide_eq_true_eq, decide_eq_false_iff_not, Bool.not_true, Bool.not_false, Bool.and_true, Bool.true_and, Bool.and_false, Bool.false_and, gs_at, gs_no, oI_n, oI_s, h7, o7, heq, c7, o3, q, a1, Nat.add_sub_cancel]
          · simp (disch := omega) only [l_0, l_1, l_2, l_3, l_4, l_5, l_6, l_7, l_8, l_9, l_10, l_11, l_12, l_13, l_14, l_16, l_20, l_21, l_23, l_24, l_30, l_32, l_40, l_41, l_44, l_48, l_57, l_59, l_60, l_63, l_64, l_80, l_84, l_96, l_97, l_99, l_120, l_122, l_127, l_200, l_240, l_255, l_840, l_999, l_1000, l_1001, l_2400, l_3064, l_9999, l_10000, l_13849, l_16383, l_25173, l_65535, l_65536, l_99999, l_1000000000, neg_nI, pk_mul, nI_add, nI_subL, tn_nI, inb_t, grd_true, bnd_some, elS_l, elS_r, nI_ltI, nI_leI, nI_inj, fa_and, fa_or, m1_eq, eq_m1, m1_lt, m1_le, lt_m1, le_m1, m1_lt0, up2_at, up2_no, ite_true, ite_false, if_true, if_false, Bool.false_eq_true, reduceIte, reduceCtorEq, not_true_eq_false, not_false_eq_true, eq_self, decide_true, decide_false, le_tt, le_ff, lt_tt, lt_ff, eq_ff, and_true, true_and, and_false, false_and, or_true, true_or, or_false, false_or, ne_eq, decide_eq_true_eq, decide_eq_false_iff_not, Bool.not_true, Bool.not_false, Bool.and_true, Bool.true_and, Bool.and_false, Bool.false_and, gs_at, gs_no, oI_n, oI_s, h7, o7, heq, c7, o3, q, a1, Nat.add_sub_cancel]
        · have hb : ¬ enB g T i = true := fun q => c3 (of_decide_eq_true q).1
          rw [if_neg hb, if_neg hb]
          refine ⟨(nI (fb_ct (enB g T) i), nI (i + 1), M1), ?_, rfl, rfl, e3⟩
          simp (disch := omega) only [l_0, l_1, l_2, l_3, l_4, l_5, l_6, l_7, l_8, l_9, l_10, l_11, l_12, l_13, l_14, l_16, l_20, l_21, l_23, l_24, l_30, l_32, l_40, l_41, l_44, l_48, l_57, l_59, l_60, l_63, l_64, l_80, l_84, l_96, l_97, l_99, l_120, l_122, l_127, l_200, l_240, l_255, l_840, l_999, l_1000, l_1001, l_2400, l_3064, l_9999, l_10000, l_13849, l_16383, l_25173, l_65535, l_65536, l_99999, l_1000000000, neg_nI, pk_mul, nI_add, nI_subL, tn_nI, inb_t, grd_true, bnd_some, elS_l, elS_r, nI_ltI, nI_leI, nI_inj, fa_and, fa_or, m1_eq, eq_m1, m1_lt, m1_le, lt_m1, le_m1, m1_lt0, up2_at, up2_no, ite_true, ite_false, if_true, if_false, Bool.false_eq_true, reduceIte, reduceCtorEq, not_true_eq_false, not_false_eq_true, eq_self, decide_true, decide_false, le_tt, le_ff, lt_tt, lt_ff, eq_ff, and_true, true_and, and_false, false_and, or_true, true_or, or_false, false_or, ne_eq, decide_eq_true_eq, decide_eq_false_iff_not, Bool.not_true, Bool.not_false, Bool.and_true, Bool.true_and, Bool.and_false, Bool.false_and, gs_at, gs_no, oI_n, oI_s, h7, o7, heq, c7, o3, Nat.add_sub_cancel, show (g (64 + 10 * i + 3) = 0) = False from eq_false (fun q => c3 (.inl q)), show (g (64 + 10 * i + 3) = 2) = False from eq_false (fun q => c3 (.inr q))]
      · have hb : ¬ enB g T i = true := fun q => c7 (of_decide_eq_true q).2
        rw [if_neg hb, if_neg hb]
        refine ⟨(nI (fb_ct (enB g T) i), nI (i + 1), M1), ?_, rfl, rfl, e3⟩
        simp (disch := omega) only [l_0, l_1, l_2, l_3, l_4, l_5, l_6, l_7, l_8, l_9, l_10, l_11, l_12, l_13, l_14, l_16, l_20, l_21, l_23, l_24, l_30, l_32, l_40, l_41, l_44, l_48, l_57, l_59, l_60, l_63, l_64, l_80, l_84, l_96, l_97, l_99, l_120, l_122, l_127, l_200, l_240, l_255, l_840, l_999, l_1000, l_1001, l_2400, l_3064, l_9999, l_10000, l_13849, l_16383, l_25173, l_65535, l_65536, l_99999, l_1000000000, neg_nI, pk_mul, nI_add, nI_subL, tn_nI, inb_t, grd_true, bnd_some, elS_l, elS_r, nI_ltI, nI_leI, nI_inj, fa_and, fa_or, m1_eq, eq_m1, m1_lt, m1_le, lt_m1, le_m1, m1_lt0, up2_at, up2_no, ite_true, ite_false, if_true, if_false, Bool.false_eq_true, reduceIte, reduceCtorEq, not_true_eq_false, not_false_eq_true, eq_self, decide_true, decide_false, le_tt, le_ff, lt_tt, lt_ff, eq_ff, and_true, true_and, and_false, false_and, or_true, true_or, or_false, false_or, ne_eq, decide_eq_true_eq, decide_eq_false_iff_not, Bool.not_true, Bool.not_false, Bool.and_true, Bool.true_and, Bool.and_false, Bool.false_and, gs_at, gs_no, oI_n, oI_s, h7, o7, heq, c7]
    · rintro ⟨s1, s2, M1⟩ ⟨e1, e2, e3⟩
      simp only at e1 e2 e3
      subst e1 e2
      have h7 := e3.lo (k := 7) (by omega)
      rw [of_lo (by omega)] at h7
      refine ⟨(nI (fb_ct (enB g T) (g 7)), M1), ?_, rfl, e3⟩
      show Fm_ends_b4 (nI T) _ (nI (g 7)) M1 = _
      unfold Fm_ends_b4
      simp (disch := omega) only [l_0, l_1, l_2, l_3, l_4, l_5, l_6, l_7, l_8, l_9, l_10, l_11, l_12, l_13, l_14, l_16, l_20, l_21, l_23, l_24, l_30, l_32, l_40, l_41, l_44, l_48, l_57, l_59, l_60, l_63, l_64, l_80, l_84, l_96, l_97, l_99, l_120, l_122, l_127, l_200, l_240, l_255, l_840, l_999, l_1000, l_1001, l_2400, l_3064, l_9999, l_10000, l_13849, l_16383, l_25173, l_65535, l_65536, l_99999, l_1000000000, neg_nI, pk_mul, nI_add, nI_subL, tn_nI, inb_t, grd_true, bnd_some, elS_l, elS_r, nI_ltI, nI_leI, nI_inj, fa_and, fa_or, m1_eq, eq_m1, m1_lt, m1_le, lt_m1, le_m1, m1_lt0, up2_at, up2_no, ite_true, ite_false, if_true, if_false, Bool.false_eq_true, reduceIte, reduceCtorEq, not_true_eq_false, not_false_eq_true, eq_self, decide_true, decide_false, le_tt, le_ff, lt_tt, lt_ff, eq_ff, and_true, true_and, and_false, false_and, or_true, true_or, or_false, false_or, ne_eq, decide_eq_true_eq, decide_eq_false_iff_not, Bool.not_true, Bool.not_false, Bool.and_true, Bool.true_and, Bool.and_false, Bool.false_and, gs_at, gs_no, oI_n, oI_s, h7]
  obtain ⟨r, r1, r2, r3⟩ := hlp
  have hrun : Fm_ends n (nI T) M = some (nI (fb_ct (enB g T) (g 7)), r.2) := by
    unfold Fm_ends
    simp (disch := omega) only [l_0, l_1, l_2, l_3, l_4, l_5, l_6, l_7, l_8, l_9, l_10, l_11, l_12, l_13, l_14, l_16, l_20, l_21, l_23, l_24, l_30, l_32, l_40, l_41, l_44, l_48, l_57, l_59, l_60, l_63, l_64, l_80, l_84, l_96, l_97, l_99, l_120, l_122, l_127, l_200, l_240, l_255, l_840, l_999, l_1000, l_1001, l_2400, l_3064, l_9999, l_10000, l_13849, l_16383, l_25173, l_65535, l_65536, l_99999, l_1000000000, neg_nI, pk_mul, nI_add, nI_subL, tn_nI, inb_t, grd_true, bnd_some, elS_l, elS_r, nI_ltI, nI_leI, nI_inj, fa_and, fa_or, m1_eq, eq_m1, m1_lt, m1_le, lt_m1, le_m1, m1_lt0, up2_at, up2_no, ite_true, ite_false, if_true, if_false, Bool.false_eq_true, reduceIte, reduceCtorEq, not_true_eq_false, not_false_eq_true, eq_self, decide_true, decide_false, le_tt, le_ff, lt_tt, lt_ff, eq_ff, and_true, true_and, and_false, false_and, or_true, true_or, or_false, false_or, ne_eq, decide_eq_true_eq, decide_eq_false_iff_not, Bool.not_true, Bool.not_false, Bool.and_true, Bool.true_and, Bool.and_false, Bool.false_and, gs_at, gs_no, oI_n, oI_s, r1, r2]
  have hfr := fr_Fm_ends hrun
  exact ⟨r.2, hrun, r3, hfr⟩
theorem tick_m {M : Mm} {g : Nat → Nat} {h : Nat → Int32} {n m : Nat} (hg : GV g) (hF : FK M g h) (hm : g 5 + m ≤ 99999) (hm2 : m ≤ 1000) (hn : 2000 < n) : ∃ M', loop (fun s1 : Int32 × Int32 × Mm => Fm_ticks_b34 n (nI m) s1.1 s1.2.1 s1.2.2) n (nI 0, nI 0, M) = some (nI (fb_ct (duB g (g 5 + m)) (g 7)), M') ∧ FK M' (gs (ofS g (duB g (g 5 + m)) (g 7)) 5 (g 5 + m)) h ∧ Fr (fun c _ => c = 95) M M' := by
  have hG := hg.1.1
  have h40 := hg.2.2
  have hz : ∀ d, d < g 7 → duB g (g 5 + 0) d = false := fun d hd => decide_eq_false (fun q => by
    rcases (hg.2.1.2 d hd).2.2.2.2.2.2.2 q.1 with w | w <;> omega)
  have hlp : ∃ r, loop (fun s1 : Int32 × Int32 × Mm => Fm_ticks_b34 n (nI m) s1.1 s1.2.1 s1.2.2) n (nI 0, nI 0, M) = some r ∧ (r.1 = nI (fb_ct (duB g (g 5 + m)) (g 7)) ∧ FK r.2 (gs (ofS g (duB g (g 5 + m)) (g 7)) 5 (g 5 + m)) h ∧ Fr (fun c _ => c = 95) M r.2) := by
    refine loop_I0 (fun j (st : Int32 × Int32 × Mm) => st.1 = nI (fb_ct (duB g (g 5 + j)) (g 7)) ∧ st.2.1 = nI j ∧ FK st.2.2 (gs (ofS g (duB g (g 5 + j)) (g 7)) 5 (g 5 + j)) h ∧ Fr (fun c _ => c = 95) M st.2.2) _ m ⟨?_, rfl, ?_, Fr.rf⟩ (by omega) ?_ ?_
    · rw [fb_ct_zero.mpr hz]
    · rw [of_cong (Q := fun _ => false) hz]
      have : ofS g (fun _ => false) (g 7) = g := funext fun i => if_neg (by simp)
      rw [this, Nat.add_zero, gs_self]
      exact hF
    · rintro j ⟨s1, s2, M1⟩ hj ⟨e1, e2, e3, e4⟩
      simp only at e1 e2 e3 e4
      subst e1 e2
      left
      have h5 := e3.lo (k := 5) (by omega)
      rw [gs_at] at h5
      have hF2 : FK (up2 M1.1 95 5 (nI (g 5 + j + 1)), M1.2) (gs (ofS g (duB g (g 5 + j)) (g 7)) 5 (g 5 + j + 1)) h := by
        have := e3.set (k := 5) (v := g 5 + j + 1) (x := nI (g 5 + j + 1)) (by omega) (by rw [iv_lo (by omega), gs_at])
        have e : gs (gs (ofS g (duB g (g 5 + j)) (g 7)) 5 (g 5 + j)) 5 (g 5 + j + 1) = gs (ofS g (duB g (g 5 + j)) (g 7)) 5 (g 5 + j + 1) := by
          funext i
          unfold gs
          by_cases c : i = 5
          · rw [if_pos c, if_pos c]
          · rw [if_neg c, if_neg c, if_neg c]
        rw [e] at this
        exact this
      have hG2 : GB (gs (ofS g (duB g (g 5 + j)) (g 7)) 5 (g 5 + j + 1)) := GB_gs (of_W hg.1 _).1 (by omega) (by omega)
      obtain ⟨M2, a1, a2, a3⟩ := Fm_ends_e (n := n) (T := g 5 + j + 1) hG2 hF2 (by omega) (by omega)
      rw [gs_no (by omega), of_lo (by omega)] at a1 a2
      have hQ : ∀ d, d < g 7 → enB (gs (ofS g (duB g (g 5 + j)) (g 7)) 5 (g 5 + j + 1)) (g 5 + j + 1) d = decide ((g (64 + 10 * d + 3) = 0 ∨ g (64 + 10 * d + 3) = 2) ∧ g (64 + 10 * d + 7) = g 5 + j + 1 + 1) := fun d hd => by
        unfold enB
        rw [gs_no (by omega), gs_no (by omega), of_w (w := 7) (by omega) (by omega), of_3]
        refine decide_eq_decide.mpr ?_
        by_cases c : d < g 7 ∧ duB g (g 5 + j) d = true
        · rw [if_pos c]
          have := of_decide_eq_true c.2
          omega
        · rw [if_neg c]
      have hpq : ∀ d, d < g 7 → (duB g (g 5 + j) d || enB (gs (ofS g (duB g (g 5 + j)) (g 7)) 5 (g 5 + j + 1)) (g 5 + j + 1) d) = duB g (g 5 + (j + 1)) d := fun d hd => by
        rw [hQ d hd]
        unfold duB
        rw [Bool.eq_iff_iff, Bool.or_eq_true, decide_eq_true_eq, decide_eq_true_eq, decide_eq_true_eq]
        omega
      have hdis : ∀ d, d < g 7 → ¬ (duB g (g 5 + j) d = true ∧ enB (gs (ofS g (duB g (g 5 + j)) (g 7)) 5 (g 5 + j + 1)) (g 5 + j + 1) d = true) := fun d hd q => by
        rw [hQ d hd] at q
        have w1 := of_decide_eq_true q.1
        have w2 := of_decide_eq_true q.2
        omega
      have hct := fb_ct_or hdis
      rw [fb_ct_cong hpq] at hct
      have hle1 := fb_ct_le (duB g (g 5 + j)) (g 7)
      have hle2 := fb_ct_le (enB (gs (ofS g (duB g (g 5 + j)) (g 7)) 5 (g 5 + j + 1)) (g 5 + j + 1)) (g 7)
      refine ⟨(nI (fb_ct (duB g (g 5 + (j + 1))) (g 7)), nI (j + 1), M2), ?_, rfl, rfl, ?_, (Fr.I e4 rfl).tr a3⟩
      · show Fm_ticks_b34 n (nI m) (nI (fb_ct (duB g (g 5 + j)) (g 7))) (nI j) M1 = _
        rw [hct]
        unfold Fm_ticks_b34
        simp (disch := omega) only [l_0, l_1, l_2, l_3, l_4, l_5, l_6, l_7, l_8, l_9, l_10, l_11, l_12, l_13, l_14, l_16, l_20, l_21, l_23, l_24, l_30, l_32, l_40, l_41, l_44, l_48, l_57, l_59, l_60, l_63, l_64, l_80, l_84, l_96, l_97, l_99, l_120, l_122, l_127, l_200, l_240, l_255, l_840, l_999, l_1000, l_1001, l_2400, l_3064, l_9999, l_10000, l_13849, l_16383, l_25173, l_65535, l_65536, l_99999, l_1000000000, neg_nI, pk_mul, nI_add, nI_subL, tn_nI, inb_t, grd_true, bnd_some, elS_l, elS_r, nI_ltI, nI_leI, nI_inj, fa_and, fa_or, m1_eq, eq_m1, m1_lt, m1_le, lt_m1, le_m1, m1_lt0, up2_at, up2_no, ite_true, ite_false, if_true, if_false, Bool.false_eq_true, reduceIte, reduceCtorEq, not_true_eq_false, not_false_eq_true, eq_self, decide_true, decide_false, le_tt, le_ff, lt_tt, lt_ff, eq_ff, and_true, true_and, and_false, false_and, or_true, true_or, or_false, false_or, ne_eq, decide_eq_true_eq, decide_eq_false_iff_not, Bool.not_true, Bool.not_false, Bool.and_true, Bool.true_and, Bool.and_false, Bool.false_and, gs_at, gs_no, oI_n, oI_s, h5, a1]
      · show FK M2 (gs (ofS g (duB g (g 5 + (j + 1))) (g 7)) 5 (g 5 + (j + 1))) h
        rw [of_gs (by omega), of_of, of_cong hpq] at a2
        exact a2
    · rintro ⟨s1, s2, M1⟩ ⟨e1, e2, e3, e4⟩
      simp only at e1 e2 e3 e4
      subst e1 e2
      refine ⟨(nI (fb_ct (duB g (g 5 + m)) (g 7)), M1), ?_, rfl, e3, e4⟩
      show Fm_ticks_b34 n (nI m) _ (nI m) M1 = _
      unfold Fm_ticks_b34
      simp (disch := omega) only [l_0, l_1, l_2, l_3, l_4, l_5, l_6, l_7, l_8, l_9, l_10, l_11, l_12, l_13, l_14, l_16, l_20, l_21, l_23, l_24, l_30, l_32, l_40, l_41, l_44, l_48, l_57, l_59, l_60, l_63, l_64, l_80, l_84, l_96, l_97, l_99, l_120, l_122, l_127, l_200, l_240, l_255, l_840, l_999, l_1000, l_1001, l_2400, l_3064, l_9999, l_10000, l_13849, l_16383, l_25173, l_65535, l_65536, l_99999, l_1000000000, neg_nI, pk_mul, nI_add, nI_subL, tn_nI, inb_t, grd_true, bnd_some, elS_l, elS_r, nI_ltI, nI_leI, nI_inj, fa_and, fa_or, m1_eq, eq_m1, m1_lt, m1_le, lt_m1, le_m1, m1_lt0, up2_at, up2_no, ite_true, ite_false, if_true, if_false, Bool.false_eq_true, reduceIte, reduceCtorEq, not_true_eq_false, not_false_eq_true, eq_self, decide_true, decide_false, le_tt, le_ff, lt_tt, lt_ff, eq_ff, and_true, true_and, and_false, false_and, or_true, true_or, or_false, false_or, ne_eq, decide_eq_true_eq, decide_eq_false_iff_not, Bool.not_true, Bool.not_false, Bool.and_true, Bool.true_and, Bool.and_false, Bool.false_and, gs_at, gs_no, oI_n, oI_s]
  obtain ⟨r, r1, r2, r3, r4⟩ := hlp
  exact ⟨r.2, by rw [r1, ← r2], r3, r4⟩
theorem tick_c {M : Mm} {g : Nat → Nat} {n T : Nat} (hW : GW g) (h40 : g 7 ≤ 40) (hE : ∀ d, d < g 7 → g (64 + 10 * d + 7) ≤ 200000) (hS : SV M 18 g) (hT : g 5 = T) (hT2 : T < 200000) (hn : 100 < n) : ∃ M', St_endThoseDue n 18 M = some (nI (fb_ct (duB g T) (g 7)), M') ∧ SV M' 18 (ofS g (duB g T) (g 7)) ∧ Fr (fp_St_endThoseDue 18) M M' := by
  have hG := hW.1
  have hlp : ∃ r, loop (fun s1 : Int32 × Int32 × Mm => St_endThoseDue_b4 n 18 s1.1 s1.2.1 s1.2.2) n (nI 0, nI 0, M) = some r ∧ (r.1 = nI (fb_ct (duB g T) (g 7)) ∧ SV r.2 18 (ofS g (duB g T) (g 7))) := by
    refine loop_I0 (fun i (st : Int32 × Int32 × Mm) => st.1 = nI (fb_ct (duB g T) i) ∧ st.2.1 = nI i ∧ SV st.2.2 18 (ofS g (duB g T) i)) _ (g 7) ⟨rfl, rfl, by rw [of_0]; exact hS⟩ (by omega) ?_ ?_
    · rintro i ⟨s1, s2, M1⟩ hi ⟨e1, e2, e3⟩
      simp only at e1 e2 e3
      subst e1 e2
      left
      have hWi := of_W (P := duB g T) hW i
      have e7 : ofS g (duB g T) i 7 = g 7 := of_lo (by omega)
      have h4 := e3.2.1
      rw [e7] at h4
      have h2 := e3.1.2.2.1
      rw [of_lo (by omega), hT] at h2
      have hi' : i < ofS g (duB g T) i 7 := by rw [e7]; exact hi
      obtain ⟨c1, c2, c3, c4, c5, c6⟩ := e3.2.2.1 i hi'
      rw [of_w (by omega) (by omega)] at c5
      have hld := St_isLitOrDark_e (x := nI i) hWi.1 (by rw [e7]; exact h40) e3
      have hl3 : ofS g (duB g T) i (64 + 10 * i + 3) = g (64 + 10 * i + 3) := by rw [of_3, if_neg (by omega)]
      have g7 := hE i hi
      have hct := fb_ct_le (duB g T) i
      show ∃ s', St_endThoseDue_b4 n 18 (nI (fb_ct (duB g T) i)) (nI i) M1 = some (.inl s') ∧ _
      rw [of_s, fb_ct_succ]
      unfold St_endThoseDue_b4 St_endThoseDue_j51
      by_cases c : g (64 + 10 * i + 3) = 0 ∨ g (64 + 10 * i + 3) = 2
      · have hb : ldB (ofS g (duB g T) i) (nI i) = true := (ld_iff (by rw [e7]; exact h40)).mpr ⟨i, hi', rfl, by rw [hl3]; exact c⟩
        rw [hb] at hld
        by_cases z : g (64 + 10 * i + 7) = 0
        · have hd : ¬ duB g T i = true := fun q => (of_decide_eq_true q).2.1 z
          rw [if_neg hd, if_neg hd]
          refine ⟨(nI (fb_ct (duB g T) i), nI (i + 1), M1), ?_, rfl, rfl, e3⟩
          have c5' : M1.1 29 i = ng 1 := by rw [show M1.1 29 i = nI (g (64 + 10 * i + 7)) - nI 1 from c5, z, z0m1]
          simp (disch := omega) only [l_0, l_1, l_2, l_3, l_4, l_5, l_6, l_7, l_8, l_9, l_10, l_11, l_12, l_13, l_14, l_16, l_20, l_21, l_23, l_24, l_30, l_32, l_40, l_41, l_44, l_48, l_57, l_59, l_60, l_63, l_64, l_80, l_84, l_96, l_97, l_99, l_120, l_122, l_127, l_200, l_240, l_255, l_840, l_999, l_1000, l_1001, l_2400, l_3064, l_9999, l_10000, l_13849, l_16383, l_25173, l_65535, l_65536, l_99999, l_1000000000, neg_nI, pk_mul, nI_add, nI_subL, tn_nI, inb_t, grd_true, bnd_some, elS_l, elS_r, nI_ltI, nI_leI, nI_inj, fa_and, fa_or, m1_eq, eq_m1, m1_lt, m1_le, lt_m1, le_m1, m1_lt0, up2_at, up2_no, ite_true, ite_false, if_true, if_false, Bool.false_eq_true, reduceIte, reduceCtorEq, not_true_eq_false, not_false_eq_true, eq_self, decide_true, decide_false, le_tt, le_ff, lt_tt, lt_ff, eq_ff, and_true, true_and, and_false, false_and, or_true, true_or, or_false, false_or, ne_eq, decide_eq_true_eq, decide_eq_false_iff_not, Bool.not_true, Bool.not_false, Bool.and_true, Bool.true_and, Bool.and_false, Bool.false_and, gs_at, gs_no, oI_n, oI_s, h4, hld, c5']
        · have c5' : M1.1 29 i = nI (g (64 + 10 * i + 7) - 1) := by rw [show M1.1 29 i = nI (g (64 + 10 * i + 7)) - nI 1 from c5, end_e (by omega)]
          by_cases y : g (64 + 10 * i + 7) ≤ T + 1
          · have hd : duB g T i = true := decide_eq_true ⟨c, z, y⟩
            rw [if_pos hd, if_pos hd]
            obtain ⟨M2, a1, a2, a3⟩ := SV_takeOff hWi (by rw [e7]; exact h40) e3 hi' (st := 3) (by omega) (by omega) hn
            refine ⟨(nI (fb_ct (duB g T) i + 1), nI (i + 1), M2), ?_, rfl, rfl, a2⟩
            simp (disch := omega) only [l_0, l_1, l_2, l_3, l_4, l_5, l_6, l_7, l_8, l_9, l_10, l_11, l_12, l_13, l_14, l_16, l_20, l_21, l_23, l_24, l_30, l_32, l_40, l_41, l_44, l_48, l_57, l_59, l_60, l_63, l_64, l_80, l_84, l_96, l_97, l_99, l_120, l_122, l_127, l_200, l_240, l_255, l_840, l_999, l_1000, l_1001, l_2400, l_3064, l_9999, l_10000, l_13849, l_16383, l_25173, l_65535, l_65536, l_99999, l_1000000000, neg_nI, pk_mul, nI_add, nI_subL, tn_nI, inb_t, grd_true, bnd_some, elS_l, elS_r, nI_ltI, nI_leI, nI_inj, fa_and, fa_or, m1_eq, eq_m1, m1_lt, m1_le, lt_m1, le_m1, m1_lt0, up2_at, up2_no, ite_true, ite_false, if_true, if_false, Bool.false_eq_true, reduceIte, reduceCtorEq, not_true_eq_false, not_false_eq_true, eq_self, decide_true, decide_false, le_tt, le_ff, lt_tt, lt_ff, eq_ff, and_true, true_and, and_false, false_and, or_true, true_or, or_false, false_or, ne_eq, decide_eq_true_eq, decide_eq_false_iff_not, Bool.not_true, Bool.not_false, Bool.and_true, Bool.true_and, Bool.and_false, Bool.false_and, gs_at, gs_no, oI_n, oI_s, h4, hld, c5', h2, a1]
          · have hd : ¬ duB g T i = true := fun q => y (of_decide_eq_true q).2.2
            rw [if_neg hd, if_neg hd]
            refine ⟨(nI (fb_ct (duB g T) i), nI (i + 1), M1), ?_, rfl, rfl, e3⟩
            simp (disch := omega) only [l_0, l_1, l_2, l_3, l_4, l_5, l_6, l_7, l_8, l_9, l_10, l_11, l_12, l_13, l_14, l_16, l_20, l_21, l_23, l_24, l_30, l_32, l_40, l_41, l_44, l_48, l_57, l_59, l_60, l_63, l_64, l_80, l_84, l_96, l_97, l_99, l_120, l_122, l_127, l_200, l_240, l_255, l_840, l_999, l_1000, l_1001, l_2400, l_3064, l_9999, l_10000, l_13849, l_16383, l_25173, l_65535, l_65536, l_99999, l_1000000000, neg_nI, pk_mul, nI_add, nI_subL, tn_nI, inb_t, grd_true, bnd_some, elS_l, elS_r, nI_ltI, nI_leI, nI_inj, fa_and, fa_or, m1_eq, eq_m1, m1_lt, m1_le, lt_m1, le_m1, m1_lt0, up2_at, up2_no, ite_true, ite_false, if_true, if_false, Bool.false_eq_true, reduceIte, reduceCtorEq, not_true_eq_false, not_false_eq_true, eq_self, decide_true, decide_false, le_tt, le_ff, lt_tt, lt_ff, eq_ff, and_true, true_and, and_false, false_and, or_true, true_or, or_false, false_or, ne_eq, decide_eq_true_eq, decide_eq_false_iff_not, Bool.not_true, Bool.not_false, Bool.and_true, Bool.true_and, Bool.and_false, Bool.false_and, gs_at, gs_no, oI_n, oI_s, h4, hld, c5', h2]
      · have hb : ldB (ofS g (duB g T) i) (nI i) = false := by
          rw [← Bool.not_eq_true, ld_iff (by rw [e7]; exact h40)]
          rintro ⟨d, q1, q2, q3⟩
          rw [← (nI_inj (by omega) (by rw [e7] at q1; omega)).mp q2, hl3] at q3
          exact c q3
        rw [hb] at hld
        have hd : ¬ duB g T i = true := fun q => c (of_decide_eq_true q).1
        rw [if_neg hd, if_neg hd]
        refine ⟨(nI (fb_ct (duB g T) i), nI (i + 1), M1), ?_, rfl, rfl, e3⟩
        simp (disch := omega) only [l_0, l_1, l_2, l_3, l_4, l_5, l_6, l_7, l_8, l_9, l_10, l_11, l_12, l_13, l_14, l_16, l_20, l_21, l_23, l_24, l_30, l_32, l_40, l_41, l_44, l_48, l_57, l_59, l_60, l_63, l_64, l_80, l_84, l_96, l_97, l_99, l_120, l_122, l_127, l_200, l_240, l_255, l_840, l_999, l_1000, l_1001, l_2400, l_3064, l_9999, l_10000, l_13849, l_16383, l_25173, l_65535, l_65536, l_99999, l_1000000000, neg_nI, pk_mul, nI_add, nI_subL, tn_nI, inb_t, grd_true, bnd_some, elS_l, elS_r, nI_ltI, nI_leI, nI_inj, fa_and, fa_or, m1_eq, eq_m1, m1_lt, m1_le, lt_m1, le_m1, m1_lt0, up2_at, up2_no, ite_true, ite_false, if_true, if_false, Bool.false_eq_true, reduceIte, reduceCtorEq, not_true_eq_false, not_false_eq_true, eq_self, decide_true, decide_false, le_tt, le_ff, lt_tt, lt_ff, eq_ff, and_true, true_and, and_false, false_and, or_true, true_or, or_false, false_or, ne_eq, decide_eq_true_eq, decide_eq_false_iff_not, Bool.not_true, Bool.not_false, Bool.and_true, Bool.true_and, Bool.and_false, Bool.false_and, gs_at, gs_no, oI_n, oI_s, h4, hld]
    · rintro ⟨s1, s2, M1⟩ ⟨e1, e2, e3⟩
      simp only at e1 e2 e3
      subst e1 e2
      have h4 := e3.2.1
      rw [of_lo (by omega)] at h4
      refine ⟨(nI (fb_ct (duB g T) (g 7)), M1), ?_, rfl, e3⟩
      show St_endThoseDue_b4 n 18 _ (nI (g 7)) M1 = _
      unfold St_endThoseDue_b4
      simp (disch := omega) only [l_0, l_1, l_2, l_3, l_4, l_5, l_6, l_7, l_8, l_9, l_10, l_11, l_12, l_13, l_14, l_16, l_20, l_21, l_23, l_24, l_30, l_32, l_40, l_41, l_44, l_48, l_57, l_59, l_60, l_63, l_64, l_80, l_84, l_96, l_97, l_99, l_120, l_122, l_127, l_200, l_240, l_255, l_840, l_999, l_1000, l_1001, l_2400, l_3064, l_9999, l_10000, l_13849, l_16383, l_25173, l_65535, l_65536, l_99999, l_1000000000, neg_nI, pk_mul, nI_add, nI_subL, tn_nI, inb_t, grd_true, bnd_some, elS_l, elS_r, nI_ltI, nI_leI, nI_inj, fa_and, fa_or, m1_eq, eq_m1, m1_lt, m1_le, lt_m1, le_m1, m1_lt0, up2_at, up2_no, ite_true, ite_false, if_true, if_false, Bool.false_eq_true, reduceIte, reduceCtorEq, not_true_eq_false, not_false_eq_true, eq_self, decide_true, decide_false, le_tt, le_ff, lt_tt, lt_ff, eq_ff, and_true, true_and, and_false, false_and, or_true, true_or, or_false, false_or, ne_eq, decide_eq_true_eq, decide_eq_false_iff_not, Bool.not_true, Bool.not_false, Bool.and_true, Bool.true_and, Bool.and_false, Bool.false_and, gs_at, gs_no, oI_n, oI_s, h4]
  obtain ⟨r, r1, r2, r3⟩ := hlp
  have hrun : St_endThoseDue n 18 M = some (nI (fb_ct (duB g T) (g 7)), r.2) := by
    unfold St_endThoseDue
    simp (disch := omega) only [l_0, l_1, l_2, l_3, l_4, l_5, l_6, l_7, l_8, l_9, l_10, l_11, l_12, l_13, l_14, l_16, l_20, l_21, l_23, l_24, l_30, l_32, l_40, l_41, l_44, l_48, l_57, l_59, l_60, l_63, l_64, l_80, l_84, l_96, l_97, l_99, l_120, l_122, l_127, l_200, l_240, l_255, l_840, l_999, l_1000, l_1001, l_2400, l_3064, l_9999, l_10000, l_13849, l_16383, l_25173, l_65535, l_65536, l_99999, l_1000000000, neg_nI, pk_mul, nI_add, nI_subL, tn_nI, inb_t, grd_true, bnd_some, elS_l, elS_r, nI_ltI, nI_leI, nI_inj, fa_and, fa_or, m1_eq, eq_m1, m1_lt, m1_le, lt_m1, le_m1, m1_lt0, up2_at, up2_no, ite_true, ite_false, if_true, if_false, Bool.false_eq_true, reduceIte, reduceCtorEq, not_true_eq_false, not_false_eq_true, eq_self, decide_true, decide_false, le_tt, le_ff, lt_tt, lt_ff, eq_ff, and_true, true_and, and_false, false_and, or_true, true_or, or_false, false_or, ne_eq, decide_eq_true_eq, decide_eq_false_iff_not, Bool.not_true, Bool.not_false, Bool.and_true, Bool.true_and, Bool.and_false, Bool.false_and, gs_at, gs_no, oI_n, oI_s, r1, r2]
  have hfr := fr_St_endThoseDue hrun
  exact ⟨r.2, hrun, r3, hfr⟩
theorem GV_tick {g : Nat → Nat} (hg : GV g) {T : Nat} (hT : T ≤ 99999) : GV (gs (ofS g (duB g T) (g 7)) 5 T) := by
  have hW := of_W (P := duB g T) hg.1 (g 7)
  refine ⟨GW_cong hW (GB_gs hW.1 (by omega) (by omega)) (fun j _ _ q _ _ => gs_no q) (by rw [gs_no (by omega)]; exact hW.2.1.1.2.2.2.2.2.2) (fun d _ w _ _ => gs_no (by omega)), ⟨?_, fun d hd => ?_⟩, ?_⟩
  · rw [gs_at, gs_no (by omega), gs_no (by omega), of_lo (by omega), of_lo (by omega)]
    exact ⟨hT, hg.2.1.1.2⟩
  · rw [gs_no (by omega), of_lo (by omega)] at hd
    obtain ⟨a1, a2, a3, a4, a5, a6, a7, a8⟩ := hg.2.1.2 d hd
    rw [gs_at, gs_no (j := 0) (by omega), of_lo (j := 0) (by omega), gs_no (j := 64 + 10 * d + 0) (by omega), gs_no (j := 64 + 10 * d + 1) (by omega), gs_no (j := 64 + 10 * d + 2) (by omega), gs_no (j := 64 + 10 * d + 3) (by omega), gs_no (j := 64 + 10 * d + 7) (by omega), of_w (w := 0) (by omega) (by omega), of_w (w := 1) (by omega) (by omega), of_w (w := 2) (by omega) (by omega), of_w (w := 7) (by omega) (by omega), of_3]
    by_cases c : d < g 7 ∧ duB g T d = true
    · rw [if_pos c]
      exact ⟨a1, a2, a3, a4, a5, by omega, a7, fun q => by omega⟩
    · rw [if_neg c]
      refine ⟨a1, a2, a3, a4, a5, a6, a7, fun q => ?_⟩
      have : ¬ duB g T d = true := fun w => c ⟨hd, w⟩
      unfold duB at this
      rw [decide_eq_true_eq] at this
      omega
  · rw [gs_no (by omega), of_lo (by omega)]
    exact hg.2.2
theorem op_ticks {n : Nat} (hn : 2000 < n) (x : Int32) : T2 (Fg_ticks n x) (Fm_ticks n x) := by
  intro g hg
  have hG := hg.1.1
  have h40 := hg.2.2
  have q5 := hg.2.1.1.1
  by_cases hx : rg x 1 1000 = true
  · obtain ⟨m, m1, m2, rfl⟩ := (rg_iff (by decide)).mp hx
    by_cases hm : g 5 + m ≤ 99999
    · refine ⟨nI (fb_ct (duB g (g 5 + m)) (g 7)), gs (ofS g (duB g (g 5 + m)) (g 7)) 5 (g 5 + m), GV_tick hg hm, fun M hS hA => ?_, fun M h hF => ?_⟩
      · have hf : Fr (fun c j => c = 18 ∧ j = 2) M (up2 M.1 18 2 (nI (g 5 + m)), M.2) := Fr.I Fr.rf ⟨rfl, rfl⟩
        have hS1 : SV (up2 M.1 18 2 (nI (g 5 + m)), M.2) 18 (gs g 5 (g 5 + m)) := by
          refine hS.cong hf (fun a j h1 h2 => by omega) hg.1.2.1.1.2.2.2.2.2.1 (fun j _ _ q _ => gs_no q) ?_ ?_ ?_ (fun d _ w _ => gs_no (by omega)) (fun d hd => ?_)
          · rw [gs_no (by omega), ← hS.1.2.1]; exact (hf 18 1 (by omega)).1
          · rw [gs_at]; show up2 M.1 18 2 (nI (g 5 + m)) 18 2 = _; exact up2_at
          · rw [gs_no (by omega), ← hS.1.2.2.2]; exact (hf 18 3 (by omega)).1
          · rw [gs_no (by omega), ← (hS.2.2.1 d hd).2.2.2.2.1]; exact (hf _ _ (by omega)).1
        have hW1 : GW (gs g 5 (g 5 + m)) := GW_cong hg.1 (GB_gs hG (by omega) (by omega)) (fun j _ _ q _ _ => gs_no q) (by rw [gs_no (by omega)]; exact hg.1.2.1.1.2.2.2.2.2.2) (fun d _ w _ _ => gs_no (by omega))
        obtain ⟨M', a1, a2, a3⟩ := tick_c (n := n) (T := g 5 + m) hW1 (by rw [gs_no (by omega)]; exact h40) (fun d hd => by
          rw [gs_no (by omega)] at hd ⊢
          exact (hg.2.1.2 d hd).2.2.2.2.2.2.1) hS1 gs_at (by omega) (by omega)
        have hdu : duB (gs g 5 (g 5 + m)) (g 5 + m) = duB g (g 5 + m) := by
          funext d
          unfold duB
          rw [gs_no (by omega), gs_no (by omega)]
        rw [hdu, gs_no (by omega)] at a1 a2
        rw [of_gs (by omega)] at a2
        refine TC.mk (P := fun c j => fp_St_endThoseDue 18 c j ∨ c = 18) hg hA ?_ a2 ((hf.mono (fun c j q => .inr q.1)).tr (a3.mono (fun c j q => .inl q))) (fun c j q => by unfold fp_St_endThoseDue at q; unfold PC; omega) (fun j h1 h2 h3 => by rw [gs_no (by omega), of_lo h1])
        unfold Fg_ticks
        simp (disch := omega) only [l_0, l_1, l_2, l_3, l_4, l_5, l_6, l_7, l_8, l_9, l_10, l_11, l_12, l_13, l_14, l_16, l_20, l_21, l_23, l_24, l_30, l_32, l_40, l_41, l_44, l_48, l_57, l_59, l_60, l_63, l_64, l_80, l_84, l_96, l_97, l_99, l_120, l_122, l_127, l_200, l_240, l_255, l_840, l_999, l_1000, l_1001, l_2400, l_3064, l_9999, l_10000, l_13849, l_16383, l_25173, l_65535, l_65536, l_99999, l_1000000000, neg_nI, pk_mul, nI_add, nI_subL, tn_nI, inb_t, grd_true, bnd_some, elS_l, elS_r, nI_ltI, nI_leI, nI_inj, fa_and, fa_or, m1_eq, eq_m1, m1_lt, m1_le, lt_m1, le_m1, m1_lt0, up2_at, up2_no, ite_true, ite_false, if_true, if_false, Bool.false_eq_true, reduceIte, reduceCtorEq, not_true_eq_false, not_false_eq_true, eq_self, decide_true, decide_false, le_tt, le_ff, lt_tt, lt_ff, eq_ff, and_true, true_and, and_false, false_and, or_true, true_or, or_false, false_or, ne_eq, decide_eq_true_eq, decide_eq_false_iff_not, Bool.not_true, Bool.not_false, Bool.and_true, Bool.true_and, Bool.and_false, Bool.false_and, gs_at, gs_no, oI_n, oI_s, hS.1.2.2.1, a1]
      · obtain ⟨M', a1, a2, a3⟩ := tick_m hg hF hm m2 hn
        refine TM.mk ?_ a2 a3 (fun c j q => .inl q)
        unfold Fm_ticks
        rw [l_1, l_1000, Fm_in_x (by decide) (by decide), hx]
        simp (disch := omega) only [l_0, l_1, l_2, l_3, l_4, l_5, l_6, l_7, l_8, l_9, l_10, l_11, l_12, l_13, l_14, l_16, l_20, l_21, l_23, l_24, l_30, l_32, l_40, l_41, l_44, l_48, l_57, l_59, l_60, l_63, l_64, l_80, l_84, l_96, l_97, l_99, l_120, l_122, l_127, l_200, l_240, l_255, l_840, l_999, l_1000, l_1001, l_2400, l_3064, l_9999, l_10000, l_13849, l_16383, l_25173, l_65535, l_65536, l_99999, l_1000000000, neg_nI, pk_mul, nI_add, nI_subL, tn_nI, inb_t, grd_true, bnd_some, elS_l, elS_r, nI_ltI, nI_leI, nI_inj, fa_and, fa_or, m1_eq, eq_m1, m1_lt, m1_le, lt_m1, le_m1, m1_lt0, up2_at, up2_no, ite_true, ite_false, if_true, if_false, Bool.false_eq_true, reduceIte, reduceCtorEq, not_true_eq_false, not_false_eq_true, eq_self, decide_true, decide_false, le_tt, le_ff, lt_tt, lt_ff, eq_ff, and_true, true_and, and_false, false_and, or_true, true_or, or_false, false_or, ne_eq, decide_eq_true_eq, decide_eq_false_iff_not, Bool.not_true, Bool.not_false, Bool.and_true, Bool.true_and, Bool.and_false, Bool.false_and, gs_at, gs_no, oI_n, oI_s, hF.lo, a1]
    · refine ⟨ng 3, g, hg, fun M hS hA => TC.id hS hA ?_, fun M h hF => TM.id hF ?_⟩
      · unfold Fg_ticks
        simp (disch := omega) only [l_0, l_1, l_2, l_3, l_4, l_5, l_6, l_7, l_8, l_9, l_10, l_11, l_12, l_13, l_14, l_16, l_20, l_21, l_23, l_24, l_30, l_32, l_40, l_41, l_44, l_48, l_57, l_59, l_60, l_63, l_64, l_80, l_84, l_96, l_97, l_99, l_120, l_122, l_127, l_200, l_240, l_255, l_840, l_999, l_1000, l_1001, l_2400, l_3064, l_9999, l_10000, l_13849, l_16383, l_25173, l_65535, l_65536, l_99999, l_1000000000, neg_nI, pk_mul, nI_add, nI_subL, tn_nI, inb_t, grd_true, bnd_some, elS_l, elS_r, nI_ltI, nI_leI, nI_inj, fa_and, fa_or, m1_eq, eq_m1, m1_lt, m1_le, lt_m1, le_m1, m1_lt0, up2_at, up2_no, ite_true, ite_false, if_true, if_false, Bool.false_eq_true, reduceIte, reduceCtorEq, not_true_eq_false, not_false_eq_true, eq_self, decide_true, decide_false, le_tt, le_ff, lt_tt, lt_ff, eq_ff, and_true, true_and, and_false, false_and, or_true, true_or, or_false, false_or, ne_eq, decide_eq_true_eq, decide_eq_false_iff_not, Bool.not_true, Bool.not_false, Bool.and_true, Bool.true_and, Bool.and_false, Bool.false_and, gs_at, gs_no, oI_n, oI_s, hS.1.2.2.1]
      · unfold Fm_ticks
        rw [l_1, l_1000, Fm_in_x (by decide) (by decide), hx]
        simp (disch := omega) only [l_0, l_1, l_2, l_3, l_4, l_5, l_6, l_7, l_8, l_9, l_10, l_11, l_12, l_13, l_14, l_16, l_20, l_21, l_23, l_24, l_30, l_32, l_40, l_41, l_44, l_48, l_57, l_59, l_60, l_63, l_64, l_80, l_84, l_96, l_97, l_99, l_120, l_122, l_127, l_200, l_240, l_255, l_840, l_999, l_1000, l_1001, l_2400, l_3064, l_9999, l_10000, l_13849, l_16383, l_25173, l_65535, l_65536, l_99999, l_1000000000, neg_nI, pk_mul, nI_add, nI_subL, tn_nI, inb_t, grd_true, bnd_some, elS_l, elS_r, nI_ltI, nI_leI, nI_inj, fa_and, fa_or, m1_eq, eq_m1, m1_lt, m1_le, lt_m1, le_m1, m1_lt0, up2_at, up2_no, ite_true, ite_false, if_true, if_false, Bool.false_eq_true, reduceIte, reduceCtorEq, not_true_eq_false, not_false_eq_true, eq_self, decide_true, decide_false, le_tt, le_ff, lt_tt, lt_ff, eq_ff, and_true, true_and, and_false, false_and, or_true, true_or, or_false, false_or, ne_eq, decide_eq_true_eq, decide_eq_false_iff_not, Bool.not_true, Bool.not_false, Bool.and_true, Bool.true_and, Bool.and_false, Bool.false_and, gs_at, gs_no, oI_n, oI_s, hF.lo]
  · have hx' := ts_nt hx
    refine ⟨ng 1, g, hg, fun M hS hA => TC.id hS hA ?_, fun M h hF => TM.id hF ?_⟩
    · unfold Fg_ticks
      rcases i32c x with ⟨k, hk, rfl⟩ | h
      · rw [rg_n hk] at hx'
        have := of_decide_eq_false hx'
        by_cases c : k < 1
        · simp (disch := omega) only [l_0, l_1, l_2, l_3, l_4, l_5, l_6, l_7, l_8, l_9, l_10, l_11, l_12, l_13, l_14, l_16, l_20, l_21, l_23, l_24, l_30, l_32, l_40, l_41, l_44, l_48, l_57, l_59, l_60, l_63, l_64, l_80, l_84, l_96, l_97, l_99, l_120, l_122, l_127, l_200, l_240, l_255, l_840, l_999, l_1000, l_1001, l_2400, l_3064, l_9999, l_10000, l_13849, l_16383, l_25173, l_65535, l_65536, l_99999, l_1000000000, neg_nI, pk_mul, nI_add, nI_subL, tn_nI, inb_t, grd_true, bnd_some, elS_l, elS_r, nI_ltI, nI_leI, nI_inj, fa_and, fa_or, m1_eq, eq_m1, m1_lt, m1_le, lt_m1, le_m1, m1_lt0, up2_at, up2_no, ite_true, ite_false, if_true, if_false, Bool.false_eq_true, reduceIte, reduceCtorEq, not_true_eq_false, not_false_eq_true, eq_self, decide_true, decide_false, le_tt, le_ff, lt_tt, lt_ff, eq_ff, and_true, true_and, and_false, false_and, or_true, true_or, or_false, false_or, ne_eq, decide_eq_true_eq, decide_eq_false_iff_not, Bool.not_true, Bool.not_false, Bool.and_true, Bool.true_and, Bool.and_false, Bool.false_and, gs_at, gs_no, oI_n, oI_s]
        · have : 1000 < k := by omega
          simp (disch := omega) only [l_0, l_1, l_2, l_3, l_4, l_5, l_6, l_7, l_8, l_9, l_10, l_11, l_12, l_13, l_14, l_16, l_20, l_21, l_23, l_24, l_30, l_32, l_40, l_41, l_44, l_48, l_57, l_59, l_60, l_63, l_64, l_80, l_84, l_96, l_97, l_99, l_120, l_122, l_127, l_200, l_240, l_255, l_840, l_999, l_1000, l_1001, l_2400, l_3064, l_9999, l_10000, l_13849, l_16383, l_25173, l_65535, l_65536, l_99999, l_1000000000, neg_nI, pk_mul, nI_add, nI_subL, tn_nI, inb_t, grd_true, bnd_some, elS_l, elS_r, nI_ltI, nI_leI, nI_inj, fa_and, fa_or, m1_eq, eq_m1, m1_lt, m1_le, lt_m1, le_m1, m1_lt0, up2_at, up2_no, ite_true, ite_false, if_true, if_false, Bool.false_eq_true, reduceIte, reduceCtorEq, not_true_eq_false, not_false_eq_true, eq_self, decide_true, decide_false, le_tt, le_ff, lt_tt, lt_ff, eq_ff, and_true, true_and, and_false, false_and, or_true, true_or, or_false, false_or, ne_eq, decide_eq_true_eq, decide_eq_false_iff_not, Bool.not_true, Bool.not_false, Bool.and_true, Bool.true_and, Bool.and_false, Bool.false_and, gs_at, gs_no, oI_n, oI_s]
      · simp (disch := omega) only [l_0, l_1, l_2, l_3, l_4, l_5, l_6, l_7, l_8, l_9, l_10, l_11, l_12, l_13, l_14, l_16, l_20, l_21, l_23, l_24, l_30, l_32, l_40, l_41, l_44, l_48, l_57, l_59, l_60, l_63, l_64, l_80, l_84, l_96, l_97, l_99, l_120, l_122, l_127, l_200, l_240, l_255, l_840, l_999, l_1000, l_1001, l_2400, l_3064, l_9999, l_10000, l_13849, l_16383, l_25173, l_65535, l_65536, l_99999, l_1000000000, neg_nI, pk_mul, nI_add, nI_subL, tn_nI, inb_t, grd_true, bnd_some, elS_l, elS_r, nI_ltI, nI_leI, nI_inj, fa_and, fa_or, m1_eq, eq_m1, m1_lt, m1_le, lt_m1, le_m1, m1_lt0, up2_at, up2_no, ite_true, ite_false, if_true, if_false, Bool.false_eq_true, reduceIte, reduceCtorEq, not_true_eq_false, not_false_eq_true, eq_self, decide_true, decide_false, le_tt, le_ff, lt_tt, lt_ff, eq_ff, and_true, true_and, and_false, false_and, or_true, true_or, or_false, false_or, ne_eq, decide_eq_true_eq, decide_eq_false_iff_not, Bool.not_true, Bool.not_false, Bool.and_true, Bool.true_and, Bool.and_false, Bool.false_and, gs_at, gs_no, oI_n, oI_s, xlt h]
    · unfold Fm_ticks
      rw [l_1, l_1000, Fm_in_x (by decide) (by decide), hx']
      rfl
