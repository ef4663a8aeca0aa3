/-! repacking: the model's aims -/
def liG (g : Nat → Nat) (k : Nat) : Nat → Nat := fun j => if 64 ≤ j ∧ (j - 64) % 10 = 3 ∧ (j - 64) / 10 < k ∧ g j = 0 then 4 else g j
def agG (g gT : Nat → Nat) (i : Nat) : Nat → Nat := fun j => if 64 ≤ j ∧ (j - 64) % 10 = 3 ∧ (j - 64) / 10 < g 7 then (if g j = 0 then (if (j - 64) / 10 < i then 0 else 4) else g j) else gT j
section
variable {g gT : Nat → Nat} {i u : Nat}
theorem ag_lo {j : Nat} (h : j < 64) : agG g gT i j = gT j := if_neg (by omega)
theorem ag_w {d w : Nat} (hw : w < 10) (h3 : w ≠ 3) : agG g gT i (64 + 10 * d + w) = gT (64 + 10 * d + w) := if_neg (by omega)
theorem ag_3 {d : Nat} (hd : d < g 7) : agG g gT i (64 + 10 * d + 3) = if g (64 + 10 * d + 3) = 0 then (if d < i then 0 else 4) else g (64 + 10 * d + 3) := by
  unfold agG
  rw [show (64 + 10 * d + 3 - 64) / 10 = d by omega, if_pos ⟨by omega, by omega, hd⟩]
theorem ag_lit {d : Nat} (hd : d < g 7) : agG g gT i (64 + 10 * d + 3) = 0 ↔ d < i ∧ g (64 + 10 * d + 3) = 0 := by
  rw [ag_3 hd]
  by_cases c : g (64 + 10 * d + 3) = 0
  · rw [if_pos c]
    by_cases q : d < i
    · rw [if_pos q]; exact ⟨fun _ => ⟨q, c⟩, fun _ => rfl⟩
    · rw [if_neg q]; exact ⟨fun w => by omega, fun w => by omega⟩
  · rw [if_neg c]; exact ⟨fun w => absurd w c, fun w => absurd w.2 c⟩
theorem T_lit (h : LT g gT i) {d : Nat} (hd : d < g 7) : gT (64 + 10 * d + 3) = 0 ↔ d < i ∧ g (64 + 10 * d + 3) = 0 := by
  rw [h.2.2.2.1 d hd]
  by_cases c : d < i ∧ g (64 + 10 * d + 3) = 0
  · rw [if_pos c]; exact ⟨fun _ => c, fun _ => rfl⟩
  · rw [if_neg c]; exact ⟨fun w => by omega, fun w => absurd w c⟩
theorem OC_ag (h : LT g gT i) {l x : Nat} : OC (agG g gT i) l none x ↔ OC gT l none x := by
  have e7 : gT 7 = g 7 := h.2.1 7 (by omega)
  constructor
  · rintro ⟨d, h1, h2, h3, h4, h5⟩
    rw [ag_lo (by omega), e7] at h1
    rw [ag_lit h1] at h3
    rw [ag_w (by omega) (by omega)] at h4
    rw [ag_w (w := 4) (by omega) (by omega), ag_w (w := 5) (by omega) (by omega)] at h5
    exact ⟨d, by rw [e7]; exact h1, h2, (T_lit h h1).mpr h3, h4, h5⟩
  · rintro ⟨d, h1, h2, h3, h4, h5⟩
    rw [e7] at h1
    rw [T_lit h h1] at h3
    refine ⟨d, by rw [ag_lo (by omega), e7]; exact h1, h2, (ag_lit h1).mpr h3, by rw [ag_w (by omega) (by omega)]; exact h4, by rw [ag_w (w := 4) (by omega) (by omega), ag_w (w := 5) (by omega) (by omega)]; exact h5⟩
theorem GB_ag (hg : GV g) (h : LT g gT i) : GB (agG g gT i) := by
  refine ⟨fun k => ?_, by rw [ag_lo (by omega)]; exact h.1.1.2⟩
  unfold agG
  split
  · split
    · split <;> omega
    · exact hg.1.1.1 k
  · exact h.1.1.1 k
theorem GW_ag (hg : GV g) (h : LT g gT i) : GW (agG g gT i) := by
  obtain ⟨hG, hN, hU, hL, hO⟩ := h.1
  have e7 : gT 7 = g 7 := h.2.1 7 (by omega)
  refine ⟨GB_ag hg h, NV_cong (fun k hk => ag_lo hk) hN, NU_cong (fun k hk => ag_lo hk) hN hU, fun d hd hl => ?_, fun a b ha hb hab la lb hs => ?_⟩
  · rw [ag_lo (by omega), e7] at hd
    rw [ag_w (w := 4) (by omega) (by omega), ag_w (w := 5) (by omega) (by omega), ag_w (w := 6) (by omega) (by omega), ag_lo (by omega), ag_lo (by omega)]
    exact hL d (by rw [e7]; exact hd) ((T_lit h hd).mpr ((ag_lit hd).mp hl))
  · rw [ag_lo (by omega), e7] at ha hb
    rw [ag_w (w := 6) (by omega) (by omega), ag_w (w := 6) (by omega) (by omega)] at hs
    rw [ag_w (d := a) (w := 4) (by omega) (by omega), ag_w (d := a) (w := 5) (by omega) (by omega), ag_w (d := b) (w := 4) (by omega) (by omega), ag_w (d := b) (w := 5) (by omega) (by omega), ag_lo (by omega)]
    exact hO a b (by rw [e7]; exact ha) (by rw [e7]; exact hb) hab ((T_lit h ha).mpr ((ag_lit ha).mp la)) ((T_lit h hb).mpr ((ag_lit hb).mp lb)) hs
theorem fd_ag (hg : GV g) (h : LT g gT i) {a b r : Nat} (hr : 1 ≤ r) : fdW (agG g gT i) a b r u = fdW gT a b r u ∧ waysG (agG g gT i) a b = waysG gT a b := by
  have h3 : gT 3 ≤ 14 := h.1.2.1.1.2.2.2.2.2.1
  exact ⟨fdW_cong h3 h.1.2.2.2.1 (GW_ag hg h).2.2.2.1 (fun k h1 _ => ag_lo h1) (fun l x => OC_ag h) hr, ways_same h3 (fun k h1 _ => ag_lo h1) a b⟩
theorem fit_ag (h : LT g gT i) {l f v : Nat} : fitB (agG g gT i) l f v (some i) = fitB gT l f v none := by
  have e7 : gT 7 = g 7 := h.2.1 7 (by omega)
  rw [Bool.eq_iff_iff, fit_iff, fit_iff, ag_lo (by omega), ag_lo (by omega), ag_lo (by omega), e7]
  refine and_congr_right (fun _ => ?_)
  constructor
  · intro q d h1 _ h3 h4
    have h3' := (T_lit h h1).mp h3
    have := q d h1 (fun w => by cases w; omega) ((ag_lit h1).mpr h3') (by rw [ag_w (by omega) (by omega)]; exact h4)
    rw [ag_w (by omega) (by omega), ag_w (by omega) (by omega)] at this
    exact this
  · intro q d h1 _ h3 h4
    rw [ag_lit h1] at h3
    rw [ag_w (by omega) (by omega)] at h4
    rw [ag_w (by omega) (by omega), ag_w (by omega) (by omega)]
    exact q d h1 (by simp) ((T_lit h h1).mpr h3) h4
theorem ag_set (hi : i < g 7) (hl : g (64 + 10 * i + 3) = 0) {on f w : Nat} : litG (agG g gT i) i on f w = agG g (litG gT i on f w) (i + 1) := by
  funext j
  by_cases c3 : 64 ≤ j ∧ (j - 64) % 10 = 3 ∧ (j - 64) / 10 < g 7
  · obtain ⟨d, hd⟩ : ∃ d, j = 64 + 10 * d + 3 := ⟨(j - 64) / 10, by omega⟩
    subst hd
    have hd7 : d < g 7 := by omega
    rw [ag_3 hd7]
    by_cases c : d = i
    · subst c; rw [lit_3, if_pos hl, if_pos (by omega)]
    · rw [lit_ne c (by omega), ag_3 hd7]
      by_cases z : g (64 + 10 * d + 3) = 0
      · rw [if_pos z, if_pos z]
        by_cases q : d < i
        · rw [if_pos q, if_pos (by omega)]
        · rw [if_neg q, if_neg (by omega)]
      · rw [if_neg z, if_neg z]
  · have e : ∀ X k, agG g X k j = X j := fun X k => if_neg c3
    rw [e]
    unfold litG gs
    by_cases c6 : j = 64 + 10 * i + 6
    · rw [if_pos c6, if_pos c6]
    · rw [if_neg c6, if_neg c6]
      by_cases c5 : j = 64 + 10 * i + 5
      · rw [if_pos c5, if_pos c5]
      · rw [if_neg c5, if_neg c5]
        by_cases c4 : j = 64 + 10 * i + 4
        · rw [if_pos c4, if_pos c4]
        · rw [if_neg c4, if_neg c4, if_neg (by omega), if_neg (by omega), e]
theorem ag_stay (h : LT g gT i) (hi : i < g 7) (hl : g (64 + 10 * i + 3) = 0) : gs (agG g gT i) (64 + 10 * i + 3) 0 = agG g (litG gT i (g (64 + 10 * i + 6)) (g (64 + 10 * i + 4)) (g (64 + 10 * i + 5))) (i + 1) := by
  have e4 : gT (64 + 10 * i + 4) = g (64 + 10 * i + 4) := h.2.2.2.2 i 4 hi (by omega) (by omega)
  have e5 : gT (64 + 10 * i + 5) = g (64 + 10 * i + 5) := h.2.2.2.2 i 5 hi (by omega) (by omega)
  have e6 : gT (64 + 10 * i + 6) = g (64 + 10 * i + 6) := h.2.2.2.2 i 6 hi (by omega) (by omega)
  rw [← ag_set hi hl]
  funext j
  unfold litG gs
  by_cases c3 : j = 64 + 10 * i + 3
  · rw [if_pos c3, if_neg (by omega), if_neg (by omega), if_neg (by omega)]
  · rw [if_neg c3]
    by_cases c6 : j = 64 + 10 * i + 6
    · rw [if_pos c6, c6, ag_w (by omega) (by omega), e6]
    · rw [if_neg c6]
      by_cases c5 : j = 64 + 10 * i + 5
      · rw [if_pos c5, c5, ag_w (by omega) (by omega), e5]
      · rw [if_neg c5]
        by_cases c4 : j = 64 + 10 * i + 4
        · rw [if_pos c4, c4, ag_w (by omega) (by omega), e4]
        · rw [if_neg c4]
theorem ag_no (hi : i < g 7) (hl : g (64 + 10 * i + 3) ≠ 0) : agG g gT i = agG g gT (i + 1) := by
  funext j
  by_cases c3 : 64 ≤ j ∧ (j - 64) % 10 = 3 ∧ (j - 64) / 10 < g 7
  · obtain ⟨d, hd⟩ : ∃ d, j = 64 + 10 * d + 3 := ⟨(j - 64) / 10, by omega⟩
    subst hd
    have hd7 : d < g 7 := by omega
    rw [ag_3 hd7, ag_3 hd7]
    by_cases z : g (64 + 10 * d + 3) = 0
    · have : d ≠ i := fun q => hl (by rw [← q]; exact z)
      rw [if_pos z, if_pos z]
      by_cases q : d < i
      · rw [if_pos q, if_pos (by omega)]
      · rw [if_neg q, if_neg (by omega)]
    · rw [if_neg z, if_neg z]
  · rw [show agG g gT i j = gT j from if_neg c3, show agG g gT (i + 1) j = gT j from if_neg c3]
theorem li_s {k : Nat} : liG g (k + 1) = if g (64 + 10 * k + 3) = 0 then gs (liG g k) (64 + 10 * k + 3) 4 else liG g k := by
  funext j
  by_cases z : g (64 + 10 * k + 3) = 0
  · rw [if_pos z]
    unfold gs liG
    by_cases c : j = 64 + 10 * k + 3
    · rw [if_pos c, if_pos ⟨by omega, by omega, by omega, by rw [c]; exact z⟩]
    · rw [if_neg c]
      by_cases q : 64 ≤ j ∧ (j - 64) % 10 = 3 ∧ (j - 64) / 10 < k ∧ g j = 0
      · rw [if_pos q, if_pos ⟨q.1, q.2.1, by omega, q.2.2.2⟩]
      · rw [if_neg q, if_neg (fun w => q ⟨w.1, w.2.1, by omega, w.2.2.2⟩)]
  · rw [if_neg z]
    unfold liG
    by_cases q : 64 ≤ j ∧ (j - 64) % 10 = 3 ∧ (j - 64) / 10 < k ∧ g j = 0
    · rw [if_pos q, if_pos ⟨q.1, q.2.1, by omega, q.2.2.2⟩]
    · rw [if_neg q, if_neg (fun w => ?_)]
      by_cases c : (j - 64) / 10 = k
      · have : j = 64 + 10 * k + 3 := by omega
        rw [this] at w
        exact z w.2.2.2
      · exact q ⟨w.1, w.2.1, by omega, w.2.2.2⟩
theorem li_ag : liG g (g 7) = agG g (ofS g (fun _ => true) (g 7)) 0 := by
  funext j
  unfold liG agG
  by_cases c3 : 64 ≤ j ∧ (j - 64) % 10 = 3 ∧ (j - 64) / 10 < g 7
  · rw [if_pos c3]
    by_cases z : g j = 0
    · rw [if_pos ⟨c3.1, c3.2.1, c3.2.2, z⟩, if_pos z, if_neg (by omega)]
    · rw [if_neg (fun w => z w.2.2.2), if_neg z]
  · rw [if_neg (fun w => c3 ⟨w.1, w.2.1, w.2.2.1⟩), if_neg c3]
    unfold ofS
    rw [if_neg (fun w => c3 ⟨w.1, w.2.1, w.2.2.1⟩)]
theorem li_3 {k d : Nat} (hd : k ≤ d) : liG g k (64 + 10 * d + 3) = g (64 + 10 * d + 3) := if_neg (by omega)
theorem li_lo {k j : Nat} (h : j < 64) : liG g k j = g j := if_neg (by omega)
theorem GB_li (hG : GB g) {k : Nat} : GB (liG g k) := by
  refine ⟨fun j => ?_, by rw [li_lo (by omega)]; exact hG.2⟩
  unfold liG
  split
  · omega
  · exact hG.1 j
end
theorem b2i_n (b : Bool) : b2i b = if b = true then nI 1 else nI 0 := by cases b <;> rfl
/-- the model's arrays of aims -/
def AR (M : Mm) (g gT : Nat → Nat) (i : Nat) : Prop := (∀ d, d < i → d < g 7 → g (64 + 10 * d + 3) = 0 → M.1 105 d = nI (gT (64 + 10 * d + 4)) ∧ M.1 106 d = nI (gT (64 + 10 * d + 5)) ∧ M.1 107 d = nI (gT (64 + 10 * d + 6))) ∧ (∀ d, d < g 7 → M.1 109 d = b2i (decide (d < i) && mvB g gT d)) ∧ (∀ d, d < g 7 → M.1 110 d = nI 0) ∧ (∀ d, d < g 7 → M.1 111 d = nI 0) ∧ M.1 94 32 = nI (fb_ct (mvB g gT) i)
theorem AR.fr {P : Nat → Nat → Prop} {M M' : Mm} {g gT : Nat → Nat} {i : Nat} (h : AR M g gT i) (hf : Fr P M M') (hp : ∀ c j, (c = 105 ∨ c = 106 ∨ c = 107 ∨ c = 109 ∨ c = 110 ∨ c = 111) → ¬ P c j) (h32 : ¬ P 94 32) : AR M' g gT i := by
  obtain ⟨h1, h2, h3, h4, h5⟩ := h
  refine ⟨fun d q1 q2 q3 => ?_, fun d hd => ?_, fun d hd => ?_, fun d hd => ?_, ?_⟩
  · rw [(hf 105 d (hp _ _ (by omega))).1, (hf 106 d (hp _ _ (by omega))).1, (hf 107 d (hp _ _ (by omega))).1]; exact h1 d q1 q2 q3
  · rw [(hf 109 d (hp _ _ (by omega))).1]; exact h2 d hd
  · rw [(hf 110 d (hp _ _ (by omega))).1]; exact h3 d hd
  · rw [(hf 111 d (hp _ _ (by omega))).1]; exact h4 d hd
  · rw [(hf 94 32 h32).1]; exact h5
section
variable {M : Mm} {g gT : Nat → Nat} {n u i : Nat} {h : Nat → Int32}
theorem aim_arr {gT' : Nat → Nat} (hi : i < g 7) (h40 : g 7 ≤ 40) (hl : g (64 + 10 * i + 3) = 0) (hF : FK M (agG g gT' (i + 1)) h) (hA1 : ∀ d, d < i → d < g 7 → g (64 + 10 * d + 3) = 0 → M.1 105 d = nI (gT' (64 + 10 * d + 4)) ∧ M.1 106 d = nI (gT' (64 + 10 * d + 5)) ∧ M.1 107 d = nI (gT' (64 + 10 * d + 6))) (hA2 : ∀ d, d < g 7 → M.1 109 d = b2i (decide (d < i + 1) && mvB g gT' d)) (hA3 : ∀ d, d < g 7 → M.1 110 d = nI 0) (hA4 : ∀ d, d < g 7 → M.1 111 d = nI 0) (hA5 : M.1 94 32 = nI (fb_ct (mvB g gT') (i + 1))) (v : Int32) : ∃ M', Fm_aims_j239 v (nI i) M = some (.inl (v, nI (i + 1), M')) ∧ FK M' (agG g gT' (i + 1)) h ∧ AR M' g gT' (i + 1) ∧ Fr (fun c _ => c = 105 ∨ c = 106 ∨ c = 107) M M' := by
  have f1 : Fr (fun c _ => c = 105 ∨ c = 106 ∨ c = 107) M (up2 M.1 105 i (nI (gT' (64 + 10 * i + 4))), M.2) := Fr.I Fr.rf (.inl rfl)
  have f2 : Fr (fun c _ => c = 105 ∨ c = 106 ∨ c = 107) M (up2 (up2 M.1 105 i (nI (gT' (64 + 10 * i + 4)))) 106 i (nI (gT' (64 + 10 * i + 5))), M.2) := Fr.I f1 (.inr (.inl rfl))
  have f3 : Fr (fun c _ => c = 105 ∨ c = 106 ∨ c = 107) M (up2 (up2 (up2 M.1 105 i (nI (gT' (64 + 10 * i + 4)))) 106 i (nI (gT' (64 + 10 * i + 5)))) 107 i (nI (gT' (64 + 10 * i + 6))), M.2) := Fr.I f2 (.inr (.inr rfl))
  have o4 := hF.of (d := i) (w := 4) (by omega) (by omega) (by omega)
  have o5 := (hF.fr f1 (fun j => by omega)).of (d := i) (w := 5) (by omega) (by omega) (by omega)
  have o6 := (hF.fr f2 (fun j => by omega)).of (d := i) (w := 6) (by omega) (by omega) (by omega)
  rw [ag_w (by omega) (by omega)] at o4 o5 o6
  refine ⟨_, ?_, hF.fr f3 (fun j => by omega), ⟨fun d q1 q2 q3 => ?_, fun d hd => ?_, fun d hd => ?_, fun d hd => ?_, ?_⟩, f3⟩
  · unfold Fm_aims_j239 Fm_aims_j276
    simp (disch := omega) only [l_0, l_1, l_2, l_3, l_4, l_5, l_6, l_7, l_8, l_9, l_10, l_11, l_12, l_13, l_14, l_16, l_20, l_21, l_23, l_24, l_30, l_32, l_40, l_41, l_44, l_48, l_57, l_59, l_60, l_63, l_64, l_80, l_84, l_96, l_97, l_99, l_120, l_122, l_127, l_200, l_240, l_255, l_840, l_999, l_1000, l_1001, l_2400, l_3064, l_9999, l_10000, l_13849, l_16383, l_25173, l_65535, l_65536, l_99999, l_1000000000, neg_nI, pk_mul, nI_add, nI_subL, tn_nI, inb_t, grd_true, bnd_some, elS_l, elS_r, nI_ltI, nI_leI, nI_inj, fa_and, fa_or, m1_eq, eq_m1, m1_lt, m1_le, lt_m1, le_m1, m1_lt0, up2_at, up2_no, ite_true, ite_false, if_true, if_false, Bool.false_eq_true, reduceIte, reduceCtorEq, not_true_eq_false, not_false_eq_true, eq_self, decide_true, decide_false, le_tt, le_ff, lt_tt, lt_ff, eq_ff, and_true, true_and, and_false, false_and, or_true, true_or, or_false, false_or, ne_eq, decide_eq_true_eq, decide_eq_false_iff_not, Bool.not_true, Bool.not_false, Bool.and_true, Bool.true_and, Bool.and_false, Bool.false_and, gs_at, gs_no, oI_n, oI_s, o4, o5, o6]
  · by_cases c : d = i
    · subst c
      refine ⟨?_, ?_, ?_⟩
      · simp (disch := omega) only [l_0, l_1, l_2, l_3, l_4, l_5, l_6, l_7, l_8, l_9, l_10, l_11, l_12, l_13, l_14, l_16, l_20, l_21, l_23, l_24, l_30, l_32, l_40, l_41, l_44, l_48, l_57, l_59, l_60, l_63, l_64, l_80, l_84, l_96, l_97, l_99, l_120, l_122, l_127, l_200, l_240, l_255, l_840, l_999, l_1000, l_1001, l_2400, l_3064, l_9999, l_10000, l_13849, l_16383, l_25173, l_65535, l_65536, l_99999, l_1000000000, neg_nI, pk_mul, nI_add, nI_subL, tn_nI, inb_t, grd_true, bnd_some, elS_l, elS_r, nI_ltI, nI_leI, nI_inj, fa_and, fa_or, m1_eq, eq_m1, m1_lt, m1_le, lt_m1, le_m1, m1_lt0, up2_at, up2_no, ite_true, ite_false, if_true, if_false, Bool.false_eq_true, reduceIte, reduceCtorEq, not_true_eq_false, not_false_eq_true, eq_self, decide_true, decide_false, le_tt, le_ff, lt_tt, lt_ff, eq_ff, and_true, true_and, and_false, false_and, or_true, true_or, or_false, false_or, ne_eq, decide_eq_true_eq, decide_eq_false_iff_not, Bool.not_true, Bool.not_false, Bool.and_true, Bool.true_and, Bool.and_false, Bool.false_and, gs_at, gs_no, oI_n, oI_s]
      · simp (disch := omega) only [l_0, l_1, l_2, l_3, l_4, l_5, l_6, l_7, l_8, l_9, l_10, l_11, l_12, l_13, l_14, l_16, l_20, l_21, l_23, l_24, l_30, l_32, l_40, l_41, l_44, l_48, l_57, l_59, l_60, l_63, l_64, l_80, l_84, l_96, l_97, l_99, l_120, l_122, l_127, l_200, l_240, l_255, l_840, l_999, l_1000, l_1001, l_2400, l_3064, l_9999, l_10000, l_13849, l_16383, l_25173, l_65535, l_65536, l_99999, l_1000000000, neg_nI, pk_mul, nI_add, nI_subL, tn_nI, inb_t, grd_true, bnd_some, elS_l, elS_r, nI_ltI, nI_leI, nI_inj, fa_and, fa_or, m1_eq, eq_m1, m1_lt, m1_le, lt_m1, le_m1, m1_lt0, up2_at, up2_no, ite_true, ite_false, if_true, if_false, Bool.false_eq_true, reduceIte, reduceCtorEq, not_true_eq_false, not_false_eq_true, eq_self, decide_true, decide_false, le_tt, le_ff, lt_tt, lt_ff, eq_ff, and_true, true_and, and_false, false_and, or_true, true_or, or_false, false_or, ne_eq, decide_eq_true_eq, decide_eq_false_iff_not, Bool.not_true, Bool.not_false, Bool.and_true, Bool.true_and, Bool.and_false, Bool.false_and, gs_at, gs_no, oI_n, oI_s]
      · simp (disch := omega) only [l_0, l_1, l_2, l_3, l_4, l_5, l_6, l_7, l_8, l_9, l_10, l_11, l_12, l_13, l_14, l_16, l_20, l_21, l_23, l_24, l_30, l_32, l_40, l_41, l_44, l_48, l_57, l_59, l_60, l_63, l_64, l_80, l_84, l_96, l_97, l_99, l_120, l_122, l_127, l_200, l_240, l_255, l_840, l_999, l_1000, l_1001, l_2400, l_3064, l_9999, l_10000, l_13849, l_16383, l_25173, l_65535, l_65536, l_99999, l_1000000000, neg_nI, pk_mul, nI_add, nI_subL, tn_nI, inb_t, grd_true, bnd_some, elS_l, elS_r, nI_ltI, nI_leI, nI_inj, fa_and, fa_or, m1_eq, eq_m1, m1_lt, m1_le, lt_m1, le_m1, m1_lt0, up2_at, up2_no, ite_true, ite_false, if_true, if_false, Bool.false_eq_true, reduceIte, reduceCtorEq, not_true_eq_false, not_false_eq_true, eq_self, decide_true, decide_false, le_tt, le_ff, lt_tt, lt_ff, eq_ff, and_true, true_and, and_false, false_and, or_true, true_or, or_false, false_or, ne_eq, decide_eq_true_eq, decide_eq_false_iff_not, Bool.not_true, Bool.not_false, Bool.and_true, Bool.true_and, Bool.and_false, Bool.false_and, gs_at, gs_no, oI_n, oI_s]
    · obtain ⟨w1, w2, w3⟩ := hA1 d (by omega) q2 q3
      refine ⟨?_, ?_, ?_⟩
      · simp (disch := omega) only [l_0, l_1, l_2, l_3, l_4, l_5, l_6, l_7, l_8, l_9, l_10, l_11, l_12, l_13, l_14, l_16, l_20, l_21, l_23, l_24, l_30, l_32, l_40, l_41, l_44, l_48, l_57, l_59, l_60, l_63, l_64, l_80, l_84, l_96, l_97, l_99, l_120, l_122, l_127, l_200, l_240, l_255, l_840, l_999, l_1000, l_1001, l_2400, l_3064, l_9999, l_10000, l_13849, l_16383, l_25173, l_65535, l_65536, l_99999, l_1000000000, neg_nI, pk_mul, nI_add, nI_subL, tn_nI, inb_t, grd_true, bnd_some, elS_l, elS_r, nI_ltI, nI_leI, nI_inj, fa_and, fa_or, m1_eq, eq_m1, m1_lt, m1_le, lt_m1, le_m1, m1_lt0, up2_at, up2_no, ite_true, ite_false, if_true, if_false, Bool.false_eq_true, reduceIte, reduceCtorEq, not_true_eq_false, not_false_eq_true, eq_self, decide_true, decide_false, le_tt, le_ff, lt_tt, lt_ff, eq_ff, and_true, true_and, and_false, false_and, or_true, true_or, or_false, false_or, ne_eq, decide_eq_true_eq, decide_eq_false_iff_not, Bool.not_true, Bool.not_false, Bool.and_true, Bool.true_and, Bool.and_false, Bool.false_and, gs_at, gs_no, oI_n, oI_s, w1]
      · simp (disch := omega) only [l_0, l_1, l_2, l_3, l_4, l_5, l_6, l_7, l_8, l_9, l_10, l_11, l_12, l_13, l_14, l_16, l_20, l_21, l_23, l_24, l_30, l_32, l_40, l_41, l_44, l_48, l_57, l_59, l_60, l_63, l_64, l_80, l_84, l_96, l_97, l_99, l_120, l_122, l_127, l_200, l_240, l_255, l_840, l_999, l_1000, l_1001, l_2400, l_3064, l_9999, l_10000, l_13849, l_16383, l_25173, l_65535, l_65536, l_99999, l_1000000000, neg_nI, pk_mul, nI_add, nI_subL, tn_nI, inb_t, grd_true, bnd_some, elS_l, elS_r, nI_ltI, nI_leI, nI_inj, fa_and, fa_or, m1_eq, eq_m1, m1_lt, m1_le, lt_m1, le_m1, m1_lt0, up2_at, up2_no, ite_true, ite_false, if_true, if_false, Bool.false_eq_true, reduceIte, reduceCtorEq, not_true_eq_false, not_false_eq_true, eq_self, decide_true, decide_false, le_tt, le_ff, lt_tt, lt_ff, eq_ff, and_true, true_and, and_false, false_and, or_true, true_or, or_false, false_or, ne_eq, decide_eq_true_eq, decide_eq_false_iff_not, Bool.not_true, Bool.not_false, Bool.and_true, Bool.true_and, Bool.and_false, Bool.false_and, gs_at, gs_no, oI_n, oI_s, w2]
      · simp (disch := omega) only [l_0, l_1, l_2, l_3, l_4, l_5, l_6, l_7, l_8, l_9, l_10, l_11, l_12, l_13, l_14, l_16, l_20, l_21, l_23, l_24, l_30, l_32, l_40, l_41, l_44, l_48, l_57, l_59, l_60, l_63, l_64, l_80, l_84, l_96, l_97, l_99, l_120, l_122, l_127, l_200, l_240, l_255, l_840, l_999, l_1000, l_1001, l_2400, l_3064, l_9999, l_10000, l_13849, l_16383, l_25173, l_65535, l_65536, l_99999, l_1000000000, neg_nI, pk_mul, nI_add, nI_subL, tn_nI, inb_t, grd_true, bnd_some, elS_l, elS_r, nI_ltI, nI_leI, nI_inj, fa_and, fa_or, m1_eq, eq_m1, m1_lt, m1_le, lt_m1, le_m1, m1_lt0, up2_at, up2_no, ite_true, ite_false, if_true, if_false, Bool.false_eq_true, reduceIte, reduceCtorEq, not_true_eq_false, not_false_eq_true, eq_self, decide_true, decide_false, le_tt, le_ff, lt_tt, lt_ff, eq_ff, and_true, true_and, and_false, false_and, or_true, true_or, or_false, false_or, ne_eq, decide_eq_true_eq, decide_eq_false_iff_not, Bool.not_true, Bool.not_false, Bool.and_true, Bool.true_and, Bool.and_false, Bool.false_and, gs_at, gs_no, oI_n, oI_s, w3]
  · rw [(f3 109 d (by omega)).1]; exact hA2 d hd
  · rw [(f3 110 d (by omega)).1]; exact hA3 d hd
  · rw [(f3 111 d (by omega)).1]; exact hA4 d hd
  · rw [(f3 94 32 (by omega)).1]; exact hA5
/-- one aim of the model -/
theorem aim_b (hg : GV g) (hu : u < 4) (hi : i < g 7) (hla : laF g u i = some gT) (hF : FK M (agG g gT i) h) (hA : AR M g gT i) (hn : 1099511627776 < n) : (∃ gT' M', laF g u (i + 1) = some gT' ∧ Fm_aims_b70 n (nI u) (nI 1) (nI i) M = some (.inl (nI 1, nI (i + 1), M')) ∧ FK M' (agG g gT' (i + 1)) h ∧ AR M' g gT' (i + 1)) ∨ (laF g u (i + 1) = none ∧ ∃ gF M', Fm_aims_b70 n (nI u) (nI 1) (nI i) M = some (.inl (nI 0, nI (i + 1), M')) ∧ FK M' gF h ∧ GB gF ∧ NV gF ∧ LV gF ∧ gF 7 = g 7) := by
  have hT := la_LT hg i (by omega) gT hla
  have hgT := LT_V hg hT
  have h40 := hg.2.2
  have b1 := hg.1.2.1.1
  have e7 : gT 7 = g 7 := hT.2.1 7 (by omega)
  have e0 : gT 0 = g 0 := hT.2.1 0 (by omega)
  have e1 : gT 1 = g 1 := hT.2.1 1 (by omega)
  have e3 : gT 3 = g 3 := hT.2.1 3 (by omega)
  have hWa := GW_ag hg hT
  have h7 : M.1 95 7 = nI (g 7) := by rw [hF.lo (by omega), ag_lo (by omega), e7]
  have o3 := hF.of (d := i) (w := 3) (by omega) (by omega) (by omega)
  rw [ag_3 hi] at o3
  obtain ⟨a1, a2, a3, a4, a5, a6, a7, a8⟩ := hg.2.1.2 i hi
  have g3 := hg.1.1.1 (64 + 10 * i + 3)
  obtain ⟨A1, A2, A3, A4, A5⟩ := id hA
  rw [la_s, hla]
  simp only
  by_cases hl : g (64 + 10 * i + 3) = 0
  · rw [if_pos hl, if_neg (by omega)] at o3
    rw [if_pos hl]
    obtain ⟨y1, y2, y3, y4⟩ := hg.1.2.2.2.1 i hi hl
    have o0 := hF.of (d := i) (w := 0) (by omega) (by omega) (by omega)
    have o1 := hF.of (d := i) (w := 1) (by omega) (by omega) (by omega)
    have o2 := hF.of (d := i) (w := 2) (by omega) (by omega) (by omega)
    rw [ag_w (by omega) (by omega)] at o0 o1 o2
    rw [hT.2.2.1 i 0 hi (by omega)] at o0
    rw [hT.2.2.1 i 1 hi (by omega)] at o1
    rw [hT.2.2.1 i 2 hi (by omega)] at o2
    have q4 : gT (64 + 10 * i + 4) = g (64 + 10 * i + 4) := hT.2.2.2.2 i 4 hi (by omega) (by omega)
    have q5 : gT (64 + 10 * i + 5) = g (64 + 10 * i + 5) := hT.2.2.2.2 i 5 hi (by omega) (by omega)
    have q6 : gT (64 + 10 * i + 6) = g (64 + 10 * i + 6) := hT.2.2.2.2 i 6 hi (by omega) (by omega)
    obtain ⟨M1, f1, f2, f3, f4⟩ := find_m (a := g (64 + 10 * i + 0)) (b := g (64 + 10 * i + 1)) (rate := g (64 + 10 * i + 2)) (rule := u) hWa hF hn (by rw [ag_lo (by omega), e0]; exact a1) (by rw [ag_lo (by omega), e0]; exact a2) a3 a4 a5 hu
    obtain ⟨fe1, fe2⟩ := fd_ag (u := u) (a := g (64 + 10 * i + 0)) (b := g (64 + 10 * i + 1)) hg hT a4
    rw [fe1] at f1 f2
    rw [fe2] at f2
    have hA1 : AR M1 g gT i := hA.fr f4 (fun c j hc => by unfold fp_Fm_findsFor; omega) (by unfold fp_Fm_findsFor; omega)
    have p4 := f3.of (d := i) (w := 4) (by omega) (by omega) (by omega)
    have p5 := f3.of (d := i) (w := 5) (by omega) (by omega) (by omega)
    have p6 := f3.of (d := i) (w := 6) (by omega) (by omega) (by omega)
    rw [ag_w (by omega) (by omega)] at p4 p5 p6
    rw [q4] at p4
    rw [q5] at p5
    rw [q6] at p6
    have g4 := hg.1.1.1 (64 + 10 * i + 4)
    have g5 := hg.1.1.1 (64 + 10 * i + 5)
    have g6 := hg.1.1.1 (64 + 10 * i + 6)
    have mvd : ∀ on f w d, d ≠ i → mvB g (litG gT i on f w) d = mvB g gT d := fun on f w d hd => mv_cong (lit_ne hd (by omega)) (lit_ne hd (by omega)) (lit_ne hd (by omega))
    have mvi : ∀ on f w, mvB g (litG gT i on f w) i = decide (on ≠ g (64 + 10 * i + 6) ∨ f ≠ g (64 + 10 * i + 4) ∨ w ≠ g (64 + 10 * i + 5)) := fun on f w => by
      unfold mvB
      rw [lit_4, lit_5, lit_6]
      exact decide_eq_decide.mpr ⟨fun q => q.2, fun q => ⟨hl, q⟩⟩
    have ctm : ∀ on f w, fb_ct (mvB g (litG gT i on f w)) i = fb_ct (mvB g gT) i := fun on f w => fb_ct_cong (fun d hd => mvd on f w d (by omega))
    have hct := fb_ct_le (mvB g gT) i
    cases hf : fdW gT (g (64 + 10 * i + 0)) (g (64 + 10 * i + 1)) (g (64 + 10 * i + 2)) u with
    | some p =>
      rw [hf] at f1
      obtain ⟨k1, k2, k3, k4⟩ := f2 p hf
      obtain ⟨r1, r2, r3, r4, r5⟩ := fdW_ok hgT.1.2.1 (by rw [e0]; exact a1) a3 a4 a5 hf
      rw [e3] at r2
      have hwl := ways_len (g := gT) (a := g (64 + 10 * i + 0)) (b := g (64 + 10 * i + 1))
      have hon14 : wkO (waysG gT (g (64 + 10 * i + 0)) (g (64 + 10 * i + 1))) p.1 < 16384 := Nat.lt_of_lt_of_le r2.2 (show 2 ^ g 3 ≤ 2 ^ 14 from Nat.pow_le_pow_right (by decide) b1.2.2.2.2.2.1)
      left
      simp only
      generalize hon : wkO (waysG gT (g (64 + 10 * i + 0)) (g (64 + 10 * i + 1))) p.1 = on at *
      -- from the flag on
      have hj : ∀ fl : Nat, fl ≤ 1 → (fl = 1 ↔ mvB g (litG gT i on p.2.1 p.2.2.1) i = true) → ∃ M', Fm_aims_j179 (nI 1) (nI i) (nI fl) (nI i) M1 = some (.inl (nI 1, nI (i + 1), M')) ∧ FK M' (agG g (litG gT i on p.2.1 p.2.2.1) (i + 1)) h ∧ AR M' g (litG gT i on p.2.1 p.2.2.1) (i + 1) := fun fl hfl hiff => by
        have fA : Fr (fun c j => c = 109 ∧ j = i) M1 (up2 M1.1 109 i (nI fl), M1.2) := Fr.I Fr.rf ⟨rfl, rfl⟩
        have hFA := f3.fr fA (fun j => by omega)
        obtain ⟨M2, l1, l2, l3⟩ := lights_m (d := i) (on := on) (f := p.2.1) (w := p.2.2.1) (k := p.1) hFA (by omega) (by omega) ((fA 94 20 (by omega)).1.trans k1) ((fA 94 21 (by omega)).1.trans k2) ((fA 94 22 (by omega)).1.trans k3) ((fA 99 p.1 (by omega)).1.trans k4)
        rw [ag_set hi hl] at l2
        have m109 : ∀ d, M2.1 109 d = up2 M1.1 109 i (nI fl) 109 d := fun d => (l3 109 d (by omega)).1
        have B1 : ∀ d, d < i → d < g 7 → g (64 + 10 * d + 3) = 0 → M2.1 105 d = nI (litG gT i on p.2.1 p.2.2.1 (64 + 10 * d + 4)) ∧ M2.1 106 d = nI (litG gT i on p.2.1 p.2.2.1 (64 + 10 * d + 5)) ∧ M2.1 107 d = nI (litG gT i on p.2.1 p.2.2.1 (64 + 10 * d + 6)) := fun d w1 w2 w3 => by
          rw [lit_ne (by omega) (by omega), lit_ne (by omega) (by omega), lit_ne (by omega) (by omega), (l3 105 d (by omega)).1, (l3 106 d (by omega)).1, (l3 107 d (by omega)).1, (fA 105 d (by omega)).1, (fA 106 d (by omega)).1, (fA 107 d (by omega)).1]
          exact hA1.1 d w1 w2 w3
        have B2 : ∀ d, d < g 7 → M2.1 109 d = b2i (decide (d < i + 1) && mvB g (litG gT i on p.2.1 p.2.2.1) d) := fun d hd => by
          rw [m109]
          by_cases c : d = i
          · subst c
            rw [up2_at, decide_eq_true (show d < d + 1 by omega), Bool.true_and, b2i_n]
            by_cases q : fl = 1
            · rw [if_pos (hiff.mp q), q]
            · rw [if_neg (fun w => q (hiff.mpr w)), show fl = 0 by omega]
          · rw [up2_no (by omega), hA1.2.1 d hd, mvd _ _ _ d c]
            congr 2
            exact decide_eq_decide.mpr (by omega)
        have B3 : ∀ d, d < g 7 → M2.1 110 d = nI 0 := fun d hd => by rw [(l3 110 d (by omega)).1, (fA 110 d (by omega)).1]; exact hA1.2.2.1 d hd
        have B4 : ∀ d, d < g 7 → M2.1 111 d = nI 0 := fun d hd => by rw [(l3 111 d (by omega)).1, (fA 111 d (by omega)).1]; exact hA1.2.2.2.1 d hd
        have B5 : M2.1 94 32 = nI (fb_ct (mvB g gT) i) := by rw [(l3 94 32 (by omega)).1, (fA 94 32 (by omega)).1]; exact hA1.2.2.2.2
        have hnar : vp_nar .boolean (nI fl) = nI fl := by
          have : fl = 0 ∨ fl = 1 := by omega
          rcases this with q | q <;> rw [q] <;> rfl
        have m109i : M2.1 109 i = nI fl := by rw [m109]; exact up2_at
        by_cases q : fl = 1
        · have fB : Fr (fun c j => c = 94 ∧ j = 32) M2 (up2 M2.1 94 32 (nI (fb_ct (mvB g gT) i + 1)), M2.2) := Fr.I Fr.rf ⟨rfl, rfl⟩
          obtain ⟨M3, t1, t2, t3, t4⟩ := aim_arr (M := (up2 M2.1 94 32 (nI (fb_ct (mvB g gT) i + 1)), M2.2)) hi h40 hl (l2.fr fB (fun j => by omega)) (fun d w1 w2 w3 => by rw [(fB 105 d (by omega)).1, (fB 106 d (by omega)).1, (fB 107 d (by omega)).1]; exact B1 d w1 w2 w3) (fun d hd => by rw [(fB 109 d (by omega)).1]; exact B2 d hd) (fun d hd => by rw [(fB 110 d (by omega)).1]; exact B3 d hd) (fun d hd => by rw [(fB 111 d (by omega)).1]; exact B4 d hd) (by
            show up2 M2.1 94 32 (nI (fb_ct (mvB g gT) i + 1)) 94 32 = _
            rw [up2_at, fb_ct_succ, if_pos (hiff.mp q), ctm]) (nI 1)
          refine ⟨M3, ?_, t2, t3⟩
          unfold Fm_aims_j179
          simp (disch := omega) only [l_0, l_1, l_2, l_3, l_4, l_5, l_6, l_7, l_8, l_9, l_10, l_11, l_12, l_13, l_14, l_16, l_20, l_21, l_23, l_24, l_30, l_32, l_40, l_41, l_44, l_48, l_57, l_59, l_60, l_63, l_64, l_80, l_84, l_96, l_97, l_99, l_120, l_122, l_127, l_200, l_240, l_255, l_840, l_999, l_1000, l_1001, l_2400, l_3064, l_9999, l_10000, l_13849, l_16383, l_25173, l_65535, l_65536, l_99999, l_1000000000, neg_nI, pk_mul, nI_add, nI_subL, tn_nI, inb_t, grd_true, bnd_some, elS_l, elS_r, nI_ltI, nI_leI, nI_inj, fa_and, fa_or, m1_eq, eq_m1, m1_lt, m1_le, lt_m1, le_m1, m1_lt0, up2_at, up2_no, ite_true, ite_false, if_true, if_false, Bool.false_eq_true, reduceIte, reduceCtorEq, not_true_eq_false, not_false_eq_true, eq_self, decide_true, decide_false, le_tt, le_ff, lt_tt, lt_ff, eq_ff, and_true, true_and, and_false, false_and, or_true, true_or, or_false, false_or, ne_eq, decide_eq_true_eq, decide_eq_false_iff_not, Bool.not_true, Bool.not_false, Bool.and_true, Bool.true_and, Bool.and_false, Bool.false_and, gs_at, gs_no, oI_n, oI_s, hnar, l1, m109i, B5]
          simp (disch := omega) only [l_0, l_1, l_2, l_3, l_4, l_5, l_6, l_7, l_8, l_9, l_10, l_11, l_12, l_13, l_14, l_16, l_20, l_21, l_23, l_24, l_30, l_32, l_40, l_41, l_44, l_48, l_57, l_59, l_60, l_63, l_64, l_80, l_84, l_96, l_97, l_99, l_120, l_122, l_127, l_200, l_240, l_255, l_840, l_999, l_1000, l_1001, l_2400, l_3064, l_9999, l_10000, l_13849, l_16383, l_25173, l_65535, l_65536, l_99999, l_1000000000, neg_nI, pk_mul, nI_add, nI_subL, tn_nI, inb_t, grd_true, bnd_some, elS_l, elS_r, nI_ltI, nI_leI, nI_inj, fa_and, fa_or, m1_eq, eq_m1, m1_lt, m1_le, lt_m1, le_m1, m1_lt0, up2_at, up2_no, ite_true, ite_false, if_true, if_false, Bool.false_eq_true, reduceIte, reduceCtorEq, not_true_eq_false, not_false_eq_true, eq_self, decide_true, decide_false, le_tt, le_ff, lt_tt, lt_ff, eq_ff, and_true, true_and, and_false, false_and, or_true, true_or, or_false, false_or, ne_eq, decide_eq_true_eq, decide_eq_false_iff_not, Bool.not_true, Bool.not_false, Bool.and_true, Bool.true_and, Bool.and_false, Bool.false_and, gs_at, gs_no, oI_n, oI_s, q, t1]
        · obtain ⟨M3, t1, t2, t3, t4⟩ := aim_arr (M := M2) hi h40 hl l2 B1 B2 B3 B4 (by rw [B5, fb_ct_succ, if_neg (fun w => q (hiff.mpr w)), ctm, Nat.add_zero]) (nI 1)
          refine ⟨M3, ?_, t2, t3⟩
          have q0 : fl = 0 := by omega
          unfold Fm_aims_j179
          simp (disch := omega) only [l_0, l_1, l_2, l_3, l_4, l_5, l_6, l_7, l_8, l_9, l_10, l_11, l_12, l_13, l_14, l_16, l_20, l_21, l_23, l_24, l_30, l_32, l_40, l_41, l_44, l_48, l_57, l_59, l_60, l_63, l_64, l_80, l_84, l_96, l_97, l_99, l_120, l_122, l_127, l_200, l_240, l_255, l_840, l_999, l_1000, l_1001, l_2400, l_3064, l_9999, l_10000, l_13849, l_16383, l_25173, l_65535, l_65536, l_99999, l_1000000000, neg_nI, pk_mul, nI_add, nI_subL, tn_nI, inb_t, grd_true, bnd_some, elS_l, elS_r, nI_ltI, nI_leI, nI_inj, fa_and, fa_or, m1_eq, eq_m1, m1_lt, m1_le, lt_m1, le_m1, m1_lt0, up2_at, up2_no, ite_true, ite_false, if_true, if_false, Bool.false_eq_true, reduceIte, reduceCtorEq, not_true_eq_false, not_false_eq_true, eq_self, decide_true, decide_false, le_tt, le_ff, lt_tt, lt_ff, eq_ff, and_true, true_and, and_false, false_and, or_true, true_or, or_false, false_or, ne_eq, decide_eq_true_eq, decide_eq_false_iff_not, Bool.not_true, Bool.not_false, Bool.and_true, Bool.true_and, Bool.and_false, Bool.false_and, gs_at, gs_no, oI_n, oI_s, hnar, l1, m109i]
          simp (disch := omega) only [l_0, l_1, l_2, l_3, l_4, l_5, l_6, l_7, l_8, l_9, l_10, l_11, l_12, l_13, l_14, l_16, l_20, l_21, l_23, l_24, l_30, l_32, l_40, l_41, l_44, l_48, l_57, l_59, l_60, l_63, l_64, l_80, l_84, l_96, l_97, l_99, l_120, l_122, l_127, l_200, l_240, l_255, l_840, l_999, l_1000, l_1001, l_2400, l_3064, l_9999, l_10000, l_13849, l_16383, l_25173, l_65535, l_65536, l_99999, l_1000000000, neg_nI, pk_mul, nI_add, nI_subL, tn_nI, inb_t, grd_true, bnd_some, elS_l, elS_r, nI_ltI, nI_leI, nI_inj, fa_and, fa_or, m1_eq, eq_m1, m1_lt, m1_le, lt_m1, le_m1, m1_lt0, up2_at, up2_no, ite_true, ite_false, if_true, if_false, Bool.false_eq_true, reduceIte, reduceCtorEq, not_true_eq_false, not_false_eq_true, eq_self, decide_true, decide_false, le_tt, le_ff, lt_tt, lt_ff, eq_ff, and_true, true_and, and_false, false_and, or_true, true_or, or_false, false_or, ne_eq, decide_eq_true_eq, decide_eq_false_iff_not, Bool.not_true, Bool.not_false, Bool.and_true, Bool.true_and, Bool.and_false, Bool.false_and, gs_at, gs_no, oI_n, oI_s, q0, t1]
      by_cases hm : mvB g (litG gT i on p.2.1 p.2.2.1) i = true
      · obtain ⟨M', t1, t2, t3⟩ := hj 1 (by omega) ⟨fun _ => hm, fun _ => rfl⟩
        refine ⟨_, M', rfl, ?_, t2, t3⟩
        rw [mvi, decide_eq_true_eq] at hm
        unfold Fm_aims_b70 Fm_aims_j174
        simp (disch := omega) only [l_0, l_1, l_2, l_3, l_4, l_5, l_6, l_7, l_8, l_9, l_10, l_11, l_12, l_13, l_14, l_16, l_20, l_21, l_23, l_24, l_30, l_32, l_40, l_41, l_44, l_48, l_57, l_59, l_60, l_63, l_64, l_80, l_84, l_96, l_97, l_99, l_120, l_122, l_127, l_200, l_240, l_255, l_840, l_999, l_1000, l_1001, l_2400, l_3064, l_9999, l_10000, l_13849, l_16383, l_25173, l_65535, l_65536, l_99999, l_1000000000, neg_nI, pk_mul, nI_add, nI_subL, tn_nI, inb_t, grd_true, bnd_some, elS_l, elS_r, nI_ltI, nI_leI, nI_inj, fa_and, fa_or, m1_eq, eq_m1, m1_lt, m1_le, lt_m1, le_m1, m1_lt0, up2_at, up2_no, ite_true, ite_false, if_true, if_false, Bool.false_eq_true, reduceIte, reduceCtorEq, not_true_eq_false, not_false_eq_true, eq_self, decide_true, decide_false, le_tt, le_ff, lt_tt, lt_ff, eq_ff, and_true, true_and, and_false, false_and, or_true, true_or, or_false, false_or, ne_eq, decide_eq_true_eq, decide_eq_false_iff_not, Bool.not_true, Bool.not_false, Bool.and_true, Bool.true_and, Bool.and_false, Bool.false_and, gs_at, gs_no, oI_n, oI_s, h7, o3, o0, o1, o2, f1, Option.isSome_some, p4, p5, p6, k1, k2, k3, k4]
        by_cases c4 : g (64 + 10 * i + 4) = p.2.1
        · by_cases c5 : g (64 + 10 * i + 5) = p.2.2.1
          · have c6 : ¬ g (64 + 10 * i + 6) = on := by omega
            simp (disch := omega) only [l_0, l_1, l_2, l_3, l_4, l_5, l_6, l_7, l_8, l_9, l_10, l_11, l_12, l_13, l_14, l_16, l_20, l_21, l_23, l_24, l_30, l_32, l_40, l_41, l_44, l_48, l_57, l_59, l_60, l_63, l_64, l_80, l_84, l_96, l_97, l_99, l_120, l_122, l_127, l_200, l_240, l_255, l_840, l_999, l_1000, l_1001, l_2400, l_3064, l_9999, l_10000, l_13849, l_16383, l_25173, l_65535, l_65536, l_99999, l_1000000000, neg_nI, pk_mul, nI_add, nI_subL, tn_nI, inb_t, grd_true, bnd_some, elS_l, elS_r, nI_ltI, nI_leI, nI_inj, fa_and, fa_or, m1_eq, eq_m1, m1_lt, m1_le, lt_m1, le_m1, m1_lt0, up2_at, up2_no, ite_true, ite_false, if_true, if_false, Bool.false_eq_true, reduceIte, reduceCtorEq, not_true_eq_false, not_false_eq_true, eq_self, decide_true, decide_false, le_tt, le_ff, lt_tt, lt_ff, eq_ff, and_true, true_and, and_false, false_and, or_true, true_or, or_false, false_or, ne_eq, decide_eq_true_eq, decide_eq_false_iff_not, Bool.not_true, Bool.not_false, Bool.and_true, Bool.true_and, Bool.and_false, Bool.false_and, gs_at, gs_no, oI_n, oI_s, c4, c5, c6, t1]
          · simp (disch := omega) only [l_0, l_1, l_2, l_3, l_4, l_5, l_6, l_7, l_8, l_9, l_10, l_11, l_12, l_13, l_14, l_16, l_20, l_21, l_23, l_24, l_30, l_32, l_40, l_41, l_44, l_48, l_57, l_59, l_60, l_63, l_64, l_80, l_84, l_96, l_97, l_99, l_120, l_122, l_127, l_200, l_240, l_255, l_840, l_999, l_1000, l_1001, l_2400, l_3064, l_9999, l_10000, l_13849, l_16383, l_25173, l_65535, l_65536, l_99999, l_1000000000, neg_nI, pk_mul, nI_add, nI_subL, tn_nI, inb_t, grd_true, bnd_some, elS_l, elS_r, nI_ltI, nI_leI, nI_inj, fa_and, fa_or, m1_eq, eq_m1, m1_lt, m1_le, lt_m1, le_m1, m1_lt0, up2_at, up2_no, ite_true, ite_false, if_true, if_false, Bool.false_eq_true, reduceIte, reduceCtorEq, not_true_eq_false, not_false_eq_true, eq_self, decide_true, decide_false, le_tt, le_ff, lt_tt, lt_ff, eq_ff, and_true, true_and, and_false, false_and, or_true, true_or, or_false, false_or, ne_eq, decide_eq_true_eq, decide_eq_false_iff_not, Bool.not_true, Bool.not_false, Bool.and_true, Bool.true_and, Bool.and_false, Bool.false_and, gs_at, gs_no, oI_n, oI_s, c4, c5, t1]
        · simp (disch := omega) only [l_0, l_1, l_2, l_3, l_4, l_5, l_6, l_7, l_8, l_9, l_10, l_11, l_12, l_13, l_14, l_16, l_20, l_21, l_23, l_24, l_30, l_32, l_40, l_41, l_44, l_48, l_57, l_59, l_60, l_63, l_64, l_80, l_84, l_96, l_97, l_99, l_120, l_122, l_127, l_200, l_240, l_255, l_840, l_999, l_1000, l_1001, l_2400, l_3064, l_9999, l_10000, l_13849, l_16383, l_25173, l_65535, l_65536, l_99999, l_1000000000, neg_nI, pk_mul, nI_add, nI_subL, tn_nI, inb_t, grd_true, bnd_some, elS_l, elS_r, nI_ltI, nI_leI, nI_inj, fa_and, fa_or, m1_eq, eq_m1, m1_lt, m1_le, lt_m1, le_m1, m1_lt0, up2_at, up2_no, ite_true, ite_false, if_true, if_false, Bool.false_eq_true, reduceIte, reduceCtorEq, not_true_eq_false, not_false_eq_true, eq_self, decide_true, decide_false, le_tt, le_ff, lt_tt, lt_ff, eq_ff, and_true, true_and, and_false, false_and, or_true, true_or, or_false, false_or, ne_eq, decide_eq_true_eq, decide_eq_false_iff_not, Bool.not_true, Bool.not_false, Bool.and_true, Bool.true_and, Bool.and_false, Bool.false_and, gs_at, gs_no, oI_n, oI_s, c4, t1]
      · obtain ⟨M', t1, t2, t3⟩ := hj 0 (by omega) ⟨fun q => by omega, fun q => absurd q hm⟩
        refine ⟨_, M', rfl, ?_, t2, t3⟩
        rw [mvi, decide_eq_true_eq] at hm
        have c4 : g (64 + 10 * i + 4) = p.2.1 := by omega
        have c5 : g (64 + 10 * i + 5) = p.2.2.1 := by omega
        have c6 : g (64 + 10 * i + 6) = on := by omega
        unfold Fm_aims_b70
        simp (disch := omega) only [l_0, l_1, l_2, l_3, l_4, l_5, l_6, l_7, l_8, l_9, l_10, l_11, l_12, l_13, l_14, l_16, l_20, l_21, l_23, l_24, l_30, l_32, l_40, l_41, l_44, l_48, l_57, l_59, l_60, l_63, l_64, l_80, l_84, l_96, l_97, l_99, l_120, l_122, l_127, l_200, l_240, l_255, l_840, l_999, l_1000, l_1001, l_2400, l_3064, l_9999, l_10000, l_13849, l_16383, l_25173, l_65535, l_65536, l_99999, l_1000000000, neg_nI, pk_mul, nI_add, nI_subL, tn_nI, inb_t, grd_true, bnd_some, elS_l, elS_r, nI_ltI, nI_leI, nI_inj, fa_and, fa_or, m1_eq, eq_m1, m1_lt, m1_le, lt_m1, le_m1, m1_lt0, up2_at, up2_no, ite_true, ite_false, if_true, if_false, Bool.false_eq_true, reduceIte, reduceCtorEq, not_true_eq_false, not_false_eq_true, eq_self, decide_true, decide_false, le_tt, le_ff, lt_tt, lt_ff, eq_ff, and_true, true_and, and_false, false_and, or_true, true_or, or_false, false_or, ne_eq, decide_eq_true_eq, decide_eq_false_iff_not, Bool.not_true, Bool.not_false, Bool.and_true, Bool.true_and, Bool.and_false, Bool.false_and, gs_at, gs_no, oI_n, oI_s, h7, o3, o0, o1, o2, f1, Option.isSome_some, p4, p5, p6, k1, k2, k3, k4]
        simp (disch := omega) only [l_0, l_1, l_2, l_3, l_4, l_5, l_6, l_7, l_8, l_9, l_10, l_11, l_12, l_13, l_14, l_16, l_20, l_21, l_23, l_24, l_30, l_32, l_40, l_41, l_44, l_48, l_57, l_59, l_60, l_63, l_64, l_80, l_84, l_96, l_97, l_99, l_120, l_122, l_127, l_200, l_240, l_255, l_840, l_999, l_1000, l_1001, l_2400, l_3064, l_9999, l_10000, l_13849, l_16383, l_25173, l_65535, l_65536, l_99999, l_1000000000, neg_nI, pk_mul, nI_add, nI_subL, tn_nI, inb_t, grd_true, bnd_some, elS_l, elS_r, nI_ltI, nI_leI, nI_inj, fa_and, fa_or, m1_eq, eq_m1, m1_lt, m1_le, lt_m1, le_m1, m1_lt0, up2_at, up2_no, ite_true, ite_false, if_true, if_false, Bool.false_eq_true, reduceIte, reduceCtorEq, not_true_eq_false, not_false_eq_true, eq_self, decide_true, decide_false, le_tt, le_ff, lt_tt, lt_ff, eq_ff, and_true, true_and, and_false, false_and, or_true, true_or, or_false, false_or, ne_eq, decide_eq_true_eq, decide_eq_false_iff_not, Bool.not_true, Bool.not_false, Bool.and_true, Bool.true_and, Bool.and_false, Bool.false_and, gs_at, gs_no, oI_n, oI_s, c4, c5, c6, t1]
    | none =>
      rw [hf] at f1
      simp only
      have hfit := Fm_fits_e (f3.FR hWa.1) hWa.1 (l := g (64 + 10 * i + 6)) (s := g (64 + 10 * i + 4)) (v := g (64 + 10 * i + 5)) (n := n) (but := some i) (fun k q => by cases q; omega) (by omega) (by omega) (by omega)
      rw [oI_s, fit_ag hT] at hfit
      obtain ⟨M2, t1, t2, t3⟩ := f3.sets (d := i) (w := 3) (v := 0) (by omega) (by omega) (by omega)
      have B1 : AR M2 g gT i := hA1.fr t3 (fun c j hc => by omega) (by omega)
      have ht2 := t2
      rw [ag_stay hT hi hl] at t2
      have mv0 : mvB g (litG gT i (g (64 + 10 * i + 6)) (g (64 + 10 * i + 4)) (g (64 + 10 * i + 5))) i = false := by
        rw [mvi]
        exact decide_eq_false (by omega)
      have harr : ∀ v, ∃ M', Fm_aims_j239 v (nI i) M2 = some (.inl (v, nI (i + 1), M')) ∧ FK M' (agG g (litG gT i (g (64 + 10 * i + 6)) (g (64 + 10 * i + 4)) (g (64 + 10 * i + 5))) (i + 1)) h ∧ AR M' g (litG gT i (g (64 + 10 * i + 6)) (g (64 + 10 * i + 4)) (g (64 + 10 * i + 5))) (i + 1) ∧ Fr (fun c _ => c = 105 ∨ c = 106 ∨ c = 107) M2 M' := fun v => aim_arr hi h40 hl t2 (fun d w1 w2 w3 => by
          rw [lit_ne (by omega) (by omega), lit_ne (by omega) (by omega), lit_ne (by omega) (by omega)]
          exact B1.1 d w1 w2 w3) (fun d hd => by
          rw [B1.2.1 d hd]
          by_cases c : d = i
          · subst c
            rw [mv0, Bool.and_false, decide_eq_false (Nat.lt_irrefl _), Bool.false_and]
          · rw [mvd _ _ _ d c]
            congr 2
            exact decide_eq_decide.mpr (by omega)) B1.2.2.1 B1.2.2.2.1 (by rw [B1.2.2.2.2, fb_ct_succ, mv0, if_neg (by simp), ctm, Nat.add_zero]) v
      by_cases hft : fitB gT (g (64 + 10 * i + 6)) (g (64 + 10 * i + 4)) (g (64 + 10 * i + 5)) none = true
      · rw [if_pos hft]
        rw [hft] at hfit
        left
        obtain ⟨M', u1, u2, u3, u4⟩ := harr (nI 1)
        refine ⟨_, M', rfl, ?_, u2, u3⟩
        unfold Fm_aims_b70
        simp (disch := omega) only [l_0, l_1, l_2, l_3, l_4, l_5, l_6, l_7, l_8, l_9, l_10, l_11, l_12, l_13, l_14, l_16, l_20, l_21, l_23, l_24, l_30, l_32, l_40, l_41, l_44, l_48, l_57, l_59, l_60, l_63, l_64, l_80, l_84, l_96, l_97, l_99, l_120, l_122, l_127, l_200, l_240, l_255, l_840, l_999, l_1000, l_1001, l_2400, l_3064, l_9999, l_10000, l_13849, l_16383, l_25173, l_65535, l_65536, l_99999, l_1000000000, neg_nI, pk_mul, nI_add, nI_subL, tn_nI, inb_t, grd_true, bnd_some, elS_l, elS_r, nI_ltI, nI_leI, nI_inj, fa_and, fa_or, m1_eq, eq_m1, m1_lt, m1_le, lt_m1, le_m1, m1_lt0, up2_at, up2_no, ite_true, ite_false, if_true, if_false, Bool.false_eq_true, reduceIte, reduceCtorEq, not_true_eq_false, not_false_eq_true, eq_self, decide_true, decide_false, le_tt, le_ff, lt_tt, lt_ff, eq_ff, and_true, true_and, and_false, false_and, or_true, true_or, or_false, false_or, ne_eq, decide_eq_true_eq, decide_eq_false_iff_not, Bool.not_true, Bool.not_false, Bool.and_true, Bool.true_and, Bool.and_false, Bool.false_and, gs_at, gs_no, oI_n, oI_s, h7, o3, o0, o1, o2, f1, Option.isSome_none, p4, p5, p6, hfit, t1, show b2i true = nI 1 from rfl, u1]
      · rw [if_neg hft]
        rw [ts_nt hft] at hfit
        right
        obtain ⟨M', u1, u2, u3, u4⟩ := harr (nI 0)
        have hlow : ∀ k, k < 64 → gs (agG g gT i) (64 + 10 * i + 3) 0 k = gT k := fun k hk => by rw [gs_no (by omega), ag_lo hk]
        refine ⟨rfl, gs (agG g gT i) (64 + 10 * i + 3) 0, M', ?_, ht2.fr u4 (fun j => by omega), GB_gs hWa.1 (by omega) (by omega), NV_cong hlow hT.1.2.1, fun d hd hl' => ?_, by rw [hlow 7 (by omega), e7]⟩
        · unfold Fm_aims_b70
          simp (disch := omega) only [l_0, l_1, l_2, l_3, l_4, l_5, l_6, l_7, l_8, l_9, l_10, l_11, l_12, l_13, l_14, l_16, l_20, l_21, l_23, l_24, l_30, l_32, l_40, l_41, l_44, l_48, l_57, l_59, l_60, l_63, l_64, l_80, l_84, l_96, l_97, l_99, l_120, l_122, l_127, l_200, l_240, l_255, l_840, l_999, l_1000, l_1001, l_2400, l_3064, l_9999, l_10000, l_13849, l_16383, l_25173, l_65535, l_65536, l_99999, l_1000000000, neg_nI, pk_mul, nI_add, nI_subL, tn_nI, inb_t, grd_true, bnd_some, elS_l, elS_r, nI_ltI, nI_leI, nI_inj, fa_and, fa_or, m1_eq, eq_m1, m1_lt, m1_le, lt_m1, le_m1, m1_lt0, up2_at, up2_no, ite_true, ite_false, if_true, if_false, Bool.false_eq_true, reduceIte, reduceCtorEq, not_true_eq_false, not_false_eq_true, eq_self, decide_true, decide_false, le_tt, le_ff, lt_tt, lt_ff, eq_ff, and_true, true_and, and_false, false_and, or_true, true_or, or_false, false_or, ne_eq, decide_eq_true_eq, decide_eq_false_iff_not, Bool.not_true, Bool.not_false, Bool.and_true, Bool.true_and, Bool.and_false, Bool.false_and, gs_at, gs_no, oI_n, oI_s, h7, o3, o0, o1, o2, f1, Option.isSome_none, p4, p5, p6, hfit, t1, show b2i false = nI 0 from rfl, u1]
        · rw [hlow 7 (by omega), e7] at hd
          rw [gs_no (j := 64 + 10 * d + 4) (by omega), gs_no (j := 64 + 10 * d + 5) (by omega), gs_no (j := 64 + 10 * d + 6) (by omega), ag_w (w := 4) (by omega) (by omega), ag_w (w := 5) (by omega) (by omega), ag_w (w := 6) (by omega) (by omega), hlow 1 (by omega), hlow 3 (by omega)]
          by_cases c : d = i
          · subst c
            rw [q4, q5, q6, e1, e3]
            exact ⟨y1, y2, y3, y4⟩
          · rw [gs_no (by omega)] at hl'
            exact hT.1.2.2.2.1 d (by rw [e7]; exact hd) ((T_lit hT hd).mpr ((ag_lit hd).mp hl'))
  · rw [if_neg hl] at o3
    rw [if_neg hl]
    left
    have hne4 : g (64 + 10 * i + 3) ≠ 4 := by omega
    refine ⟨gT, M, rfl, ?_, by rw [← ag_no hi hl]; exact hF, fun d w1 w2 w3 => A1 d (by
      rcases Nat.lt_or_ge d i with q | q
      · exact q
      · exact absurd (by rw [← show d = i by omega]; exact w3) hl) w2 w3, fun d hd => ?_, A3, A4, ?_⟩
    · unfold Fm_aims_b70 Fm_aims_j276
      simp (disch := omega) only [l_0, l_1, l_2, l_3, l_4, l_5, l_6, l_7, l_8, l_9, l_10, l_11, l_12, l_13, l_14, l_16, l_20, l_21, l_23, l_24, l_30, l_32, l_40, l_41, l_44, l_48, l_57, l_59, l_60, l_63, l_64, l_80, l_84, l_96, l_97, l_99, l_120, l_122, l_127, l_200, l_240, l_255, l_840, l_999, l_1000, l_1001, l_2400, l_3064, l_9999, l_10000, l_13849, l_16383, l_25173, l_65535, l_65536, l_99999, l_1000000000, neg_nI, pk_mul, nI_add, nI_subL, tn_nI, inb_t, grd_true, bnd_some, elS_l, elS_r, nI_ltI, nI_leI, nI_inj, fa_and, fa_or, m1_eq, eq_m1, m1_lt, m1_le, lt_m1, le_m1, m1_lt0, up2_at, up2_no, ite_true, ite_false, if_true, if_false, Bool.false_eq_true, reduceIte, reduceCtorEq, not_true_eq_false, not_false_eq_true, eq_self, decide_true, decide_false, le_tt, le_ff, lt_tt, lt_ff, eq_ff, and_true, true_and, and_false, false_and, or_true, true_or, or_false, false_or, ne_eq, decide_eq_true_eq, decide_eq_false_iff_not, Bool.not_true, Bool.not_false, Bool.and_true, Bool.true_and, Bool.and_false, Bool.false_and, gs_at, gs_no, oI_n, oI_s, h7, o3, hne4]
    · rw [A2 d hd]
      by_cases c : d = i
      · subst c
        have : mvB g gT d = false := decide_eq_false (fun q => hl q.1)
        rw [this, Bool.and_false, Bool.and_false]
      · congr 2
        exact decide_eq_decide.mpr (by omega)
    · have : mvB g gT i = false := decide_eq_false (fun q => hl q.1)
      rw [A5, fb_ct_succ, this, if_neg (by simp), Nat.add_zero]
end
