/-! the class: find -/
theorem fold_mem {lt : We → We → Bool} {y : We} : ∀ {Ls L : List We}, y ∈ Ls.foldl (T4 lt) L → y ∈ L ∨ y ∈ Ls
  | [], _, h => .inl h
  | e :: Ls, L, h => by
    rw [List.foldl_cons] at h
    rcases fold_mem h with q | q
    · rcases T4_mem q with w | w
      · exact .inr (by rw [w]; exact List.mem_cons_self)
      · exact .inl w
    · exact .inr (List.mem_cons_of_mem _ q)
theorem pth_EI {g : Nat → Nat} (hN : NV g) {goal : Nat} : ∀ k v seen e, EI g v seen e → ∀ y, y ∈ pthW (chM g) (lenG g) goal k v seen e → ∃ v' s', EI g v' s' y
  | 0, v, seen, e, h, y, hy => by
    unfold pthW at hy
    by_cases q : v = goal
    · rw [if_pos q, List.mem_singleton] at hy; rw [hy]; exact ⟨_, _, h⟩
    · rw [if_neg q] at hy; cases hy
  | k + 1, v, seen, e, h, y, hy => by
    unfold pthW at hy
    by_cases q : v = goal
    · rw [if_pos q, List.mem_singleton] at hy; rw [hy]; exact ⟨_, _, h⟩
    · rw [if_neg q, List.mem_flatMap] at hy
      obtain ⟨p, hp, hy⟩ := hy
      by_cases q2 : seen.testBit p.1 = true
      · rw [if_pos q2] at hy; cases hy
      · rw [if_neg q2] at hy
        obtain ⟨h1, h2, h3⟩ := chL_mem.mp hp
        exact pth_EI hN k _ _ _ (h.ext hN (by omega) h3 (by simpa using q2)).1 y hy
theorem ways_EI {g : Nat → Nat} (hN : NV g) {a b : Nat} (ha : a < g 0) {e : We} (he : e ∈ waysG g a b) : ∃ v s, EI g v s e := by
  rcases fold_mem he with q | q
  · cases q
  · exact pth_EI hN _ _ _ _ (EI_0 hN ha) e q
theorem ways_len {g : Nat → Nat} {a b : Nat} : (waysG g a b).length ≤ 4 := by
  unfold waysG
  have : ∀ (Ls L : List We), L.length ≤ 4 → (Ls.foldl (T4 ahB) L).length ≤ 4 := by
    intro Ls
    induction Ls with
    | nil => intro L h; exact h
    | cons e Ls ih => intro L h; exact ih _ T4_len
  exact this _ _ (by decide)
theorem ways_at {g : Nat → Nat} (hN : NV g) {a b k : Nat} (ha : a < g 0) (hk : k < (waysG g a b).length) : wlO (waysG g a b) k < 1048576 ∧ wkO (waysG g a b) k < 2 ^ g 3 ∧ wkO (waysG g a b) k < 16384 ∧ ∃ e, (waysG g a b)[k]? = some e ∧ e.1 = wlO (waysG g a b) k ∧ e.2.2.2 = wkO (waysG g a b) k ∧ pcI e.2.2.2 = e.2.1 ∧ e.2.1 ≤ 7 := by
  have e1 : (waysG g a b)[k]? = some (waysG g a b)[k] := List.getElem?_eq_getElem hk
  have hw : (waysG g a b).getD k (0, 0, 0, 0) = (waysG g a b)[k] := by
    rw [List.getD_eq_getElem?_getD, e1]; rfl
  obtain ⟨v, s, h⟩ := ways_EI hN ha (List.getElem_mem hk)
  have h2 := h.lt hN
  unfold wlO wkO
  rw [hw]
  refine ⟨h2.2.1, lt_of_bits (fun i hi => (h.2.2.2.1 i hi).1), h2.2.2.2.2, _, e1, rfl, rfl, h.2.2.2.2.2.2.1, h2.1⟩
theorem CE_at {M : Mm} {p k : Nat} {L : List We} (h : CE M p L) (hk : k < L.length) : M.1 16 (p * 4 + k) = nI (wkO L k) ∧ M.1 17 (p * 4 + k) = nI (wlO L k) := by
  have e1 : L[k]? = some L[k] := List.getElem?_eq_getElem hk
  have hw : L.getD k (0, 0, 0, 0) = L[k] := by
    rw [List.getD_eq_getElem?_getD, e1]; rfl
  have := HL_get h.2.2.1 e1
  rw [Nat.zero_add] at this
  unfold wkO wlO
  rw [hw]
  exact ⟨this.1, this.2.1⟩
theorem fd_stay {g : Nat → Nat} {wl wk : Nat → Nat} {rate rule k : Nat} (hr : rule = 0 ∨ rule = 3) (h : (fdG g wl wk rate rule k).isSome = true) : ∀ j, fdG g wl wk rate rule (k + j) = fdG g wl wk rate rule k
  | 0 => rfl
  | j + 1 => by
    have ih := fd_stay hr h j
    have e0 : fdG g wl wk rate rule (k + (j + 1)) = match wdS g rate (wl (k + j)) with
        | none => fdG g wl wk rate rule (k + j)
        | some v => if ((fdG g wl wk rate rule (k + j)).isSome && (decide (rule = 0) || decide (rule = 3))) = true then fdG g wl wk rate rule (k + j) else fdI (g 1) (fun l s v => fitB g l s v none) (rowS g) rule (k + j) (wk (k + j)) v (fdG g wl wk rate rule (k + j)) (g 1 + 1 - v) := rfl
    rw [e0, ih]
    cases wdS g rate (wl (k + j)) with
    | none => rfl
    | some v =>
      simp only
      rw [h, if_pos (by rcases hr with q | q <;> subst q <;> rfl)]
theorem fdI_ext {g : Nat → Nat} {w l v : Nat} {b : Option (Nat × Nat × Nat × Nat)} (hv : 1 ≤ v) : ∀ j, fdI (g 1) (fun l s v => fitB g l s v none) (rowS g) 2 w l v b (g 1 + 1 - v + j) = fdI (g 1) (fun l s v => fitB g l s v none) (rowS g) 2 w l v b (g 1 + 1 - v)
  | 0 => rfl
  | j + 1 => by
    rw [← Nat.add_assoc, fdI_s]
    have : fitB g l (fdK (g 1) 2 v (g 1 + 1 - v + j)) v none = false := by
      rw [← Bool.not_eq_true, fit_iff]
      intro q
      have e : fdK (g 1) 2 v (g 1 + 1 - v + j) = g 1 + 1 - v + j := if_neg (by decide)
      have := q.1
      omega
    rw [this, Bool.false_and, if_neg (by decide), fdI_ext hv j]
theorem fdG_s {g : Nat → Nat} {wl wk : Nat → Nat} {rate rule k : Nat} : fdG g wl wk rate rule (k + 1) = match wdS g rate (wl k) with
    | none => fdG g wl wk rate rule k
    | some v => if ((fdG g wl wk rate rule k).isSome && (decide (rule = 0) || decide (rule = 3))) = true then fdG g wl wk rate rule k else fdI (g 1) (fun l s v => fitB g l s v none) (rowS g) rule k (wk k) v (fdG g wl wk rate rule k) (g 1 + 1 - v) := rfl
/-- the window that is found between two nodes -/
def fdW (g : Nat → Nat) (a b rate rule : Nat) : Option (Nat × Nat × Nat × Nat) := fdG g (wlO (waysG g a b)) (wkO (waysG g a b)) rate rule (waysG g a b).length
section
variable {M : Mm} {g : Nat → Nat} {n o : Nat}
theorem FB_neg {wk : Nat → Nat} {rule : Nat} {p : Option (Nat × Nat × Nat × Nat)} (h : FB wk rule M p) : (M.1 12 1 < nI 0) = (p.isSome = false) := by
  cases p with
  | none =>
    have h1 : M.1 12 1 = ng 1 := h
    rw [h1]
    simp (disch := omega) only [l_0, l_1, l_2, l_3, l_4, l_5, l_6, l_7, l_8, l_9, l_10, l_11, l_12, l_13, l_14, l_16, l_20, l_21, l_23, l_24, l_30, l_32, l_40, l_41, l_44, l_48, l_57, l_59, l_60, l_63, l_64, l_80, l_84, l_96, l_97, l_99, l_120, l_122, l_127, l_200, l_240, l_255, l_840, l_999, l_1000, l_1001, l_2400, l_3064, l_9999, l_10000, l_13849, l_16383, l_25173, l_65535, l_65536, l_99999, l_1000000000, neg_nI, pk_mul, nI_add, nI_subL, tn_nI, inb_t, grd_true, bnd_some, elS_l, elS_r, nI_ltI, nI_leI, nI_inj, fa_and, fa_or, m1_eq, eq_m1, m1_lt, m1_le, lt_m1, le_m1, m1_lt0, up2_at, up2_no, ite_true, ite_false, if_true, if_false, Bool.false_eq_true, reduceIte, reduceCtorEq, not_true_eq_false, not_false_eq_true, eq_self, decide_true, decide_false, le_tt, le_ff, lt_tt, lt_ff, eq_ff, and_true, true_and, and_false, false_and, or_true, true_or, or_false, false_or, ne_eq, decide_eq_true_eq, decide_eq_false_iff_not, Bool.not_true, Bool.not_false, Bool.and_true, Bool.true_and, Bool.and_false, Bool.false_and, gs_at, gs_no, oI_n, oI_s]
    simp
  | some q =>
    have h1 := h.1
    have h2 := h.2.2.2.2.2.2.1
    rw [h1]
    simp (disch := omega) only [l_0, l_1, l_2, l_3, l_4, l_5, l_6, l_7, l_8, l_9, l_10, l_11, l_12, l_13, l_14, l_16, l_20, l_21, l_23, l_24, l_30, l_32, l_40, l_41, l_44, l_48, l_57, l_59, l_60, l_63, l_64, l_80, l_84, l_96, l_97, l_99, l_120, l_122, l_127, l_200, l_240, l_255, l_840, l_999, l_1000, l_1001, l_2400, l_3064, l_9999, l_10000, l_13849, l_16383, l_25173, l_65535, l_65536, l_99999, l_1000000000, neg_nI, pk_mul, nI_add, nI_subL, tn_nI, inb_t, grd_true, bnd_some, elS_l, elS_r, nI_ltI, nI_leI, nI_inj, fa_and, fa_or, m1_eq, eq_m1, m1_lt, m1_le, lt_m1, le_m1, m1_lt0, up2_at, up2_no, ite_true, ite_false, if_true, if_false, Bool.false_eq_true, reduceIte, reduceCtorEq, not_true_eq_false, not_false_eq_true, eq_self, decide_true, decide_false, le_tt, le_ff, lt_tt, lt_ff, eq_ff, and_true, true_and, and_false, false_and, or_true, true_or, or_false, false_or, ne_eq, decide_eq_true_eq, decide_eq_false_iff_not, Bool.not_true, Bool.not_false, Bool.and_true, Bool.true_and, Bool.and_false, Bool.false_and, gs_at, gs_no, oI_n, oI_s]
    simp
theorem FB_pos {wk : Nat → Nat} {rule : Nat} {p : Option (Nat × Nat × Nat × Nat)} (h : FB wk rule M p) : (nI 0 ≤ M.1 12 1) = (p.isSome = true) := by
  cases p with
  | none =>
    have h1 : M.1 12 1 = ng 1 := h
    rw [h1]
    simp (disch := omega) only [l_0, l_1, l_2, l_3, l_4, l_5, l_6, l_7, l_8, l_9, l_10, l_11, l_12, l_13, l_14, l_16, l_20, l_21, l_23, l_24, l_30, l_32, l_40, l_41, l_44, l_48, l_57, l_59, l_60, l_63, l_64, l_80, l_84, l_96, l_97, l_99, l_120, l_122, l_127, l_200, l_240, l_255, l_840, l_999, l_1000, l_1001, l_2400, l_3064, l_9999, l_10000, l_13849, l_16383, l_25173, l_65535, l_65536, l_99999, l_1000000000, neg_nI, pk_mul, nI_add, nI_subL, tn_nI, inb_t, grd_true, bnd_some, elS_l, elS_r, nI_ltI, nI_leI, nI_inj, fa_and, fa_or, m1_eq, eq_m1, m1_lt, m1_le, lt_m1, le_m1, m1_lt0, up2_at, up2_no, ite_true, ite_false, if_true, if_false, Bool.false_eq_true, reduceIte, reduceCtorEq, not_true_eq_false, not_false_eq_true, eq_self, decide_true, decide_false, le_tt, le_ff, lt_tt, lt_ff, eq_ff, and_true, true_and, and_false, false_and, or_true, true_or, or_false, false_or, ne_eq, decide_eq_true_eq, decide_eq_false_iff_not, Bool.not_true, Bool.not_false, Bool.and_true, Bool.true_and, Bool.and_false, Bool.false_and, gs_at, gs_no, oI_n, oI_s]
    simp
  | some q =>
    have h1 := h.1
    have h2 := h.2.2.2.2.2.2.1
    rw [h1]
    simp (disch := omega) only [l_0, l_1, l_2, l_3, l_4, l_5, l_6, l_7, l_8, l_9, l_10, l_11, l_12, l_13, l_14, l_16, l_20, l_21, l_23, l_24, l_30, l_32, l_40, l_41, l_44, l_48, l_57, l_59, l_60, l_63, l_64, l_80, l_84, l_96, l_97, l_99, l_120, l_122, l_127, l_200, l_240, l_255, l_840, l_999, l_1000, l_1001, l_2400, l_3064, l_9999, l_10000, l_13849, l_16383, l_25173, l_65535, l_65536, l_99999, l_1000000000, neg_nI, pk_mul, nI_add, nI_subL, tn_nI, inb_t, grd_true, bnd_some, elS_l, elS_r, nI_ltI, nI_leI, nI_inj, fa_and, fa_or, m1_eq, eq_m1, m1_lt, m1_le, lt_m1, le_m1, m1_lt0, up2_at, up2_no, ite_true, ite_false, if_true, if_false, Bool.false_eq_true, reduceIte, reduceCtorEq, not_true_eq_false, not_false_eq_true, eq_self, decide_true, decide_false, le_tt, le_ff, lt_tt, lt_ff, eq_ff, and_true, true_and, and_false, false_and, or_true, true_or, or_false, false_or, ne_eq, decide_eq_true_eq, decide_eq_false_iff_not, Bool.not_true, Bool.not_false, Bool.and_true, Bool.true_and, Bool.and_false, Bool.false_and, gs_at, gs_no, oI_n, oI_s]
    simp
theorem Fi_way_e (hG : GB g) (hN : NV g) (hL : LV g) (hC : CN M (o + 1) g) (hU : UB M o g) (ho : 18 ≤ o ∧ o < 90) (hn : 100 < n) {p k rate rule : Nat} {W : List We} (hp : p < 64) (hk : k < W.length) (hE : CE M p W) (hwl : wlO W k < 1048576) (hwk : wkO W k < 2 ^ g 3) (hr1 : 1 ≤ rate) (hr2 : rate ≤ 64) (hru : rule < 4) (hb : FB (wkO W) rule M (fdG g (wlO W) (wkO W) rate rule k)) (hns : rule = 0 ∨ rule = 3 → fdG g (wlO W) (wkO W) rate rule k = none) : ∃ M', Fi_find_j65 n o (nI rate) (nI rule) (nI p) (nI k) M = some (.inl (nI (k + 1), M')) ∧ FB (wkO W) rule M' (fdG g (wlO W) (wkO W) rate rule (k + 1)) ∧ Fr f12 M M' := by
  have b1 := hN.1
  have hW4 := hE.2.1
  obtain ⟨c1, c2⟩ := CE_at hE hk
  have hwd := Nt_widthOf_e (n := n) hG hC (len := wlO W k) (rate := rate) hwl (by omega) hn
  rw [fdG_s]
  generalize hbp : fdG g (wlO W) (wkO W) rate rule k = b at *
  have h213 : ∀ M2 : Mm, Fi_find_j213 (nI k) M2 = some (.inl (nI (k + 1), M2)) := fun M2 => by
    unfold Fi_find_j213
    simp (disch := omega) only [l_0, l_1, l_2, l_3, l_4, l_5, l_6, l_7, l_8, l_9, l_10, l_11, l_12, l_13, l_14, l_16, l_20, l_21, l_23, l_24, l_30, l_32, l_40, l_41, l_44, l_48, l_57, l_59, l_60, l_63, l_64, l_80, l_84, l_96, l_97, l_99, l_120, l_122, l_127, l_200, l_240, l_255, l_840, l_999, l_1000, l_1001, l_2400, l_3064, l_9999, l_10000, l_13849, l_16383, l_25173, l_65535, l_65536, l_99999, l_1000000000, neg_nI, pk_mul, nI_add, nI_subL, tn_nI, inb_t, grd_true, bnd_some, elS_l, elS_r, nI_ltI, nI_leI, nI_inj, fa_and, fa_or, m1_eq, eq_m1, m1_lt, m1_le, lt_m1, le_m1, m1_lt0, up2_at, up2_no, ite_true, ite_false, if_true, if_false, Bool.false_eq_true, reduceIte, reduceCtorEq, not_true_eq_false, not_false_eq_true, eq_self, decide_true, decide_false, le_tt, le_ff, lt_tt, lt_ff, eq_ff, and_true, true_and, and_false, false_and, or_true, true_or, or_false, false_or, ne_eq, decide_eq_true_eq, decide_eq_false_iff_not, Bool.not_true, Bool.not_false, Bool.and_true, Bool.true_and, Bool.and_false, Bool.false_and, gs_at, gs_no, oI_n, oI_s]
  cases hv : wdS g rate (wlO W k) with
  | none =>
    rw [hv] at hwd
    refine ⟨M, ?_, hb, Fr.rf⟩
    have hw0 : Nt_widthOf n (o + 1) (nI rate) (nI (wlO W k)) M = some (nI 0) := hwd
    unfold Fi_find_j65 Fi_find_j126 Fi_find_j157
    simp (disch := omega) only [l_0, l_1, l_2, l_3, l_4, l_5, l_6, l_7, l_8, l_9, l_10, l_11, l_12, l_13, l_14, l_16, l_20, l_21, l_23, l_24, l_30, l_32, l_40, l_41, l_44, l_48, l_57, l_59, l_60, l_63, l_64, l_80, l_84, l_96, l_97, l_99, l_120, l_122, l_127, l_200, l_240, l_255, l_840, l_999, l_1000, l_1001, l_2400, l_3064, l_9999, l_10000, l_13849, l_16383, l_25173, l_65535, l_65536, l_99999, l_1000000000, neg_nI, pk_mul, nI_add, nI_subL, tn_nI, inb_t, grd_true, bnd_some, elS_l, elS_r, nI_ltI, nI_leI, nI_inj, fa_and, fa_or, m1_eq, eq_m1, m1_lt, m1_le, lt_m1, le_m1, m1_lt0, up2_at, up2_no, ite_true, ite_false, if_true, if_false, Bool.false_eq_true, reduceIte, reduceCtorEq, not_true_eq_false, not_false_eq_true, eq_self, decide_true, decide_false, le_tt, le_ff, lt_tt, lt_ff, eq_ff, and_true, true_and, and_false, false_and, or_true, true_or, or_false, false_or, ne_eq, decide_eq_true_eq, decide_eq_false_iff_not, Bool.not_true, Bool.not_false, Bool.and_true, Bool.true_and, Bool.and_false, Bool.false_and, gs_at, gs_no, oI_n, oI_s, c1, c2, hw0, h213]
  | some v =>
    rw [hv] at hwd
    have hw0 : Nt_widthOf n (o + 1) (nI rate) (nI (wlO W k)) M = some (nI v) := hwd
    obtain ⟨v1, v2⟩ := wdS_pos hv hr1
    simp only
    have hcond : (b.isSome && (decide (rule = 0) || decide (rule = 3))) = false := by
      by_cases q : rule = 0 ∨ rule = 3
      · rw [hns q]; rfl
      · rw [decide_eq_false (fun w => q (.inl w)), decide_eq_false (fun w => q (.inr w)), Bool.or_false, Bool.and_false]
    rw [hcond, if_neg (by decide)]
    obtain ⟨F, f1, f2, f3⟩ := St_fitting_of (n := n) (but := none) (x := ng 1) hN hL hC v1 (by omega) hn (St_busy_none hN hL hC hU hwk hn)
    have e65 : Fi_find_j65 n o (nI rate) (nI rule) (nI p) (nI k) M = Fi_find_j126 n o (nI rule) (nI k) (nI (wkO W k)) (nI v) (lN F) M := by
      unfold Fi_find_j65
      simp (disch := omega) only [l_0, l_1, l_2, l_3, l_4, l_5, l_6, l_7, l_8, l_9, l_10, l_11, l_12, l_13, l_14, l_16, l_20, l_21, l_23, l_24, l_30, l_32, l_40, l_41, l_44, l_48, l_57, l_59, l_60, l_63, l_64, l_80, l_84, l_96, l_97, l_99, l_120, l_122, l_127, l_200, l_240, l_255, l_840, l_999, l_1000, l_1001, l_2400, l_3064, l_9999, l_10000, l_13849, l_16383, l_25173, l_65535, l_65536, l_99999, l_1000000000, neg_nI, pk_mul, nI_add, nI_subL, tn_nI, inb_t, grd_true, bnd_some, elS_l, elS_r, nI_ltI, nI_leI, nI_inj, fa_and, fa_or, m1_eq, eq_m1, m1_lt, m1_le, lt_m1, le_m1, m1_lt0, up2_at, up2_no, ite_true, ite_false, if_true, if_false, Bool.false_eq_true, reduceIte, reduceCtorEq, not_true_eq_false, not_false_eq_true, eq_self, decide_true, decide_false, le_tt, le_ff, lt_tt, lt_ff, eq_ff, and_true, true_and, and_false, false_and, or_true, true_or, or_false, false_or, ne_eq, decide_eq_true_eq, decide_eq_false_iff_not, Bool.not_true, Bool.not_false, Bool.and_true, Bool.true_and, Bool.and_false, Bool.false_and, gs_at, gs_no, oI_n, oI_s, c1, c2, hw0, f1]
    rw [e65]
    by_cases hF0 : F = 0
    · refine ⟨M, ?_, ?_, Fr.rf⟩
      · unfold Fi_find_j126 Fi_find_j157
        simp (disch := omega) only [l_0, l_1, l_2, l_3, l_4, l_5, l_6, l_7, l_8, l_9, l_10, l_11, l_12, l_13, l_14, l_16, l_20, l_21, l_23, l_24, l_30, l_32, l_40, l_41, l_44, l_48, l_57, l_59, l_60, l_63, l_64, l_80, l_84, l_96, l_97, l_99, l_120, l_122, l_127, l_200, l_240, l_255, l_840, l_999, l_1000, l_1001, l_2400, l_3064, l_9999, l_10000, l_13849, l_16383, l_25173, l_65535, l_65536, l_99999, l_1000000000, neg_nI, pk_mul, nI_add, nI_subL, tn_nI, inb_t, grd_true, bnd_some, elS_l, elS_r, nI_ltI, nI_leI, nI_inj, fa_and, fa_or, m1_eq, eq_m1, m1_lt, m1_le, lt_m1, le_m1, m1_lt0, up2_at, up2_no, ite_true, ite_false, if_true, if_false, Bool.false_eq_true, reduceIte, reduceCtorEq, not_true_eq_false, not_false_eq_true, eq_self, decide_true, decide_false, le_tt, le_ff, lt_tt, lt_ff, eq_ff, and_true, true_and, and_false, false_and, or_true, true_or, or_false, false_or, ne_eq, decide_eq_true_eq, decide_eq_false_iff_not, Bool.not_true, Bool.not_false, Bool.and_true, Bool.true_and, Bool.and_false, Bool.false_and, gs_at, gs_no, oI_n, oI_s, lz0, hF0, h213]
      · rw [fdI_none (fun j _ => by rw [← f3, hF0, Nat.zero_testBit])]
        exact hb
    · have hF0' : (F = 0) = False := eq_false hF0
      by_cases h2 : rule = 2
      · subst h2
        obtain ⟨M', w1, w2, w3⟩ := Fi_weighRows_e (n := n) (wk := wkO W) (w := k) (v := v) hN hL hC hU ho hwk hn rfl (by omega) v1 (by omega) f2 f3 hb
        refine ⟨M', ?_, ?_, w3⟩
        · unfold Fi_find_j126
          simp (disch := omega) only [l_0, l_1, l_2, l_3, l_4, l_5, l_6, l_7, l_8, l_9, l_10, l_11, l_12, l_13, l_14, l_16, l_20, l_21, l_23, l_24, l_30, l_32, l_40, l_41, l_44, l_48, l_57, l_59, l_60, l_63, l_64, l_80, l_84, l_96, l_97, l_99, l_120, l_122, l_127, l_200, l_240, l_255, l_840, l_999, l_1000, l_1001, l_2400, l_3064, l_9999, l_10000, l_13849, l_16383, l_25173, l_65535, l_65536, l_99999, l_1000000000, neg_nI, pk_mul, nI_add, nI_subL, tn_nI, inb_t, grd_true, bnd_some, elS_l, elS_r, nI_ltI, nI_leI, nI_inj, fa_and, fa_or, m1_eq, eq_m1, m1_lt, m1_le, lt_m1, le_m1, m1_lt0, up2_at, up2_no, ite_true, ite_false, if_true, if_false, Bool.false_eq_true, reduceIte, reduceCtorEq, not_true_eq_false, not_false_eq_true, eq_self, decide_true, decide_false, le_tt, le_ff, lt_tt, lt_ff, eq_ff, and_true, true_and, and_false, false_and, or_true, true_or, or_false, false_or, ne_eq, decide_eq_true_eq, decide_eq_false_iff_not, Bool.not_true, Bool.not_false, Bool.and_true, Bool.true_and, Bool.and_false, Bool.false_and, gs_at, gs_no, oI_n, oI_s, lz0, hF0', w1, h213]
        · have e := fdI_ext (g := g) (w := k) (l := wkO W k) (b := b) v1 v
          obtain ⟨f, hf⟩ := Nat.exists_testBit_of_ne_zero hF0
          rw [f3] at hf
          have hfv := (fit_iff.mp hf).1
          rw [show g 1 + 1 - v + v = g 1 + 1 by omega] at e
          rw [← e]; exact w2
      · have e126 : Fi_find_j126 n o (nI rule) (nI k) (nI (wkO W k)) (nI v) (lN F) M = Fi_find_j157 n (nI rule) (nI k) (nI (wkO W k)) (nI v) (lN F) M := by
          unfold Fi_find_j126
          simp (disch := omega) only [l_0, l_1, l_2, l_3, l_4, l_5, l_6, l_7, l_8, l_9, l_10, l_11, l_12, l_13, l_14, l_16, l_20, l_21, l_23, l_24, l_30, l_32, l_40, l_41, l_44, l_48, l_57, l_59, l_60, l_63, l_64, l_80, l_84, l_96, l_97, l_99, l_120, l_122, l_127, l_200, l_240, l_255, l_840, l_999, l_1000, l_1001, l_2400, l_3064, l_9999, l_10000, l_13849, l_16383, l_25173, l_65535, l_65536, l_99999, l_1000000000, neg_nI, pk_mul, nI_add, nI_subL, tn_nI, inb_t, grd_true, bnd_some, elS_l, elS_r, nI_ltI, nI_leI, nI_inj, fa_and, fa_or, m1_eq, eq_m1, m1_lt, m1_le, lt_m1, le_m1, m1_lt0, up2_at, up2_no, ite_true, ite_false, if_true, if_false, Bool.false_eq_true, reduceIte, reduceCtorEq, not_true_eq_false, not_false_eq_true, eq_self, decide_true, decide_false, le_tt, le_ff, lt_tt, lt_ff, eq_ff, and_true, true_and, and_false, false_and, or_true, true_or, or_false, false_or, ne_eq, decide_eq_true_eq, decide_eq_false_iff_not, Bool.not_true, Bool.not_false, Bool.and_true, Bool.true_and, Bool.and_false, Bool.false_and, gs_at, gs_no, oI_n, oI_s, lz0, hF0', h2]
        rw [e126]
        have hch : ∀ s y, s < 100 → y < 100 → (rule = 1 → s = y) → ∃ M', Fi_find_j201 (nI k) (nI (wkO W k)) (nI v) (nI s) M = some (.inl (nI (k + 1), M')) ∧ FB (wkO W) rule M' (some (k, s, v, y)) ∧ Fr f12 M M' := fun s y hs hy hsy => by
          obtain ⟨M', x1, x2, x3⟩ := Fi_choose_e (M := M) (wk := wkO W) (l := wkO W k) (rule := rule) (w := k) (s := s) (v := v) (y := y) rfl (by omega) hs (by omega) hy hsy h2
          refine ⟨M', ?_, x2, x3⟩
          unfold Fi_find_j201
          simp (disch := omega) only [l_0, l_1, l_2, l_3, l_4, l_5, l_6, l_7, l_8, l_9, l_10, l_11, l_12, l_13, l_14, l_16, l_20, l_21, l_23, l_24, l_30, l_32, l_40, l_41, l_44, l_48, l_57, l_59, l_60, l_63, l_64, l_80, l_84, l_96, l_97, l_99, l_120, l_122, l_127, l_200, l_240, l_255, l_840, l_999, l_1000, l_1001, l_2400, l_3064, l_9999, l_10000, l_13849, l_16383, l_25173, l_65535, l_65536, l_99999, l_1000000000, neg_nI, pk_mul, nI_add, nI_subL, tn_nI, inb_t, grd_true, bnd_some, elS_l, elS_r, nI_ltI, nI_leI, nI_inj, fa_and, fa_or, m1_eq, eq_m1, m1_lt, m1_le, lt_m1, le_m1, m1_lt0, up2_at, up2_no, ite_true, ite_false, if_true, if_false, Bool.false_eq_true, reduceIte, reduceCtorEq, not_true_eq_false, not_false_eq_true, eq_self, decide_true, decide_false, le_tt, le_ff, lt_tt, lt_ff, eq_ff, and_true, true_and, and_false, false_and, or_true, true_or, or_false, false_or, ne_eq, decide_eq_true_eq, decide_eq_false_iff_not, Bool.not_true, Bool.not_false, Bool.and_true, Bool.true_and, Bool.and_false, Bool.false_and, gs_at, gs_no, oI_n, oI_s, x1, h213]
        have hfit : ∀ f, F.testBit f = true → f + v ≤ g 1 := fun f hf => by
          rw [f3] at hf
          exact (fit_iff.mp hf).1
        by_cases h3 : rule = 3
        · have hbn := hns (.inr h3)
          obtain ⟨s, s1, s2, s3, _⟩ := Fg_highest_t (n := n) (M := M) hF0 (by omega) hn
          have hs := hfit s s2
          have hk0 : ∀ j, fdK (g 1) rule v j = g 1 - v - j := fun j => if_pos h3
          have hk1 : g 1 - v - (g 1 - v - s) = s := by omega
          rw [fdI_first h2 (k0 := g 1 - v - s) (by rw [hk0, hk1, ← f3]; exact s2) (fun j hj => by rw [hk0, ← f3]; exact s3 _ (by omega)) (by omega), hbn, if_pos (show ltO (g 1 - v - s) none = true from rfl), hk0, hk1]
          obtain ⟨M', x1, x2, x3⟩ := hch s (g 1 - v - s) (by omega) (by omega) (fun q => by omega)
          refine ⟨M', ?_, x2, x3⟩
          rw [← x1]
          have hneg := FB_neg hb
          rw [hbn] at hneg
          unfold Fi_find_j157 Fi_find_j183
          simp (disch := omega) only [l_0, l_1, l_2, l_3, l_4, l_5, l_6, l_7, l_8, l_9, l_10, l_11, l_12, l_13, l_14, l_16, l_20, l_21, l_23, l_24, l_30, l_32, l_40, l_41, l_44, l_48, l_57, l_59, l_60, l_63, l_64, l_80, l_84, l_96, l_97, l_99, l_120, l_122, l_127, l_200, l_240, l_255, l_840, l_999, l_1000, l_1001, l_2400, l_3064, l_9999, l_10000, l_13849, l_16383, l_25173, l_65535, l_65536, l_99999, l_1000000000, neg_nI, pk_mul, nI_add, nI_subL, tn_nI, inb_t, grd_true, bnd_some, elS_l, elS_r, nI_ltI, nI_leI, nI_inj, fa_and, fa_or, m1_eq, eq_m1, m1_lt, m1_le, lt_m1, le_m1, m1_lt0, up2_at, up2_no, ite_true, ite_false, if_true, if_false, Bool.false_eq_true, reduceIte, reduceCtorEq, not_true_eq_false, not_false_eq_true, eq_self, decide_true, decide_false, le_tt, le_ff, lt_tt, lt_ff, eq_ff, and_true, true_and, and_false, false_and, or_true, true_or, or_false, false_or, ne_eq, decide_eq_true_eq, decide_eq_false_iff_not, Bool.not_true, Bool.not_false, Bool.and_true, Bool.true_and, Bool.and_false, Bool.false_and, gs_at, gs_no, oI_n, oI_s, lz0, hF0', h3, s1, hneg, Option.isSome]
        · obtain ⟨s, s1, s2, s3, _⟩ := Fg_lowest_t (M := M) hF0 (by omega)
          have hs := hfit s s2
          have hk0 : ∀ j, fdK (g 1) rule v j = j := fun j => if_neg h3
          rw [fdI_first h2 (k0 := s) (by rw [hk0, ← f3]; exact s2) (fun j hj => by rw [hk0, ← f3]; exact s3 _ hj) (by omega), hk0]
          obtain ⟨M', x1, x2, x3⟩ := hch s s (by omega) (by omega) (fun _ => rfl)
          have e157 : Fi_find_j157 n (nI rule) (nI k) (nI (wkO W k)) (nI v) (lN F) M = Fi_find_j183 (nI k) (nI (wkO W k)) (nI v) (nI s) M := by
            unfold Fi_find_j157
            simp (disch := omega) only [l_0, l_1, l_2, l_3, l_4, l_5, l_6, l_7, l_8, l_9, l_10, l_11, l_12, l_13, l_14, l_16, l_20, l_21, l_23, l_24, l_30, l_32, l_40, l_41, l_44, l_48, l_57, l_59, l_60, l_63, l_64, l_80, l_84, l_96, l_97, l_99, l_120, l_122, l_127, l_200, l_240, l_255, l_840, l_999, l_1000, l_1001, l_2400, l_3064, l_9999, l_10000, l_13849, l_16383, l_25173, l_65535, l_65536, l_99999, l_1000000000, neg_nI, pk_mul, nI_add, nI_subL, tn_nI, inb_t, grd_true, bnd_some, elS_l, elS_r, nI_ltI, nI_leI, nI_inj, fa_and, fa_or, m1_eq, eq_m1, m1_lt, m1_le, lt_m1, le_m1, m1_lt0, up2_at, up2_no, ite_true, ite_false, if_true, if_false, Bool.false_eq_true, reduceIte, reduceCtorEq, not_true_eq_false, not_false_eq_true, eq_self, decide_true, decide_false, le_tt, le_ff, lt_tt, lt_ff, eq_ff, and_true, true_and, and_false, false_and, or_true, true_or, or_false, false_or, ne_eq, decide_eq_true_eq, decide_eq_false_iff_not, Bool.not_true, Bool.not_false, Bool.and_true, Bool.true_and, Bool.and_false, Bool.false_and, gs_at, gs_no, oI_n, oI_s, lz0, hF0', h3, s1]
          rw [e157]
          have hneg := FB_neg hb
          cases b with
          | none =>
            rw [if_pos (show ltO s none = true from rfl)]
            refine ⟨M', ?_, x2, x3⟩
            rw [← x1]
            unfold Fi_find_j183
            simp (disch := omega) only [l_0, l_1, l_2, l_3, l_4, l_5, l_6, l_7, l_8, l_9, l_10, l_11, l_12, l_13, l_14, l_16, l_20, l_21, l_23, l_24, l_30, l_32, l_40, l_41, l_44, l_48, l_57, l_59, l_60, l_63, l_64, l_80, l_84, l_96, l_97, l_99, l_120, l_122, l_127, l_200, l_240, l_255, l_840, l_999, l_1000, l_1001, l_2400, l_3064, l_9999, l_10000, l_13849, l_16383, l_25173, l_65535, l_65536, l_99999, l_1000000000, neg_nI, pk_mul, nI_add, nI_subL, tn_nI, inb_t, grd_true, bnd_some, elS_l, elS_r, nI_ltI, nI_leI, nI_inj, fa_and, fa_or, m1_eq, eq_m1, m1_lt, m1_le, lt_m1, le_m1, m1_lt0, up2_at, up2_no, ite_true, ite_false, if_true, if_false, Bool.false_eq_true, reduceIte, reduceCtorEq, not_true_eq_false, not_false_eq_true, eq_self, decide_true, decide_false, le_tt, le_ff, lt_tt, lt_ff, eq_ff, and_true, true_and, and_false, false_and, or_true, true_or, or_false, false_or, ne_eq, decide_eq_true_eq, decide_eq_false_iff_not, Bool.not_true, Bool.not_false, Bool.and_true, Bool.true_and, Bool.and_false, Bool.false_and, gs_at, gs_no, oI_n, oI_s, hneg, Option.isSome]
          | some q =>
            obtain ⟨z1, z2, z3, z4, z5, z6, z7, z8, z9, z10⟩ := hb
            have hr1' : rule = 1 := by
              by_cases c : rule = 0
              · have := hns (.inl c); cases this
              · omega
            have z6' := z6 hr1'
            by_cases c : s < q.2.2.2
            · rw [if_pos (show ltO s (some q) = true from decide_eq_true c)]
              refine ⟨M', ?_, x2, x3⟩
              rw [← x1]
              unfold Fi_find_j183
              simp (disch := omega) only [l_0, l_1, l_2, l_3, l_4, l_5, l_6, l_7, l_8, l_9, l_10, l_11, l_12, l_13, l_14, l_16, l_20, l_21, l_23, l_24, l_30, l_32, l_40, l_41, l_44, l_48, l_57, l_59, l_60, l_63, l_64, l_80, l_84, l_96, l_97, l_99, l_120, l_122, l_127, l_200, l_240, l_255, l_840, l_999, l_1000, l_1001, l_2400, l_3064, l_9999, l_10000, l_13849, l_16383, l_25173, l_65535, l_65536, l_99999, l_1000000000, neg_nI, pk_mul, nI_add, nI_subL, tn_nI, inb_t, grd_true, bnd_some, elS_l, elS_r, nI_ltI, nI_leI, nI_inj, fa_and, fa_or, m1_eq, eq_m1, m1_lt, m1_le, lt_m1, le_m1, m1_lt0, up2_at, up2_no, ite_true, ite_false, if_true, if_false, Bool.false_eq_true, reduceIte, reduceCtorEq, not_true_eq_false, not_false_eq_true, eq_self, decide_true, decide_false, le_tt, le_ff, lt_tt, lt_ff, eq_ff, and_true, true_and, and_false, false_and, or_true, true_or, or_false, false_or, ne_eq, decide_eq_true_eq, decide_eq_false_iff_not, Bool.not_true, Bool.not_false, Bool.and_true, Bool.true_and, Bool.and_false, Bool.false_and, gs_at, gs_no, oI_n, oI_s, hneg, Option.isSome, z3]
            · rw [if_neg (show ¬ ltO s (some q) = true from fun h => c (of_decide_eq_true h))]
              refine ⟨M, ?_, ⟨z1, z2, z3, z4, z5, z6, z7, z8, z9, z10⟩, Fr.rf⟩
              unfold Fi_find_j183
              simp (disch := omega) only [l_0, l_1, l_2, l_3, l_4, l_5, l_6, l_7, l_8, l_9, l_10, l_11, l_12, l_13, l_14, l_16, l_20, l_21, l_23, l_24, l_30, l_32, l_40, l_41, l_44, l_48, l_57, l_59, l_60, l_63, l_64, l_80, l_84, l_96, l_97, l_99, l_120, l_122, l_127, l_200, l_240, l_255, l_840, l_999, l_1000, l_1001, l_2400, l_3064, l_9999, l_10000, l_13849, l_16383, l_25173, l_65535, l_65536, l_99999, l_1000000000, neg_nI, pk_mul, nI_add, nI_subL, tn_nI, inb_t, grd_true, bnd_some, elS_l, elS_r, nI_ltI, nI_leI, nI_inj, fa_and, fa_or, m1_eq, eq_m1, m1_lt, m1_le, lt_m1, le_m1, m1_lt0, up2_at, up2_no, ite_true, ite_false, if_true, if_false, Bool.false_eq_true, reduceIte, reduceCtorEq, not_true_eq_false, not_false_eq_true, eq_self, decide_true, decide_false, le_tt, le_ff, lt_tt, lt_ff, eq_ff, and_true, true_and, and_false, false_and, or_true, true_or, or_false, false_or, ne_eq, decide_eq_true_eq, decide_eq_false_iff_not, Bool.not_true, Bool.not_false, Bool.and_true, Bool.true_and, Bool.and_false, Bool.false_and, gs_at, gs_no, oI_n, oI_s, hneg, Option.isSome, z3, h213]
theorem Fi_find_e (hG : GB g) (hN : NV g) (hNU : NU g) (hL : LV g) (hA : CA M g) (hC : CN M (o + 1) g) (hup : M.1 o 1 = nI (g 12)) (hU : UB M o g) (ho : 18 ≤ o ∧ o < 90) (hn : 100 < n) {a b rate rule : Nat} (ha : a < g 0) (hb : b < g 0) (hab : a ≠ b) (hr1 : 1 ≤ rate) (hr2 : rate ≤ 64) (hru : rule < 4) : ∃ M', Fi_find n o (nI a) (nI b) (nI rate) (nI rule) M = some ((fdW g a b rate rule).isSome, M') ∧ FB (wkO (waysG g a b)) rule M' (fdW g a b rate rule) ∧ CA M' g ∧ Fr (fp_Fi_find o) M M' := by
  have b1 := hN.1
  obtain ⟨M1, p1, p2, p3, p4⟩ := Wy_pairOf_e (n := n) hG hN hNU ho hn hA hC hup ha hb hab
  have hC1 : CN M1 (o + 1) g := hC.fr p4 (fun k j hk q => by unfold fp_Wy_pairOf at q; omega)
  have hU1 : UB M1 o g := fun l hl i => by
    unfold usN
    rw [(p4 (o + 16) l (by unfold fp_Wy_pairOf; omega)).2]
    exact hU l hl i
  have hl4 := ways_len (g := g) (a := a) (b := b)
  have lp : ∀ c7 : Nat, c7 < 2 → (c7 = 1 ↔ (rule = 0 ∨ rule = 3)) → ∃ r, loop (fun s1 : Int32 × Mm => Fi_find_b38 n o (nI rate) (nI rule) (nI (a * 8 + b)) (nI c7) s1.1 s1.2) n (nI 0, (up2 M1.1 12 1 (ng 1), M1.2)) = some r ∧ (FB (wkO (waysG g a b)) rule r (fdW g a b rate rule) ∧ Fr f12 M1 r) := fun c7 hc1 hc2 => by
    refine loop_I0 (fun k (st : Int32 × Mm) => st.1 = nI k ∧ FB (wkO (waysG g a b)) rule st.2 (fdG g (wlO (waysG g a b)) (wkO (waysG g a b)) rate rule k) ∧ Fr f12 M1 st.2) _ (waysG g a b).length ⟨rfl, (show up2 M1.1 12 1 (ng 1) 12 1 = ng 1 from up2_at), Fr.I Fr.rf rfl⟩ (by omega) ?_ ?_
    · rintro k ⟨s1, M2⟩ hk ⟨e1, e2, e3⟩
      simp only at e1 e2 e3
      subst e1
      obtain ⟨w1, w2, w3, _⟩ := ways_at hN ha hk
      have hE2 : CE M2 (a * 8 + b) (waysG g a b) := p3.fr e3 (by unfold f12; omega) (fun j _ => by unfold f12; omega)
      have h14 := hE2.1
      have hU2 : UB M2 o g := fun l hl i => by
        unfold usN
        rw [(e3 (o + 16) l (by unfold f12; omega)).2]
        exact hU1 l hl i
      show (∃ s', Fi_find_b38 n o (nI rate) (nI rule) (nI (a * 8 + b)) (nI c7) (nI k) M2 = some (.inl s') ∧ _) ∨ (∃ r, Fi_find_b38 n o (nI rate) (nI rule) (nI (a * 8 + b)) (nI c7) (nI k) M2 = some (.inr r) ∧ _)
      by_cases hst : (rule = 0 ∨ rule = 3) ∧ (fdG g (wlO (waysG g a b)) (wkO (waysG g a b)) rate rule k).isSome = true
      · right
        refine ⟨M2, ?_, ?_, e3⟩
        · have h7 : c7 = 1 := hc2.mpr hst.1
          unfold Fi_find_b38
          simp (disch := omega) only [l_0, l_1, l_2, l_3, l_4, l_5, l_6, l_7, l_8, l_9, l_10, l_11, l_12, l_13, l_14, l_16, l_20, l_21, l_23, l_24, l_30, l_32, l_40, l_41, l_44, l_48, l_57, l_59, l_60, l_63, l_64, l_80, l_84, l_96, l_97, l_99, l_120, l_122, l_127, l_200, l_240, l_255, l_840, l_999, l_1000, l_1001, l_2400, l_3064, l_9999, l_10000, l_13849, l_16383, l_25173, l_65535, l_65536, l_99999, l_1000000000, neg_nI, pk_mul, nI_add, nI_subL, tn_nI, inb_t, grd_true, bnd_some, elS_l, elS_r, nI_ltI, nI_leI, nI_inj, fa_and, fa_or, m1_eq, eq_m1, m1_lt, m1_le, lt_m1, le_m1, m1_lt0, up2_at, up2_no, ite_true, ite_false, if_true, if_false, Bool.false_eq_true, reduceIte, reduceCtorEq, not_true_eq_false, not_false_eq_true, eq_self, decide_true, decide_false, le_tt, le_ff, lt_tt, lt_ff, eq_ff, and_true, true_and, and_false, false_and, or_true, true_or, or_false, false_or, ne_eq, decide_eq_true_eq, decide_eq_false_iff_not, Bool.not_true, Bool.not_false, Bool.and_true, Bool.true_and, Bool.and_false, Bool.false_and, gs_at, gs_no, oI_n, oI_s, h14, h7, FB_pos e2, hst.2]
        · have := fd_stay (wl := wlO (waysG g a b)) (wk := wkO (waysG g a b)) hst.1 hst.2 ((waysG g a b).length - k)
          rw [show k + ((waysG g a b).length - k) = (waysG g a b).length by omega] at this
          unfold fdW
          rw [this]
          exact e2
      · left
        obtain ⟨M3, y1, y2, y3⟩ := Fi_way_e (n := n) (o := o) hG hN hL (hC1.fr e3 (fun k j hk q => by unfold f12 at q; omega)) hU2 ho hn (p := a * 8 + b) (by omega) hk hE2 w1 w2 hr1 hr2 hru e2 (fun q => by
          cases hz : fdG g (wlO (waysG g a b)) (wkO (waysG g a b)) rate rule k with
          | none => rfl
          | some x => exact absurd ⟨q, by rw [hz]; rfl⟩ hst)
        refine ⟨(nI (k + 1), M3), ?_, rfl, y2, e3.tr y3⟩
        rw [← y1]
        unfold Fi_find_b38
        by_cases h7 : c7 = 0
        · simp (disch := omega) only [l_0, l_1, l_2, l_3, l_4, l_5, l_6, l_7, l_8, l_9, l_10, l_11, l_12, l_13, l_14, l_16, l_20, l_21, l_23, l_24, l_30, l_32, l_40, l_41, l_44, l_48, l_57, l_59, l_60, l_63, l_64, l_80, l_84, l_96, l_97, l_99, l_120, l_122, l_127, l_200, l_240, l_255, l_840, l_999, l_1000, l_1001, l_2400, l_3064, l_9999, l_10000, l_13849, l_16383, l_25173, l_65535, l_65536, l_99999, l_1000000000, neg_nI, pk_mul, nI_add, nI_subL, tn_nI, inb_t, grd_true, bnd_some, elS_l, elS_r, nI_ltI, nI_leI, nI_inj, fa_and, fa_or, m1_eq, eq_m1, m1_lt, m1_le, lt_m1, le_m1, m1_lt0, up2_at, up2_no, ite_true, ite_false, if_true, if_false, Bool.false_eq_true, reduceIte, reduceCtorEq, not_true_eq_false, not_false_eq_true, eq_self, decide_true, decide_false, le_tt, le_ff, lt_tt, lt_ff, eq_ff, and_true, true_and, and_false, false_and, or_true, true_or, or_false, false_or, ne_eq, decide_eq_true_eq, decide_eq_false_iff_not, Bool.not_true, Bool.not_false, Bool.and_true, Bool.true_and, Bool.and_false, Bool.false_and, gs_at, gs_no, oI_n, oI_s, h14, h7]
        · have hz : (fdG g (wlO (waysG g a b)) (wkO (waysG g a b)) rate rule k).isSome = false := by
            rw [← Bool.not_eq_true]
            exact fun q => hst ⟨hc2.mp (by omega), q⟩
          simp (disch := omega) only [l_0, l_1, l_2, l_3, l_4, l_5, l_6, l_7, l_8, l_9, l_10, l_11, l_12, l_13, l_14, l_16, l_20, l_21, l_23, l_24, l_30, l_32, l_40, l_41, l_44, l_48, l_57, l_59, l_60, l_63, l_64, l_80, l_84, l_96, l_97, l_99, l_120, l_122, l_127, l_200, l_240, l_255, l_840, l_999, l_1000, l_1001, l_2400, l_3064, l_9999, l_10000, l_13849, l_16383, l_25173, l_65535, l_65536, l_99999, l_1000000000, neg_nI, pk_mul, nI_add, nI_subL, tn_nI, inb_t, grd_true, bnd_some, elS_l, elS_r, nI_ltI, nI_leI, nI_inj, fa_and, fa_or, m1_eq, eq_m1, m1_lt, m1_le, lt_m1, le_m1, m1_lt0, up2_at, up2_no, ite_true, ite_false, if_true, if_false, Bool.false_eq_true, reduceIte, reduceCtorEq, not_true_eq_false, not_false_eq_true, eq_self, decide_true, decide_false, le_tt, le_ff, lt_tt, lt_ff, eq_ff, and_true, true_and, and_false, false_and, or_true, true_or, or_false, false_or, ne_eq, decide_eq_true_eq, decide_eq_false_iff_not, Bool.not_true, Bool.not_false, Bool.and_true, Bool.true_and, Bool.and_false, Bool.false_and, gs_at, gs_no, oI_n, oI_s, h14, h7, FB_pos e2, hz]
    · rintro ⟨s1, M2⟩ ⟨e1, e2, e3⟩
      simp only at e1 e2 e3
      subst e1
      refine ⟨M2, ?_, e2, e3⟩
      have h14 : M2.1 14 (a * 8 + b) = nI (waysG g a b).length := (e3 14 (a * 8 + b) (by unfold f12; omega)).1.trans p3.1
      show Fi_find_b38 n o (nI rate) (nI rule) (nI (a * 8 + b)) (nI c7) (nI (waysG g a b).length) M2 = _
      unfold Fi_find_b38
      simp (disch := omega) only [l_0, l_1, l_2, l_3, l_4, l_5, l_6, l_7, l_8, l_9, l_10, l_11, l_12, l_13, l_14, l_16, l_20, l_21, l_23, l_24, l_30, l_32, l_40, l_41, l_44, l_48, l_57, l_59, l_60, l_63, l_64, l_80, l_84, l_96, l_97, l_99, l_120, l_122, l_127, l_200, l_240, l_255, l_840, l_999, l_1000, l_1001, l_2400, l_3064, l_9999, l_10000, l_13849, l_16383, l_25173, l_65535, l_65536, l_99999, l_1000000000, neg_nI, pk_mul, nI_add, nI_subL, tn_nI, inb_t, grd_true, bnd_some, elS_l, elS_r, nI_ltI, nI_leI, nI_inj, fa_and, fa_or, m1_eq, eq_m1, m1_lt, m1_le, lt_m1, le_m1, m1_lt0, up2_at, up2_no, ite_true, ite_false, if_true, if_false, Bool.false_eq_true, reduceIte, reduceCtorEq, not_true_eq_false, not_false_eq_true, eq_self, decide_true, decide_false, le_tt, le_ff, lt_tt, lt_ff, eq_ff, and_true, true_and, and_false, false_and, or_true, true_or, or_false, false_or, ne_eq, decide_eq_true_eq, decide_eq_false_iff_not, Bool.not_true, Bool.not_false, Bool.and_true, Bool.true_and, Bool.and_false, Bool.false_and, gs_at, gs_no, oI_n, oI_s, h14]
  have fin : ∀ c7 : Nat, c7 < 2 → (c7 = 1 ↔ (rule = 0 ∨ rule = 3)) → ∃ M', Fi_find_j28 n o (nI rate) (nI rule) (nI (a * 8 + b)) (nI c7) M1 = some ((fdW g a b rate rule).isSome, M') ∧ FB (wkO (waysG g a b)) rule M' (fdW g a b rate rule) ∧ Fr f12 M1 M' := fun c7 hc1 hc2 => by
    obtain ⟨r, l1, l2, l3⟩ := lp c7 hc1 hc2
    refine ⟨r, ?_, l2, l3⟩
    have hneg := FB_neg l2
    unfold Fi_find_j28 Fi_find_j219
    simp (disch := omega) only [l_0, l_1, l_2, l_3, l_4, l_5, l_6, l_7, l_8, l_9, l_10, l_11, l_12, l_13, l_14, l_16, l_20, l_21, l_23, l_24, l_30, l_32, l_40, l_41, l_44, l_48, l_57, l_59, l_60, l_63, l_64, l_80, l_84, l_96, l_97, l_99, l_120, l_122, l_127, l_200, l_240, l_255, l_840, l_999, l_1000, l_1001, l_2400, l_3064, l_9999, l_10000, l_13849, l_16383, l_25173, l_65535, l_65536, l_99999, l_1000000000, neg_nI, pk_mul, nI_add, nI_subL, tn_nI, inb_t, grd_true, bnd_some, elS_l, elS_r, nI_ltI, nI_leI, nI_inj, fa_and, fa_or, m1_eq, eq_m1, m1_lt, m1_le, lt_m1, le_m1, m1_lt0, up2_at, up2_no, ite_true, ite_false, if_true, if_false, Bool.false_eq_true, reduceIte, reduceCtorEq, not_true_eq_false, not_false_eq_true, eq_self, decide_true, decide_false, le_tt, le_ff, lt_tt, lt_ff, eq_ff, and_true, true_and, and_false, false_and, or_true, true_or, or_false, false_or, ne_eq, decide_eq_true_eq, decide_eq_false_iff_not, Bool.not_true, Bool.not_false, Bool.and_true, Bool.true_and, Bool.and_false, Bool.false_and, gs_at, gs_no, oI_n, oI_s, l1, hneg]
    cases (fdW g a b rate rule).isSome <;> rfl
  have main : ∃ M', Fi_find n o (nI a) (nI b) (nI rate) (nI rule) M = some ((fdW g a b rate rule).isSome, M') ∧ FB (wkO (waysG g a b)) rule M' (fdW g a b rate rule) ∧ Fr f12 M1 M' := by
    by_cases hq : rule = 0 ∨ rule = 3
    · obtain ⟨M', y1, y2, y3⟩ := fin 1 (by omega) ⟨fun _ => hq, fun _ => rfl⟩
      refine ⟨M', ?_, y2, y3⟩
      rw [← y1]
      unfold Fi_find Fi_find_j23
      rcases hq with q | q
      · simp (disch := omega) only [l_0, l_1, l_2, l_3, l_4, l_5, l_6, l_7, l_8, l_9, l_10, l_11, l_12, l_13, l_14, l_16, l_20, l_21, l_23, l_24, l_30, l_32, l_40, l_41, l_44, l_48, l_57, l_59, l_60, l_63, l_64, l_80, l_84, l_96, l_97, l_99, l_120, l_122, l_127, l_200, l_240, l_255, l_840, l_999, l_1000, l_1001, l_2400, l_3064, l_9999, l_10000, l_13849, l_16383, l_25173, l_65535, l_65536, l_99999, l_1000000000, neg_nI, pk_mul, nI_add, nI_subL, tn_nI, inb_t, grd_true, bnd_some, elS_l, elS_r, nI_ltI, nI_leI, nI_inj, fa_and, fa_or, m1_eq, eq_m1, m1_lt, m1_le, lt_m1, le_m1, m1_lt0, up2_at, up2_no, ite_true, ite_false, if_true, if_false, Bool.false_eq_true, reduceIte, reduceCtorEq, not_true_eq_false, not_false_eq_true, eq_self, decide_true, decide_false, le_tt, le_ff, lt_tt, lt_ff, eq_ff, and_true, true_and, and_false, false_and, or_true, true_or, or_false, false_or, ne_eq, decide_eq_true_eq, decide_eq_false_iff_not, Bool.not_true, Bool.not_false, Bool.and_true, Bool.true_and, Bool.and_false, Bool.false_and, gs_at, gs_no, oI_n, oI_s, p1, q]
      · simp (disch := omega) only [l_0, l_1, l_2, l_3, l_4, l_5, l_6, l_7, l_8, l_9, l_10, l_11, l_12, l_13, l_14, l_16, l_20, l_21, l_23, l_24, l_30, l_32, l_40, l_41, l_44, l_48, l_57, l_59, l_60, l_63, l_64, l_80, l_84, l_96, l_97, l_99, l_120, l_122, l_127, l_200, l_240, l_255, l_840, l_999, l_1000, l_1001, l_2400, l_3064, l_9999, l_10000, l_13849, l_16383, l_25173, l_65535, l_65536, l_99999, l_1000000000, neg_nI, pk_mul, nI_add, nI_subL, tn_nI, inb_t, grd_true, bnd_some, elS_l, elS_r, nI_ltI, nI_leI, nI_inj, fa_and, fa_or, m1_eq, eq_m1, m1_lt, m1_le, lt_m1, le_m1, m1_lt0, up2_at, up2_no, ite_true, ite_false, if_true, if_false, Bool.false_eq_true, reduceIte, reduceCtorEq, not_true_eq_false, not_false_eq_true, eq_self, decide_true, decide_false, le_tt, le_ff, lt_tt, lt_ff, eq_ff, and_true, true_and, and_false, false_and, or_true, true_or, or_false, false_or, ne_eq, decide_eq_true_eq, decide_eq_false_iff_not, Bool.not_true, Bool.not_false, Bool.and_true, Bool.true_and, Bool.and_false, Bool.false_and, gs_at, gs_no, oI_n, oI_s, p1, q]
    · obtain ⟨M', y1, y2, y3⟩ := fin 0 (by omega) ⟨fun q => by omega, fun q => absurd q hq⟩
      refine ⟨M', ?_, y2, y3⟩
      rw [← y1]
      unfold Fi_find
      simp (disch := omega) only [l_0, l_1, l_2, l_3, l_4, l_5, l_6, l_7, l_8, l_9, l_10, l_11, l_12, l_13, l_14, l_16, l_20, l_21, l_23, l_24, l_30, l_32, l_40, l_41, l_44, l_48, l_57, l_59, l_60, l_63, l_64, l_80, l_84, l_96, l_97, l_99, l_120, l_122, l_127, l_200, l_240, l_255, l_840, l_999, l_1000, l_1001, l_2400, l_3064, l_9999, l_10000, l_13849, l_16383, l_25173, l_65535, l_65536, l_99999, l_1000000000, neg_nI, pk_mul, nI_add, nI_subL, tn_nI, inb_t, grd_true, bnd_some, elS_l, elS_r, nI_ltI, nI_leI, nI_inj, fa_and, fa_or, m1_eq, eq_m1, m1_lt, m1_le, lt_m1, le_m1, m1_lt0, up2_at, up2_no, ite_true, ite_false, if_true, if_false, Bool.false_eq_true, reduceIte, reduceCtorEq, not_true_eq_false, not_false_eq_true, eq_self, decide_true, decide_false, le_tt, le_ff, lt_tt, lt_ff, eq_ff, and_true, true_and, and_false, false_and, or_true, true_or, or_false, false_or, ne_eq, decide_eq_true_eq, decide_eq_false_iff_not, Bool.not_true, Bool.not_false, Bool.and_true, Bool.true_and, Bool.and_false, Bool.false_and, gs_at, gs_no, oI_n, oI_s, p1, show (rule = 0) = False from eq_false (fun q => hq (.inl q)), show (rule = 3) = False from eq_false (fun q => hq (.inr q))]
  obtain ⟨M', y1, y2, y3⟩ := main
  exact ⟨M', y1, y2, p2.fr y3 (fun j => by unfold f12; omega), fr_Fi_find y1⟩
end
