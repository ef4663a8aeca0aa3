/-! which word stands there: class and model -/
def wT : List (List Nat) := [[110, 111, 100, 101, 115], [115, 108, 111, 116, 115], [98, 101, 116, 119, 101, 101, 110], [114, 101, 97, 99, 104], [108, 105, 110, 107], [97, 115, 107], [100, 114, 111, 112], [115, 108, 105, 100, 101], [115, 119, 101, 101, 112], [106, 117, 109, 112], [99, 117, 116], [109, 101, 110, 100], [114, 101, 108, 105, 103, 104, 116], [112, 108, 97, 110], [108, 97, 115, 116, 115], [116, 105, 99, 107, 115]]
def wS (u i : Nat) : Nat := (wT.getD u []).getD i 0
def wL (u : Nat) : Nat := strL.getD u 0
def wC (u : Nat) : Nat := cdF (wS u) 0 (wL u)
theorem ch_e : ∀ u : Fin 16, ∀ i : Fin 8, strCh u.val i.val = nI (wS u.val i.val) := by decide
theorem wl_e : ∀ u : Fin 16, wL u.val ≤ 7 ∧ 3 ≤ wL u.val := by decide
theorem ws_e : ∀ u : Fin 16, ∀ i : Fin 8, i.val < wL u.val → ltr (wS u.val i.val) = true := by decide
theorem ws_b : ∀ u : Fin 16, ∀ i : Fin 8, wS u.val i.val < 256 := by decide
def isW (b : Nat → Nat) (p e u : Nat) : Bool := decide (e - p = wL u ∧ ∀ i, i < wL u → b (p + i) = wS u i)
section
variable {C : Mm} {b : Nat → Nat} {L p e n : Nat}
theorem isWord_e {u : Nat} (hu : u < 16) (hpe : p ≤ e) (he : e ≤ 200) (h7 : C.1 3 7 = nI e) (hb : ∀ i, i < 240 → C.1 2 i = nI (b i)) (hB : ∀ i, b i < 256) (hn : 100 < n) : Rd_isWord n u (nI p) C = some (isW b p e u) := by
  have w7 := (wl_e ⟨u, hu⟩).1
  have hl : strLen u = nI (wL u) := rfl
  dsimp only at w7
  unfold Rd_isWord
  by_cases c : e - p = wL u
  · have hlp := loop_fst (body := fun s1 : Int32 => Rd_isWord_b17 u (nI p) C s1) (fun i => nI i) (fun i => decide (b (p + i) ≠ wS u i)) (wL u) (Sum.inl ()) (fun _ => Sum.inr false) (fun i hi hP => by
      have hb' := hb (p + i) (by omega)
      have hc := ch_e ⟨u, hu⟩ ⟨i, by omega⟩
      have hP' := of_decide_eq_false hP
      have hP2 : b (p + i) = wS u i := Decidable.byContradiction hP'
      dsimp only at hc
      show Rd_isWord_b17 u (nI p) C (nI i) = _
      have hbb := hB (p + i)
      unfold Rd_isWord_b17
      rw [hl, if_neg (by simp (disch := omega) only [l_0, l_1, l_2, l_3, l_4, l_5, l_6, l_7, l_8, l_9, l_10, l_11, l_12, l_13, l_14, l_16, l_20, l_21, l_23, l_24, l_30, l_32, l_40, l_41, l_44, l_48, l_57, l_59, l_60, l_63, l_64, l_80, l_84, l_96, l_97, l_99, l_120, l_122, l_127, l_200, l_240, l_255, l_840, l_999, l_1000, l_1001, l_2400, l_3064, l_9999, l_10000, l_13849, l_16383, l_25173, l_65535, l_65536, l_99999, l_1000000000, neg_nI, pk_mul, nI_add, nI_subL, tn_nI, inb_t, grd_true, bnd_some, elS_l, elS_r, nI_ltI, nI_leI, nI_inj, fa_and, fa_or, m1_eq, eq_m1, m1_lt, m1_le, lt_m1, le_m1, m1_lt0, up2_at, up2_no, ite_true, ite_false, if_true, if_false, Bool.false_eq_true, reduceIte, reduceCtorEq, not_true_eq_false, not_false_eq_true, eq_self, decide_true, decide_false, le_tt, le_ff, lt_tt, lt_ff, eq_ff, and_true, true_and, and_false, false_and, or_true, true_or, or_false, false_or, ne_eq, decide_eq_true_eq, decide_eq_false_iff_not, Bool.not_true, Bool.not_false, Bool.and_true, Bool.true_and, Bool.and_false, Bool.false_and, gs_at, gs_no, oI_n, oI_s]), grd_t (by simp (disch := omega) only [l_0, l_1, l_2, l_3, l_4, l_5, l_6, l_7, l_8, l_9, l_10, l_11, l_12, l_13, l_14, l_16, l_20, l_21, l_23, l_24, l_30, l_32, l_40, l_41, l_44, l_48, l_57, l_59, l_60, l_63, l_64, l_80, l_84, l_96, l_97, l_99, l_120, l_122, l_127, l_200, l_240, l_255, l_840, l_999, l_1000, l_1001, l_2400, l_3064, l_9999, l_10000, l_13849, l_16383, l_25173, l_65535, l_65536, l_99999, l_1000000000, neg_nI, pk_mul, nI_add, nI_subL, tn_nI, inb_t, grd_true, bnd_some, elS_l, elS_r, nI_ltI, nI_leI, nI_inj, fa_and, fa_or, m1_eq, eq_m1, m1_lt, m1_le, lt_m1, le_m1, m1_lt0, up2_at, up2_no, ite_true, ite_false, if_true, if_false, Bool.false_eq_true, reduceIte, reduceCtorEq, not_true_eq_false, not_false_eq_true, eq_self, decide_true, decide_false, le_tt, le_ff, lt_tt, lt_ff, eq_ff, and_true, true_and, and_false, false_and, or_true, true_or, or_false, false_or, ne_eq, decide_eq_true_eq, decide_eq_false_iff_not, Bool.not_true, Bool.not_false, Bool.and_true, Bool.true_and, Bool.and_false, Bool.false_and, gs_at, gs_no, oI_n, oI_s]), grd_t (inb_t (show i < strL.getD u 0 from hi) (by show wL u ≤ _; omega)), tn_nI (by omega), hc, nI_add, tn_nI (by omega), hb', hP2, if_pos rfl, l_1, nI_add]) (fun i hi hP => by
      have hb' := hb (p + i) (by omega)
      have hc := ch_e ⟨u, hu⟩ ⟨i, by omega⟩
      have hw := ws_b ⟨u, hu⟩ ⟨i, by omega⟩
      have hP' := of_decide_eq_true hP
      have hB' := hB (p + i)
      dsimp only at hc hw
      show Rd_isWord_b17 u (nI p) C (nI i) = _
      unfold Rd_isWord_b17
      rw [hl, if_neg (by simp (disch := omega) only [l_0, l_1, l_2, l_3, l_4, l_5, l_6, l_7, l_8, l_9, l_10, l_11, l_12, l_13, l_14, l_16, l_20, l_21, l_23, l_24, l_30, l_32, l_40, l_41, l_44, l_48, l_57, l_59, l_60, l_63, l_64, l_80, l_84, l_96, l_97, l_99, l_120, l_122, l_127, l_200, l_240, l_255, l_840, l_999, l_1000, l_1001, l_2400, l_3064, l_9999, l_10000, l_13849, l_16383, l_25173, l_65535, l_65536, l_99999, l_1000000000, neg_nI, pk_mul, nI_add, nI_subL, tn_nI, inb_t, grd_true, bnd_some, elS_l, elS_r, nI_ltI, nI_leI, nI_inj, fa_and, fa_or, m1_eq, eq_m1, m1_lt, m1_le, lt_m1, le_m1, m1_lt0, up2_at, up2_no, ite_true, ite_false, if_true, if_false, Bool.false_eq_true, reduceIte, reduceCtorEq, not_true_eq_false, not_false_eq_true, eq_self, decide_true, decide_false, le_tt, le_ff, lt_tt, lt_ff, eq_ff, and_true, true_and, and_false, false_and, or_true, true_or, or_false, false_or, ne_eq, decide_eq_true_eq, decide_eq_false_iff_not, Bool.not_true, Bool.not_false, Bool.and_true, Bool.true_and, Bool.and_false, Bool.false_and, gs_at, gs_no, oI_n, oI_s]), grd_t (by simp (disch := omega) only [l_0, l_1, l_2, l_3, l_4, l_5, l_6, l_7, l_8, l_9, l_10, l_11, l_12, l_13, l_14, l_16, l_20, l_21, l_23, l_24, l_30, l_32, l_40, l_41, l_44, l_48, l_57, l_59, l_60, l_63, l_64, l_80, l_84, l_96, l_97, l_99, l_120, l_122, l_127, l_200, l_240, l_255, l_840, l_999, l_1000, l_1001, l_2400, l_3064, l_9999, l_10000, l_13849, l_16383, l_25173, l_65535, l_65536, l_99999, l_1000000000, neg_nI, pk_mul, nI_add, nI_subL, tn_nI, inb_t, grd_true, bnd_some, elS_l, elS_r, nI_ltI, nI_leI, nI_inj, fa_and, fa_or, m1_eq, eq_m1, m1_lt, m1_le, lt_m1, le_m1, m1_lt0, up2_at, up2_no, ite_true, ite_false, if_true, if_false, Bool.false_eq_true, reduceIte, reduceCtorEq, not_true_eq_false, not_false_eq_true, eq_self, decide_true, decide_false, le_tt, le_ff, lt_tt, lt_ff, eq_ff, and_true, true_and, and_false, false_and, or_true, true_or, or_false, false_or, ne_eq, decide_eq_true_eq, decide_eq_false_iff_not, Bool.not_true, Bool.not_false, Bool.and_true, Bool.true_and, Bool.and_false, Bool.false_and, gs_at, gs_no, oI_n, oI_s]), grd_t (inb_t (show i < strL.getD u 0 from hi) (by show wL u ≤ _; omega)), tn_nI (by omega), hc, nI_add, tn_nI (by omega), hb', if_neg (by rw [nI_inj (by omega) (by omega)]; exact hP')]) (by
      show Rd_isWord_b17 u (nI p) C (nI (wL u)) = _
      unfold Rd_isWord_b17
      rw [hl, if_pos (by simp (disch := omega) only [l_0, l_1, l_2, l_3, l_4, l_5, l_6, l_7, l_8, l_9, l_10, l_11, l_12, l_13, l_14, l_16, l_20, l_21, l_23, l_24, l_30, l_32, l_40, l_41, l_44, l_48, l_57, l_59, l_60, l_63, l_64, l_80, l_84, l_96, l_97, l_99, l_120, l_122, l_127, l_200, l_240, l_255, l_840, l_999, l_1000, l_1001, l_2400, l_3064, l_9999, l_10000, l_13849, l_16383, l_25173, l_65535, l_65536, l_99999, l_1000000000, neg_nI, pk_mul, nI_add, nI_subL, tn_nI, inb_t, grd_true, bnd_some, elS_l, elS_r, nI_ltI, nI_leI, nI_inj, fa_and, fa_or, m1_eq, eq_m1, m1_lt, m1_le, lt_m1, le_m1, m1_lt0, up2_at, up2_no, ite_true, ite_false, if_true, if_false, Bool.false_eq_true, reduceIte, reduceCtorEq, not_true_eq_false, not_false_eq_true, eq_self, decide_true, decide_false, le_tt, le_ff, lt_tt, lt_ff, eq_ff, and_true, true_and, and_false, false_and, or_true, true_or, or_false, false_or, ne_eq, decide_eq_true_eq, decide_eq_false_iff_not, Bool.not_true, Bool.not_false, Bool.and_true, Bool.true_and, Bool.and_false, Bool.false_and, gs_at, gs_no, oI_n, oI_s])]) (wL u) 0 n (by omega) (by omega)
    rw [h7, hl, nI_subL hpe, c, if_pos rfl, l_0, hlp, bnd_some]
    cases hx : fstP (fun i => decide (b (p + i) ≠ wS u i)) 0 (wL u) with
    | none =>
      have hy : isW b p e u = true := decide_eq_true ⟨c, fun i hi => Decidable.byContradiction (of_decide_eq_false (fstP_none.mp hx i (by omega) (by omega)))⟩
      rw [hy]
      rfl
    | some i =>
      obtain ⟨i1, i2, i3, _⟩ := fstP_some hx
      have hy : isW b p e u = false := decide_eq_false (fun q => (of_decide_eq_true i3) (q.2 i (by omega)))
      rw [hy]
      rfl
  · rw [h7, hl, nI_subL hpe, if_neg (by rw [nI_inj (by omega) (by omega)]; exact c)]
    have hy : isW b p e u = false := decide_eq_false (fun q => c q.1)
    rw [hy]
theorem gw_e : ∀ v : Fin 5, ∀ M, Rd_gridWord (nI v.val) M = some v.val := by
  intro v M
  unfold Rd_gridWord
  revert v
  decide
theorem sw_e : ∀ v : Fin 11, ∀ M, Rd_stepWord (nI v.val) M = some (v.val + 5) := by
  intro v M
  unfold Rd_stepWord
  revert v
  decide
/-- the first of the words 0 .. m - 1 (from s on) that stands there -/
def fwF (b : Nat → Nat) (p e w : Nat) : Option Nat := if w = 0 then fstP (fun v => isW b p e (v + 5)) 0 11 else fstP (fun v => isW b p e v) 0 5
theorem from_e {w : Nat} (hw : w ≤ 1) (hpe : p ≤ e) (he : e ≤ 200) (h4 : C.1 3 4 = nI w) (h7 : C.1 3 7 = nI e) (hb : ∀ i, i < 240 → C.1 2 i = nI (b i)) (hB : ∀ i, b i < 256) (hn : 100 < n) : Rd_wordFrom n (nI p) C = some (oI (fwF b p e w)) := by
  have fin : ∀ (P : Nat → Bool) (m : Nat), m ≤ 11 → (∀ i, i < m → P i = false → Rd_wordFrom_b21 n (nI p) (nI m) C (nI i) = some (.inl (nI (i + 1)))) → (∀ i, i < m → P i = true → Rd_wordFrom_b21 n (nI p) (nI m) C (nI i) = some (.inr (.inr (nI i)))) → Rd_wordFrom_j18 n (nI p) (nI m) C = some (oI (fstP P 0 m)) := fun P m hm h1 h2 => by
    have hlp := loop_fst (body := fun s1 : Int32 => Rd_wordFrom_b21 n (nI p) (nI m) C s1) (fun i => nI i) P m (Sum.inl ()) (fun i => Sum.inr (nI i)) h1 h2 (by
      show Rd_wordFrom_b21 n (nI p) (nI m) C (nI m) = _
      unfold Rd_wordFrom_b21
      rw [if_pos (by simp (disch := omega) only [l_0, l_1, l_2, l_3, l_4, l_5, l_6, l_7, l_8, l_9, l_10, l_11, l_12, l_13, l_14, l_16, l_20, l_21, l_23, l_24, l_30, l_32, l_40, l_41, l_44, l_48, l_57, l_59, l_60, l_63, l_64, l_80, l_84, l_96, l_97, l_99, l_120, l_122, l_127, l_200, l_240, l_255, l_840, l_999, l_1000, l_1001, l_2400, l_3064, l_9999, l_10000, l_13849, l_16383, l_25173, l_65535, l_65536, l_99999, l_1000000000, neg_nI, pk_mul, nI_add, nI_subL, tn_nI, inb_t, grd_true, bnd_some, elS_l, elS_r, nI_ltI, nI_leI, nI_inj, fa_and, fa_or, m1_eq, eq_m1, m1_lt, m1_le, lt_m1, le_m1, m1_lt0, up2_at, up2_no, ite_true, ite_false, if_true, if_false, Bool.false_eq_true, reduceIte, reduceCtorEq, not_true_eq_false, not_false_eq_true, eq_self, decide_true, decide_false, le_tt, le_ff, lt_tt, lt_ff, eq_ff, and_true, true_and, and_false, false_and, or_true, true_or, or_false, false_or, ne_eq, decide_eq_true_eq, decide_eq_false_iff_not, Bool.not_true, Bool.not_false, Bool.and_true, Bool.true_and, Bool.and_false, Bool.false_and, gs_at, gs_no, oI_n, oI_s])]) m 0 n (by omega) (by omega)
    unfold Rd_wordFrom_j18
    rw [l_0, hlp, bnd_some]
    cases fstP P 0 m with
    | none => rfl
    | some i => rfl
  unfold Rd_wordFrom fwF
  by_cases c : w = 0
  · subst c
    rw [h4, if_pos z00, if_pos rfl, l_11]
    refine fin (fun v => isW b p e (v + 5)) 11 (by omega) (fun i hi hP => ?_) (fun i hi hP => ?_)
    · have hw := isWord_e (u := i + 5) (by omega) hpe he h7 hb hB hn
      have hg := sw_e ⟨i, hi⟩ C
      dsimp only at hP hg
      unfold Rd_wordFrom_b21 Rd_wordFrom_j46
      rw [if_neg (by simp (disch := omega) only [l_0, l_1, l_2, l_3, l_4, l_5, l_6, l_7, l_8, l_9, l_10, l_11, l_12, l_13, l_14, l_16, l_20, l_21, l_23, l_24, l_30, l_32, l_40, l_41, l_44, l_48, l_57, l_59, l_60, l_63, l_64, l_80, l_84, l_96, l_97, l_99, l_120, l_122, l_127, l_200, l_240, l_255, l_840, l_999, l_1000, l_1001, l_2400, l_3064, l_9999, l_10000, l_13849, l_16383, l_25173, l_65535, l_65536, l_99999, l_1000000000, neg_nI, pk_mul, nI_add, nI_subL, tn_nI, inb_t, grd_true, bnd_some, elS_l, elS_r, nI_ltI, nI_leI, nI_inj, fa_and, fa_or, m1_eq, eq_m1, m1_lt, m1_le, lt_m1, le_m1, m1_lt0, up2_at, up2_no, ite_true, ite_false, if_true, if_false, Bool.false_eq_true, reduceIte, reduceCtorEq, not_true_eq_false, not_false_eq_true, eq_self, decide_true, decide_false, le_tt, le_ff, lt_tt, lt_ff, eq_ff, and_true, true_and, and_false, false_and, or_true, true_or, or_false, false_or, ne_eq, decide_eq_true_eq, decide_eq_false_iff_not, Bool.not_true, Bool.not_false, Bool.and_true, Bool.true_and, Bool.and_false, Bool.false_and, gs_at, gs_no, oI_n, oI_s]), h4, if_pos z00, hg, bnd_some, hw, bnd_some, hP, if_neg (by decide), l_1, nI_add]
    · have hw := isWord_e (u := i + 5) (by omega) hpe he h7 hb hB hn
      have hg := sw_e ⟨i, hi⟩ C
      dsimp only at hP hg
      unfold Rd_wordFrom_b21 Rd_wordFrom_j46
      rw [if_neg (by simp (disch := omega) only [l_0, l_1, l_2, l_3, l_4, l_5, l_6, l_7, l_8, l_9, l_10, l_11, l_12, l_13, l_14, l_16, l_20, l_21, l_23, l_24, l_30, l_32, l_40, l_41, l_44, l_48, l_57, l_59, l_60, l_63, l_64, l_80, l_84, l_96, l_97, l_99, l_120, l_122, l_127, l_200, l_240, l_255, l_840, l_999, l_1000, l_1001, l_2400, l_3064, l_9999, l_10000, l_13849, l_16383, l_25173, l_65535, l_65536, l_99999, l_1000000000, neg_nI, pk_mul, nI_add, nI_subL, tn_nI, inb_t, grd_true, bnd_some, elS_l, elS_r, nI_ltI, nI_leI, nI_inj, fa_and, fa_or, m1_eq, eq_m1, m1_lt, m1_le, lt_m1, le_m1, m1_lt0, up2_at, up2_no, ite_true, ite_false, if_true, if_false, Bool.false_eq_true, reduceIte, reduceCtorEq, not_true_eq_false, not_false_eq_true, eq_self, decide_true, decide_false, le_tt, le_ff, lt_tt, lt_ff, eq_ff, and_true, true_and, and_false, false_and, or_true, true_or, or_false, false_or, ne_eq, decide_eq_true_eq, decide_eq_false_iff_not, Bool.not_true, Bool.not_false, Bool.and_true, Bool.true_and, Bool.and_false, Bool.false_and, gs_at, gs_no, oI_n, oI_s]), h4, if_pos z00, hg, bnd_some, hw, bnd_some, hP, if_pos rfl]
  · have hw1 : w = 1 := by omega
    subst hw1
    rw [h4, if_neg (by decide), if_neg (by decide), l_5]
    refine fin (fun v => isW b p e v) 5 (by omega) (fun i hi hP => ?_) (fun i hi hP => ?_)
    · have hw := isWord_e (u := i) (by omega) hpe he h7 hb hB hn
      have hg := gw_e ⟨i, hi⟩ C
      dsimp only at hP hg
      unfold Rd_wordFrom_b21 Rd_wordFrom_j46
      rw [if_neg (by simp (disch := omega) only [l_0, l_1, l_2, l_3, l_4, l_5, l_6, l_7, l_8, l_9, l_10, l_11, l_12, l_13, l_14, l_16, l_20, l_21, l_23, l_24, l_30, l_32, l_40, l_41, l_44, l_48, l_57, l_59, l_60, l_63, l_64, l_80, l_84, l_96, l_97, l_99, l_120, l_122, l_127, l_200, l_240, l_255, l_840, l_999, l_1000, l_1001, l_2400, l_3064, l_9999, l_10000, l_13849, l_16383, l_25173, l_65535, l_65536, l_99999, l_1000000000, neg_nI, pk_mul, nI_add, nI_subL, tn_nI, inb_t, grd_true, bnd_some, elS_l, elS_r, nI_ltI, nI_leI, nI_inj, fa_and, fa_or, m1_eq, eq_m1, m1_lt, m1_le, lt_m1, le_m1, m1_lt0, up2_at, up2_no, ite_true, ite_false, if_true, if_false, Bool.false_eq_true, reduceIte, reduceCtorEq, not_true_eq_false, not_false_eq_true, eq_self, decide_true, decide_false, le_tt, le_ff, lt_tt, lt_ff, eq_ff, and_true, true_and, and_false, false_and, or_true, true_or, or_false, false_or, ne_eq, decide_eq_true_eq, decide_eq_false_iff_not, Bool.not_true, Bool.not_false, Bool.and_true, Bool.true_and, Bool.and_false, Bool.false_and, gs_at, gs_no, oI_n, oI_s]), h4, if_neg (by decide), hg, bnd_some, hw, bnd_some, hP, if_neg (by decide), l_1, nI_add]
    · have hw := isWord_e (u := i) (by omega) hpe he h7 hb hB hn
      have hg := gw_e ⟨i, hi⟩ C
      dsimp only at hP hg
      unfold Rd_wordFrom_b21 Rd_wordFrom_j46
      rw [if_neg (by simp (disch := omega) only [l_0, l_1, l_2, l_3, l_4, l_5, l_6, l_7, l_8, l_9, l_10, l_11, l_12, l_13, l_14, l_16, l_20, l_21, l_23, l_24, l_30, l_32, l_40, l_41, l_44, l_48, l_57, l_59, l_60, l_63, l_64, l_80, l_84, l_96, l_97, l_99, l_120, l_122, l_127, l_200, l_240, l_255, l_840, l_999, l_1000, l_1001, l_2400, l_3064, l_9999, l_10000, l_13849, l_16383, l_25173, l_65535, l_65536, l_99999, l_1000000000, neg_nI, pk_mul, nI_add, nI_subL, tn_nI, inb_t, grd_true, bnd_some, elS_l, elS_r, nI_ltI, nI_leI, nI_inj, fa_and, fa_or, m1_eq, eq_m1, m1_lt, m1_le, lt_m1, le_m1, m1_lt0, up2_at, up2_no, ite_true, ite_false, if_true, if_false, Bool.false_eq_true, reduceIte, reduceCtorEq, not_true_eq_false, not_false_eq_true, eq_self, decide_true, decide_false, le_tt, le_ff, lt_tt, lt_ff, eq_ff, and_true, true_and, and_false, false_and, or_true, true_or, or_false, false_or, ne_eq, decide_eq_true_eq, decide_eq_false_iff_not, Bool.not_true, Bool.not_false, Bool.and_true, Bool.true_and, Bool.and_false, Bool.false_and, gs_at, gs_no, oI_n, oI_s]), h4, if_neg (by decide), hg, bnd_some, hw, bnd_some, hP, if_pos rfl]
/-- the model's code of the word there -/
def cdX (b : Nat → Nat) (p e : Nat) : Int64 := if e - p ≤ 8 then lN (cdF b p (e - p)) else (-1 : Int64)
theorem wc_lt : ∀ u : Fin 16, wC u.val < 1099511627776 ∧ (-1 : Int64) ≠ lN (wC u.val) := by decide
theorem cd_iff {u : Nat} (hu : u < 16) (hpe : p ≤ e) (hl : ∀ i, p ≤ i → i < e → ltr (b i) = true) : cdX b p e = lN (wC u) ↔ isW b p e u = true := by
  have w7 := (wl_e ⟨u, hu⟩).1
  obtain ⟨c1, c2⟩ := wc_lt ⟨u, hu⟩
  dsimp only at w7 c1 c2
  unfold cdX isW
  rw [decide_eq_true_eq]
  by_cases c : e - p ≤ 8
  · rw [if_pos c]
    have hll : ∀ i, i < e - p → ltr (b (p + i)) = true := fun i hi => hl _ (by omega) (by omega)
    have hlt := cd_lt (b := b) (p := p) (e - p) c hll
    have h8 : 32 ^ (e - p) ≤ 32 ^ 8 := Nat.pow_le_pow_right (by decide) c
    have h8' : (32 : Nat) ^ 8 = 1099511627776 := by decide
    constructor
    · intro q
      have q2 : cdF b p (e - p) = wC u := by
        have := congrArg (fun x : Int64 => x.toBitVec.toNat) q
        rw [lN_nat (by omega), lN_nat (by omega)] at this
        exact this
      have hw : ∀ i, i < wL u → ltr (wS u (0 + i)) = true := fun i hi => by
        have := ws_e ⟨u, hu⟩ ⟨i, by omega⟩ hi
        rw [Nat.zero_add]
        exact this
      obtain ⟨r1, r2⟩ := cd_inj (e - p) (wL u) c (by omega) hll hw q2
      refine ⟨r1, fun i hi => ?_⟩
      have := r2 i (by omega)
      rw [Nat.zero_add] at this
      exact this
    · rintro ⟨r1, r2⟩
      have : cdF b p (e - p) = wC u := by
        rw [r1]
        refine cd_cong (wL u) (fun i hi => ?_)
        rw [Nat.zero_add]
        exact r2 i hi
      rw [this]
  · rw [if_neg c]
    constructor
    · intro q; exact absurd q c2
    · intro q; omega
end
