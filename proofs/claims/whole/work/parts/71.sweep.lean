/-! sweep: the order, and one slide behind another -/
def HN (M : Mm) (c : Nat) : Nat → List Nat → Prop
  | _, [] => True
  | i, d :: L => M.1 c i = nI d ∧ HN M c (i + 1) L
theorem HN_app {M : Mm} {c : Nat} : ∀ {A B : List Nat} {i : Nat}, HN M c i (A ++ B) ↔ HN M c i A ∧ HN M c (i + A.length) B
  | [], B, i => ⟨fun h => ⟨trivial, h⟩, fun h => h.2⟩
  | d :: A, B, i => by
    show (_ ∧ HN M c (i + 1) (A ++ B)) ↔ (_ ∧ HN M c (i + 1) A) ∧ _
    rw [HN_app, and_assoc, show i + (d :: A).length = i + 1 + A.length by simp [List.length_cons]; omega]
theorem HN_congr {M M' : Mm} {c : Nat} : ∀ {L : List Nat} {i : Nat}, (∀ j, i ≤ j → j < i + L.length → M'.1 c j = M.1 c j) → HN M c i L → HN M' c i L
  | [], _, _, _ => trivial
  | d :: L, i, h, q => ⟨(h i (Nat.le_refl _) (by simp [List.length_cons])).trans q.1, HN_congr (fun j h1 h2 => h j (by omega) (by simp [List.length_cons]; omega)) q.2⟩
def kyN (g : Nat → Nat) (d : Nat) : Nat := g (64 + 10 * d + 4) * 64 + d
def srt (g : Nat → Nat) (L : List Nat) : Prop := L.Pairwise (fun a b => kyN g a < kyN g b)
theorem srt_one {g : Nat → Nat} : ∀ {A B : List Nat}, srt g A → srt g B → (∀ x, x ∈ A ↔ x ∈ B) → A = B
  | [], [], _, _, _ => rfl
  | [], b :: B, _, _, h => absurd ((h b).mpr List.mem_cons_self) (by simp)
  | a :: A, [], _, _, h => absurd ((h a).mp List.mem_cons_self) (by simp)
  | a :: A, b :: B, ha, hb, h => by
    have pa := List.pairwise_cons.mp ha
    have pb := List.pairwise_cons.mp hb
    have e : a = b := by
      rcases List.mem_cons.mp ((h a).mp List.mem_cons_self) with q | q
      · exact q
      · rcases List.mem_cons.mp ((h b).mpr List.mem_cons_self) with q2 | q2
        · exact q2.symm
        · have h1 := pb.1 a q
          have h2 := pa.1 b q2
          omega
    subst e
    congr 1
    refine srt_one pa.2 pb.2 (fun x => ?_)
    constructor
    · intro q
      rcases List.mem_cons.mp ((h x).mp (List.mem_cons_of_mem _ q)) with r | r
      · have := pa.1 x q
        rw [r] at this
        omega
      · exact r
    · intro q
      rcases List.mem_cons.mp ((h x).mpr (List.mem_cons_of_mem _ q)) with r | r
      · have := pb.1 x q
        rw [r] at this
        omega
      · exact r
theorem srt_nd {g : Nat → Nat} {L : List Nat} (h : srt g L) : L.Nodup := List.Pairwise.imp (fun {a b} q e => by rw [e] at q; omega) h
theorem nd_len : ∀ {N : Nat} {L : List Nat}, L.Nodup → (∀ x, x ∈ L → x < N) → L.length ≤ N
  | 0, [], _, _ => Nat.le_refl _
  | 0, a :: L, _, h => absurd (h a List.mem_cons_self) (by omega)
  | N + 1, L, hd, h => by
    by_cases c : N ∈ L
    · have h1 := nd_len (N := N) (hd.erase N) (fun x hx => by
        have q := (hd.mem_erase_iff).mp hx
        have := h x q.2
        have := q.1
        omega)
      rw [List.length_erase_of_mem c] at h1
      omega
    · have := nd_len (N := N) hd (fun x hx => by
        have := h x hx
        have : x ≠ N := fun q => c (q ▸ hx)
        omega)
      omega
/-! the class puts one into its place -/
section
variable {g : Nat → Nat} {n s : Nat}
theorem ord_in (hg : GV g) {i : Nat} (hi : i < g 7) (hil : g (64 + 10 * i + 3) = 0) : ∀ (R B : List Nat) (M : Mm) (m : Nat), SV M s g → HN M (s + 17) 0 R.reverse → HN M (s + 17) (R.length + 1) B → R.length + 1 + B.length ≤ 40 → (∀ x, x ∈ R → x < g 7 ∧ g (64 + 10 * x + 3) = 0) → R.length < m → ∃ (M' : Mm) (R' B' : List Nat), loop (fun s1 : Int32 × Mm => St_orderByFirst_b23 s (nI i) s1.1 s1.2) m (nI R.length, M) = some (nI R'.length, M') ∧ R.reverse ++ B = R'.reverse ++ B' ∧ HN M' (s + 17) 0 R'.reverse ∧ HN M' (s + 17) (R'.length + 1) B' ∧ (∀ b, b ∈ B' → b ∈ B ∨ g (64 + 10 * i + 4) < g (64 + 10 * b + 4)) ∧ (∀ x, R'.head? = some x → g (64 + 10 * x + 4) ≤ g (64 + 10 * i + 4)) ∧ Fr (fun c _ => c = s + 17) M M'
  | [], B, M, m, hS, h1, h2, h3, h4, hm => by
    refine ⟨M, [], B, loop_inr (r := (nI 0, M)) ?_ hm, rfl, h1, h2, fun b hb => .inl hb, fun x hx => (by cases hx), Fr.rf⟩
    show St_orderByFirst_b23 s (nI i) (nI 0) M = _
    unfold St_orderByFirst_b23
    simp (disch := omega) only [l_0, l_1, l_2, l_3, l_4, l_5, l_6, l_7, l_8, l_9, l_10, l_11, l_12, l_13, l_14, l_16, l_20, l_21, l_23, l_24, l_30, l_32, l_40, l_41, l_44, l_48, l_57, l_59, l_60, l_63, l_64, l_80, l_84, l_96, l_97, l_99, l_120, l_122, l_127, l_200, l_240, l_255, l_840, l_999, l_1000, l_1001, l_2400, l_3064, l_9999, l_10000, l_13849, l_16383, l_25173, l_65535, l_65536, l_99999, l_1000000000, neg_nI, pk_mul, nI_add, nI_subL, tn_nI, inb_t, grd_true, bnd_some, elS_l, elS_r, nI_ltI, nI_leI, nI_inj, fa_and, fa_or, m1_eq, eq_m1, m1_lt, m1_le, lt_m1, le_m1, m1_lt0, up2_at, up2_no, ite_true, ite_false, if_true, if_false, Bool.false_eq_true, reduceIte, reduceCtorEq, not_true_eq_false, not_false_eq_true, eq_self, decide_true, decide_false, le_tt, le_ff, lt_tt, lt_ff, eq_ff, and_true, true_and, and_false, false_and, or_true, true_or, or_false, false_or, ne_eq, decide_eq_true_eq, decide_eq_false_iff_not, Bool.not_true, Bool.not_false, Bool.and_true, Bool.true_and, Bool.and_false, Bool.false_and, gs_at, gs_no, oI_n, oI_s]
  | x :: R, B, M, m, hS, h1, h2, h3, h4, hm => by
    have h40 := hg.2.2
    obtain ⟨xd, xl⟩ := h4 x List.mem_cons_self
    rw [List.reverse_cons, HN_app] at h1
    have hx : M.1 (s + 17) R.length = nI x := by
      have := h1.2.1
      rw [List.length_reverse, Nat.zero_add] at this
      exact this
    have cx := ((hS.2.2.1 x xd).2.2.2.2.2 xl).2.1
    have ci := ((hS.2.2.1 i hi).2.2.2.2.2 hil).2.1
    have bx := (hg.1.2.2.2.1 x xd xl).2.1
    have bi := (hg.1.2.2.2.1 i hi hil).2.1
    have b1 := hg.1.2.1.1
    simp only [List.length_cons] at h2 h3 hm
    by_cases c : g (64 + 10 * x + 4) ≤ g (64 + 10 * i + 4)
    · refine ⟨M, x :: R, B, loop_inr (r := (nI (R.length + 1), M)) ?_ (by omega), rfl, ?_, h2, fun b hb => .inl hb, fun y hy => ?_, Fr.rf⟩
      · show St_orderByFirst_b23 s (nI i) (nI (R.length + 1)) M = _
        unfold St_orderByFirst_b23
        simp (disch := omega) only [l_0, l_1, l_2, l_3, l_4, l_5, l_6, l_7, l_8, l_9, l_10, l_11, l_12, l_13, l_14, l_16, l_20, l_21, l_23, l_24, l_30, l_32, l_40, l_41, l_44, l_48, l_57, l_59, l_60, l_63, l_64, l_80, l_84, l_96, l_97, l_99, l_120, l_122, l_127, l_200, l_240, l_255, l_840, l_999, l_1000, l_1001, l_2400, l_3064, l_9999, l_10000, l_13849, l_16383, l_25173, l_65535, l_65536, l_99999, l_1000000000, neg_nI, pk_mul, nI_add, nI_subL, tn_nI, inb_t, grd_true, bnd_some, elS_l, elS_r, nI_ltI, nI_leI, nI_inj, fa_and, fa_or, m1_eq, eq_m1, m1_lt, m1_le, lt_m1, le_m1, m1_lt0, up2_at, up2_no, ite_true, ite_false, if_true, if_false, Bool.false_eq_true, reduceIte, reduceCtorEq, not_true_eq_false, not_false_eq_true, eq_self, decide_true, decide_false, le_tt, le_ff, lt_tt, lt_ff, eq_ff, and_true, true_and, and_false, false_and, or_true, true_or, or_false, false_or, ne_eq, decide_eq_true_eq, decide_eq_false_iff_not, Bool.not_true, Bool.not_false, Bool.and_true, Bool.true_and, Bool.and_false, Bool.false_and, gs_at, gs_no, oI_n, oI_s, Nat.add_sub_cancel, hx, cx, ci]
      · rw [List.reverse_cons, HN_app]; exact h1
      · cases hy; exact c
    · have hf : Fr (fun c _ => c = s + 17) M (up2 M.1 (s + 17) (R.length + 1) (nI x), M.2) := Fr.I Fr.rf rfl
      obtain ⟨M', R', B', l1, l2, l3, l4, l5, l6, l7⟩ := ord_in hg hi hil R (x :: B) (up2 M.1 (s + 17) (R.length + 1) (nI x), M.2) (m - 1) (hS.fr hf (fun k j hk => by omega)) (HN_congr (fun j j1 j2 => by
        rw [List.length_reverse] at j2
        exact up2_no (by omega)) h1.1) ⟨up2_at, HN_congr (fun j j1 j2 => up2_no (by omega)) h2⟩ (by simp only [List.length_cons]; omega) (fun y hy => h4 y (List.mem_cons_of_mem _ hy)) (by omega)
      refine ⟨M', R', B', ?_, ?_, l3, l4, fun b hb => ?_, l6, hf.tr l7⟩
      · rw [← l1]
        refine loop_inl ?_ (by omega)
        show St_orderByFirst_b23 s (nI i) (nI (R.length + 1)) M = _
        unfold St_orderByFirst_b23
        simp (disch := omega) only [l_0, l_1, l_2, l_3, l_4, l_5, l_6, l_7, l_8, l_9, l_10, l_11, l_12, l_13, l_14, l_16, l_20, l_21, l_23, l_24, l_30, l_32, l_40, l_41, l_44, l_48, l_57, l_59, l_60, l_63, l_64, l_80, l_84, l_96, l_97, l_99, l_120, l_122, l_127, l_200, l_240, l_255, l_840, l_999, l_1000, l_1001, l_2400, l_3064, l_9999, l_10000, l_13849, l_16383, l_25173, l_65535, l_65536, l_99999, l_1000000000, neg_nI, pk_mul, nI_add, nI_subL, tn_nI, inb_t, grd_true, bnd_some, elS_l, elS_r, nI_ltI, nI_leI, nI_inj, fa_and, fa_or, m1_eq, eq_m1, m1_lt, m1_le, lt_m1, le_m1, m1_lt0, up2_at, up2_no, ite_true, ite_false, if_true, if_false, Bool.false_eq_true, reduceIte, reduceCtorEq, not_true_eq_false, not_false_eq_true, eq_self, decide_true, decide_false, le_tt, le_ff, lt_tt, lt_ff, eq_ff, and_true, true_and, and_false, false_and, or_true, true_or, or_false, false_or, ne_eq, decide_eq_true_eq, decide_eq_false_iff_not, Bool.not_true, Bool.not_false, Bool.and_true, Bool.true_and, Bool.and_false, Bool.false_and, gs_at, gs_no, oI_n, oI_s, Nat.add_sub_cancel, hx, cx, ci, nI_addm]
      · rw [← l2, List.reverse_cons, List.append_assoc]; rfl
      · rcases l5 b hb with q | q
        · rcases List.mem_cons.mp q with r | r
          · right; rw [r]; omega
          · exact .inl r
        · exact .inr q
def ordP (g : Nat → Nat) (L : List Nat) : Prop := srt g L ∧ ∀ x, x ∈ L ↔ x < g 7 ∧ g (64 + 10 * x + 3) = 0
theorem ord_c {M : Mm} (hg : GV g) (hS : SV M s g) (hn : 100 < n) : ∃ (M' : Mm) (L : List Nat), St_orderByFirst n s M = some (nI L.length, M') ∧ ordP g L ∧ HN M' (s + 17) 0 L ∧ L.length ≤ 40 ∧ Fr (fun c _ => c = s + 17) M M' := by
  have h40 := hg.2.2
  have hlp : ∃ r, loop (fun s1 : Int32 × Int32 × Mm => St_orderByFirst_b4 n s s1.1 s1.2.1 s1.2.2) n (nI 0, nI 0, M) = some r ∧ (∃ L : List Nat, r.1 = nI L.length ∧ ordP g L ∧ HN r.2 (s + 17) 0 L ∧ L.length ≤ 40 ∧ Fr (fun c _ => c = s + 17) M r.2) := by
    refine loop_I0 (fun i (st : Int32 × Int32 × Mm) => ∃ L : List Nat, st.1 = nI L.length ∧ st.2.1 = nI i ∧ srt g L ∧ (∀ x, x ∈ L ↔ x < i ∧ g (64 + 10 * x + 3) = 0) ∧ HN st.2.2 (s + 17) 0 L ∧ L.length ≤ i ∧ Fr (fun c _ => c = s + 17) M st.2.2) _ (g 7) ⟨[], rfl, rfl, List.Pairwise.nil, fun x => by simp, trivial, Nat.le_refl _, Fr.rf⟩ (by omega) ?_ ?_
    · rintro i ⟨s1, s2, M1⟩ hi ⟨L, e1, e2, e3, e4, e5, e6, e7⟩
      simp only at e1 e2 e5 e7
      subst e1 e2
      left
      have hS1 : SV M1 s g := hS.fr e7 (fun k j hk => by omega)
      have h4 := hS1.2.1
      have g3 := hg.1.1.1 (64 + 10 * i + 3)
      obtain ⟨c1, c2, c3, c4, c5, c6⟩ := hS1.2.2.1 i hi
      show ∃ s', St_orderByFirst_b4 n s (nI L.length) (nI i) M1 = some (.inl s') ∧ _
      by_cases z : g (64 + 10 * i + 3) = 0
      · obtain ⟨M2, R', B', l1, l2, l3, l4, l5, l6, l7⟩ := ord_in (s := s) hg hi z L.reverse [] M1 n hS1 (by rw [List.reverse_reverse]; exact e5) trivial (by rw [List.length_reverse]; simp; omega) (fun x hx => by
          have := (e4 x).mp (List.mem_reverse.mp hx)
          exact ⟨by omega, this.2⟩) (by rw [List.length_reverse]; omega)
        rw [List.length_reverse] at l1
        rw [List.reverse_reverse, List.append_nil] at l2
        have hlen : L.length = R'.length + B'.length := by rw [l2, List.length_append, List.length_reverse]
        have hr40 : R'.length < 40 := by omega
        refine ⟨(nI (L.length + 1), nI (i + 1), (up2 M2.1 (s + 17) R'.length (nI i), M2.2)), ?_, R'.reverse ++ i :: B', ?_, rfl, ?_, fun x => ?_, ?_, ?_, ?_⟩
        · unfold St_orderByFirst_b4 St_orderByFirst_j69 St_orderByFirst_j79
          simp (disch := omega) only [l_0, l_1, l_2, l_3, l_4, l_5, l_6, l_7, l_8, l_9, l_10, l_11, l_12, l_13, l_14, l_16, l_20, l_21, l_23, l_24, l_30, l_32, l_40, l_41, l_44, l_48, l_57, l_59, l_60, l_63, l_64, l_80, l_84, l_96, l_97, l_99, l_120, l_122, l_127, l_200, l_240, l_255, l_840, l_999, l_1000, l_1001, l_2400, l_3064, l_9999, l_10000, l_13849, l_16383, l_25173, l_65535, l_65536, l_99999, l_1000000000, neg_nI, pk_mul, nI_add, nI_subL, tn_nI, inb_t, grd_true, bnd_some, elS_l, elS_r, nI_ltI, nI_leI, nI_inj, fa_and, fa_or, m1_eq, eq_m1, m1_lt, m1_le, lt_m1, le_m1, m1_lt0, up2_at, up2_no, ite_true, ite_false, if_true, if_false, Bool.false_eq_true, reduceIte, reduceCtorEq, not_true_eq_false, not_false_eq_true, eq_self, decide_true, decide_false, le_tt, le_ff, lt_tt, lt_ff, eq_ff, and_true, true_and, and_false, false_and, or_true, true_or, or_false, false_or, ne_eq, decide_eq_true_eq, decide_eq_false_iff_not, Bool.not_true, Bool.not_false, Bool.and_true, Bool.true_and, Bool.and_false, Bool.false_and, gs_at, gs_no, oI_n, oI_s, h4, c4, z, l1]
        · simp only [List.length_append, List.length_reverse, List.length_cons]
          congr 1
          omega
        · rw [l2] at e3
          have pw := List.pairwise_append.mp e3
          have hR : ∀ x, x ∈ R'.reverse → x < i ∧ g (64 + 10 * x + 4) ≤ g (64 + 10 * i + 4) := fun x hx => by
            have hxL : x ∈ L := by rw [l2]; exact List.mem_append_left _ hx
            refine ⟨((e4 x).mp hxL).1, ?_⟩
            cases R' with
            | nil => simp at hx
            | cons y R'' =>
              have hy := l6 y rfl
              rw [List.reverse_cons] at hx pw
              rcases List.mem_append.mp hx with q | q
              · have := (List.pairwise_append.mp pw.1).2.2 x q y List.mem_cons_self
                unfold kyN at this
                have hyi : y < i := ((e4 y).mp (by rw [l2, List.reverse_cons]; simp)).1
                have hxi : x < i := ((e4 x).mp hxL).1
                omega
              · have : x = y := by simpa using q
                rw [this]; exact hy
          have hB : ∀ b, b ∈ B' → g (64 + 10 * i + 4) < g (64 + 10 * b + 4) := fun b hb => by
            rcases l5 b hb with q | q
            · cases q
            · exact q
          refine List.pairwise_append.mpr ⟨pw.1, List.pairwise_cons.mpr ⟨fun b hb => ?_, pw.2.1⟩, fun x hx y hy => ?_⟩
          · have h1 := hB b hb
            unfold kyN
            have : i < 64 := by omega
            omega
          · rcases List.mem_cons.mp hy with q | q
            · rw [q]
              have h1 := hR x hx
              unfold kyN
              omega
            · exact pw.2.2 x hx y q
        · constructor
          · intro hx
            rcases List.mem_append.mp hx with q | q
            · have := (e4 x).mp (by rw [l2]; exact List.mem_append_left _ q)
              exact ⟨by omega, this.2⟩
            · rcases List.mem_cons.mp q with r | r
              · rw [r]; exact ⟨by omega, z⟩
              · have := (e4 x).mp (by rw [l2]; exact List.mem_append_right _ r)
                exact ⟨by omega, this.2⟩
          · rintro ⟨h1, h2⟩
            by_cases c : x = i
            · rw [c]; simp
            · have := (e4 x).mpr ⟨by omega, h2⟩
              rw [l2] at this
              rcases List.mem_append.mp this with q | q
              · exact List.mem_append_left _ q
              · exact List.mem_append_right _ (List.mem_cons_of_mem _ q)
        · show HN (up2 M2.1 (s + 17) R'.length (nI i), M2.2) (s + 17) 0 (R'.reverse ++ i :: B')
          rw [HN_app, List.length_reverse, Nat.zero_add]
          refine ⟨HN_congr (fun j j1 j2 => ?_) l3, up2_at, HN_congr (fun j j1 j2 => ?_) l4⟩
          · rw [List.length_reverse] at j2
            exact up2_no (by omega)
          · exact up2_no (by omega)
        · simp only [List.length_append, List.length_reverse, List.length_cons]
          omega
        · exact (e7.tr l7).tr (Fr.I Fr.rf rfl)
      · refine ⟨(nI L.length, nI (i + 1), M1), ?_, L, rfl, rfl, e3, fun x => ?_, e5, by omega, e7⟩
        · unfold St_orderByFirst_b4 St_orderByFirst_j79
          simp (disch := omega) only [l_0, l_1, l_2, l_3, l_4, l_5, l_6, l_7, l_8, l_9, l_10, l_11, l_12, l_13, l_14, l_16, l_20, l_21, l_23, l_24, l_30, l_32, l_40, l_41, l_44, l_48, l_57, l_59, l_60, l_63, l_64, l_80, l_84, l_96, l_97, l_99, l_120, l_122, l_127, l_200, l_240, l_255, l_840, l_999, l_1000, l_1001, l_2400, l_3064, l_9999, l_10000, l_13849, l_16383, l_25173, l_65535, l_65536, l_99999, l_1000000000, neg_nI, pk_mul, nI_add, nI_subL, tn_nI, inb_t, grd_true, bnd_some, elS_l, elS_r, nI_ltI, nI_leI, nI_inj, fa_and, fa_or, m1_eq, eq_m1, m1_lt, m1_le, lt_m1, le_m1, m1_lt0, up2_at, up2_no, ite_true, ite_false, if_true, if_false, Bool.false_eq_true, reduceIte, reduceCtorEq, not_true_eq_false, not_false_eq_true, eq_self, decide_true, decide_false, le_tt, le_ff, lt_tt, lt_ff, eq_ff, and_true, true_and, and_false, false_and, or_true, true_or, or_false, false_or, ne_eq, decide_eq_true_eq, decide_eq_false_iff_not, Bool.not_true, Bool.not_false, Bool.and_true, Bool.true_and, Bool.and_false, Bool.false_and, gs_at, gs_no, oI_n, oI_s, h4, c4, z]
        · rw [e4]
          constructor
          · rintro ⟨h1, h2⟩; exact ⟨by omega, h2⟩
          · rintro ⟨h1, h2⟩
            have : x ≠ i := fun q => z (by rw [← q]; exact h2)
            exact ⟨by omega, h2⟩
    · rintro ⟨s1, s2, M1⟩ ⟨L, e1, e2, e3, e4, e5, e6, e7⟩
      simp only at e1 e2 e5 e7
      subst e1 e2
      have hS1 : SV M1 s g := hS.fr e7 (fun k j hk => by omega)
      refine ⟨(nI L.length, M1), ?_, L, rfl, ⟨e3, e4⟩, e5, by omega, e7⟩
      show St_orderByFirst_b4 n s (nI L.length) (nI (g 7)) M1 = _
      unfold St_orderByFirst_b4
      simp (disch := omega) only [l_0, l_1, l_2, l_3, l_4, l_5, l_6, l_7, l_8, l_9, l_10, l_11, l_12, l_13, l_14, l_16, l_20, l_21, l_23, l_24, l_30, l_32, l_40, l_41, l_44, l_48, l_57, l_59, l_60, l_63, l_64, l_80, l_84, l_96, l_97, l_99, l_120, l_122, l_127, l_200, l_240, l_255, l_840, l_999, l_1000, l_1001, l_2400, l_3064, l_9999, l_10000, l_13849, l_16383, l_25173, l_65535, l_65536, l_99999, l_1000000000, neg_nI, pk_mul, nI_add, nI_subL, tn_nI, inb_t, grd_true, bnd_some, elS_l, elS_r, nI_ltI, nI_leI, nI_inj, fa_and, fa_or, m1_eq, eq_m1, m1_lt, m1_le, lt_m1, le_m1, m1_lt0, up2_at, up2_no, ite_true, ite_false, if_true, if_false, Bool.false_eq_true, reduceIte, reduceCtorEq, not_true_eq_false, not_false_eq_true, eq_self, decide_true, decide_false, le_tt, le_ff, lt_tt, lt_ff, eq_ff, and_true, true_and, and_false, false_and, or_true, true_or, or_false, false_or, ne_eq, decide_eq_true_eq, decide_eq_false_iff_not, Bool.not_true, Bool.not_false, Bool.and_true, Bool.true_and, Bool.and_false, Bool.false_and, gs_at, gs_no, oI_n, oI_s, hS1.2.1]
  obtain ⟨r, r1, L, r2, r3, r4, r5, r6⟩ := hlp
  refine ⟨r.2, L, ?_, r3, r4, r5, r6⟩
  unfold St_orderByFirst
  simp (disch := omega) only [l_0, l_1, l_2, l_3, l_4, l_5, l_6, l_7, l_8, l_9, l_10, l_11, l_12, l_13, l_14, l_16, l_20, l_21, l_23, l_24, l_30, l_32, l_40, l_41, l_44, l_48, l_57, l_59, l_60, l_63, l_64, l_80, l_84, l_96, l_97, l_99, l_120, l_122, l_127, l_200, l_240, l_255, l_840, l_999, l_1000, l_1001, l_2400, l_3064, l_9999, l_10000, l_13849, l_16383, l_25173, l_65535, l_65536, l_99999, l_1000000000, neg_nI, pk_mul, nI_add, nI_subL, tn_nI, inb_t, grd_true, bnd_some, elS_l, elS_r, nI_ltI, nI_leI, nI_inj, fa_and, fa_or, m1_eq, eq_m1, m1_lt, m1_le, lt_m1, le_m1, m1_lt0, up2_at, up2_no, ite_true, ite_false, if_true, if_false, Bool.false_eq_true, reduceIte, reduceCtorEq, not_true_eq_false, not_false_eq_true, eq_self, decide_true, decide_false, le_tt, le_ff, lt_tt, lt_ff, eq_ff, and_true, true_and, and_false, false_and, or_true, true_or, or_false, false_or, ne_eq, decide_eq_true_eq, decide_eq_false_iff_not, Bool.not_true, Bool.not_false, Bool.and_true, Bool.true_and, Bool.and_false, Bool.false_and, gs_at, gs_no, oI_n, oI_s, r1, r2]
end
/-! the model's order -/
section
variable {g : Nat → Nat} {n : Nat} {h : Nat → Int32}
theorem ord_m {M : Mm} (hg : GV g) (hF : FK M g h) (hn : 100 < n) : ∃ (M' : Mm) (L : List Nat), loop (fun s1 : Int32 × Int32 × Mm => Fm_sweep_b4 n s1.1 s1.2.1 s1.2.2) n (nI 0, nI 0, M) = some (nI L.length, M') ∧ ordP g L ∧ HN M' 104 0 L ∧ Fr (fun c _ => c = 104) M M' := by
  have hG := hg.1.1
  have h40 := hg.2.2
  have b1 := hg.1.2.1.1
  have hlp : ∃ r, loop (fun s1 : Int32 × Int32 × Mm => Fm_sweep_b4 n s1.1 s1.2.1 s1.2.2) n (nI 0, nI 0, M) = some r ∧ (∃ L : List Nat, r.1 = nI L.length ∧ ordP g L ∧ HN r.2 104 0 L ∧ Fr (fun c _ => c = 104) M r.2) := by
    refine loop_I0 (fun i (st : Int32 × Int32 × Mm) => ∃ L : List Nat, st.1 = nI L.length ∧ st.2.1 = nI i ∧ srt g L ∧ (∀ x, x ∈ L ↔ x < g 7 ∧ g (64 + 10 * x + 3) = 0 ∧ g (64 + 10 * x + 4) < i) ∧ HN st.2.2 104 0 L ∧ Fr (fun c _ => c = 104) M st.2.2) _ (g 1) ⟨[], rfl, rfl, List.Pairwise.nil, fun x => by simp, trivial, Fr.rf⟩ (by omega) ?_ ?_
    · rintro i ⟨s1, s2, M1⟩ hi ⟨L, e1, e2, e3, e4, e5, e7⟩
      simp only at e1 e2 e5 e7
      subst e1 e2
      left
      have hF1 : FK M1 g h := hF.fr e7 (fun j => by omega)
      have hin : ∃ r, loop (fun s1 : Int32 × Int32 × Mm => Fm_sweep_b16 (nI i) s1.1 s1.2.1 s1.2.2) n (nI L.length, nI 0, M1) = some r ∧ (∃ L' : List Nat, r.1 = nI L'.length ∧ srt g L' ∧ (∀ x, x ∈ L' ↔ x < g 7 ∧ g (64 + 10 * x + 3) = 0 ∧ g (64 + 10 * x + 4) < i + 1) ∧ HN r.2 104 0 L' ∧ Fr (fun c _ => c = 104) M r.2) := by
        refine loop_I0 (fun d (st : Int32 × Int32 × Mm) => ∃ L' : List Nat, st.1 = nI L'.length ∧ st.2.1 = nI d ∧ srt g L' ∧ (∀ x, x ∈ L' ↔ x < g 7 ∧ g (64 + 10 * x + 3) = 0 ∧ (g (64 + 10 * x + 4) < i ∨ g (64 + 10 * x + 4) = i ∧ x < d)) ∧ HN st.2.2 104 0 L' ∧ Fr (fun c _ => c = 104) M st.2.2) _ (g 7) ⟨L, rfl, rfl, e3, fun x => by rw [e4]; omega, e5, e7⟩ (by omega) ?_ ?_
        · rintro d ⟨t1, t2, M2⟩ hd ⟨L', f1, f2, f3, f4, f5, f7⟩
          simp only at f1 f2 f5 f7
          subst f1 f2
          left
          have hF2 : FK M2 g h := hF.fr f7 (fun j => by omega)
          have g3 := hG.1 (64 + 10 * d + 3)
          have g4 := hG.1 (64 + 10 * d + 4)
          have hil := Fm_isLit_e (hF2.FR hG) hG (d := d) hd
          have o4 := hF2.of (d := d) (w := 4) (by omega) (by omega) (by omega)
          have h7 := hF2.lo (k := 7) (by omega)
          show ∃ s', Fm_sweep_b16 (nI i) (nI L'.length) (nI d) M2 = some (.inl s') ∧ _
          unfold Fm_sweep_b16 Fm_sweep_j59
          by_cases z : g (64 + 10 * d + 3) = 0
          · by_cases z4 : g (64 + 10 * d + 4) = i
            · have hnm : d ∉ L' := fun q => by
                have := ((f4 d).mp q).2.2
                omega
              have hlen : L'.length + 1 ≤ g 7 := nd_len (L := d :: L') (List.nodup_cons.mpr ⟨hnm, srt_nd f3⟩) (fun x hx => by
                rcases List.mem_cons.mp hx with q | q
                · rw [q]; exact hd
                · exact ((f4 x).mp q).1)
              refine ⟨(nI (L'.length + 1), nI (d + 1), (up2 M2.1 104 L'.length (nI d), M2.2)), ?_, L' ++ [d], ?_, rfl, ?_, fun x => ?_, ?_, ?_⟩
              · simp (disch := omega) only [l_0, l_1, l_2, l_3, l_4, l_5, l_6, l_7, l_8, l_9, l_10, l_11, l_12, l_13, l_14, l_16, l_20, l_21, l_23, l_24, l_30, l_32, l_40, l_41, l_44, l_48, l_57, l_59, l_60, l_63, l_64, l_80, l_84, l_96, l_97, l_99, l_120, l_122, l_127, l_200, l_240, l_255, l_840, l_999, l_1000, l_1001, l_2400, l_3064, l_9999, l_10000, l_13849, l_16383, l_25173, l_65535, l_65536, l_99999, l_1000000000, neg_nI, pk_mul, nI_add, nI_subL, tn_nI, inb_t, grd_true, bnd_some, elS_l, elS_r, nI_ltI, nI_leI, nI_inj, fa_and, fa_or, m1_eq, eq_m1, m1_lt, m1_le, lt_m1, le_m1, m1_lt0, up2_at, up2_no, ite_true, ite_false, if_true, if_false, Bool.false_eq_true, reduceIte, reduceCtorEq, not_true_eq_false, not_false_eq_true, eq_self, decide_true, decide_false, le_tt, le_ff, lt_tt, lt_ff, eq_ff, and_true, true_and, and_false, false_and, or_true, true_or, or_false, false_or, ne_eq, decide_eq_true_eq, decide_eq_false_iff_not, Bool.not_true, Bool.not_false, Bool.and_true, Bool.true_and, Bool.and_false, Bool.false_and, gs_at, gs_no, oI_n, oI_s, h7, hil, z, o4, z4]
              · simp
              · refine List.pairwise_append.mpr ⟨f3, List.pairwise_singleton _ _, fun x hx y hy => ?_⟩
                have : y = d := by simpa using hy
                rw [this]
                have h1 := (f4 x).mp hx
                unfold kyN
                have : x < 64 := by omega
                omega
              · rw [List.mem_append, f4]
                constructor
                · rintro (⟨q1, q2, q3⟩ | q)
                  · exact ⟨q1, q2, by omega⟩
                  · have : x = d := by simpa using q
                    rw [this]
                    exact ⟨hd, z, by omega⟩
                · rintro ⟨q1, q2, q3⟩
                  by_cases c : x = d
                  · right; simp [c]
                  · left; exact ⟨q1, q2, by omega⟩
              · show HN (up2 M2.1 104 L'.length (nI d), M2.2) 104 0 (L' ++ [d])
                rw [HN_app, Nat.zero_add]
                exact ⟨HN_congr (fun j j1 j2 => up2_no (by omega)) f5, up2_at, trivial⟩
              · exact f7.tr (Fr.I Fr.rf rfl)
            · refine ⟨(nI L'.length, nI (d + 1), M2), ?_, L', rfl, rfl, f3, fun x => ?_, f5, f7⟩
              · simp (disch := omega) only [l_0, l_1, l_2, l_3, l_4, l_5, l_6, l_7, l_8, l_9, l_10, l_11, l_12, l_13, l_14, l_16, l_20, l_21, l_23, l_24, l_30, l_32, l_40, l_41, l_44, l_48, l_57, l_59, l_60, l_63, l_64, l_80, l_84, l_96, l_97, l_99, l_120, l_122, l_127, l_200, l_240, l_255, l_840, l_999, l_1000, l_1001, l_2400, l_3064, l_9999, l_10000, l_13849, l_16383, l_25173, l_65535, l_65536, l_99999, l_1000000000, neg_nI, pk_mul, nI_add, nI_subL, tn_nI, inb_t, grd_true, bnd_some, elS_l, elS_r, nI_ltI, nI_leI, nI_inj, fa_and, fa_or, m1_eq, eq_m1, m1_lt, m1_le, lt_m1, le_m1, m1_lt0, up2_at, up2_no, ite_true, ite_false, if_true, if_false, Bool.false_eq_true, reduceIte, reduceCtorEq, not_true_eq_false, not_false_eq_true, eq_self, decide_true, decide_false, le_tt, le_ff, lt_tt, lt_ff, eq_ff, and_true, true_and, and_false, false_and, or_true, true_or, or_false, false_or, ne_eq, decide_eq_true_eq, decide_eq_false_iff_not, Bool.not_true, Bool.not_false, Bool.and_true, Bool.true_and, Bool.and_false, Bool.false_and, gs_at, gs_no, oI_n, oI_s, h7, hil, z, o4, z4]
              · rw [f4]
                constructor
                · rintro ⟨q1, q2, q3⟩; exact ⟨q1, q2, by omega⟩
                · rintro ⟨q1, q2, q3⟩
                  rcases q3 with r | ⟨r1, r2⟩
                  · exact ⟨q1, q2, .inl r⟩
                  · have : x ≠ d := fun q => by
                      rw [q] at r1; exact z4 r1
                    exact ⟨q1, q2, .inr ⟨r1, by omega⟩⟩
          · refine ⟨(nI L'.length, nI (d + 1), M2), ?_, L', rfl, rfl, f3, fun x => ?_, f5, f7⟩
            · simp (disch := omega) only [l_0, l_1, l_2, l_3, l_4, l_5, l_6, l_7, l_8, l_9, l_10, l_11, l_12, l_13, l_14, l_16, l_20, l_21, l_23, l_24, l_30, l_32, l_40, l_41, l_44, l_48, l_57, l_59, l_60, l_63, l_64, l_80, l_84, l_96, l_97, l_99, l_120, l_122, l_127, l_200, l_240, l_255, l_840, l_999, l_1000, l_1001, l_2400, l_3064, l_9999, l_10000, l_13849, l_16383, l_25173, l_65535, l_65536, l_99999, l_1000000000, neg_nI, pk_mul, nI_add, nI_subL, tn_nI, inb_t, grd_true, bnd_some, elS_l, elS_r, nI_ltI, nI_leI, nI_inj, fa_and, fa_or, m1_eq, eq_m1, m1_lt, m1_le, lt_m1, le_m1, m1_lt0, up2_at, up2_no, ite_true, ite_false, if_true, if_false, Bool.false_eq_true, reduceIte, reduceCtorEq, not_true_eq_false, not_false_eq_true, eq_self, decide_true, decide_false, le_tt, le_ff, lt_tt, lt_ff, eq_ff, and_true, true_and, and_false, false_and, or_true, true_or, or_false, false_or, ne_eq, decide_eq_true_eq, decide_eq_false_iff_not, Bool.not_true, Bool.not_false, Bool.and_true, Bool.true_and, Bool.and_false, Bool.false_and, gs_at, gs_no, oI_n, oI_s, h7, hil, z]
            · rw [f4]
              constructor
              · rintro ⟨q1, q2, q3⟩; exact ⟨q1, q2, by omega⟩
              · rintro ⟨q1, q2, q3⟩
                have : x ≠ d := fun q => by
                  rw [q] at q2; exact z q2
                exact ⟨q1, q2, by omega⟩
        · rintro ⟨t1, t2, M2⟩ ⟨L', f1, f2, f3, f4, f5, f7⟩
          simp only at f1 f2 f5 f7
          subst f1 f2
          have hF2 : FK M2 g h := hF.fr f7 (fun j => by omega)
          refine ⟨(nI L'.length, M2), ?_, L', rfl, f3, fun x => ?_, f5, f7⟩
          · show Fm_sweep_b16 (nI i) (nI L'.length) (nI (g 7)) M2 = _
            unfold Fm_sweep_b16
            simp (disch := omega) only [l_0, l_1, l_2, l_3, l_4, l_5, l_6, l_7, l_8, l_9, l_10, l_11, l_12, l_13, l_14, l_16, l_20, l_21, l_23, l_24, l_30, l_32, l_40, l_41, l_44, l_48, l_57, l_59, l_60, l_63, l_64, l_80, l_84, l_96, l_97, l_99, l_120, l_122, l_127, l_200, l_240, l_255, l_840, l_999, l_1000, l_1001, l_2400, l_3064, l_9999, l_10000, l_13849, l_16383, l_25173, l_65535, l_65536, l_99999, l_1000000000, neg_nI, pk_mul, nI_add, nI_subL, tn_nI, inb_t, grd_true, bnd_some, elS_l, elS_r, nI_ltI, nI_leI, nI_inj, fa_and, fa_or, m1_eq, eq_m1, m1_lt, m1_le, lt_m1, le_m1, m1_lt0, up2_at, up2_no, ite_true, ite_false, if_true, if_false, Bool.false_eq_true, reduceIte, reduceCtorEq, not_true_eq_false, not_false_eq_true, eq_self, decide_true, decide_false, le_tt, le_ff, lt_tt, lt_ff, eq_ff, and_true, true_and, and_false, false_and, or_true, true_or, or_false, false_or, ne_eq, decide_eq_true_eq, decide_eq_false_iff_not, Bool.not_true, Bool.not_false, Bool.and_true, Bool.true_and, Bool.and_false, Bool.false_and, gs_at, gs_no, oI_n, oI_s, hF2.lo]
          · rw [f4]
            constructor
            · rintro ⟨q1, q2, q3⟩; exact ⟨q1, q2, by omega⟩
            · rintro ⟨q1, q2, q3⟩; exact ⟨q1, q2, by omega⟩
      obtain ⟨r, r1, L', r2, r3, r4, r5, r6⟩ := hin
      refine ⟨(nI L'.length, nI (i + 1), r.2), ?_, L', rfl, rfl, r3, r4, r5, r6⟩
      show Fm_sweep_b4 n (nI L.length) (nI i) M1 = _
      unfold Fm_sweep_b4
      simp (disch := omega) only [l_0, l_1, l_2, l_3, l_4, l_5, l_6, l_7, l_8, l_9, l_10, l_11, l_12, l_13, l_14, l_16, l_20, l_21, l_23, l_24, l_30, l_32, l_40, l_41, l_44, l_48, l_57, l_59, l_60, l_63, l_64, l_80, l_84, l_96, l_97, l_99, l_120, l_122, l_127, l_200, l_240, l_255, l_840, l_999, l_1000, l_1001, l_2400, l_3064, l_9999, l_10000, l_13849, l_16383, l_25173, l_65535, l_65536, l_99999, l_1000000000, neg_nI, pk_mul, nI_add, nI_subL, tn_nI, inb_t, grd_true, bnd_some, elS_l, elS_r, nI_ltI, nI_leI, nI_inj, fa_and, fa_or, m1_eq, eq_m1, m1_lt, m1_le, lt_m1, le_m1, m1_lt0, up2_at, up2_no, ite_true, ite_false, if_true, if_false, Bool.false_eq_true, reduceIte, reduceCtorEq, not_true_eq_false, not_false_eq_true, eq_self, decide_true, decide_false, le_tt, le_ff, lt_tt, lt_ff, eq_ff, and_true, true_and, and_false, false_and, or_true, true_or, or_false, false_or, ne_eq, decide_eq_true_eq, decide_eq_false_iff_not, Bool.not_true, Bool.not_false, Bool.and_true, Bool.true_and, Bool.and_false, Bool.false_and, gs_at, gs_no, oI_n, oI_s, hF1.lo, r1, r2]
    · rintro ⟨s1, s2, M1⟩ ⟨L, e1, e2, e3, e4, e5, e7⟩
      simp only at e1 e2 e5 e7
      subst e1 e2
      have hF1 : FK M1 g h := hF.fr e7 (fun j => by omega)
      refine ⟨(nI L.length, M1), ?_, L, rfl, ⟨e3, fun x => ?_⟩, e5, e7⟩
      · show Fm_sweep_b4 n (nI L.length) (nI (g 1)) M1 = _
        unfold Fm_sweep_b4
        simp (disch := omega) only [l_0, l_1, l_2, l_3, l_4, l_5, l_6, l_7, l_8, l_9, l_10, l_11, l_12, l_13, l_14, l_16, l_20, l_21, l_23, l_24, l_30, l_32, l_40, l_41, l_44, l_48, l_57, l_59, l_60, l_63, l_64, l_80, l_84, l_96, l_97, l_99, l_120, l_122, l_127, l_200, l_240, l_255, l_840, l_999, l_1000, l_1001, l_2400, l_3064, l_9999, l_10000, l_13849, l_16383, l_25173, l_65535, l_65536, l_99999, l_1000000000, neg_nI, pk_mul, nI_add, nI_subL, tn_nI, inb_t, grd_true, bnd_some, elS_l, elS_r, nI_ltI, nI_leI, nI_inj, fa_and, fa_or, m1_eq, eq_m1, m1_lt, m1_le, lt_m1, le_m1, m1_lt0, up2_at, up2_no, ite_true, ite_false, if_true, if_false, Bool.false_eq_true, reduceIte, reduceCtorEq, not_true_eq_false, not_false_eq_true, eq_self, decide_true, decide_false, le_tt, le_ff, lt_tt, lt_ff, eq_ff, and_true, true_and, and_false, false_and, or_true, true_or, or_false, false_or, ne_eq, decide_eq_true_eq, decide_eq_false_iff_not, Bool.not_true, Bool.not_false, Bool.and_true, Bool.true_and, Bool.and_false, Bool.false_and, gs_at, gs_no, oI_n, oI_s, hF1.lo]
      · rw [e4]
        constructor
        · rintro ⟨q1, q2, q3⟩; exact ⟨q1, q2⟩
        · rintro ⟨q1, q2⟩
          have := hg.1.2.2.2.1 x q1 q2
          exact ⟨q1, q2, by omega⟩
  obtain ⟨r, r1, L, r2, r3, r4, r5⟩ := hlp
  exact ⟨r.2, L, by rw [r1, ← r2], r3, r4, r5⟩
end
/-! one slide behind another -/
def swF : List Nat → (Nat → Nat) → Nat → (Nat → Nat) × Nat
  | [], g, m => (g, m)
  | d :: L, g, m => swF L (slG g d) (m + if lowS g d < g (64 + 10 * d + 4) then 1 else 0)
theorem sl_ne {g : Nat → Nat} {d e w : Nat} (hw : w < 10) (h : w ≠ 4) : slG g d (64 + 10 * e + w) = g (64 + 10 * e + w) := gs_no (by omega)
theorem sl_lo {g : Nat → Nat} {d k : Nat} (h : k < 64) : slG g d k = g k := gs_no (by omega)
theorem swF_lo : ∀ {L : List Nat} {g : Nat → Nat} {m k : Nat}, k < 64 → (swF L g m).1 k = g k
  | [], _, _, _, _ => rfl
  | d :: L, g, m, k, h => by
    show (swF L (slG g d) _).1 k = _
    rw [swF_lo h, sl_lo h]
theorem swF_V : ∀ {L : List Nat} {g : Nat → Nat} {m : Nat}, GV g → (∀ x, x ∈ L → x < g 7 ∧ g (64 + 10 * x + 3) = 0) → GV (swF L g m).1 ∧ (swF L g m).2 ≤ m + L.length
  | [], g, m, hg, _ => ⟨hg, Nat.le_refl _⟩
  | d :: L, g, m, hg, h => by
    obtain ⟨h1, h2⟩ := h d List.mem_cons_self
    have := swF_V (L := L) (g := slG g d) (m := m + if lowS g d < g (64 + 10 * d + 4) then 1 else 0) (GV_sl hg h1 h2) (fun x hx => by
      rw [sl_lo (by omega), sl_ne (by omega) (by omega)]
      exact h x (List.mem_cons_of_mem _ hx))
    refine ⟨this.1, ?_⟩
    have h3 := this.2
    show (swF L (slG g d) _).2 ≤ _
    rw [List.length_cons]
    have : (if lowS g d < g (64 + 10 * d + 4) then 1 else 0) ≤ 1 := by split <;> omega
    omega
section
variable {n N : Nat}
theorem sweep_c (hn : 100 < n) (hN : N ≤ 40) : ∀ (L : List Nat) (i m k : Nat) (M : Mm) (g : Nat → Nat), GV g → SV M 18 g → (∀ x, x ∈ L → x < g 7 ∧ g (64 + 10 * x + 3) = 0) → HN M 35 i L → i + L.length = N → m ≤ i → L.length < k → ∃ M', loop (fun s1 : Int32 × Int32 × Mm => Fg_sweep_b12 n (nI N) s1.1 s1.2.1 s1.2.2) k (nI m, nI i, M) = some (nI (swF L g m).2, M') ∧ SV M' 18 (swF L g m).1 ∧ Fr fp_Fg_slideDown M M'
  | [], i, m, k, M, g, hg, hS, hL, hH, hi, hm, hk => by
    refine ⟨M, loop_inr (r := (nI m, M)) ?_ hk, hS, Fr.rf⟩
    show Fg_sweep_b12 n (nI N) (nI m) (nI i) M = _
    simp only [List.length_nil] at hi
    unfold Fg_sweep_b12
    simp (disch := omega) only [l_0, l_1, l_2, l_3, l_4, l_5, l_6, l_7, l_8, l_9, l_10, l_11, l_12, l_13, l_14, l_16, l_20, l_21, l_23, l_24, l_30, l_32, l_40, l_41, l_44, l_48, l_57, l_59, l_60, l_63, l_64, l_80, l_84, l_96, l_97, l_99, l_120, l_122, l_127, l_200, l_240, l_255, l_840, l_999, l_1000, l_1001, l_2400, l_3064, l_9999, l_10000, l_13849, l_16383, l_25173, l_65535, l_65536, l_99999, l_1000000000, neg_nI, pk_mul, nI_add, nI_subL, tn_nI, inb_t, grd_true, bnd_some, elS_l, elS_r, nI_ltI, nI_leI, nI_inj, fa_and, fa_or, m1_eq, eq_m1, m1_lt, m1_le, lt_m1, le_m1, m1_lt0, up2_at, up2_no, ite_true, ite_false, if_true, if_false, Bool.false_eq_true, reduceIte, reduceCtorEq, not_true_eq_false, not_false_eq_true, eq_self, decide_true, decide_false, le_tt, le_ff, lt_tt, lt_ff, eq_ff, and_true, true_and, and_false, false_and, or_true, true_or, or_false, false_or, ne_eq, decide_eq_true_eq, decide_eq_false_iff_not, Bool.not_true, Bool.not_false, Bool.and_true, Bool.true_and, Bool.and_false, Bool.false_and, gs_at, gs_no, oI_n, oI_s]
  | d :: L, i, m, k, M, g, hg, hS, hL, hH, hi, hm, hk => by
    obtain ⟨h1, h2⟩ := hL d List.mem_cons_self
    simp only [List.length_cons] at hi hk
    obtain ⟨M1, a1, a2, a3⟩ := slide_c hg hS h1 h2 hn
    have hlow := low_le (g := g) (d := d)
    have h4 := hg.1.2.2.2.1 d h1 h2
    have b1 := hg.1.2.1.1
    have hH1 : HN M1 35 (i + 1) L := HN_congr (fun j _ _ => (a3 35 j (by unfold fp_Fg_slideDown; omega)).1) hH.2
    obtain ⟨M', c1, c2, c3⟩ := sweep_c hn hN L (i + 1) (m + if lowS g d < g (64 + 10 * d + 4) then 1 else 0) (k - 1) M1 (slG g d) (GV_sl hg h1 h2) a2 (fun x hx => by
      rw [sl_lo (by omega), sl_ne (by omega) (by omega)]
      exact hL x (List.mem_cons_of_mem _ hx)) hH1 (by omega) (by split <;> omega) (by omega)
    refine ⟨M', ?_, c2, a3.tr c3⟩
    show _ = some (nI (swF L (slG g d) _).2, M')
    rw [← c1]
    refine loop_inl ?_ (by omega)
    show Fg_sweep_b12 n (nI N) (nI m) (nI i) M = _
    unfold Fg_sweep_b12 Fg_sweep_j36
    by_cases c : lowS g d < g (64 + 10 * d + 4)
    · simp (disch := omega) only [l_0, l_1, l_2, l_3, l_4, l_5, l_6, l_7, l_8, l_9, l_10, l_11, l_12, l_13, l_14, l_16, l_20, l_21, l_23, l_24, l_30, l_32, l_40, l_41, l_44, l_48, l_57, l_59, l_60, l_63, l_64, l_80, l_84, l_96, l_97, l_99, l_120, l_122, l_127, l_200, l_240, l_255, l_840, l_999, l_1000, l_1001, l_2400, l_3064, l_9999, l_10000, l_13849, l_16383, l_25173, l_65535, l_65536, l_99999, l_1000000000, neg_nI, pk_mul, nI_add, nI_subL, tn_nI, inb_t, grd_true, bnd_some, elS_l, elS_r, nI_ltI, nI_leI, nI_inj, fa_and, fa_or, m1_eq, eq_m1, m1_lt, m1_le, lt_m1, le_m1, m1_lt0, up2_at, up2_no, ite_true, ite_false, if_true, if_false, Bool.false_eq_true, reduceIte, reduceCtorEq, not_true_eq_false, not_false_eq_true, eq_self, decide_true, decide_false, le_tt, le_ff, lt_tt, lt_ff, eq_ff, and_true, true_and, and_false, false_and, or_true, true_or, or_false, false_or, ne_eq, decide_eq_true_eq, decide_eq_false_iff_not, Bool.not_true, Bool.not_false, Bool.and_true, Bool.true_and, Bool.and_false, Bool.false_and, gs_at, gs_no, oI_n, oI_s, hH.1, a1, c]
    · simp (disch := omega) only [l_0, l_1, l_2, l_3, l_4, l_5, l_6, l_7, l_8, l_9, l_10, l_11, l_12, l_13, l_14, l_16, l_20, l_21, l_23, l_24, l_30, l_32, l_40, l_41, l_44, l_48, l_57, l_59, l_60, l_63, l_64, l_80, l_84, l_96, l_97, l_99, l_120, l_122, l_127, l_200, l_240, l_255, l_840, l_999, l_1000, l_1001, l_2400, l_3064, l_9999, l_10000, l_13849, l_16383, l_25173, l_65535, l_65536, l_99999, l_1000000000, neg_nI, pk_mul, nI_add, nI_subL, tn_nI, inb_t, grd_true, bnd_some, elS_l, elS_r, nI_ltI, nI_leI, nI_inj, fa_and, fa_or, m1_eq, eq_m1, m1_lt, m1_le, lt_m1, le_m1, m1_lt0, up2_at, up2_no, ite_true, ite_false, if_true, if_false, Bool.false_eq_true, reduceIte, reduceCtorEq, not_true_eq_false, not_false_eq_true, eq_self, decide_true, decide_false, le_tt, le_ff, lt_tt, lt_ff, eq_ff, and_true, true_and, and_false, false_and, or_true, true_or, or_false, false_or, ne_eq, decide_eq_true_eq, decide_eq_false_iff_not, Bool.not_true, Bool.not_false, Bool.and_true, Bool.true_and, Bool.and_false, Bool.false_and, gs_at, gs_no, oI_n, oI_s, hH.1, a1, c, show g (64 + 10 * d + 4) - lowS g d = 0 by omega, Nat.add_zero]
theorem sweep_m {h : Nat → Int32} (hn : 300 < n) (hN : N ≤ 40) : ∀ (L : List Nat) (i m k : Nat) (M : Mm) (g : Nat → Nat), GV g → FK M g h → (∀ x, x ∈ L → x < g 7 ∧ g (64 + 10 * x + 3) = 0) → HN M 104 i L → i + L.length = N → m ≤ i → L.length < k → ∃ M', loop (fun s1 : Int32 × Int32 × Mm => Fm_sweep_b75 n (nI N) s1.1 s1.2.1 s1.2.2) k (nI m, nI i, M) = some (nI (swF L g m).2, M') ∧ FK M' (swF L g m).1 h ∧ Fr (fun c _ => c = 95) M M'
  | [], i, m, k, M, g, hg, hS, hL, hH, hi, hm, hk => by
    refine ⟨M, loop_inr (r := (nI m, M)) ?_ hk, hS, Fr.rf⟩
    show Fm_sweep_b75 n (nI N) (nI m) (nI i) M = _
    simp only [List.length_nil] at hi
    unfold Fm_sweep_b75
    simp (disch := omega) only [l_0, l_1, l_2, l_3, l_4, l_5, l_6, l_7, l_8, l_9, l_10, l_11, l_12, l_13, l_14, l_16, l_20, l_21, l_23, l_24, l_30, l_32, l_40, l_41, l_44, l_48, l_57, l_59, l_60, l_63, l_64, l_80, l_84, l_96, l_97, l_99, l_120, l_122, l_127, l_200, l_240, l_255, l_840, l_999, l_1000, l_1001, l_2400, l_3064, l_9999, l_10000, l_13849, l_16383, l_25173, l_65535, l_65536, l_99999, l_1000000000, neg_nI, pk_mul, nI_add, nI_subL, tn_nI, inb_t, grd_true, bnd_some, elS_l, elS_r, nI_ltI, nI_leI, nI_inj, fa_and, fa_or, m1_eq, eq_m1, m1_lt, m1_le, lt_m1, le_m1, m1_lt0, up2_at, up2_no, ite_true, ite_false, if_true, if_false, Bool.false_eq_true, reduceIte, reduceCtorEq, not_true_eq_false, not_false_eq_true, eq_self, decide_true, decide_false, le_tt, le_ff, lt_tt, lt_ff, eq_ff, and_true, true_and, and_false, false_and, or_true, true_or, or_false, false_or, ne_eq, decide_eq_true_eq, decide_eq_false_iff_not, Bool.not_true, Bool.not_false, Bool.and_true, Bool.true_and, Bool.and_false, Bool.false_and, gs_at, gs_no, oI_n, oI_s]
  | d :: L, i, m, k, M, g, hg, hS, hL, hH, hi, hm, hk => by
    obtain ⟨h1, h2⟩ := hL d List.mem_cons_self
    simp only [List.length_cons] at hi hk
    obtain ⟨M1, a1, a2, a3⟩ := slide_m hg hS h1 h2 hn
    have hlow := low_le (g := g) (d := d)
    have h4 := hg.1.2.2.2.1 d h1 h2
    have b1 := hg.1.2.1.1
    have hH1 : HN M1 104 (i + 1) L := HN_congr (fun j _ _ => (a3 104 j (by omega)).1) hH.2
    obtain ⟨M', c1, c2, c3⟩ := sweep_m hn hN L (i + 1) (m + if lowS g d < g (64 + 10 * d + 4) then 1 else 0) (k - 1) M1 (slG g d) (GV_sl hg h1 h2) a2 (fun x hx => by
      rw [sl_lo (by omega), sl_ne (by omega) (by omega)]
      exact hL x (List.mem_cons_of_mem _ hx)) hH1 (by omega) (by split <;> omega) (by omega)
    refine ⟨M', ?_, c2, a3.tr c3⟩
    show _ = some (nI (swF L (slG g d) _).2, M')
    rw [← c1]
    refine loop_inl ?_ (by omega)
    show Fm_sweep_b75 n (nI N) (nI m) (nI i) M = _
    unfold Fm_sweep_b75 Fm_sweep_j97
    by_cases c : lowS g d < g (64 + 10 * d + 4)
    · simp (disch := omega) only [l_0, l_1, l_2, l_3, l_4, l_5, l_6, l_7, l_8, l_9, l_10, l_11, l_12, l_13, l_14, l_16, l_20, l_21, l_23, l_24, l_30, l_32, l_40, l_41, l_44, l_48, l_57, l_59, l_60, l_63, l_64, l_80, l_84, l_96, l_97, l_99, l_120, l_122, l_127, l_200, l_240, l_255, l_840, l_999, l_1000, l_1001, l_2400, l_3064, l_9999, l_10000, l_13849, l_16383, l_25173, l_65535, l_65536, l_99999, l_1000000000, neg_nI, pk_mul, nI_add, nI_subL, tn_nI, inb_t, grd_true, bnd_some, elS_l, elS_r, nI_ltI, nI_leI, nI_inj, fa_and, fa_or, m1_eq, eq_m1, m1_lt, m1_le, lt_m1, le_m1, m1_lt0, up2_at, up2_no, ite_true, ite_false, if_true, if_false, Bool.false_eq_true, reduceIte, reduceCtorEq, not_true_eq_false, not_false_eq_true, eq_self, decide_true, decide_false, le_tt, le_ff, lt_tt, lt_ff, eq_ff, and_true, true_and, and_false, false_and, or_true, true_or, or_false, false_or, ne_eq, decide_eq_true_eq, decide_eq_false_iff_not, Bool.not_true, Bool.not_false, Bool.and_true, Bool.true_and, Bool.and_false, Bool.false_and, gs_at, gs_no, oI_n, oI_s, hH.1, a1, c]
    · simp (disch := omega) only [l_0, l_1, l_2, l_3, l_4, l_5, l_6, l_7, l_8, l_9, l_10, l_11, l_12, l_13, l_14, l_16, l_20, l_21, l_23, l_24, l_30, l_32, l_40, l_41, l_44, l_48, l_57, l_59, l_60, l_63, l_64, l_80, l_84, l_96, l_97, l_99, l_120, l_122, l_127, l_200, l_240, l_255, l_840, l_999, l_1000, l_1001, l_2400, l_3064, l_9999, l_10000, l_13849, l_16383, l_25173, l_65535, l_65536, l_99999, l_1000000000, neg_nI, pk_mul, nI_add, nI_subL, tn_nI, inb_t, grd_true, bnd_some, elS_l, elS_r, nI_ltI, nI_leI, nI_inj, fa_and, fa_or, m1_eq, eq_m1, m1_lt, m1_le, lt_m1, le_m1, m1_lt0, up2_at, up2_no, ite_true, ite_false, if_true, if_false, Bool.false_eq_true, reduceIte, reduceCtorEq, not_true_eq_false, not_false_eq_true, eq_self, decide_true, decide_false, le_tt, le_ff, lt_tt, lt_ff, eq_ff, and_true, true_and, and_false, false_and, or_true, true_or, or_false, false_or, ne_eq, decide_eq_true_eq, decide_eq_false_iff_not, Bool.not_true, Bool.not_false, Bool.and_true, Bool.true_and, Bool.and_false, Bool.false_and, gs_at, gs_no, oI_n, oI_s, hH.1, a1, c, show g (64 + 10 * d + 4) - lowS g d = 0 by omega, Nat.add_zero]
end
theorem ordP_one {g : Nat → Nat} {A B : List Nat} (ha : ordP g A) (hb : ordP g B) : A = B := srt_one ha.1 hb.1 (fun x => by rw [ha.2, hb.2])
theorem nI_len_z {m : Nat} (h : m < 100) : (nI m ≤ nI 0) = (m = 0) := by rw [nI_leI (by omega) (by omega)]; exact propext (by omega)
/-- an order of the lit ones there is -/
theorem ord_ex {g : Nat → Nat} (hg : GV g) : ∃ L, ordP g L ∧ L.length ≤ 40 := by
  have key : ∀ k, ∃ L : List Nat, srt g L ∧ (∀ x, x ∈ L ↔ x < g 7 ∧ g (64 + 10 * x + 3) = 0 ∧ g (64 + 10 * x + 4) < k) := by
    intro k
    induction k with
    | zero => exact ⟨[], List.Pairwise.nil, fun x => by simp⟩
    | succ k ih =>
      obtain ⟨L, l1, l2⟩ := ih
      have kk : ∀ d, ∃ L' : List Nat, srt g L' ∧ (∀ x, x ∈ L' ↔ x < g 7 ∧ g (64 + 10 * x + 3) = 0 ∧ (g (64 + 10 * x + 4) < k ∨ g (64 + 10 * x + 4) = k ∧ x < d)) := by
        intro d
        induction d with
        | zero => exact ⟨L, l1, fun x => by rw [l2]; omega⟩
        | succ d ih2 =>
          obtain ⟨L', m1, m2⟩ := ih2
          by_cases c : d < g 7 ∧ g (64 + 10 * d + 3) = 0 ∧ g (64 + 10 * d + 4) = k
          · refine ⟨L' ++ [d], List.pairwise_append.mpr ⟨m1, List.pairwise_singleton _ _, fun x hx y hy => ?_⟩, fun x => ?_⟩
            · have : y = d := by simpa using hy
              rw [this]
              have h1 := (m2 x).mp hx
              have := hg.2.2
              unfold kyN
              omega
            · rw [List.mem_append, m2]
              constructor
              · rintro (⟨q1, q2, q3⟩ | q)
                · exact ⟨q1, q2, by omega⟩
                · have : x = d := by simpa using q
                  rw [this]
                  exact ⟨c.1, c.2.1, by omega⟩
              · rintro ⟨q1, q2, q3⟩
                by_cases cc : x = d
                · right; simp [cc]
                · left; exact ⟨q1, q2, by omega⟩
          · refine ⟨L', m1, fun x => ?_⟩
            rw [m2]
            constructor
            · rintro ⟨q1, q2, q3⟩; exact ⟨q1, q2, by omega⟩
            · rintro ⟨q1, q2, q3⟩
              rcases q3 with r | ⟨r1, r2⟩
              · exact ⟨q1, q2, .inl r⟩
              · have : x ≠ d := fun q => by
                  rw [q] at q1 q2 r1
                  exact c ⟨q1, q2, r1⟩
                exact ⟨q1, q2, .inr ⟨r1, by omega⟩⟩
      obtain ⟨L', m1, m2⟩ := kk (g 7)
      exact ⟨L', m1, fun x => by rw [m2]; omega⟩
  obtain ⟨L, l1, l2⟩ := key 100
  have hm : ∀ x, x ∈ L ↔ x < g 7 ∧ g (64 + 10 * x + 3) = 0 := fun x => by
    rw [l2]
    constructor
    · rintro ⟨q1, q2, q3⟩; exact ⟨q1, q2⟩
    · rintro ⟨q1, q2⟩
      have := hg.1.2.2.2.1 x q1 q2
      have := hg.1.2.1.1
      exact ⟨q1, q2, by omega⟩
  exact ⟨L, ⟨l1, hm⟩, Nat.le_trans (nd_len (srt_nd l1) (fun x hx => ((hm x).mp hx).1)) hg.2.2⟩
theorem Fg_sweep_e {M : Mm} {g : Nat → Nat} {n : Nat} {L : List Nat} (hg : GV g) (hS : SV M 18 g) (hL : ordP g L) (hn : 100 < n) : ∃ M', Fg_sweep n M = some (nI (swF L g 0).2, M') ∧ SV M' 18 (swF L g 0).1 ∧ Fr fp_Fg_sweep M M' := by
  obtain ⟨M1, L1, a1, a2, a3, a4, a5⟩ := ord_c (s := 18) (n := n) hg hS hn
  have e := ordP_one a2 hL
  subst e
  obtain ⟨M2, b1, b2, b3⟩ := sweep_c (n := n) (N := L1.length) hn a4 L1 0 0 n M1 g hg (hS.fr a5 (fun k j hk => by omega)) (fun x hx => (a2.2 x).mp hx) a3 (by omega) (Nat.le_refl _) (by omega)
  have hr : Fg_sweep n M = some (nI (swF L1 g 0).2, M2) := by
    unfold Fg_sweep
    simp (disch := omega) only [l_0, l_1, l_2, l_3, l_4, l_5, l_6, l_7, l_8, l_9, l_10, l_11, l_12, l_13, l_14, l_16, l_20, l_21, l_23, l_24, l_30, l_32, l_40, l_41, l_44, l_48, l_57, l_59, l_60, l_63, l_64, l_80, l_84, l_96, l_97, l_99, l_120, l_122, l_127, l_200, l_240, l_255, l_840, l_999, l_1000, l_1001, l_2400, l_3064, l_9999, l_10000, l_13849, l_16383, l_25173, l_65535, l_65536, l_99999, l_1000000000, neg_nI, pk_mul, nI_add, nI_subL, tn_nI, inb_t, grd_true, bnd_some, elS_l, elS_r, nI_ltI, nI_leI, nI_inj, fa_and, fa_or, m1_eq, eq_m1, m1_lt, m1_le, lt_m1, le_m1, m1_lt0, up2_at, up2_no, ite_true, ite_false, if_true, if_false, Bool.false_eq_true, reduceIte, reduceCtorEq, not_true_eq_false, not_false_eq_true, eq_self, decide_true, decide_false, le_tt, le_ff, lt_tt, lt_ff, eq_ff, and_true, true_and, and_false, false_and, or_true, true_or, or_false, false_or, ne_eq, decide_eq_true_eq, decide_eq_false_iff_not, Bool.not_true, Bool.not_false, Bool.and_true, Bool.true_and, Bool.and_false, Bool.false_and, gs_at, gs_no, oI_n, oI_s, a1, b1]
  exact ⟨M2, hr, b2, fr_Fg_sweep hr⟩
theorem Fm_sweep_e {M : Mm} {g : Nat → Nat} {h : Nat → Int32} {n : Nat} {L : List Nat} (hg : GV g) (hF : FK M g h) (hL : ordP g L) (hn : 300 < n) : ∃ M', Fm_sweep n M = some (nI (swF L g 0).2, M') ∧ FK M' (swF L g 0).1 h ∧ Fr fp_Fm_sweep M M' := by
  obtain ⟨M1, L1, a1, a2, a3, a5⟩ := ord_m (n := n) hg hF (by omega)
  have e := ordP_one a2 hL
  subst e
  have hl : L1.length ≤ 40 := Nat.le_trans (nd_len (srt_nd a2.1) (fun x hx => ((a2.2 x).mp hx).1)) hg.2.2
  obtain ⟨M2, b1, b2, b3⟩ := sweep_m (n := n) (N := L1.length) (h := h) hn hl L1 0 0 n M1 g hg (hF.fr a5 (fun j => by omega)) (fun x hx => (a2.2 x).mp hx) a3 (by omega) (Nat.le_refl _) (by omega)
  have hr : Fm_sweep n M = some (nI (swF L1 g 0).2, M2) := by
    unfold Fm_sweep
    simp (disch := omega) only [l_0, l_1, l_2, l_3, l_4, l_5, l_6, l_7, l_8, l_9, l_10, l_11, l_12, l_13, l_14, l_16, l_20, l_21, l_23, l_24, l_30, l_32, l_40, l_41, l_44, l_48, l_57, l_59, l_60, l_63, l_64, l_80, l_84, l_96, l_97, l_99, l_120, l_122, l_127, l_200, l_240, l_255, l_840, l_999, l_1000, l_1001, l_2400, l_3064, l_9999, l_10000, l_13849, l_16383, l_25173, l_65535, l_65536, l_99999, l_1000000000, neg_nI, pk_mul, nI_add, nI_subL, tn_nI, inb_t, grd_true, bnd_some, elS_l, elS_r, nI_ltI, nI_leI, nI_inj, fa_and, fa_or, m1_eq, eq_m1, m1_lt, m1_le, lt_m1, le_m1, m1_lt0, up2_at, up2_no, ite_true, ite_false, if_true, if_false, Bool.false_eq_true, reduceIte, reduceCtorEq, not_true_eq_false, not_false_eq_true, eq_self, decide_true, decide_false, le_tt, le_ff, lt_tt, lt_ff, eq_ff, and_true, true_and, and_false, false_and, or_true, true_or, or_false, false_or, ne_eq, decide_eq_true_eq, decide_eq_false_iff_not, Bool.not_true, Bool.not_false, Bool.and_true, Bool.true_and, Bool.and_false, Bool.false_and, gs_at, gs_no, oI_n, oI_s, a1, b1]
  exact ⟨M2, hr, b2, fr_Fm_sweep hr⟩
theorem op_sweep {n : Nat} (hn : 300 < n) : T2 (Fg_sweep n) (Fm_sweep n) := by
  intro g hg
  obtain ⟨L, l1, l2⟩ := ord_ex hg
  refine ⟨nI (swF L g 0).2, (swF L g 0).1, (swF_V hg (fun x hx => (l1.2 x).mp hx)).1, fun M hS hA => ?_, fun M h hF => ?_⟩
  · obtain ⟨M', a1, a2, a3⟩ := Fg_sweep_e hg hS l1 (n := n) (by omega)
    exact TC.mk hg hA a1 a2 a3 (fun c j q => by unfold fp_Fg_sweep at q; unfold PC; omega) (fun j h1 h2 h3 => swF_lo h1)
  · obtain ⟨M', a1, a2, a3⟩ := Fm_sweep_e hg hF l1 hn
    exact TM.mk a1 a2 a3 (fun c j q => by unfold fp_Fm_sweep at q; unfold PM; omega)
/-! sweeps: what is lit comes down -/
def sfN (g : Nat → Nat) : Nat → Nat
  | 0 => 0
  | k + 1 => sfN g k + if g (64 + 10 * k + 3) = 0 then g (64 + 10 * k + 4) else 0
theorem sfN_le {g : Nat → Nat} (hg : GV g) : ∀ k, k ≤ g 7 → sfN g k ≤ 59 * k
  | 0, _ => Nat.le_refl _
  | k + 1, h => by
    have := sfN_le hg k (by omega)
    unfold sfN
    split
    · next q =>
      have := hg.1.2.2.2.1 k (by omega) q
      have := hg.1.2.1.1
      omega
    · omega
theorem sfN_sl {g : Nat → Nat} {d : Nat} (hl : g (64 + 10 * d + 3) = 0) : ∀ k, sfN (slG g d) k + (if d < k then g (64 + 10 * d + 4) - lowS g d else 0) = sfN g k
  | 0 => by rw [if_neg (by omega)]; rfl
  | k + 1 => by
    have ih := sfN_sl hl k
    have hlow := low_le (g := g) (d := d)
    unfold sfN
    rw [sl_ne (by omega) (by omega)]
    by_cases c : k = d
    · subst c
      rw [if_neg (by omega)] at ih
      rw [if_pos hl, if_pos hl, if_pos (by omega), show slG g k (64 + 10 * k + 4) = lowS g k from gs_at]
      omega
    · rw [show slG g d (64 + 10 * k + 4) = g (64 + 10 * k + 4) from gs_no (by omega)]
      by_cases c2 : d < k
      · rw [if_pos c2] at ih
        rw [if_pos (show d < k + 1 by omega)]
        omega
      · rw [if_neg c2] at ih
        rw [if_neg (show ¬ d < k + 1 by omega)]
        omega
theorem swF_sf : ∀ {L : List Nat} {g : Nat → Nat} {m : Nat}, (∀ x, x ∈ L → x < g 7 ∧ g (64 + 10 * x + 3) = 0) → sfN (swF L g m).1 (g 7) + (swF L g m).2 ≤ sfN g (g 7) + m
  | [], g, m, _ => Nat.le_refl _
  | d :: L, g, m, h => by
    obtain ⟨h1, h2⟩ := h d List.mem_cons_self
    have ih := swF_sf (L := L) (g := slG g d) (m := m + if lowS g d < g (64 + 10 * d + 4) then 1 else 0) (fun x hx => by
      rw [sl_lo (by omega), sl_ne (by omega) (by omega)]
      exact h x (List.mem_cons_of_mem _ hx))
    rw [show slG g d 7 = g 7 from sl_lo (by omega)] at ih
    have hs := sfN_sl (d := d) h2 (g 7)
    rw [if_pos h1] at hs
    show sfN (swF L (slG g d) _).1 (g 7) + (swF L (slG g d) _).2 ≤ _
    by_cases c : lowS g d < g (64 + 10 * d + 4)
    · rw [if_pos c] at ih ⊢
      omega
    · rw [if_neg c] at ih ⊢
      omega
theorem sweeps_k {n : Nat} (hn : 300 < n) : ∀ (k i : Nat) (g : Nat → Nat), GV g → sfN g (g 7) ≤ k → i + k < 2400 → ∃ (r : Nat) (g' : Nat → Nat), GV g' ∧ (∀ j, j < 64 → g' j = g j) ∧ (∀ m M, k < m → SV M 18 g → ∃ M', loop (fun s1 : Int32 × Mm => Fg_sweeps_b6 n (nI 2400) s1.1 s1.2) m (nI i, M) = some (nI r, M') ∧ SV M' 18 g' ∧ Fr fp_Fg_sweep M M') ∧ (∀ m M h, k < m → FK M g h → ∃ M', loop (fun s1 : Int32 × Mm => Fm_sweeps_b2 n s1.1 s1.2) m (nI i, M) = some (nI r, M') ∧ FK M' g' h ∧ Fr fp_Fm_sweep M M') := by
  intro k
  induction k with
  | zero =>
    intro i g hg hs hi
    obtain ⟨L, l1, l2⟩ := ord_ex hg
    have hv := swF_V (L := L) (m := 0) hg (fun x hx => (l1.2 x).mp hx)
    have hsf := swF_sf (L := L) (m := 0) (fun x hx => (l1.2 x).mp hx)
    have hz : (swF L g 0).2 = 0 := by omega
    refine ⟨i, (swF L g 0).1, hv.1, fun j hj => swF_lo hj, fun m M hm hS => ?_, fun m M h hm hF => ?_⟩
    · obtain ⟨M', a1, a2, a3⟩ := Fg_sweep_e hg hS l1 (n := n) (by omega)
      refine ⟨M', loop_inr (r := (nI i, M')) ?_ hm, a2, a3⟩
      show Fg_sweeps_b6 n (nI 2400) (nI i) M = _
      unfold Fg_sweeps_b6
      simp (disch := omega) only [l_0, l_1, l_2, l_3, l_4, l_5, l_6, l_7, l_8, l_9, l_10, l_11, l_12, l_13, l_14, l_16, l_20, l_21, l_23, l_24, l_30, l_32, l_40, l_41, l_44, l_48, l_57, l_59, l_60, l_63, l_64, l_80, l_84, l_96, l_97, l_99, l_120, l_122, l_127, l_200, l_240, l_255, l_840, l_999, l_1000, l_1001, l_2400, l_3064, l_9999, l_10000, l_13849, l_16383, l_25173, l_65535, l_65536, l_99999, l_1000000000, neg_nI, pk_mul, nI_add, nI_subL, tn_nI, inb_t, grd_true, bnd_some, elS_l, elS_r, nI_ltI, nI_leI, nI_inj, fa_and, fa_or, m1_eq, eq_m1, m1_lt, m1_le, lt_m1, le_m1, m1_lt0, up2_at, up2_no, ite_true, ite_false, if_true, if_false, Bool.false_eq_true, reduceIte, reduceCtorEq, not_true_eq_false, not_false_eq_true, eq_self, decide_true, decide_false, le_tt, le_ff, lt_tt, lt_ff, eq_ff, and_true, true_and, and_false, false_and, or_true, true_or, or_false, false_or, ne_eq, decide_eq_true_eq, decide_eq_false_iff_not, Bool.not_true, Bool.not_false, Bool.and_true, Bool.true_and, Bool.and_false, Bool.false_and, gs_at, gs_no, oI_n, oI_s, a1, hz]
    · obtain ⟨M', a1, a2, a3⟩ := Fm_sweep_e hg hF l1 hn
      refine ⟨M', loop_inr (r := (nI i, M')) ?_ hm, a2, a3⟩
      show Fm_sweeps_b2 n (nI i) M = _
      unfold Fm_sweeps_b2
      simp (disch := omega) only [l_0, l_1, l_2, l_3, l_4, l_5, l_6, l_7, l_8, l_9, l_10, l_11, l_12, l_13, l_14, l_16, l_20, l_21, l_23, l_24, l_30, l_32, l_40, l_41, l_44, l_48, l_57, l_59, l_60, l_63, l_64, l_80, l_84, l_96, l_97, l_99, l_120, l_122, l_127, l_200, l_240, l_255, l_840, l_999, l_1000, l_1001, l_2400, l_3064, l_9999, l_10000, l_13849, l_16383, l_25173, l_65535, l_65536, l_99999, l_1000000000, neg_nI, pk_mul, nI_add, nI_subL, tn_nI, inb_t, grd_true, bnd_some, elS_l, elS_r, nI_ltI, nI_leI, nI_inj, fa_and, fa_or, m1_eq, eq_m1, m1_lt, m1_le, lt_m1, le_m1, m1_lt0, up2_at, up2_no, ite_true, ite_false, if_true, if_false, Bool.false_eq_true, reduceIte, reduceCtorEq, not_true_eq_false, not_false_eq_true, eq_self, decide_true, decide_false, le_tt, le_ff, lt_tt, lt_ff, eq_ff, and_true, true_and, and_false, false_and, or_true, true_or, or_false, false_or, ne_eq, decide_eq_true_eq, decide_eq_false_iff_not, Bool.not_true, Bool.not_false, Bool.and_true, Bool.true_and, Bool.and_false, Bool.false_and, gs_at, gs_no, oI_n, oI_s, a1, hz]
  | succ k ih =>
    intro i g hg hs hi
    obtain ⟨L, l1, l2⟩ := ord_ex hg
    have hv := swF_V (L := L) (m := 0) hg (fun x hx => (l1.2 x).mp hx)
    have hsf := swF_sf (L := L) (m := 0) (fun x hx => (l1.2 x).mp hx)
    by_cases hz : (swF L g 0).2 = 0
    · refine ⟨i, (swF L g 0).1, hv.1, fun j hj => swF_lo hj, fun m M hm hS => ?_, fun m M h hm hF => ?_⟩
      · obtain ⟨M', a1, a2, a3⟩ := Fg_sweep_e hg hS l1 (n := n) (by omega)
        refine ⟨M', loop_inr (r := (nI i, M')) ?_ (by omega), a2, a3⟩
        show Fg_sweeps_b6 n (nI 2400) (nI i) M = _
        unfold Fg_sweeps_b6
        simp (disch := omega) only [l_0, l_1, l_2, l_3, l_4, l_5, l_6, l_7, l_8, l_9, l_10, l_11, l_12, l_13, l_14, l_16, l_20, l_21, l_23, l_24, l_30, l_32, l_40, l_41, l_44, l_48, l_57, l_59, l_60, l_63, l_64, l_80, l_84, l_96, l_97, l_99, l_120, l_122, l_127, l_200, l_240, l_255, l_840, l_999, l_1000, l_1001, l_2400, l_3064, l_9999, l_10000, l_13849, l_16383, l_25173, l_65535, l_65536, l_99999, l_1000000000, neg_nI, pk_mul, nI_add, nI_subL, tn_nI, inb_t, grd_true, bnd_some, elS_l, elS_r, nI_ltI, nI_leI, nI_inj, fa_and, fa_or, m1_eq, eq_m1, m1_lt, m1_le, lt_m1, le_m1, m1_lt0, up2_at, up2_no, ite_true, ite_false, if_true, if_false, Bool.false_eq_true, reduceIte, reduceCtorEq, not_true_eq_false, not_false_eq_true, eq_self, decide_true, decide_false, le_tt, le_ff, lt_tt, lt_ff, eq_ff, and_true, true_and, and_false, false_and, or_true, true_or, or_false, false_or, ne_eq, decide_eq_true_eq, decide_eq_false_iff_not, Bool.not_true, Bool.not_false, Bool.and_true, Bool.true_and, Bool.and_false, Bool.false_and, gs_at, gs_no, oI_n, oI_s, a1, hz]
      · obtain ⟨M', a1, a2, a3⟩ := Fm_sweep_e hg hF l1 hn
        refine ⟨M', loop_inr (r := (nI i, M')) ?_ (by omega), a2, a3⟩
        show Fm_sweeps_b2 n (nI i) M = _
        unfold Fm_sweeps_b2
        simp (disch := omega) only [l_0, l_1, l_2, l_3, l_4, l_5, l_6, l_7, l_8, l_9, l_10, l_11, l_12, l_13, l_14, l_16, l_20, l_21, l_23, l_24, l_30, l_32, l_40, l_41, l_44, l_48, l_57, l_59, l_60, l_63, l_64, l_80, l_84, l_96, l_97, l_99, l_120, l_122, l_127, l_200, l_240, l_255, l_840, l_999, l_1000, l_1001, l_2400, l_3064, l_9999, l_10000, l_13849, l_16383, l_25173, l_65535, l_65536, l_99999, l_1000000000, neg_nI, pk_mul, nI_add, nI_subL, tn_nI, inb_t, grd_true, bnd_some, elS_l, elS_r, nI_ltI, nI_leI, nI_inj, fa_and, fa_or, m1_eq, eq_m1, m1_lt, m1_le, lt_m1, le_m1, m1_lt0, up2_at, up2_no, ite_true, ite_false, if_true, if_false, Bool.false_eq_true, reduceIte, reduceCtorEq, not_true_eq_false, not_false_eq_true, eq_self, decide_true, decide_false, le_tt, le_ff, lt_tt, lt_ff, eq_ff, and_true, true_and, and_false, false_and, or_true, true_or, or_false, false_or, ne_eq, decide_eq_true_eq, decide_eq_false_iff_not, Bool.not_true, Bool.not_false, Bool.and_true, Bool.true_and, Bool.and_false, Bool.false_and, gs_at, gs_no, oI_n, oI_s, a1, hz]
    · have e7 : (swF L g 0).1 7 = g 7 := swF_lo (by omega)
      obtain ⟨r, g', v1, v2, v3, v4⟩ := ih (i + 1) (swF L g 0).1 hv.1 (by rw [e7]; omega) (by omega)
      refine ⟨r, g', v1, fun j hj => (v2 j hj).trans (swF_lo hj), fun m M hm hS => ?_, fun m M h hm hF => ?_⟩
      · obtain ⟨M1, a1, a2, a3⟩ := Fg_sweep_e hg hS l1 (n := n) (by omega)
        obtain ⟨M', b1, b2, b3⟩ := v3 (m - 1) M1 (by omega) a2
        refine ⟨M', ?_, b2, a3.tr b3⟩
        rw [← b1]
        refine loop_inl ?_ (by omega)
        show Fg_sweeps_b6 n (nI 2400) (nI i) M = _
        unfold Fg_sweeps_b6
        simp (disch := omega) only [l_0, l_1, l_2, l_3, l_4, l_5, l_6, l_7, l_8, l_9, l_10, l_11, l_12, l_13, l_14, l_16, l_20, l_21, l_23, l_24, l_30, l_32, l_40, l_41, l_44, l_48, l_57, l_59, l_60, l_63, l_64, l_80, l_84, l_96, l_97, l_99, l_120, l_122, l_127, l_200, l_240, l_255, l_840, l_999, l_1000, l_1001, l_2400, l_3064, l_9999, l_10000, l_13849, l_16383, l_25173, l_65535, l_65536, l_99999, l_1000000000, neg_nI, pk_mul, nI_add, nI_subL, tn_nI, inb_t, grd_true, bnd_some, elS_l, elS_r, nI_ltI, nI_leI, nI_inj, fa_and, fa_or, m1_eq, eq_m1, m1_lt, m1_le, lt_m1, le_m1, m1_lt0, up2_at, up2_no, ite_true, ite_false, if_true, if_false, Bool.false_eq_true, reduceIte, reduceCtorEq, not_true_eq_false, not_false_eq_true, eq_self, decide_true, decide_false, le_tt, le_ff, lt_tt, lt_ff, eq_ff, and_true, true_and, and_false, false_and, or_true, true_or, or_false, false_or, ne_eq, decide_eq_true_eq, decide_eq_false_iff_not, Bool.not_true, Bool.not_false, Bool.and_true, Bool.true_and, Bool.and_false, Bool.false_and, gs_at, gs_no, oI_n, oI_s, a1, hz]
      · obtain ⟨M1, a1, a2, a3⟩ := Fm_sweep_e hg hF l1 hn
        obtain ⟨M', b1, b2, b3⟩ := v4 (m - 1) M1 h (by omega) a2
        refine ⟨M', ?_, b2, a3.tr b3⟩
        rw [← b1]
        refine loop_inl ?_ (by omega)
        show Fm_sweeps_b2 n (nI i) M = _
        unfold Fm_sweeps_b2
        simp (disch := omega) only [l_0, l_1, l_2, l_3, l_4, l_5, l_6, l_7, l_8, l_9, l_10, l_11, l_12, l_13, l_14, l_16, l_20, l_21, l_23, l_24, l_30, l_32, l_40, l_41, l_44, l_48, l_57, l_59, l_60, l_63, l_64, l_80, l_84, l_96, l_97, l_99, l_120, l_122, l_127, l_200, l_240, l_255, l_840, l_999, l_1000, l_1001, l_2400, l_3064, l_9999, l_10000, l_13849, l_16383, l_25173, l_65535, l_65536, l_99999, l_1000000000, neg_nI, pk_mul, nI_add, nI_subL, tn_nI, inb_t, grd_true, bnd_some, elS_l, elS_r, nI_ltI, nI_leI, nI_inj, fa_and, fa_or, m1_eq, eq_m1, m1_lt, m1_le, lt_m1, le_m1, m1_lt0, up2_at, up2_no, ite_true, ite_false, if_true, if_false, Bool.false_eq_true, reduceIte, reduceCtorEq, not_true_eq_false, not_false_eq_true, eq_self, decide_true, decide_false, le_tt, le_ff, lt_tt, lt_ff, eq_ff, and_true, true_and, and_false, false_and, or_true, true_or, or_false, false_or, ne_eq, decide_eq_true_eq, decide_eq_false_iff_not, Bool.not_true, Bool.not_false, Bool.and_true, Bool.true_and, Bool.and_false, Bool.false_and, gs_at, gs_no, oI_n, oI_s, a1, hz]
theorem op_sweeps {n : Nat} (hn : 3000 < n) : T2 (Fg_sweeps n) (Fm_sweeps n) := by
  intro g hg
  have h40 := hg.2.2
  have hs := sfN_le hg (g 7) (Nat.le_refl _)
  obtain ⟨r, g', v1, v2, v3, v4⟩ := sweeps_k (n := n) (by omega) 2360 0 g hg (by omega) (by omega)
  refine ⟨nI r, g', v1, fun M hS hA => ?_, fun M h hF => ?_⟩
  · obtain ⟨M', a1, a2, a3⟩ := v3 n M (by omega) hS
    refine TC.mk hg hA ?_ a2 a3 (fun c j q => by unfold fp_Fg_sweep at q; unfold PC; omega) (fun j h1 h2 h3 => v2 j h1)
    unfold Fg_sweeps
    simp (disch := omega) only [l_0, l_1, l_2, l_3, l_4, l_5, l_6, l_7, l_8, l_9, l_10, l_11, l_12, l_13, l_14, l_16, l_20, l_21, l_23, l_24, l_30, l_32, l_40, l_41, l_44, l_48, l_57, l_59, l_60, l_63, l_64, l_80, l_84, l_96, l_97, l_99, l_120, l_122, l_127, l_200, l_240, l_255, l_840, l_999, l_1000, l_1001, l_2400, l_3064, l_9999, l_10000, l_13849, l_16383, l_25173, l_65535, l_65536, l_99999, l_1000000000, neg_nI, pk_mul, nI_add, nI_subL, tn_nI, inb_t, grd_true, bnd_some, elS_l, elS_r, nI_ltI, nI_leI, nI_inj, fa_and, fa_or, m1_eq, eq_m1, m1_lt, m1_le, lt_m1, le_m1, m1_lt0, up2_at, up2_no, ite_true, ite_false, if_true, if_false, Bool.false_eq_true, reduceIte, reduceCtorEq, not_true_eq_false, not_false_eq_true, eq_self, decide_true, decide_false, le_tt, le_ff, lt_tt, lt_ff, eq_ff, and_true, true_and, and_false, false_and, or_true, true_or, or_false, false_or, ne_eq, decide_eq_true_eq, decide_eq_false_iff_not, Bool.not_true, Bool.not_false, Bool.and_true, Bool.true_and, Bool.and_false, Bool.false_and, gs_at, gs_no, oI_n, oI_s, a1]
  · obtain ⟨M', a1, a2, a3⟩ := v4 n M h (by omega) hF
    refine TM.mk ?_ a2 a3 (fun c j q => by unfold fp_Fm_sweep at q; unfold PM; omega)
    unfold Fm_sweeps
    simp (disch := omega) only [l_0, l_1, l_2, l_3, l_4, l_5, l_6, l_7, l_8, l_9, l_10, l_11, l_12, l_13, l_14, l_16, l_20, l_21, l_23, l_24, l_30, l_32, l_40, l_41, l_44, l_48, l_57, l_59, l_60, l_63, l_64, l_80, l_84, l_96, l_97, l_99, l_120, l_122, l_127, l_200, l_240, l_255, l_840, l_999, l_1000, l_1001, l_2400, l_3064, l_9999, l_10000, l_13849, l_16383, l_25173, l_65535, l_65536, l_99999, l_1000000000, neg_nI, pk_mul, nI_add, nI_subL, tn_nI, inb_t, grd_true, bnd_some, elS_l, elS_r, nI_ltI, nI_leI, nI_inj, fa_and, fa_or, m1_eq, eq_m1, m1_lt, m1_le, lt_m1, le_m1, m1_lt0, up2_at, up2_no, ite_true, ite_false, if_true, if_false, Bool.false_eq_true, reduceIte, reduceCtorEq, not_true_eq_false, not_false_eq_true, eq_self, decide_true, decide_false, le_tt, le_ff, lt_tt, lt_ff, eq_ff, and_true, true_and, and_false, false_and, or_true, true_or, or_false, false_or, ne_eq, decide_eq_true_eq, decide_eq_false_iff_not, Bool.not_true, Bool.not_false, Bool.and_true, Bool.true_and, Bool.and_false, Bool.false_and, gs_at, gs_no, oI_n, oI_s, a1]
