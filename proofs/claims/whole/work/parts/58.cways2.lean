/-! the class: all ways, node by node; what is known of them -/
def lkB (g : Nat → Nat) (a b l : Nat) : Bool := decide ((g (16 + l) = a ∧ g (30 + l) = b) ∨ (g (16 + l) = b ∧ g (30 + l) = a))
def lkS (g : Nat → Nat) (a b : Nat) : Option Nat := fstP (lkB g a b) 0 (g 3)
def CN (M : Mm) (o : Nat) (g : Nat → Nat) : Prop := (∀ k, k < 5 → M.1 o k = nI (g k)) ∧ (∀ f, f < 4 → M.1 (o + 1) f = nI (g (8 + f))) ∧ (∀ l, l < g 3 → M.1 (o + 2) l = nI (g (16 + l)) ∧ M.1 (o + 3) l = nI (g (30 + l)) ∧ M.1 (o + 4) l = nI (g (44 + l))) ∧ ∀ a b, a < 8 → b < 8 → M.1 (o + 5) (a * 8 + b) = oI (lkS g a b)
theorem CN.fr {P : Nat → Nat → Prop} {M M' : Mm} {o : Nat} {g : Nat → Nat} (h : CN M o g) (hf : Fr P M M') (hp : ∀ k j, k < 6 → ¬ P (o + k) j) : CN M' o g := by
  obtain ⟨h1, h2, h3, h4⟩ := h
  refine ⟨fun k hk => (hf o k (hp 0 k (by omega))).1.trans (h1 k hk), fun f hf' => (hf (o + 1) f (hp 1 f (by omega))).1.trans (h2 f hf'), fun l hl => ?_, fun a b ha hb => (hf (o + 5) _ (hp 5 _ (by omega))).1.trans (h4 a b ha hb)⟩
  obtain ⟨a1, a2, a3⟩ := h3 l hl
  exact ⟨(hf (o + 2) l (hp 2 l (by omega))).1.trans a1, (hf (o + 3) l (hp 3 l (by omega))).1.trans a2, (hf (o + 4) l (hp 4 l (by omega))).1.trans a3⟩
def chN (g : Nat → Nat) (v : Nat) : Nat → List (Nat × Nat)
  | 0 => []
  | i + 1 => chN g v i ++ (match lkS g v i with | some l => if (g 12).testBit l = true then [(i, l)] else [] | none => [])
def chC (g : Nat → Nat) (v : Nat) : List (Nat × Nat) := chN g v (g 0)
theorem chN_mem {g : Nat → Nat} {v : Nat} {p : Nat × Nat} : ∀ {i : Nat}, p ∈ chN g v i ↔ p.1 < i ∧ lkS g v p.1 = some p.2 ∧ (g 12).testBit p.2 = true
  | 0 => by
    unfold chN
    constructor
    · intro h; cases h
    · rintro ⟨h, _⟩; omega
  | i + 1 => by
    unfold chN
    rw [List.mem_append, chN_mem]
    constructor
    · rintro (⟨h1, h2⟩ | h)
      · exact ⟨by omega, h2⟩
      · cases hb : lkS g v i with
        | none => rw [hb] at h; cases h
        | some l =>
          rw [hb] at h
          simp only at h
          by_cases q : (g 12).testBit l = true
          · rw [if_pos q] at h
            have e : p = (i, l) := by simpa using h
            rw [e]
            exact ⟨by show i < i + 1; omega, hb, q⟩
          · rw [if_neg q] at h; cases h
    · rintro ⟨h1, h2, h3⟩
      by_cases e : p.1 = i
      · right
        rw [e] at h2
        rw [h2]
        simp only
        rw [if_pos h3]
        have : p = (i, p.2) := by rw [← e]
        rw [this]
        exact List.mem_singleton.mpr rfl
      · left; exact ⟨by omega, h2, h3⟩
theorem chN_pw {g : Nat → Nat} {v : Nat} : ∀ {i : Nat}, (chN g v i).Pairwise (fun p q => p.1 < q.1)
  | 0 => List.Pairwise.nil
  | i + 1 => by
    unfold chN
    rw [List.pairwise_append]
    refine ⟨chN_pw, ?_, fun p hp q hq => ?_⟩
    · cases lkS g v i with
      | none => exact List.Pairwise.nil
      | some l =>
        simp only
        by_cases c : (g 12).testBit l = true
        · rw [if_pos c]; exact List.pairwise_singleton _ _
        · rw [if_neg c]; exact List.Pairwise.nil
    · have h1 := (chN_mem.mp hp).1
      have h2 : q.1 = i := by
        cases hb : lkS g v i with
        | none => rw [hb] at hq; cases hq
        | some l =>
          rw [hb] at hq
          simp only at hq
          by_cases c : (g 12).testBit l = true
          · rw [if_pos c] at hq
            have e : q = (i, l) := by simpa using hq
            rw [e]
          · rw [if_neg c] at hq; cases hq
      omega
theorem chL_pw {g : Nat → Nat} {u : Nat} : ∀ {k l : Nat}, (chL g u l k).Pairwise (fun p q => p.2 < q.2)
  | 0, _ => List.Pairwise.nil
  | k + 1, l => by
    unfold chL
    rw [List.pairwise_append]
    refine ⟨?_, chL_pw, fun p hp q hq => ?_⟩
    · cases byd g l u with
      | none => exact List.Pairwise.nil
      | some x => exact List.pairwise_singleton _ _
    · have h1 := (chL_mem.mp hq).1
      have h2 : p.2 = l := by
        cases hb : byd g l u with
        | none => rw [hb] at hp; cases hp
        | some x =>
          rw [hb] at hp
          have e : p = (x, l) := by simpa using hp
          rw [e]
      omega
theorem lk_some {g : Nat → Nat} {a b l : Nat} (h : lkS g a b = some l) : l < g 3 ∧ ((g (16 + l) = a ∧ g (30 + l) = b) ∨ (g (16 + l) = b ∧ g (30 + l) = a)) := by
  obtain ⟨_, h2, h3, _⟩ := fstP_some h
  exact ⟨by omega, of_decide_eq_true h3⟩
theorem lk_byd {g : Nat → Nat} (hN : NV g) {v i l : Nat} (h : lkS g v i = some l) (hu : (g 12).testBit l = true) : byd g l v = some i := by
  obtain ⟨h1, h2⟩ := lk_some h
  have := hN.2.2.1 l h1
  unfold byd
  rw [if_pos hu]
  rcases h2 with ⟨q1, q2⟩ | ⟨q1, q2⟩
  · rw [if_pos q1, q2]
  · rw [if_neg (by omega), if_pos q2, q1]
theorem byd_lk {g : Nat → Nat} (hU : NU g) {v i l : Nat} (hl : l < g 3) (h : byd g l v = some i) : lkS g v i = some l ∧ (g 12).testBit l = true := by
  obtain ⟨h1, h2⟩ := byd_some h
  refine ⟨?_, h1⟩
  have hb : lkB g v i l = true := by
    unfold lkB
    apply decide_eq_true
    rcases h2 with q | q
    · exact .inl q
    · exact .inr ⟨q.2, q.1⟩
  cases hs : lkS g v i with
  | none =>
    have := fstP_none.mp hs l (by omega) (by omega)
    rw [hb] at this
    cases this
  | some m =>
    obtain ⟨m1, m2⟩ := lk_some hs
    by_cases e : l = m
    · rw [e]
    · exfalso
      obtain ⟨u1, u2⟩ := hU l m hl m1 e
      rcases h2 with ⟨a1, a2⟩ | ⟨a1, a2⟩
      · rcases m2 with ⟨c1, c2⟩ | ⟨c1, c2⟩
        · exact u1 ⟨by omega, by omega⟩
        · exact u2 ⟨by omega, by omega⟩
      · rcases m2 with ⟨c1, c2⟩ | ⟨c1, c2⟩
        · exact u2 ⟨by omega, by omega⟩
        · exact u1 ⟨by omega, by omega⟩
theorem ch_perm {g : Nat → Nat} (hN : NV g) (hU : NU g) (v : Nat) : (chM g v).Perm (chC g v) := by
  refine (List.perm_ext_iff_of_nodup (chL_pw.imp (fun {p q} h e => by rw [e] at h; omega)) (chN_pw.imp (fun {p q} h e => by rw [e] at h; omega))).mpr (fun p => ?_)
  show p ∈ chL g v 0 (g 3) ↔ p ∈ chN g v (g 0)
  rw [chL_mem, chN_mem]
  constructor
  · rintro ⟨h1, h2, h3⟩
    have := byd_lk hU (by omega) h3
    exact ⟨byd_lt hN (by omega) h3, this⟩
  · rintro ⟨h1, h2, h3⟩
    exact ⟨by omega, by have := (lk_some h2).1; omega, lk_byd hN h2 h3⟩
theorem ways_C {g : Nat → Nat} (hN : NV g) (hU : NU g) {a b : Nat} (ha : a < g 0) : (pthW (chC g) (lenG g) b 7 a (2 ^ a) (0, 0, a, 0)).foldl (T4 ahC) [] = waysG g a b := by
  have b1 := hN.1
  have hc : ∀ v p, p ∈ chC g v → p.1 < 8 := fun v p hp => by
    have := (chN_mem.mp hp).1
    omega
  rw [fold_CB (pth_pw hc (fun v => chN_pw) 7 a (2 ^ a) (0, 0, a, 0)) (fun x hx => by cases hx)]
  unfold waysG
  refine (fold_perm (f := fun v x => (lkS g v x).getD 0) (fun v _ => ch_perm hN hU v) (fun v p hp => ?_) ⟨?_, rfl, rfl⟩ (by omega)).symm
  · obtain ⟨h1, h2, h3⟩ := chL_mem.mp hp
    have q1 := (byd_lk hU (by omega) h3).1
    have q2 := byd_lt hN (by omega) h3
    rw [q1]
    exact ⟨rfl, by omega⟩
  · show a % 8 = a
    omega
theorem Wy_walk_e {g : Nat → Nat} (hG : GB g) (hN : NV g) {p goal o n : Nat} (hgo : goal < 8) (ho : 18 ≤ o) (ho2 : o + 6 ≤ 115) (hn : 100 < n) : ∀ (k fu v seen : Nat) (e : We) (L : List We) (M : Mm), e.2.1 + 1 + k = 8 → k < fu → WC M p L → CN M o g → M.1 13 6 = nI goal → M.1 13 7 = nI (g 12) → EI g v seen e → ∃ M', Wy_walk n fu o (nI v) (nI seen) (nI e.2.2.2) (nI e.1) (nI e.2.1) M = some M' ∧ WC M' p ((pthW (chC g) (lenG g) goal k v seen e).foldl (T4 ahC) L) ∧ Fr (fpo p) M M' := by
  have b1 := hN.1
  intro k
  induction k with
  | zero =>
    intro fu v seen e L M hk hfu hw hc h5 h6 he
    have hv := he.1
    match fu, hfu with
    | fu + 1, _ =>
      show ∃ M', Wy_walkB n o _ _ _ _ _ _ _ = some M' ∧ _
      unfold Wy_walkB pthW
      by_cases q : v = goal
      · obtain ⟨M', g1, g2, g3⟩ := Wy_offer_e hw (he.lt hN).2 hn
        refine ⟨M', ?_, ?_, g3⟩
        · simp (disch := omega) only [l_0, l_1, l_2, l_3, l_4, l_5, l_6, l_7, l_8, l_9, l_10, l_11, l_12, l_13, l_14, l_16, l_20, l_21, l_23, l_24, l_30, l_32, l_40, l_41, l_44, l_48, l_57, l_59, l_60, l_63, l_64, l_80, l_84, l_96, l_97, l_99, l_120, l_122, l_127, l_200, l_240, l_255, l_840, l_999, l_1000, l_1001, l_2400, l_3064, l_9999, l_10000, l_13849, l_16383, l_25173, l_65535, l_65536, l_99999, l_1000000000, neg_nI, pk_mul, nI_add, nI_subL, tn_nI, inb_t, grd_true, bnd_some, elS_l, elS_r, nI_ltI, nI_leI, nI_inj, fa_and, fa_or, m1_eq, eq_m1, m1_lt, m1_le, lt_m1, le_m1, m1_lt0, up2_at, up2_no, ite_true, ite_false, if_true, if_false, Bool.false_eq_true, reduceIte, reduceCtorEq, not_true_eq_false, not_false_eq_true, eq_self, decide_true, decide_false, le_tt, le_ff, lt_tt, lt_ff, eq_ff, and_true, true_and, and_false, false_and, or_true, true_or, or_false, false_or, ne_eq, decide_eq_true_eq, decide_eq_false_iff_not, Bool.not_true, Bool.not_false, Bool.and_true, Bool.true_and, Bool.and_false, Bool.false_and, gs_at, gs_no, oI_n, oI_s, h5, q, g1]
        · rw [if_pos q]; exact g2
      · refine ⟨M, ?_, ?_, Fr.rf⟩
        · simp (disch := omega) only [l_0, l_1, l_2, l_3, l_4, l_5, l_6, l_7, l_8, l_9, l_10, l_11, l_12, l_13, l_14, l_16, l_20, l_21, l_23, l_24, l_30, l_32, l_40, l_41, l_44, l_48, l_57, l_59, l_60, l_63, l_64, l_80, l_84, l_96, l_97, l_99, l_120, l_122, l_127, l_200, l_240, l_255, l_840, l_999, l_1000, l_1001, l_2400, l_3064, l_9999, l_10000, l_13849, l_16383, l_25173, l_65535, l_65536, l_99999, l_1000000000, neg_nI, pk_mul, nI_add, nI_subL, tn_nI, inb_t, grd_true, bnd_some, elS_l, elS_r, nI_ltI, nI_leI, nI_inj, fa_and, fa_or, m1_eq, eq_m1, m1_lt, m1_le, lt_m1, le_m1, m1_lt0, up2_at, up2_no, ite_true, ite_false, if_true, if_false, Bool.false_eq_true, reduceIte, reduceCtorEq, not_true_eq_false, not_false_eq_true, eq_self, decide_true, decide_false, le_tt, le_ff, lt_tt, lt_ff, eq_ff, and_true, true_and, and_false, false_and, or_true, true_or, or_false, false_or, ne_eq, decide_eq_true_eq, decide_eq_false_iff_not, Bool.not_true, Bool.not_false, Bool.and_true, Bool.true_and, Bool.and_false, Bool.false_and, gs_at, gs_no, oI_n, oI_s, h5, q]
        · rw [if_neg q]; exact hw
  | succ k ih =>
    intro fu v seen e L M hk hfu hw hc h5 h6 he
    have hv := he.1
    have hs8 := he.2.2.1
    have hbw := (he.lt hN).2
    unfold BW at hbw
    match fu, hfu with
    | fu + 1, hfu =>
      show ∃ M', Wy_walkB n o _ _ _ _ _ _ _ = some M' ∧ _
      by_cases q : v = goal
      · obtain ⟨M', g1, g2, g3⟩ := Wy_offer_e hw (he.lt hN).2 hn
        refine ⟨M', ?_, ?_, g3⟩
        · unfold Wy_walkB
          simp (disch := omega) only [l_0, l_1, l_2, l_3, l_4, l_5, l_6, l_7, l_8, l_9, l_10, l_11, l_12, l_13, l_14, l_16, l_20, l_21, l_23, l_24, l_30, l_32, l_40, l_41, l_44, l_48, l_57, l_59, l_60, l_63, l_64, l_80, l_84, l_96, l_97, l_99, l_120, l_122, l_127, l_200, l_240, l_255, l_840, l_999, l_1000, l_1001, l_2400, l_3064, l_9999, l_10000, l_13849, l_16383, l_25173, l_65535, l_65536, l_99999, l_1000000000, neg_nI, pk_mul, nI_add, nI_subL, tn_nI, inb_t, grd_true, bnd_some, elS_l, elS_r, nI_ltI, nI_leI, nI_inj, fa_and, fa_or, m1_eq, eq_m1, m1_lt, m1_le, lt_m1, le_m1, m1_lt0, up2_at, up2_no, ite_true, ite_false, if_true, if_false, Bool.false_eq_true, reduceIte, reduceCtorEq, not_true_eq_false, not_false_eq_true, eq_self, decide_true, decide_false, le_tt, le_ff, lt_tt, lt_ff, eq_ff, and_true, true_and, and_false, false_and, or_true, true_or, or_false, false_or, ne_eq, decide_eq_true_eq, decide_eq_false_iff_not, Bool.not_true, Bool.not_false, Bool.and_true, Bool.true_and, Bool.and_false, Bool.false_and, gs_at, gs_no, oI_n, oI_s, h5, q, g1]
        · rw [q, pthW_goal]; exact g2
      · have hloop : ∃ r, loop (fun s1 : Int32 × Mm => Wy_walk_b30 o (Wy_walk n fu) (nI v) (nI seen) (nI e.2.2.2) (nI e.1) (nI e.2.1) s1.1 s1.2) n (nI 0, M) = some r ∧ (WC r p (((chN g v (g 0)).flatMap (fun q => if seen.testBit q.1 = true then [] else pthW (chC g) (lenG g) goal k q.1 (seen ||| 2 ^ q.1) (extW (lenG g) e q))).foldl (T4 ahC) L) ∧ Fr (fpo p) M r) := by
          refine loop_I0 (fun i s => s.1 = nI i ∧ WC s.2 p (((chN g v i).flatMap (fun q => if seen.testBit q.1 = true then [] else pthW (chC g) (lenG g) goal k q.1 (seen ||| 2 ^ q.1) (extW (lenG g) e q))).foldl (T4 ahC) L) ∧ Fr (fpo p) M s.2) _ (g 0) ⟨rfl, hw, Fr.rf⟩ (by omega) ?_ ?_
          · rintro i ⟨s1, M1⟩ hi ⟨a1, a2, a3⟩
            simp only at a1 a2 a3
            subst a1
            left
            have c1 : CN M1 o g := hc.fr a3 (fun k j hk hp => by unfold fpo at hp; omega)
            have c5 : M1.1 13 6 = nI goal := (a3 13 6 (by unfold fpo; omega)).1.trans h5
            have c6 : M1.1 13 7 = nI (g 12) := (a3 13 7 (by unfold fpo; omega)).1.trans h6
            have c0 : M1.1 o 0 = nI (g 0) := c1.1 0 (by omega)
            have cl := c1.2.2.2 v i (by omega) (by omega)
            have hg12 := hG.1 12
            have e0 : ∀ X, X = (chN g v i ++ (match lkS g v i with | some l => if (g 12).testBit l = true then [(i, l)] else [] | none => [])) → chN g v (i + 1) = X := fun X h => h ▸ rfl
            show ∃ s', Wy_walk_b30 o (Wy_walk n fu) (nI v) (nI seen) (nI e.2.2.2) (nI e.1) (nI e.2.1) (nI i) M1 = some (.inl s') ∧ _
            cases hlk : lkS g v i with
            | none =>
              rw [hlk] at cl
              have e1 : chN g v (i + 1) = chN g v i := by
                rw [e0 _ rfl, hlk, List.append_nil]
              refine ⟨(nI (i + 1), M1), ?_, rfl, by rw [e1]; exact a2, a3⟩
              unfold Wy_walk_b30 Wy_walk_j113
              simp (disch := omega) only [l_0, l_1, l_2, l_3, l_4, l_5, l_6, l_7, l_8, l_9, l_10, l_11, l_12, l_13, l_14, l_16, l_20, l_21, l_23, l_24, l_30, l_32, l_40, l_41, l_44, l_48, l_57, l_59, l_60, l_63, l_64, l_80, l_84, l_96, l_97, l_99, l_120, l_122, l_127, l_200, l_240, l_255, l_840, l_999, l_1000, l_1001, l_2400, l_3064, l_9999, l_10000, l_13849, l_16383, l_25173, l_65535, l_65536, l_99999, l_1000000000, neg_nI, pk_mul, nI_add, nI_subL, tn_nI, inb_t, grd_true, bnd_some, elS_l, elS_r, nI_ltI, nI_leI, nI_inj, fa_and, fa_or, m1_eq, eq_m1, m1_lt, m1_le, lt_m1, le_m1, m1_lt0, up2_at, up2_no, ite_true, ite_false, if_true, if_false, Bool.false_eq_true, reduceIte, reduceCtorEq, not_true_eq_false, not_false_eq_true, eq_self, decide_true, decide_false, le_tt, le_ff, lt_tt, lt_ff, eq_ff, and_true, true_and, and_false, false_and, or_true, true_or, or_false, false_or, ne_eq, decide_eq_true_eq, decide_eq_false_iff_not, Bool.not_true, Bool.not_false, Bool.and_true, Bool.true_and, Bool.and_false, Bool.false_and, gs_at, gs_no, oI_n, oI_s, c0, cl]
            | some l =>
              rw [hlk] at cl
              obtain ⟨l1, l2⟩ := lk_some hlk
              have hlb := hG.1 (44 + l)
              cases hup : (g 12).testBit l with
              | false =>
                have e1 : chN g v (i + 1) = chN g v i := by
                  rw [e0 _ rfl, hlk]
                  simp only
                  rw [if_neg (by rw [hup]; decide), List.append_nil]
                refine ⟨(nI (i + 1), M1), ?_, rfl, by rw [e1]; exact a2, a3⟩
                unfold Wy_walk_b30 Wy_walk_j113
                simp (disch := omega) only [l_0, l_1, l_2, l_3, l_4, l_5, l_6, l_7, l_8, l_9, l_10, l_11, l_12, l_13, l_14, l_16, l_20, l_21, l_23, l_24, l_30, l_32, l_40, l_41, l_44, l_48, l_57, l_59, l_60, l_63, l_64, l_80, l_84, l_96, l_97, l_99, l_120, l_122, l_127, l_200, l_240, l_255, l_840, l_999, l_1000, l_1001, l_2400, l_3064, l_9999, l_10000, l_13849, l_16383, l_25173, l_65535, l_65536, l_99999, l_1000000000, neg_nI, pk_mul, nI_add, nI_subL, tn_nI, inb_t, grd_true, bnd_some, elS_l, elS_r, nI_ltI, nI_leI, nI_inj, fa_and, fa_or, m1_eq, eq_m1, m1_lt, m1_le, lt_m1, le_m1, m1_lt0, up2_at, up2_no, ite_true, ite_false, if_true, if_false, Bool.false_eq_true, reduceIte, reduceCtorEq, not_true_eq_false, not_false_eq_true, eq_self, decide_true, decide_false, le_tt, le_ff, lt_tt, lt_ff, eq_ff, and_true, true_and, and_false, false_and, or_true, true_or, or_false, false_or, ne_eq, decide_eq_true_eq, decide_eq_false_iff_not, Bool.not_true, Bool.not_false, Bool.and_true, Bool.true_and, Bool.and_false, Bool.false_and, gs_at, gs_no, oI_n, oI_s, c0, cl, c6, bt0, hup]
              | true =>
                have e1 : chN g v (i + 1) = chN g v i ++ [(i, l)] := by
                  rw [e0 _ rfl, hlk]
                  simp only
                  rw [if_pos hup]
                rw [e1, List.flatMap_append, List.foldl_append, List.flatMap_singleton]
                cases hsn : seen.testBit i with
                | true =>
                  refine ⟨(nI (i + 1), M1), ?_, rfl, ?_, a3⟩
                  · unfold Wy_walk_b30 Wy_walk_j113
                    simp (disch := omega) only [l_0, l_1, l_2, l_3, l_4, l_5, l_6, l_7, l_8, l_9, l_10, l_11, l_12, l_13, l_14, l_16, l_20, l_21, l_23, l_24, l_30, l_32, l_40, l_41, l_44, l_48, l_57, l_59, l_60, l_63, l_64, l_80, l_84, l_96, l_97, l_99, l_120, l_122, l_127, l_200, l_240, l_255, l_840, l_999, l_1000, l_1001, l_2400, l_3064, l_9999, l_10000, l_13849, l_16383, l_25173, l_65535, l_65536, l_99999, l_1000000000, neg_nI, pk_mul, nI_add, nI_subL, tn_nI, inb_t, grd_true, bnd_some, elS_l, elS_r, nI_ltI, nI_leI, nI_inj, fa_and, fa_or, m1_eq, eq_m1, m1_lt, m1_le, lt_m1, le_m1, m1_lt0, up2_at, up2_no, ite_true, ite_false, if_true, if_false, Bool.false_eq_true, reduceIte, reduceCtorEq, not_true_eq_false, not_false_eq_true, eq_self, decide_true, decide_false, le_tt, le_ff, lt_tt, lt_ff, eq_ff, and_true, true_and, and_false, false_and, or_true, true_or, or_false, false_or, ne_eq, decide_eq_true_eq, decide_eq_false_iff_not, Bool.not_true, Bool.not_false, Bool.and_true, Bool.true_and, Bool.and_false, Bool.false_and, gs_at, gs_no, oI_n, oI_s, c0, cl, c6, bt0, hup, hsn]
                  · rw [if_pos rfl]; exact a2
                | false =>
                  obtain ⟨x1, x2⟩ := he.ext hN l1 (lk_byd hN hlk hup) hsn
                  obtain ⟨M2, g1, g2, g3⟩ := ih fu i (seen ||| 2 ^ i) (extW (lenG g) e (i, l)) _ M1 (by show e.2.1 + 1 + 1 + k = 8; omega) (by omega) a2 c1 c5 c6 x1
                  have g1' : Wy_walk n fu o (nI i) (nI (seen ||| 2 ^ i)) (nI (e.2.2.2 ||| 2 ^ l)) (nI (e.1 + g (44 + l))) (nI (e.2.1 + 1)) M1 = some M2 := g1
                  refine ⟨(nI (i + 1), M2), ?_, rfl, ?_, a3.tr g3⟩
                  · unfold Wy_walk_b30 Wy_walk_j113
                    simp (disch := omega) only [l_0, l_1, l_2, l_3, l_4, l_5, l_6, l_7, l_8, l_9, l_10, l_11, l_12, l_13, l_14, l_16, l_20, l_21, l_23, l_24, l_30, l_32, l_40, l_41, l_44, l_48, l_57, l_59, l_60, l_63, l_64, l_80, l_84, l_96, l_97, l_99, l_120, l_122, l_127, l_200, l_240, l_255, l_840, l_999, l_1000, l_1001, l_2400, l_3064, l_9999, l_10000, l_13849, l_16383, l_25173, l_65535, l_65536, l_99999, l_1000000000, neg_nI, pk_mul, nI_add, nI_subL, tn_nI, inb_t, grd_true, bnd_some, elS_l, elS_r, nI_ltI, nI_leI, nI_inj, fa_and, fa_or, m1_eq, eq_m1, m1_lt, m1_le, lt_m1, le_m1, m1_lt0, up2_at, up2_no, ite_true, ite_false, if_true, if_false, Bool.false_eq_true, reduceIte, reduceCtorEq, not_true_eq_false, not_false_eq_true, eq_self, decide_true, decide_false, le_tt, le_ff, lt_tt, lt_ff, eq_ff, and_true, true_and, and_false, false_and, or_true, true_or, or_false, false_or, ne_eq, decide_eq_true_eq, decide_eq_false_iff_not, Bool.not_true, Bool.not_false, Bool.and_true, Bool.true_and, Bool.and_false, Bool.false_and, gs_at, gs_no, oI_n, oI_s, c0, cl, c6, bt0, hup, hsn, shl_e, (c1.2.2.1 l l1).2.2, g1']
                  · rw [if_neg (by decide)]; exact g2
          · rintro ⟨s1, M1⟩ ⟨a1, a2, a3⟩
            simp only at a1 a2 a3
            subst a1
            refine ⟨M1, ?_, a2, a3⟩
            have c1 : CN M1 o g := hc.fr a3 (fun k j hk hp => by unfold fpo at hp; omega)
            have c0 : M1.1 o 0 = nI (g 0) := c1.1 0 (by omega)
            show Wy_walk_b30 _ _ _ _ _ _ _ _ _ = _
            unfold Wy_walk_b30
            simp (disch := omega) only [l_0, l_1, l_2, l_3, l_4, l_5, l_6, l_7, l_8, l_9, l_10, l_11, l_12, l_13, l_14, l_16, l_20, l_21, l_23, l_24, l_30, l_32, l_40, l_41, l_44, l_48, l_57, l_59, l_60, l_63, l_64, l_80, l_84, l_96, l_97, l_99, l_120, l_122, l_127, l_200, l_240, l_255, l_840, l_999, l_1000, l_1001, l_2400, l_3064, l_9999, l_10000, l_13849, l_16383, l_25173, l_65535, l_65536, l_99999, l_1000000000, neg_nI, pk_mul, nI_add, nI_subL, tn_nI, inb_t, grd_true, bnd_some, elS_l, elS_r, nI_ltI, nI_leI, nI_inj, fa_and, fa_or, m1_eq, eq_m1, m1_lt, m1_le, lt_m1, le_m1, m1_lt0, up2_at, up2_no, ite_true, ite_false, if_true, if_false, Bool.false_eq_true, reduceIte, reduceCtorEq, not_true_eq_false, not_false_eq_true, eq_self, decide_true, decide_false, le_tt, le_ff, lt_tt, lt_ff, eq_ff, and_true, true_and, and_false, false_and, or_true, true_or, or_false, false_or, ne_eq, decide_eq_true_eq, decide_eq_false_iff_not, Bool.not_true, Bool.not_false, Bool.and_true, Bool.true_and, Bool.and_false, Bool.false_and, gs_at, gs_no, oI_n, oI_s, c0]
        obtain ⟨r, r1, r2, r3⟩ := hloop
        refine ⟨r, ?_, ?_, r3⟩
        · unfold Wy_walkB
          simp (disch := omega) only [l_0, l_1, l_2, l_3, l_4, l_5, l_6, l_7, l_8, l_9, l_10, l_11, l_12, l_13, l_14, l_16, l_20, l_21, l_23, l_24, l_30, l_32, l_40, l_41, l_44, l_48, l_57, l_59, l_60, l_63, l_64, l_80, l_84, l_96, l_97, l_99, l_120, l_122, l_127, l_200, l_240, l_255, l_840, l_999, l_1000, l_1001, l_2400, l_3064, l_9999, l_10000, l_13849, l_16383, l_25173, l_65535, l_65536, l_99999, l_1000000000, neg_nI, pk_mul, nI_add, nI_subL, tn_nI, inb_t, grd_true, bnd_some, elS_l, elS_r, nI_ltI, nI_leI, nI_inj, fa_and, fa_or, m1_eq, eq_m1, m1_lt, m1_le, lt_m1, le_m1, m1_lt0, up2_at, up2_no, ite_true, ite_false, if_true, if_false, Bool.false_eq_true, reduceIte, reduceCtorEq, not_true_eq_false, not_false_eq_true, eq_self, decide_true, decide_false, le_tt, le_ff, lt_tt, lt_ff, eq_ff, and_true, true_and, and_false, false_and, or_true, true_or, or_false, false_or, ne_eq, decide_eq_true_eq, decide_eq_false_iff_not, Bool.not_true, Bool.not_false, Bool.and_true, Bool.true_and, Bool.and_false, Bool.false_and, gs_at, gs_no, oI_n, oI_s, h5, q, r1]
        · unfold pthW
          rw [if_neg q]
          exact r2
/-- what is known of ways is right for the links that were up then -/
def CA (M : Mm) (g : Nat → Nat) : Prop := ∀ a b, a < g 0 → b < g 0 → a ≠ b → M.1 15 (a * 8 + b) = ng 1 ∨ ∃ up, up < 16384 ∧ M.1 15 (a * 8 + b) = nI up ∧ CE M (a * 8 + b) (waysG (gs g 12 up) a b)
theorem gs_self {g : Nat → Nat} {k : Nat} : gs g k (g k) = g := by
  funext j
  unfold gs
  by_cases h : j = k
  · rw [if_pos h, h]
  · rw [if_neg h]
theorem CE.fr {P : Nat → Nat → Prop} {M M' : Mm} {p : Nat} {L : List We} (h : CE M p L) (hf : Fr P M M') (h14 : ¬ P 14 p) (hp : ∀ j, j < 4 → ¬ P 16 (p * 4 + j) ∧ ¬ P 17 (p * 4 + j) ∧ ¬ P 115 (p * 4 + j)) : CE M' p L := by
  obtain ⟨h1, h2, h3, h4⟩ := h
  refine ⟨(hf 14 p h14).1.trans h1, h2, HL_congr (fun j e _ hj q => ?_) h3, h4⟩
  obtain ⟨q1, q2, q3⟩ := q
  have := hp j (by omega)
  exact ⟨(hf 16 _ this.1).1.trans q1, (hf 17 _ this.2.1).1.trans q2, (hf 115 _ this.2.2).1.trans q3⟩
theorem CA.fr {P : Nat → Nat → Prop} {M M' : Mm} {g : Nat → Nat} (h : CA M g) (hf : Fr P M M') (hp : ∀ j, ¬ P 14 j ∧ ¬ P 15 j ∧ ¬ P 16 j ∧ ¬ P 17 j ∧ ¬ P 115 j) : CA M' g := by
  intro a b ha hb hab
  rcases h a b ha hb hab with q | ⟨up, q1, q2, q3⟩
  · exact .inl ((hf 15 _ (hp _).2.1).1.trans q)
  · exact .inr ⟨up, q1, (hf 15 _ (hp _).2.1).1.trans q2, q3.fr hf (hp _).1 (fun j _ => ⟨(hp _).2.2.1, (hp _).2.2.2.1, (hp _).2.2.2.2⟩)⟩
theorem CA.fo {M M' : Mm} {g : Nat → Nat} {p : Nat} (h : CA M g) (hN : NV g) (hf : Fr (fun c j => fpo p c j ∨ (c = 13) ∨ (c = 15 ∧ j = p)) M M') (hp : ∀ a b, a < g 0 → b < g 0 → a ≠ b → a * 8 + b = p → M'.1 15 (a * 8 + b) = ng 1 ∨ ∃ up, up < 16384 ∧ M'.1 15 (a * 8 + b) = nI up ∧ CE M' (a * 8 + b) (waysG (gs g 12 up) a b)) : CA M' g := by
  intro a b ha hb hab
  have b1 := hN.1
  by_cases e : a * 8 + b = p
  · exact hp a b ha hb hab e
  · rcases h a b ha hb hab with q | ⟨up, q1, q2, q3⟩
    · exact .inl ((hf 15 _ (by unfold fpo; omega)).1.trans q)
    · exact .inr ⟨up, q1, (hf 15 _ (by unfold fpo; omega)).1.trans q2, q3.fr hf (by unfold fpo; omega) (fun j hj => ⟨by unfold fpo; omega, by unfold fpo; omega, by unfold fpo; omega⟩)⟩
theorem Wy_pairOf_e {M : Mm} {g : Nat → Nat} (hG : GB g) (hN : NV g) (hU : NU g) {o n a b : Nat} (ho : 18 ≤ o ∧ o < 90) (hn : 100 < n) (hA : CA M g) (hC : CN M (o + 1) g) (hu : M.1 o 1 = nI (g 12)) (ha : a < g 0) (hb : b < g 0) (hab : a ≠ b) : ∃ M', Wy_pairOf n o (nI a) (nI b) M = some (nI (a * 8 + b), M') ∧ CA M' g ∧ CE M' (a * 8 + b) (waysG g a b) ∧ Fr (fp_Wy_pairOf o) M M' := by
  have b1 := hN.1
  have h12 : g 12 < 16384 := Nat.lt_of_lt_of_le b1.2.2.2.2.2.2 (show 2 ^ g 3 ≤ 2 ^ 14 from Nat.pow_le_pow_right (by decide) b1.2.2.2.2.2.1)
  have hself : waysG (gs g 12 (g 12)) a b = waysG g a b := by rw [gs_self]
  have main : ∃ M', Wy_pairOf n o (nI a) (nI b) M = some (nI (a * 8 + b), M') ∧ CA M' g ∧ CE M' (a * 8 + b) (waysG g a b) := by
    by_cases hk : M.1 15 (a * 8 + b) = nI (g 12)
    · have hf : Fr (fun c j => c = 13) M (up2 M.1 13 5 (nI (a * 8 + b)), M.2) := Fr.I Fr.rf rfl
      refine ⟨(up2 M.1 13 5 (nI (a * 8 + b)), M.2), ?_, hA.fr hf (fun j => by omega), ?_⟩
      · unfold Wy_pairOf Wy_pairOf_j77
        simp (disch := omega) only [l_0, l_1, l_2, l_3, l_4, l_5, l_6, l_7, l_8, l_9, l_10, l_11, l_12, l_13, l_14, l_16, l_20, l_21, l_23, l_24, l_30, l_32, l_40, l_41, l_44, l_48, l_57, l_59, l_60, l_63, l_64, l_80, l_84, l_96, l_97, l_99, l_120, l_122, l_127, l_200, l_240, l_255, l_840, l_999, l_1000, l_1001, l_2400, l_3064, l_9999, l_10000, l_13849, l_16383, l_25173, l_65535, l_65536, l_99999, l_1000000000, neg_nI, pk_mul, nI_add, nI_subL, tn_nI, inb_t, grd_true, bnd_some, elS_l, elS_r, nI_ltI, nI_leI, nI_inj, fa_and, fa_or, m1_eq, eq_m1, m1_lt, m1_le, lt_m1, le_m1, m1_lt0, up2_at, up2_no, ite_true, ite_false, if_true, if_false, Bool.false_eq_true, reduceIte, reduceCtorEq, not_true_eq_false, not_false_eq_true, eq_self, decide_true, decide_false, le_tt, le_ff, lt_tt, lt_ff, eq_ff, and_true, true_and, and_false, false_and, or_true, true_or, or_false, false_or, ne_eq, decide_eq_true_eq, decide_eq_false_iff_not, Bool.not_true, Bool.not_false, Bool.and_true, Bool.true_and, Bool.and_false, Bool.false_and, gs_at, gs_no, oI_n, oI_s, hu, hk]
      · rcases hA a b ha hb hab with q | ⟨up, q1, q2, q3⟩
        · rw [hk] at q
          have := eq_m1 (k := 1) (a := g 12) (by omega) (by omega) (by omega)
          rw [q] at this
          exact absurd rfl (by rw [this]; exact id)
        · rw [hk] at q2
          have e := (nI_inj (by omega) (by omega)).mp q2
          rw [← e, hself] at q3
          exact q3.fr hf (by omega) (fun j _ => by omega)
    · have hf : Fr (fun c j => fpo (a * 8 + b) c j ∨ (c = 13) ∨ (c = 15 ∧ j = a * 8 + b)) M (up2 (up2 (up2 (up2 (up2 M.1 13 5 (nI (a * 8 + b))) 14 (a * 8 + b) (nI 0)) 15 (a * 8 + b) (nI (g 12))) 13 7 (nI (g 12))) 13 6 (nI b), M.2) := Fr.I (Fr.I (Fr.I (Fr.I (Fr.I Fr.rf (by omega)) (by unfold fpo; omega)) (by omega)) (by omega)) (by omega)
      have hw0 : WC (up2 (up2 (up2 (up2 (up2 M.1 13 5 (nI (a * 8 + b))) 14 (a * 8 + b) (nI 0)) 15 (a * 8 + b) (nI (g 12))) 13 7 (nI (g 12))) 13 6 (nI b), M.2) (a * 8 + b) [] := by
        refine ⟨?_, by omega, ⟨?_, by decide, trivial, fun e he => by cases he⟩, List.Pairwise.nil⟩
        · show up2 (up2 (up2 (up2 (up2 M.1 13 5 (nI (a * 8 + b))) 14 (a * 8 + b) (nI 0)) 15 (a * 8 + b) (nI (g 12))) 13 7 (nI (g 12))) 13 6 (nI b) 13 5 = _
          simp (disch := omega) only [l_0, l_1, l_2, l_3, l_4, l_5, l_6, l_7, l_8, l_9, l_10, l_11, l_12, l_13, l_14, l_16, l_20, l_21, l_23, l_24, l_30, l_32, l_40, l_41, l_44, l_48, l_57, l_59, l_60, l_63, l_64, l_80, l_84, l_96, l_97, l_99, l_120, l_122, l_127, l_200, l_240, l_255, l_840, l_999, l_1000, l_1001, l_2400, l_3064, l_9999, l_10000, l_13849, l_16383, l_25173, l_65535, l_65536, l_99999, l_1000000000, neg_nI, pk_mul, nI_add, nI_subL, tn_nI, inb_t, grd_true, bnd_some, elS_l, elS_r, nI_ltI, nI_leI, nI_inj, fa_and, fa_or, m1_eq, eq_m1, m1_lt, m1_le, lt_m1, le_m1, m1_lt0, up2_at, up2_no, ite_true, ite_false, if_true, if_false, Bool.false_eq_true, reduceIte, reduceCtorEq, not_true_eq_false, not_false_eq_true, eq_self, decide_true, decide_false, le_tt, le_ff, lt_tt, lt_ff, eq_ff, and_true, true_and, and_false, false_and, or_true, true_or, or_false, false_or, ne_eq, decide_eq_true_eq, decide_eq_false_iff_not, Bool.not_true, Bool.not_false, Bool.and_true, Bool.true_and, Bool.and_false, Bool.false_and, gs_at, gs_no, oI_n, oI_s]
        · show up2 (up2 (up2 (up2 (up2 M.1 13 5 (nI (a * 8 + b))) 14 (a * 8 + b) (nI 0)) 15 (a * 8 + b) (nI (g 12))) 13 7 (nI (g 12))) 13 6 (nI b) 14 (a * 8 + b) = nI 0
          simp (disch := omega) only [l_0, l_1, l_2, l_3, l_4, l_5, l_6, l_7, l_8, l_9, l_10, l_11, l_12, l_13, l_14, l_16, l_20, l_21, l_23, l_24, l_30, l_32, l_40, l_41, l_44, l_48, l_57, l_59, l_60, l_63, l_64, l_80, l_84, l_96, l_97, l_99, l_120, l_122, l_127, l_200, l_240, l_255, l_840, l_999, l_1000, l_1001, l_2400, l_3064, l_9999, l_10000, l_13849, l_16383, l_25173, l_65535, l_65536, l_99999, l_1000000000, neg_nI, pk_mul, nI_add, nI_subL, tn_nI, inb_t, grd_true, bnd_some, elS_l, elS_r, nI_ltI, nI_leI, nI_inj, fa_and, fa_or, m1_eq, eq_m1, m1_lt, m1_le, lt_m1, le_m1, m1_lt0, up2_at, up2_no, ite_true, ite_false, if_true, if_false, Bool.false_eq_true, reduceIte, reduceCtorEq, not_true_eq_false, not_false_eq_true, eq_self, decide_true, decide_false, le_tt, le_ff, lt_tt, lt_ff, eq_ff, and_true, true_and, and_false, false_and, or_true, true_or, or_false, false_or, ne_eq, decide_eq_true_eq, decide_eq_false_iff_not, Bool.not_true, Bool.not_false, Bool.and_true, Bool.true_and, Bool.and_false, Bool.false_and, gs_at, gs_no, oI_n, oI_s]
      obtain ⟨M', g1, g2, g3⟩ := Wy_walk_e hG hN (p := a * 8 + b) (goal := b) (o := o + 1) (n := n) (by omega) (by omega) (by omega) hn 7 9 a (2 ^ a) (0, 0, a, 0) [] _ rfl (by decide) hw0 (hC.fr hf (fun k j hk hp => by unfold fpo at hp; omega)) (by
        show up2 (up2 (up2 (up2 (up2 M.1 13 5 (nI (a * 8 + b))) 14 (a * 8 + b) (nI 0)) 15 (a * 8 + b) (nI (g 12))) 13 7 (nI (g 12))) 13 6 (nI b) 13 6 = _
        simp (disch := omega) only [l_0, l_1, l_2, l_3, l_4, l_5, l_6, l_7, l_8, l_9, l_10, l_11, l_12, l_13, l_14, l_16, l_20, l_21, l_23, l_24, l_30, l_32, l_40, l_41, l_44, l_48, l_57, l_59, l_60, l_63, l_64, l_80, l_84, l_96, l_97, l_99, l_120, l_122, l_127, l_200, l_240, l_255, l_840, l_999, l_1000, l_1001, l_2400, l_3064, l_9999, l_10000, l_13849, l_16383, l_25173, l_65535, l_65536, l_99999, l_1000000000, neg_nI, pk_mul, nI_add, nI_subL, tn_nI, inb_t, grd_true, bnd_some, elS_l, elS_r, nI_ltI, nI_leI, nI_inj, fa_and, fa_or, m1_eq, eq_m1, m1_lt, m1_le, lt_m1, le_m1, m1_lt0, up2_at, up2_no, ite_true, ite_false, if_true, if_false, Bool.false_eq_true, reduceIte, reduceCtorEq, not_true_eq_false, not_false_eq_true, eq_self, decide_true, decide_false, le_tt, le_ff, lt_tt, lt_ff, eq_ff, and_true, true_and, and_false, false_and, or_true, true_or, or_false, false_or, ne_eq, decide_eq_true_eq, decide_eq_false_iff_not, Bool.not_true, Bool.not_false, Bool.and_true, Bool.true_and, Bool.and_false, Bool.false_and, gs_at, gs_no, oI_n, oI_s]) (by
        show up2 (up2 (up2 (up2 (up2 M.1 13 5 (nI (a * 8 + b))) 14 (a * 8 + b) (nI 0)) 15 (a * 8 + b) (nI (g 12))) 13 7 (nI (g 12))) 13 6 (nI b) 13 7 = _
        simp (disch := omega) only [l_0, l_1, l_2, l_3, l_4, l_5, l_6, l_7, l_8, l_9, l_10, l_11, l_12, l_13, l_14, l_16, l_20, l_21, l_23, l_24, l_30, l_32, l_40, l_41, l_44, l_48, l_57, l_59, l_60, l_63, l_64, l_80, l_84, l_96, l_97, l_99, l_120, l_122, l_127, l_200, l_240, l_255, l_840, l_999, l_1000, l_1001, l_2400, l_3064, l_9999, l_10000, l_13849, l_16383, l_25173, l_65535, l_65536, l_99999, l_1000000000, neg_nI, pk_mul, nI_add, nI_subL, tn_nI, inb_t, grd_true, bnd_some, elS_l, elS_r, nI_ltI, nI_leI, nI_inj, fa_and, fa_or, m1_eq, eq_m1, m1_lt, m1_le, lt_m1, le_m1, m1_lt0, up2_at, up2_no, ite_true, ite_false, if_true, if_false, Bool.false_eq_true, reduceIte, reduceCtorEq, not_true_eq_false, not_false_eq_true, eq_self, decide_true, decide_false, le_tt, le_ff, lt_tt, lt_ff, eq_ff, and_true, true_and, and_false, false_and, or_true, true_or, or_false, false_or, ne_eq, decide_eq_true_eq, decide_eq_false_iff_not, Bool.not_true, Bool.not_false, Bool.and_true, Bool.true_and, Bool.and_false, Bool.false_and, gs_at, gs_no, oI_n, oI_s]) (EI_0 hN ha)
      rw [ways_C hN hU ha] at g2
      have g1' : Wy_walk n 9 (o + 1) (nI a) (nI (2 ^ a)) (nI 0) (nI 0) (nI 0) (up2 (up2 (up2 (up2 (up2 M.1 13 5 (nI (a * 8 + b))) 14 (a * 8 + b) (nI 0)) 15 (a * 8 + b) (nI (g 12))) 13 7 (nI (g 12))) 13 6 (nI b), M.2) = some M' := g1
      have h15 : M'.1 15 (a * 8 + b) = nI (g 12) := by
        rw [(g3 15 (a * 8 + b) (by unfold fpo; omega)).1]
        show up2 (up2 (up2 (up2 (up2 M.1 13 5 (nI (a * 8 + b))) 14 (a * 8 + b) (nI 0)) 15 (a * 8 + b) (nI (g 12))) 13 7 (nI (g 12))) 13 6 (nI b) 15 (a * 8 + b) = _
        simp (disch := omega) only [l_0, l_1, l_2, l_3, l_4, l_5, l_6, l_7, l_8, l_9, l_10, l_11, l_12, l_13, l_14, l_16, l_20, l_21, l_23, l_24, l_30, l_32, l_40, l_41, l_44, l_48, l_57, l_59, l_60, l_63, l_64, l_80, l_84, l_96, l_97, l_99, l_120, l_122, l_127, l_200, l_240, l_255, l_840, l_999, l_1000, l_1001, l_2400, l_3064, l_9999, l_10000, l_13849, l_16383, l_25173, l_65535, l_65536, l_99999, l_1000000000, neg_nI, pk_mul, nI_add, nI_subL, tn_nI, inb_t, grd_true, bnd_some, elS_l, elS_r, nI_ltI, nI_leI, nI_inj, fa_and, fa_or, m1_eq, eq_m1, m1_lt, m1_le, lt_m1, le_m1, m1_lt0, up2_at, up2_no, ite_true, ite_false, if_true, if_false, Bool.false_eq_true, reduceIte, reduceCtorEq, not_true_eq_false, not_false_eq_true, eq_self, decide_true, decide_false, le_tt, le_ff, lt_tt, lt_ff, eq_ff, and_true, true_and, and_false, false_and, or_true, true_or, or_false, false_or, ne_eq, decide_eq_true_eq, decide_eq_false_iff_not, Bool.not_true, Bool.not_false, Bool.and_true, Bool.true_and, Bool.and_false, Bool.false_and, gs_at, gs_no, oI_n, oI_s]
      refine ⟨M', ?_, ?_, g2.2.2.1⟩
      · have hk' : (M.1 15 (a * 8 + b) = nI (g 12)) = False := eq_false hk
        unfold Wy_pairOf Wy_pairOf_j77
        simp (disch := omega) only [l_0, l_1, l_2, l_3, l_4, l_5, l_6, l_7, l_8, l_9, l_10, l_11, l_12, l_13, l_14, l_16, l_20, l_21, l_23, l_24, l_30, l_32, l_40, l_41, l_44, l_48, l_57, l_59, l_60, l_63, l_64, l_80, l_84, l_96, l_97, l_99, l_120, l_122, l_127, l_200, l_240, l_255, l_840, l_999, l_1000, l_1001, l_2400, l_3064, l_9999, l_10000, l_13849, l_16383, l_25173, l_65535, l_65536, l_99999, l_1000000000, neg_nI, pk_mul, nI_add, nI_subL, tn_nI, inb_t, grd_true, bnd_some, elS_l, elS_r, nI_ltI, nI_leI, nI_inj, fa_and, fa_or, m1_eq, eq_m1, m1_lt, m1_le, lt_m1, le_m1, m1_lt0, up2_at, up2_no, ite_true, ite_false, if_true, if_false, Bool.false_eq_true, reduceIte, reduceCtorEq, not_true_eq_false, not_false_eq_true, eq_self, decide_true, decide_false, le_tt, le_ff, lt_tt, lt_ff, eq_ff, and_true, true_and, and_false, false_and, or_true, true_or, or_false, false_or, ne_eq, decide_eq_true_eq, decide_eq_false_iff_not, Bool.not_true, Bool.not_false, Bool.and_true, Bool.true_and, Bool.and_false, Bool.false_and, gs_at, gs_no, oI_n, oI_s, hu, hk', shl_e, g1', g2.1]
      · refine hA.fo hN (hf.tr (g3.mono (fun c j hp => .inl hp))) (fun a' b' ha' hb' hab' e => ?_)
        have ea : a' = a := by omega
        have eb : b' = b := by omega
        subst ea eb
        exact .inr ⟨g 12, h12, h15, by rw [hself]; exact g2.2.2.1⟩
  obtain ⟨M', h1, h2, h3⟩ := main
  exact ⟨M', h1, h2, h3, fr_Wy_pairOf h1⟩
