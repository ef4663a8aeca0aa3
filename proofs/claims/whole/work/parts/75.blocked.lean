/-! calls: blocked -/
def wsN (g : Nat → Nat) (l v set : Nat) : Nat → Nat
  | 0 => set
  | K + 1 => match agS g l K v none with | none => wsN g l v set K | some d => wsN g l v set K ||| 2 ^ d
theorem ws_or {g : Nat → Nat} {l v set : Nat} : ∀ K, wsN g l v set K = set ||| wsN g l v 0 K
  | 0 => by show set = set ||| 0; rw [Nat.or_zero]
  | K + 1 => by
    unfold wsN
    cases agS g l K v none with
    | none => exact ws_or K
    | some d =>
      show wsN g l v set K ||| 2 ^ d = set ||| (wsN g l v 0 K ||| 2 ^ d)
      rw [ws_or K, Nat.or_assoc]
theorem ws_lt {g : Nat → Nat} {l v set : Nat} (h40 : g 7 ≤ 40) (hs : set < 2 ^ 40) : ∀ K, wsN g l v set K < 2 ^ 40
  | 0 => hs
  | K + 1 => by
    unfold wsN
    cases h : agS g l K v none with
    | none => exact ws_lt h40 hs K
    | some d =>
      have := ag_lt h
      exact Nat.or_lt_two_pow (ws_lt h40 hs K) (Nat.pow_lt_pow_right (by decide) (by omega))
theorem ws_s {g : Nat → Nat} {l v set K : Nat} : wsN g l v set (K + 1) = match agS g l K v none with | none => wsN g l v set K | some d => wsN g l v set K ||| 2 ^ d := rfl
section
variable {M : Mm} {g : Nat → Nat} {n s : Nat}
theorem St_witnesses_e (hg : GV g) (hS : SV M s g) {l v : Nat} (hv : 1 ≤ v) (hv2 : v ≤ 64) (hn : 100 < n) : St_witnesses n s (nI l) (nI v) M = some (lN (wsN g l v 0 (g 1 + 1 - v))) := by
  have h40 := hg.2.2
  have b1 := hg.1.2.1.1
  have h1 : M.1 (s + 1) 1 = nI (g 1) := hS.1.1.1 1 (by omega)
  have hlp : ∃ r, loop (fun s1 : Int64 × Int32 => St_witnesses_b5 n s (nI l) (nI v) M s1.1 s1.2) n (lN 0, nI 0) = some r ∧ r = lN (wsN g l v 0 (g 1 + 1 - v)) := by
    refine loop_I0 (fun i (st : Int64 × Int32) => st = (lN (wsN g l v 0 i), nI i)) _ (g 1 + 1 - v) rfl (by omega) ?_ ?_
    · rintro i ⟨s1, s2⟩ hi e
      cases e
      left
      refine ⟨(lN (wsN g l v 0 (i + 1)), nI (i + 1)), ?_, rfl⟩
      show St_witnesses_b5 n s (nI l) (nI v) M (lN (wsN g l v 0 i)) (nI i) = _
      have hit := St_inTheWay_e hg hS (l := l) (f := i) (v := v) (by omega) (by omega) hn
      rw [ws_s]
      unfold St_witnesses_b5 St_witnesses_j41
      cases hag : agS g l i v none with
      | none =>
        rw [hag] at hit
        simp (disch := omega) only [l_0, l_1, l_2, l_3, l_4, l_5, l_6, l_7, l_8, l_9, l_10, l_11, l_12, l_13, l_14, l_16, l_20, l_21, l_23, l_24, l_30, l_32, l_40, l_41, l_44, l_48, l_57, l_59, l_60, l_63, l_64, l_80, l_84, l_96, l_97, l_99, l_120, l_122, l_127, l_200, l_240, l_255, l_840, l_999, l_1000, l_1001, l_2400, l_3064, l_9999, l_10000, l_13849, l_16383, l_25173, l_65535, l_65536, l_99999, l_1000000000, neg_nI, pk_mul, nI_add, nI_subL, tn_nI, inb_t, grd_true, bnd_some, elS_l, elS_r, nI_ltI, nI_leI, nI_inj, fa_and, fa_or, m1_eq, eq_m1, m1_lt, m1_le, lt_m1, le_m1, m1_lt0, up2_at, up2_no, ite_true, ite_false, if_true, if_false, Bool.false_eq_true, reduceIte, reduceCtorEq, not_true_eq_false, not_false_eq_true, eq_self, decide_true, decide_false, le_tt, le_ff, lt_tt, lt_ff, eq_ff, and_true, true_and, and_false, false_and, or_true, true_or, or_false, false_or, ne_eq, decide_eq_true_eq, decide_eq_false_iff_not, Bool.not_true, Bool.not_false, Bool.and_true, Bool.true_and, Bool.and_false, Bool.false_and, gs_at, gs_no, oI_n, oI_s, h1, hit]
      | some d =>
        rw [hag] at hit
        have := ag_lt hag
        simp (disch := omega) only [l_0, l_1, l_2, l_3, l_4, l_5, l_6, l_7, l_8, l_9, l_10, l_11, l_12, l_13, l_14, l_16, l_20, l_21, l_23, l_24, l_30, l_32, l_40, l_41, l_44, l_48, l_57, l_59, l_60, l_63, l_64, l_80, l_84, l_96, l_97, l_99, l_120, l_122, l_127, l_200, l_240, l_255, l_840, l_999, l_1000, l_1001, l_2400, l_3064, l_9999, l_10000, l_13849, l_16383, l_25173, l_65535, l_65536, l_99999, l_1000000000, neg_nI, pk_mul, nI_add, nI_subL, tn_nI, inb_t, grd_true, bnd_some, elS_l, elS_r, nI_ltI, nI_leI, nI_inj, fa_and, fa_or, m1_eq, eq_m1, m1_lt, m1_le, lt_m1, le_m1, m1_lt0, up2_at, up2_no, ite_true, ite_false, if_true, if_false, Bool.false_eq_true, reduceIte, reduceCtorEq, not_true_eq_false, not_false_eq_true, eq_self, decide_true, decide_false, le_tt, le_ff, lt_tt, lt_ff, eq_ff, and_true, true_and, and_false, false_and, or_true, true_or, or_false, false_or, ne_eq, decide_eq_true_eq, decide_eq_false_iff_not, Bool.not_true, Bool.not_false, Bool.and_true, Bool.true_and, Bool.and_false, Bool.false_and, gs_at, gs_no, oI_n, oI_s, h1, hit, one_shl, lor_e]
    · rintro ⟨s1, s2⟩ e
      cases e
      refine ⟨_, ?_, rfl⟩
      show St_witnesses_b5 n s (nI l) (nI v) M _ (nI (g 1 + 1 - v)) = _
      unfold St_witnesses_b5
      simp (disch := omega) only [l_0, l_1, l_2, l_3, l_4, l_5, l_6, l_7, l_8, l_9, l_10, l_11, l_12, l_13, l_14, l_16, l_20, l_21, l_23, l_24, l_30, l_32, l_40, l_41, l_44, l_48, l_57, l_59, l_60, l_63, l_64, l_80, l_84, l_96, l_97, l_99, l_120, l_122, l_127, l_200, l_240, l_255, l_840, l_999, l_1000, l_1001, l_2400, l_3064, l_9999, l_10000, l_13849, l_16383, l_25173, l_65535, l_65536, l_99999, l_1000000000, neg_nI, pk_mul, nI_add, nI_subL, tn_nI, inb_t, grd_true, bnd_some, elS_l, elS_r, nI_ltI, nI_leI, nI_inj, fa_and, fa_or, m1_eq, eq_m1, m1_lt, m1_le, lt_m1, le_m1, m1_lt0, up2_at, up2_no, ite_true, ite_false, if_true, if_false, Bool.false_eq_true, reduceIte, reduceCtorEq, not_true_eq_false, not_false_eq_true, eq_self, decide_true, decide_false, le_tt, le_ff, lt_tt, lt_ff, eq_ff, and_true, true_and, and_false, false_and, or_true, true_or, or_false, false_or, ne_eq, decide_eq_true_eq, decide_eq_false_iff_not, Bool.not_true, Bool.not_false, Bool.and_true, Bool.true_and, Bool.and_false, Bool.false_and, gs_at, gs_no, oI_n, oI_s, h1]
  obtain ⟨r, r1, r2⟩ := hlp
  unfold St_witnesses
  rw [show (0 : Int64) = lN 0 from rfl, l_0, r1, r2]
  rfl
theorem pth_up {g : Nat → Nat} {goal : Nat} : ∀ k v seen e, (∀ b, e.2.2.2.testBit b = true → (g 12).testBit b = true) → ∀ y, y ∈ pthW (chM g) (lenG g) goal k v seen e → ∀ b, y.2.2.2.testBit b = true → (g 12).testBit b = true
  | 0, v, seen, e, h, y, hy => by
    unfold pthW at hy
    by_cases q : v = goal
    · rw [if_pos q, List.mem_singleton] at hy; rw [hy]; exact h
    · rw [if_neg q] at hy; cases hy
  | k + 1, v, seen, e, h, y, hy => by
    unfold pthW at hy
    by_cases q : v = goal
    · rw [if_pos q, List.mem_singleton] at hy; rw [hy]; exact h
    · rw [if_neg q, List.mem_flatMap] at hy
      obtain ⟨p, hp, hy⟩ := hy
      by_cases q2 : seen.testBit p.1 = true
      · rw [if_pos q2] at hy; cases hy
      · rw [if_neg q2] at hy
        obtain ⟨h1, h2, h3⟩ := chL_mem.mp hp
        refine pth_up k _ _ _ (fun b hb => ?_) y hy
        unfold extW at hb
        simp only at hb
        rw [Nat.testBit_or, Bool.or_eq_true] at hb
        rcases hb with w | w
        · exact h b w
        · rw [Nat.testBit_two_pow] at w
          have e := of_decide_eq_true w
          rw [← e]
          exact (byd_some h3).1
theorem ways_up {a b k : Nat} (hN : NV g) (ha : a < g 0) (hk : k < (waysG g a b).length) : wkO (waysG g a b) k &&& g 12 = wkO (waysG g a b) k := by
  obtain ⟨w1, w2, w3, e, e1, e2, e3, e4, e5⟩ := ways_at hN ha hk
  have hm := List.mem_of_getElem? e1
  unfold waysG at hm
  have hu : ∀ i, (wkO (waysG g a b) k).testBit i = true → (g 12).testBit i = true := by
    rw [← e3]
    rcases fold_mem hm with q | q
    · cases q
    · exact pth_up _ _ _ _ (fun b hb => by simp at hb) e q
  apply Nat.eq_of_testBit_eq
  intro i
  rw [Nat.testBit_and]
  cases h : (wkO (waysG g a b) k).testBit i with
  | false => rfl
  | true => rw [hu i h]; rfl
end
def wtN (g : Nat → Nat) (L : List We) (r : Nat) : Nat → Nat
  | 0 => 0
  | k + 1 => match wdS g r (wlO L k) with | none => wtN g L r k | some v => wsN g (wkO L k) v (wtN g L r k) (g 1 + 1 - v)
def caN (g : Nat → Nat) (L : List We) (r : Nat) : Nat → Nat
  | 0 => 0
  | k + 1 => match wdS g r (wlO L k) with | none => caN g L r k | some _ => 1
def shA (g : Nat → Nat) (L : List We) (r st : Nat) : Nat → Nat
  | 0 => st
  | k + 1 => match wdS g r (wlO L k) with | none => shA g L r st k | some _ => shA g L r st k &&& wkO L k
theorem wt_s {g : Nat → Nat} {L : List We} {r k : Nat} : wtN g L r (k + 1) = match wdS g r (wlO L k) with | none => wtN g L r k | some v => wsN g (wkO L k) v (wtN g L r k) (g 1 + 1 - v) := rfl
theorem ca_s {g : Nat → Nat} {L : List We} {r k : Nat} : caN g L r (k + 1) = match wdS g r (wlO L k) with | none => caN g L r k | some _ => 1 := rfl
theorem sh_s {g : Nat → Nat} {L : List We} {r st k : Nat} : shA g L r st (k + 1) = match wdS g r (wlO L k) with | none => shA g L r st k | some _ => shA g L r st k &&& wkO L k := rfl
theorem wt_lt {g : Nat → Nat} {L : List We} {r : Nat} (h40 : g 7 ≤ 40) : ∀ k, wtN g L r k < 2 ^ 40
  | 0 => Nat.two_pow_pos 40
  | k + 1 => by
    unfold wtN
    cases wdS g r (wlO L k) with
    | none => exact wt_lt h40 k
    | some v => exact ws_lt h40 (wt_lt h40 k) _
theorem ca_le {g : Nat → Nat} {L : List We} {r : Nat} : ∀ k, caN g L r k ≤ 1
  | 0 => Nat.zero_le _
  | k + 1 => by
    unfold caN
    cases wdS g r (wlO L k) with
    | none => exact ca_le k
    | some v => exact Nat.le_refl _
theorem sh_lt {g : Nat → Nat} {L : List We} {r st : Nat} (h : st < 1048576) : ∀ k, shA g L r st k < 1048576
  | 0 => h
  | k + 1 => by
    unfold shA
    cases wdS g r (wlO L k) with
    | none => exact sh_lt h k
    | some v => exact Nat.lt_of_le_of_lt Nat.and_le_left (sh_lt h k)
theorem sh_eq {g : Nat → Nat} {a b r : Nat} (hN : NV g) (ha : a < g 0) : ∀ k, k ≤ (waysG g a b).length → shA g (waysG g a b) r (g 12) k = shA g (waysG g a b) r 16383 k &&& g 12 ∧ (caN g (waysG g a b) r k = 1 → shA g (waysG g a b) r 16383 k &&& g 12 = shA g (waysG g a b) r 16383 k)
  | 0, _ => by
    have b1 := hN.1
    have : g 12 < 2 ^ 14 := Nat.lt_of_lt_of_le b1.2.2.2.2.2.2 (Nat.pow_le_pow_right (by decide) b1.2.2.2.2.2.1)
    refine ⟨?_, fun h => by cases h⟩
    show g 12 = 16383 &&& g 12
    rw [Nat.and_comm, show 16383 = 2 ^ 14 - 1 from rfl, Nat.and_two_pow_sub_one_eq_mod, Nat.mod_eq_of_lt this]
  | k + 1, hk => by
    obtain ⟨h1, h2⟩ := sh_eq (b := b) (r := r) hN ha k (by omega)
    have hu := ways_up (b := b) hN ha (k := k) (by omega)
    rw [sh_s, sh_s, ca_s]
    cases wdS g r (wlO (waysG g a b) k) with
    | none => exact ⟨h1, h2⟩
    | some v =>
      simp only
      refine ⟨?_, fun _ => ?_⟩
      · rw [h1, Nat.and_assoc, Nat.and_assoc, Nat.and_comm (g 12)]
      · rw [Nat.and_assoc, hu]
def blA (g : Nat → Nat) (L : List We) (p : Option (Nat × Nat × Nat × Nat)) (r w : Nat) : Int32 := if w = 0 then (if p.isSome = true then nI 0 else nI 1) else if caN g L r L.length = 0 then ng 4 else if w = 1 then nI (pcN (wtN g L r L.length)) else nI (shA g L r 16383 L.length)
theorem op_blocked {n : Nat} (hn : 1099511627776 < n) (x y z u : Int32) : T2 (Fg_blocked n x y z u) (Fm_blocked n x y z u) := by
  refine T2.id (fun g hg => ?_)
  have hG := hg.1.1
  have h40 := hg.2.2
  have b1 := hg.1.2.1.1
  have g12 := hG.1 12
  by_cases hx : (plB (g 0) x y && rg z 1 64 && rg u 0 2) = true
  · rw [Bool.and_eq_true, Bool.and_eq_true] at hx
    obtain ⟨a, b, ha, hb, hab, rfl, rfl⟩ := (pl_iff (by omega)).mp hx.1.1
    obtain ⟨r, r1, r2, rfl⟩ := (rg_iff (by decide)).mp hx.1.2
    obtain ⟨w, _, hw, rfl⟩ := (rg_iff (by decide)).mp hx.2
    have hl4 := ways_len (g := g) (a := a) (b := b)
    refine ⟨blA g (waysG g a b) (fdW g a b r 0) r w, fun M hS hA => ?_, fun M h hF => ?_⟩
    · by_cases h0 : w = 0
      · subst h0
        obtain ⟨M2, c1, c2, c3, c4⟩ := find_c hg.1 hS.1 hS.2.2.2 hA (by omega) (n := n) (by omega) ha hb hab r1 r2 (rule := 0) (by omega)
        refine ⟨M2, ?_, hS.fr c4 (fun k j hk => by unfold fp_Fi_find; omega), c3, c4.mono (fun c j q => by unfold fp_Fi_find at q; unfold PC; omega)⟩
        unfold Fg_blocked blA
        rw [Fg_isWish_e (hS.1.1.1 0 (by omega)) (by omega), hx.1.1, hx.1.2]
        simp (disch := omega) only [l_0, l_1, l_2, l_3, l_4, l_5, l_6, l_7, l_8, l_9, l_10, l_11, l_12, l_13, l_14, l_16, l_20, l_21, l_23, l_24, l_30, l_32, l_40, l_41, l_44, l_48, l_57, l_59, l_60, l_63, l_64, l_80, l_84, l_96, l_97, l_99, l_120, l_122, l_127, l_200, l_240, l_255, l_840, l_999, l_1000, l_1001, l_2400, l_3064, l_9999, l_10000, l_13849, l_16383, l_25173, l_65535, l_65536, l_99999, l_1000000000, neg_nI, pk_mul, nI_add, nI_subL, tn_nI, inb_t, grd_true, bnd_some, elS_l, elS_r, nI_ltI, nI_leI, nI_inj, fa_and, fa_or, m1_eq, eq_m1, m1_lt, m1_le, lt_m1, le_m1, m1_lt0, up2_at, up2_no, ite_true, ite_false, if_true, if_false, Bool.false_eq_true, reduceIte, reduceCtorEq, not_true_eq_false, not_false_eq_true, eq_self, decide_true, decide_false, le_tt, le_ff, lt_tt, lt_ff, eq_ff, and_true, true_and, and_false, false_and, or_true, true_or, or_false, false_or, ne_eq, decide_eq_true_eq, decide_eq_false_iff_not, Bool.not_true, Bool.not_false, Bool.and_true, Bool.true_and, Bool.and_false, Bool.false_and, gs_at, gs_no, oI_n, oI_s, c1]
        cases (fdW g a b r 0).isSome <;> rfl
      · obtain ⟨M', p1, p2, p3, p4, p5, p6⟩ := pair_c hg hS hA (n := n) (by omega) ha hb hab
        refine ⟨M', ?_, p2, p3, p6⟩
        have hlp : ∃ q, loop (fun s1 : Int32 × Int32 × Int64 × Int32 => Fg_blocked_b84 n (nI r) (nI (a * 8 + b)) M' s1.1 s1.2.1 s1.2.2.1 s1.2.2.2) n (nI 0, nI 16383, lN 0, nI 0) = some q ∧ q = (nI (caN g (waysG g a b) r (waysG g a b).length), nI (shA g (waysG g a b) r 16383 (waysG g a b).length), lN (wtN g (waysG g a b) r (waysG g a b).length)) := by
          refine loop_I0 (fun i (st : Int32 × Int32 × Int64 × Int32) => st = (nI (caN g (waysG g a b) r i), nI (shA g (waysG g a b) r 16383 i), lN (wtN g (waysG g a b) r i), nI i)) _ (waysG g a b).length rfl (by omega) ?_ ?_
          · rintro i ⟨s1, s2, s3, s4⟩ hi e
            cases e
            left
            refine ⟨(nI (caN g (waysG g a b) r (i + 1)), nI (shA g (waysG g a b) r 16383 (i + 1)), lN (wtN g (waysG g a b) r (i + 1)), nI (i + 1)), ?_, rfl⟩
            show Fg_blocked_b84 n (nI r) (nI (a * 8 + b)) M' (nI (caN g (waysG g a b) r i)) (nI (shA g (waysG g a b) r 16383 i)) (lN (wtN g (waysG g a b) r i)) (nI i) = _
            obtain ⟨q1, q2⟩ := p5 i hi
            obtain ⟨w1, w2, w3, e, _⟩ := ways_at (b := b) hg.1.2.1 ha (k := i) hi
            have hwd : Nt_widthOf n 19 (nI r) (nI (wlO (waysG g a b) i)) M' = some (wI (wdS g r (wlO (waysG g a b) i))) := Nt_widthOf_e hG p2.1.1 w1 (by omega) (by omega)
            rw [ca_s, sh_s, wt_s]
            unfold Fg_blocked_b84 Fg_blocked_j184
            cases hv : wdS g r (wlO (waysG g a b) i) with
            | none =>
              rw [hv, show wI none = nI 0 from rfl] at hwd
              simp (disch := omega) only [l_0, l_1, l_2, l_3, l_4, l_5, l_6, l_7, l_8, l_9, l_10, l_11, l_12, l_13, l_14, l_16, l_20, l_21, l_23, l_24, l_30, l_32, l_40, l_41, l_44, l_48, l_57, l_59, l_60, l_63, l_64, l_80, l_84, l_96, l_97, l_99, l_120, l_122, l_127, l_200, l_240, l_255, l_840, l_999, l_1000, l_1001, l_2400, l_3064, l_9999, l_10000, l_13849, l_16383, l_25173, l_65535, l_65536, l_99999, l_1000000000, neg_nI, pk_mul, nI_add, nI_subL, tn_nI, inb_t, grd_true, bnd_some, elS_l, elS_r, nI_ltI, nI_leI, nI_inj, fa_and, fa_or, m1_eq, eq_m1, m1_lt, m1_le, lt_m1, le_m1, m1_lt0, up2_at, up2_no, ite_true, ite_false, if_true, if_false, Bool.false_eq_true, reduceIte, reduceCtorEq, not_true_eq_false, not_false_eq_true, eq_self, decide_true, decide_false, le_tt, le_ff, lt_tt, lt_ff, eq_ff, and_true, true_and, and_false, false_and, or_true, true_or, or_false, false_or, ne_eq, decide_eq_true_eq, decide_eq_false_iff_not, Bool.not_true, Bool.not_false, Bool.and_true, Bool.true_and, Bool.and_false, Bool.false_and, gs_at, gs_no, oI_n, oI_s, p4, q1, q2, hwd]
            | some v =>
              rw [hv, show wI (some v) = nI v from rfl] at hwd
              have hvp := wdS_pos hv r1
              have hws : St_witnesses n 18 (nI (wkO (waysG g a b) i)) (nI v) M' = some (lN (wsN g (wkO (waysG g a b) i) v 0 (g 1 + 1 - v))) := St_witnesses_e hg p2 hvp.1 (by omega) (by omega)
              simp only
              rw [ws_or (set := wtN g (waysG g a b) r i)]
              simp (disch := omega) only [l_0, l_1, l_2, l_3, l_4, l_5, l_6, l_7, l_8, l_9, l_10, l_11, l_12, l_13, l_14, l_16, l_20, l_21, l_23, l_24, l_30, l_32, l_40, l_41, l_44, l_48, l_57, l_59, l_60, l_63, l_64, l_80, l_84, l_96, l_97, l_99, l_120, l_122, l_127, l_200, l_240, l_255, l_840, l_999, l_1000, l_1001, l_2400, l_3064, l_9999, l_10000, l_13849, l_16383, l_25173, l_65535, l_65536, l_99999, l_1000000000, neg_nI, pk_mul, nI_add, nI_subL, tn_nI, inb_t, grd_true, bnd_some, elS_l, elS_r, nI_ltI, nI_leI, nI_inj, fa_and, fa_or, m1_eq, eq_m1, m1_lt, m1_le, lt_m1, le_m1, m1_lt0, up2_at, up2_no, ite_true, ite_false, if_true, if_false, Bool.false_eq_true, reduceIte, reduceCtorEq, not_true_eq_false, not_false_eq_true, eq_self, decide_true, decide_false, le_tt, le_ff, lt_tt, lt_ff, eq_ff, and_true, true_and, and_false, false_and, or_true, true_or, or_false, false_or, ne_eq, decide_eq_true_eq, decide_eq_false_iff_not, Bool.not_true, Bool.not_false, Bool.and_true, Bool.true_and, Bool.and_false, Bool.false_and, gs_at, gs_no, oI_n, oI_s, p4, q1, q2, hwd, hws, lor_e]
          · rintro ⟨s1, s2, s3, s4⟩ e
            cases e
            refine ⟨_, ?_, rfl⟩
            show Fg_blocked_b84 n (nI r) (nI (a * 8 + b)) M' _ _ _ (nI (waysG g a b).length) = _
            unfold Fg_blocked_b84
            simp (disch := omega) only [l_0, l_1, l_2, l_3, l_4, l_5, l_6, l_7, l_8, l_9, l_10, l_11, l_12, l_13, l_14, l_16, l_20, l_21, l_23, l_24, l_30, l_32, l_40, l_41, l_44, l_48, l_57, l_59, l_60, l_63, l_64, l_80, l_84, l_96, l_97, l_99, l_120, l_122, l_127, l_200, l_240, l_255, l_840, l_999, l_1000, l_1001, l_2400, l_3064, l_9999, l_10000, l_13849, l_16383, l_25173, l_65535, l_65536, l_99999, l_1000000000, neg_nI, pk_mul, nI_add, nI_subL, tn_nI, inb_t, grd_true, bnd_some, elS_l, elS_r, nI_ltI, nI_leI, nI_inj, fa_and, fa_or, m1_eq, eq_m1, m1_lt, m1_le, lt_m1, le_m1, m1_lt0, up2_at, up2_no, ite_true, ite_false, if_true, if_false, Bool.false_eq_true, reduceIte, reduceCtorEq, not_true_eq_false, not_false_eq_true, eq_self, decide_true, decide_false, le_tt, le_ff, lt_tt, lt_ff, eq_ff, and_true, true_and, and_false, false_and, or_true, true_or, or_false, false_or, ne_eq, decide_eq_true_eq, decide_eq_false_iff_not, Bool.not_true, Bool.not_false, Bool.and_true, Bool.true_and, Bool.and_false, Bool.false_and, gs_at, gs_no, oI_n, oI_s, p4]
        obtain ⟨q, l1, l2⟩ := hlp
        have hca := ca_le (g := g) (L := waysG g a b) (r := r) (waysG g a b).length
        have hwt := wt_lt (L := waysG g a b) (r := r) h40 (waysG g a b).length
        unfold Fg_blocked blA
        rw [Fg_isWish_e (hS.1.1.1 0 (by omega)) (by omega), hx.1.1, hx.1.2, show (0 : Int64) = lN 0 from rfl]
        simp (disch := omega) only [l_0, l_1, l_2, l_3, l_4, l_5, l_6, l_7, l_8, l_9, l_10, l_11, l_12, l_13, l_14, l_16, l_20, l_21, l_23, l_24, l_30, l_32, l_40, l_41, l_44, l_48, l_57, l_59, l_60, l_63, l_64, l_80, l_84, l_96, l_97, l_99, l_120, l_122, l_127, l_200, l_240, l_255, l_840, l_999, l_1000, l_1001, l_2400, l_3064, l_9999, l_10000, l_13849, l_16383, l_25173, l_65535, l_65536, l_99999, l_1000000000, neg_nI, pk_mul, nI_add, nI_subL, tn_nI, inb_t, grd_true, bnd_some, elS_l, elS_r, nI_ltI, nI_leI, nI_inj, fa_and, fa_or, m1_eq, eq_m1, m1_lt, m1_le, lt_m1, le_m1, m1_lt0, up2_at, up2_no, ite_true, ite_false, if_true, if_false, Bool.false_eq_true, reduceIte, reduceCtorEq, not_true_eq_false, not_false_eq_true, eq_self, decide_true, decide_false, le_tt, le_ff, lt_tt, lt_ff, eq_ff, and_true, true_and, and_false, false_and, or_true, true_or, or_false, false_or, ne_eq, decide_eq_true_eq, decide_eq_false_iff_not, Bool.not_true, Bool.not_false, Bool.and_true, Bool.true_and, Bool.and_false, Bool.false_and, gs_at, gs_no, oI_n, oI_s, h0, p1, l1, l2]
        by_cases hc : caN g (waysG g a b) r (waysG g a b).length = 0
        · simp (disch := omega) only [l_0, l_1, l_2, l_3, l_4, l_5, l_6, l_7, l_8, l_9, l_10, l_11, l_12, l_13, l_14, l_16, l_20, l_21, l_23, l_24, l_30, l_32, l_40, l_41, l_44, l_48, l_57, l_59, l_60, l_63, l_64, l_80, l_84, l_96, l_97, l_99, l_120, l_122, l_127, l_200, l_240, l_255, l_840, l_999, l_1000, l_1001, l_2400, l_3064, l_9999, l_10000, l_13849, l_16383, l_25173, l_65535, l_65536, l_99999, l_1000000000, neg_nI, pk_mul, nI_add, nI_subL, tn_nI, inb_t, grd_true, bnd_some, elS_l, elS_r, nI_ltI, nI_leI, nI_inj, fa_and, fa_or, m1_eq, eq_m1, m1_lt, m1_le, lt_m1, le_m1, m1_lt0, up2_at, up2_no, ite_true, ite_false, if_true, if_false, Bool.false_eq_true, reduceIte, reduceCtorEq, not_true_eq_false, not_false_eq_true, eq_self, decide_true, decide_false, le_tt, le_ff, lt_tt, lt_ff, eq_ff, and_true, true_and, and_false, false_and, or_true, true_or, or_false, false_or, ne_eq, decide_eq_true_eq, decide_eq_false_iff_not, Bool.not_true, Bool.not_false, Bool.and_true, Bool.true_and, Bool.and_false, Bool.false_and, gs_at, gs_no, oI_n, oI_s, hc]
        · by_cases h1 : w = 1
          · simp (disch := omega) only [l_0, l_1, l_2, l_3, l_4, l_5, l_6, l_7, l_8, l_9, l_10, l_11, l_12, l_13, l_14, l_16, l_20, l_21, l_23, l_24, l_30, l_32, l_40, l_41, l_44, l_48, l_57, l_59, l_60, l_63, l_64, l_80, l_84, l_96, l_97, l_99, l_120, l_122, l_127, l_200, l_240, l_255, l_840, l_999, l_1000, l_1001, l_2400, l_3064, l_9999, l_10000, l_13849, l_16383, l_25173, l_65535, l_65536, l_99999, l_1000000000, neg_nI, pk_mul, nI_add, nI_subL, tn_nI, inb_t, grd_true, bnd_some, elS_l, elS_r, nI_ltI, nI_leI, nI_inj, fa_and, fa_or, m1_eq, eq_m1, m1_lt, m1_le, lt_m1, le_m1, m1_lt0, up2_at, up2_no, ite_true, ite_false, if_true, if_false, Bool.false_eq_true, reduceIte, reduceCtorEq, not_true_eq_false, not_false_eq_true, eq_self, decide_true, decide_false, le_tt, le_ff, lt_tt, lt_ff, eq_ff, and_true, true_and, and_false, false_and, or_true, true_or, or_false, false_or, ne_eq, decide_eq_true_eq, decide_eq_false_iff_not, Bool.not_true, Bool.not_false, Bool.and_true, Bool.true_and, Bool.and_false, Bool.false_and, gs_at, gs_no, oI_n, oI_s, hc, h1, Jl_bitCount_e (Nat.lt_trans hwt (show 2 ^ 40 < 2 ^ 64 by decide))]
          · simp (disch := omega) only [l_0, l_1, l_2, l_3, l_4, l_5, l_6, l_7, l_8, l_9, l_10, l_11, l_12, l_13, l_14, l_16, l_20, l_21, l_23, l_24, l_30, l_32, l_40, l_41, l_44, l_48, l_57, l_59, l_60, l_63, l_64, l_80, l_84, l_96, l_97, l_99, l_120, l_122, l_127, l_200, l_240, l_255, l_840, l_999, l_1000, l_1001, l_2400, l_3064, l_9999, l_10000, l_13849, l_16383, l_25173, l_65535, l_65536, l_99999, l_1000000000, neg_nI, pk_mul, nI_add, nI_subL, tn_nI, inb_t, grd_true, bnd_some, elS_l, elS_r, nI_ltI, nI_leI, nI_inj, fa_and, fa_or, m1_eq, eq_m1, m1_lt, m1_le, lt_m1, le_m1, m1_lt0, up2_at, up2_no, ite_true, ite_false, if_true, if_false, Bool.false_eq_true, reduceIte, reduceCtorEq, not_true_eq_false, not_false_eq_true, eq_self, decide_true, decide_false, le_tt, le_ff, lt_tt, lt_ff, eq_ff, and_true, true_and, and_false, false_and, or_true, true_or, or_false, false_or, ne_eq, decide_eq_true_eq, decide_eq_false_iff_not, Bool.not_true, Bool.not_false, Bool.and_true, Bool.true_and, Bool.and_false, Bool.false_and, gs_at, gs_no, oI_n, oI_s, hc, h1]
    · obtain ⟨M', p1, p2, p3, p4, p5⟩ := pair_m hg hF hn ha hb hab
      by_cases h0 : w = 0
      · subst h0
        obtain ⟨hG', hN, hNU, hL, hO⟩ := hg.1
        obtain ⟨M2, c1, c2, c3⟩ := Fm_finds_e (n := n) (rate := r) (rule := 0) hG hN hL (c := (waysG g a b).length) (wl := wlO (waysG g a b)) (wk := wkO (waysG g a b)) (M := M') ⟨p2.FR hG, p3⟩ (by omega) (by omega) r1 r2
        refine TM.mk (M2 := M2) (P := PM) ?_ (p2.fr c3 (fun j => by unfold fp_Fm_finds; omega)) (p5.tr (c3.mono (fun c j q => by unfold fp_Fm_finds at q; unfold PM; omega))) (fun c j q => q)
        unfold Fm_blocked blA
        rw [Fm_areNodes_e (hF.lo (by omega)) (by omega), hx.1.1, Fm_isRate_e, hx.1.2, l_0, l_2, Fm_in_x (by decide) (by decide), hx.2]
        rw [show fdG g (wlO (waysG g a b)) (wkO (waysG g a b)) r 0 (waysG g a b).length = fdW g a b r 0 from rfl] at c1
        simp (disch := omega) only [l_0, l_1, l_2, l_3, l_4, l_5, l_6, l_7, l_8, l_9, l_10, l_11, l_12, l_13, l_14, l_16, l_20, l_21, l_23, l_24, l_30, l_32, l_40, l_41, l_44, l_48, l_57, l_59, l_60, l_63, l_64, l_80, l_84, l_96, l_97, l_99, l_120, l_122, l_127, l_200, l_240, l_255, l_840, l_999, l_1000, l_1001, l_2400, l_3064, l_9999, l_10000, l_13849, l_16383, l_25173, l_65535, l_65536, l_99999, l_1000000000, neg_nI, pk_mul, nI_add, nI_subL, tn_nI, inb_t, grd_true, bnd_some, elS_l, elS_r, nI_ltI, nI_leI, nI_inj, fa_and, fa_or, m1_eq, eq_m1, m1_lt, m1_le, lt_m1, le_m1, m1_lt0, up2_at, up2_no, ite_true, ite_false, if_true, if_false, Bool.false_eq_true, reduceIte, reduceCtorEq, not_true_eq_false, not_false_eq_true, eq_self, decide_true, decide_false, le_tt, le_ff, lt_tt, lt_ff, eq_ff, and_true, true_and, and_false, false_and, or_true, true_or, or_false, false_or, ne_eq, decide_eq_true_eq, decide_eq_false_iff_not, Bool.not_true, Bool.not_false, Bool.and_true, Bool.true_and, Bool.and_false, Bool.false_and, gs_at, gs_no, oI_n, oI_s, p1, c1]
        cases (fdW g a b r 0).isSome <;> rfl
      · refine TM.mk ?_ p2 p5 (fun c j q => q)
        have h12 : M'.1 95 12 = nI (g 12) := p2.lo (by omega)
        have h1 : M'.1 95 1 = nI (g 1) := p2.lo (by omega)
        have hwd : ∀ k, k < (waysG g a b).length → Fm_widthOn n (nI k) (nI r) M' = some (oI (wdS g r (wlO (waysG g a b) k))) := fun k hk => Fm_widthOn_e (p2.FR hG) hG p3 hk (by omega) (by omega)
        have hlp : ∃ q, loop (fun s1 : Int32 × Int32 × Int32 => Fm_blocked_b69 n (nI r) M' s1.1 s1.2.1 s1.2.2) n (nI (g 12), nI 0, nI 0) = some q ∧ q = (nI (shA g (waysG g a b) r (g 12) (waysG g a b).length), nI (caN g (waysG g a b) r (waysG g a b).length)) := by
          refine loop_I0 (fun i (st : Int32 × Int32 × Int32) => st = (nI (shA g (waysG g a b) r (g 12) i), nI (caN g (waysG g a b) r i), nI i)) _ (waysG g a b).length rfl (by omega) ?_ ?_
          · rintro i ⟨s1, s2, s3⟩ hi e
            cases e
            left
            refine ⟨(nI (shA g (waysG g a b) r (g 12) (i + 1)), nI (caN g (waysG g a b) r (i + 1)), nI (i + 1)), ?_, rfl⟩
            show Fm_blocked_b69 n (nI r) M' (nI (shA g (waysG g a b) r (g 12) i)) (nI (caN g (waysG g a b) r i)) (nI i) = _
            obtain ⟨q1, q2, q3, q4⟩ := p3.2.2 i hi
            have hwi := hwd i hi
            rw [ca_s, sh_s]
            unfold Fm_blocked_b69 Fm_blocked_j107
            cases hv : wdS g r (wlO (waysG g a b) i) with
            | none =>
              rw [hv] at hwi
              simp (disch := omega) only [l_0, l_1, l_2, l_3, l_4, l_5, l_6, l_7, l_8, l_9, l_10, l_11, l_12, l_13, l_14, l_16, l_20, l_21, l_23, l_24, l_30, l_32, l_40, l_41, l_44, l_48, l_57, l_59, l_60, l_63, l_64, l_80, l_84, l_96, l_97, l_99, l_120, l_122, l_127, l_200, l_240, l_255, l_840, l_999, l_1000, l_1001, l_2400, l_3064, l_9999, l_10000, l_13849, l_16383, l_25173, l_65535, l_65536, l_99999, l_1000000000, neg_nI, pk_mul, nI_add, nI_subL, tn_nI, inb_t, grd_true, bnd_some, elS_l, elS_r, nI_ltI, nI_leI, nI_inj, fa_and, fa_or, m1_eq, eq_m1, m1_lt, m1_le, lt_m1, le_m1, m1_lt0, up2_at, up2_no, ite_true, ite_false, if_true, if_false, Bool.false_eq_true, reduceIte, reduceCtorEq, not_true_eq_false, not_false_eq_true, eq_self, decide_true, decide_false, le_tt, le_ff, lt_tt, lt_ff, eq_ff, and_true, true_and, and_false, false_and, or_true, true_or, or_false, false_or, ne_eq, decide_eq_true_eq, decide_eq_false_iff_not, Bool.not_true, Bool.not_false, Bool.and_true, Bool.true_and, Bool.and_false, Bool.false_and, gs_at, gs_no, oI_n, oI_s, p3.1, hwi]
            | some v =>
              rw [hv] at hwi
              have hvp := wdS_pos hv r1
              simp (disch := omega) only [l_0, l_1, l_2, l_3, l_4, l_5, l_6, l_7, l_8, l_9, l_10, l_11, l_12, l_13, l_14, l_16, l_20, l_21, l_23, l_24, l_30, l_32, l_40, l_41, l_44, l_48, l_57, l_59, l_60, l_63, l_64, l_80, l_84, l_96, l_97, l_99, l_120, l_122, l_127, l_200, l_240, l_255, l_840, l_999, l_1000, l_1001, l_2400, l_3064, l_9999, l_10000, l_13849, l_16383, l_25173, l_65535, l_65536, l_99999, l_1000000000, neg_nI, pk_mul, nI_add, nI_subL, tn_nI, inb_t, grd_true, bnd_some, elS_l, elS_r, nI_ltI, nI_leI, nI_inj, fa_and, fa_or, m1_eq, eq_m1, m1_lt, m1_le, lt_m1, le_m1, m1_lt0, up2_at, up2_no, ite_true, ite_false, if_true, if_false, Bool.false_eq_true, reduceIte, reduceCtorEq, not_true_eq_false, not_false_eq_true, eq_self, decide_true, decide_false, le_tt, le_ff, lt_tt, lt_ff, eq_ff, and_true, true_and, and_false, false_and, or_true, true_or, or_false, false_or, ne_eq, decide_eq_true_eq, decide_eq_false_iff_not, Bool.not_true, Bool.not_false, Bool.and_true, Bool.true_and, Bool.and_false, Bool.false_and, gs_at, gs_no, oI_n, oI_s, p3.1, hwi, q2]
          · rintro ⟨s1, s2, s3⟩ e
            cases e
            refine ⟨_, ?_, rfl⟩
            show Fm_blocked_b69 n (nI r) M' _ _ (nI (waysG g a b).length) = _
            unfold Fm_blocked_b69
            simp (disch := omega) only [l_0, l_1, l_2, l_3, l_4, l_5, l_6, l_7, l_8, l_9, l_10, l_11, l_12, l_13, l_14, l_16, l_20, l_21, l_23, l_24, l_30, l_32, l_40, l_41, l_44, l_48, l_57, l_59, l_60, l_63, l_64, l_80, l_84, l_96, l_97, l_99, l_120, l_122, l_127, l_200, l_240, l_255, l_840, l_999, l_1000, l_1001, l_2400, l_3064, l_9999, l_10000, l_13849, l_16383, l_25173, l_65535, l_65536, l_99999, l_1000000000, neg_nI, pk_mul, nI_add, nI_subL, tn_nI, inb_t, grd_true, bnd_some, elS_l, elS_r, nI_ltI, nI_leI, nI_inj, fa_and, fa_or, m1_eq, eq_m1, m1_lt, m1_le, lt_m1, le_m1, m1_lt0, up2_at, up2_no, ite_true, ite_false, if_true, if_false, Bool.false_eq_true, reduceIte, reduceCtorEq, not_true_eq_false, not_false_eq_true, eq_self, decide_true, decide_false, le_tt, le_ff, lt_tt, lt_ff, eq_ff, and_true, true_and, and_false, false_and, or_true, true_or, or_false, false_or, ne_eq, decide_eq_true_eq, decide_eq_false_iff_not, Bool.not_true, Bool.not_false, Bool.and_true, Bool.true_and, Bool.and_false, Bool.false_and, gs_at, gs_no, oI_n, oI_s, p3.1]
        obtain ⟨q, l1, l2⟩ := hlp
        have hwt := wt_lt (L := waysG g a b) (r := r) h40 (waysG g a b).length
        have hwl : Fm_witnesses n (nI r) M' = some (nI (pcN (wtN g (waysG g a b) r (waysG g a b).length))) := by
          have hlw : ∃ q, loop (fun s1 : Int64 × Int32 => Fm_witnesses_b5 n (nI r) M' s1.1 s1.2) n (lN 0, nI 0) = some q ∧ q = lN (wtN g (waysG g a b) r (waysG g a b).length) := by
            refine loop_I0 (fun i (st : Int64 × Int32) => st = (lN (wtN g (waysG g a b) r i), nI i)) _ (waysG g a b).length rfl (by omega) ?_ ?_
            · rintro i ⟨s1, s2⟩ hi e
              cases e
              left
              refine ⟨(lN (wtN g (waysG g a b) r (i + 1)), nI (i + 1)), ?_, rfl⟩
              show Fm_witnesses_b5 n (nI r) M' (lN (wtN g (waysG g a b) r i)) (nI i) = _
              obtain ⟨q1, q2, q3, q4⟩ := p3.2.2 i hi
              have hwi := hwd i hi
              rw [wt_s]
              unfold Fm_witnesses_b5 Fm_witnesses_j83
              cases hv : wdS g r (wlO (waysG g a b) i) with
              | none =>
                rw [hv] at hwi
                have hin : loop (fun s1 : Int64 × Int32 => Fm_witnesses_b26 n (nI i) (ng 1) M' s1.1 s1.2) n (lN (wtN g (waysG g a b) r i), nI 0) = some (lN (wtN g (waysG g a b) r i)) := by
                  refine loop_inr ?_ (by omega)
                  show Fm_witnesses_b26 n (nI i) (ng 1) M' _ (nI 0) = _
                  unfold Fm_witnesses_b26
                  rw [if_pos (show ng 1 = (-1 : Int32) from rfl)]
                simp (disch := omega) only [l_0, l_1, l_2, l_3, l_4, l_5, l_6, l_7, l_8, l_9, l_10, l_11, l_12, l_13, l_14, l_16, l_20, l_21, l_23, l_24, l_30, l_32, l_40, l_41, l_44, l_48, l_57, l_59, l_60, l_63, l_64, l_80, l_84, l_96, l_97, l_99, l_120, l_122, l_127, l_200, l_240, l_255, l_840, l_999, l_1000, l_1001, l_2400, l_3064, l_9999, l_10000, l_13849, l_16383, l_25173, l_65535, l_65536, l_99999, l_1000000000, neg_nI, pk_mul, nI_add, nI_subL, tn_nI, inb_t, grd_true, bnd_some, elS_l, elS_r, nI_ltI, nI_leI, nI_inj, fa_and, fa_or, m1_eq, eq_m1, m1_lt, m1_le, lt_m1, le_m1, m1_lt0, up2_at, up2_no, ite_true, ite_false, if_true, if_false, Bool.false_eq_true, reduceIte, reduceCtorEq, not_true_eq_false, not_false_eq_true, eq_self, decide_true, decide_false, le_tt, le_ff, lt_tt, lt_ff, eq_ff, and_true, true_and, and_false, false_and, or_true, true_or, or_false, false_or, ne_eq, decide_eq_true_eq, decide_eq_false_iff_not, Bool.not_true, Bool.not_false, Bool.and_true, Bool.true_and, Bool.and_false, Bool.false_and, gs_at, gs_no, oI_n, oI_s, p3.1, hwi, hin]
              | some v =>
                rw [hv] at hwi
                have hvp := wdS_pos hv r1
                have hin : ∃ q, loop (fun s1 : Int64 × Int32 => Fm_witnesses_b26 n (nI i) (nI v) M' s1.1 s1.2) n (lN (wtN g (waysG g a b) r i), nI 0) = some q ∧ q = lN (wsN g (wkO (waysG g a b) i) v (wtN g (waysG g a b) r i) (g 1 + 1 - v)) := by
                  refine loop_I0 (fun j (st : Int64 × Int32) => st = (lN (wsN g (wkO (waysG g a b) i) v (wtN g (waysG g a b) r i) j), nI j)) _ (g 1 + 1 - v) rfl (by omega) ?_ ?_
                  · rintro j ⟨t1, t2⟩ hj e
                    cases e
                    left
                    refine ⟨(lN (wsN g (wkO (waysG g a b) i) v (wtN g (waysG g a b) r i) (j + 1)), nI (j + 1)), ?_, rfl⟩
                    show Fm_witnesses_b26 n (nI i) (nI v) M' (lN (wsN g (wkO (waysG g a b) i) v (wtN g (waysG g a b) r i) j)) (nI j) = _
                    have hag0 := Fm_against_e (p2.FR hG) hG (l := wkO (waysG g a b) i) (s := j) (v := v) (n := n) (but := none) (fun j q => by cases q) (by omega) (by omega) (by omega)
                    rw [oI_n] at hag0
                    rw [ws_s]
                    unfold Fm_witnesses_b26 Fm_witnesses_j77
                    cases hag : agS g (wkO (waysG g a b) i) j v none with
                    | none =>
                      rw [hag] at hag0
                      simp (disch := omega) only [l_0, l_1, l_2, l_3, l_4, l_5, l_6, l_7, l_8, l_9, l_10, l_11, l_12, l_13, l_14, l_16, l_20, l_21, l_23, l_24, l_30, l_32, l_40, l_41, l_44, l_48, l_57, l_59, l_60, l_63, l_64, l_80, l_84, l_96, l_97, l_99, l_120, l_122, l_127, l_200, l_240, l_255, l_840, l_999, l_1000, l_1001, l_2400, l_3064, l_9999, l_10000, l_13849, l_16383, l_25173, l_65535, l_65536, l_99999, l_1000000000, neg_nI, pk_mul, nI_add, nI_subL, tn_nI, inb_t, grd_true, bnd_some, elS_l, elS_r, nI_ltI, nI_leI, nI_inj, fa_and, fa_or, m1_eq, eq_m1, m1_lt, m1_le, lt_m1, le_m1, m1_lt0, up2_at, up2_no, ite_true, ite_false, if_true, if_false, Bool.false_eq_true, reduceIte, reduceCtorEq, not_true_eq_false, not_false_eq_true, eq_self, decide_true, decide_false, le_tt, le_ff, lt_tt, lt_ff, eq_ff, and_true, true_and, and_false, false_and, or_true, true_or, or_false, false_or, ne_eq, decide_eq_true_eq, decide_eq_false_iff_not, Bool.not_true, Bool.not_false, Bool.and_true, Bool.true_and, Bool.and_false, Bool.false_and, gs_at, gs_no, oI_n, oI_s, h1, q2, hag0]
                    | some d =>
                      rw [hag] at hag0
                      have := ag_lt hag
                      simp (disch := omega) only [l_0, l_1, l_2, l_3, l_4, l_5, l_6, l_7, l_8, l_9, l_10, l_11, l_12, l_13, l_14, l_16, l_20, l_21, l_23, l_24, l_30, l_32, l_40, l_41, l_44, l_48, l_57, l_59, l_60, l_63, l_64, l_80, l_84, l_96, l_97, l_99, l_120, l_122, l_127, l_200, l_240, l_255, l_840, l_999, l_1000, l_1001, l_2400, l_3064, l_9999, l_10000, l_13849, l_16383, l_25173, l_65535, l_65536, l_99999, l_1000000000, neg_nI, pk_mul, nI_add, nI_subL, tn_nI, inb_t, grd_true, bnd_some, elS_l, elS_r, nI_ltI, nI_leI, nI_inj, fa_and, fa_or, m1_eq, eq_m1, m1_lt, m1_le, lt_m1, le_m1, m1_lt0, up2_at, up2_no, ite_true, ite_false, if_true, if_false, Bool.false_eq_true, reduceIte, reduceCtorEq, not_true_eq_false, not_false_eq_true, eq_self, decide_true, decide_false, le_tt, le_ff, lt_tt, lt_ff, eq_ff, and_true, true_and, and_false, false_and, or_true, true_or, or_false, false_or, ne_eq, decide_eq_true_eq, decide_eq_false_iff_not, Bool.not_true, Bool.not_false, Bool.and_true, Bool.true_and, Bool.and_false, Bool.false_and, gs_at, gs_no, oI_n, oI_s, h1, q2, hag0, one_shl, lor_e]
                  · rintro ⟨t1, t2⟩ e
                    cases e
                    refine ⟨_, ?_, rfl⟩
                    show Fm_witnesses_b26 n (nI i) (nI v) M' _ (nI (g 1 + 1 - v)) = _
                    unfold Fm_witnesses_b26
                    simp (disch := omega) only [l_0, l_1, l_2, l_3, l_4, l_5, l_6, l_7, l_8, l_9, l_10, l_11, l_12, l_13, l_14, l_16, l_20, l_21, l_23, l_24, l_30, l_32, l_40, l_41, l_44, l_48, l_57, l_59, l_60, l_63, l_64, l_80, l_84, l_96, l_97, l_99, l_120, l_122, l_127, l_200, l_240, l_255, l_840, l_999, l_1000, l_1001, l_2400, l_3064, l_9999, l_10000, l_13849, l_16383, l_25173, l_65535, l_65536, l_99999, l_1000000000, neg_nI, pk_mul, nI_add, nI_subL, tn_nI, inb_t, grd_true, bnd_some, elS_l, elS_r, nI_ltI, nI_leI, nI_inj, fa_and, fa_or, m1_eq, eq_m1, m1_lt, m1_le, lt_m1, le_m1, m1_lt0, up2_at, up2_no, ite_true, ite_false, if_true, if_false, Bool.false_eq_true, reduceIte, reduceCtorEq, not_true_eq_false, not_false_eq_true, eq_self, decide_true, decide_false, le_tt, le_ff, lt_tt, lt_ff, eq_ff, and_true, true_and, and_false, false_and, or_true, true_or, or_false, false_or, ne_eq, decide_eq_true_eq, decide_eq_false_iff_not, Bool.not_true, Bool.not_false, Bool.and_true, Bool.true_and, Bool.and_false, Bool.false_and, gs_at, gs_no, oI_n, oI_s, h1]
                obtain ⟨q, m1, m2⟩ := hin
                simp (disch := omega) only [l_0, l_1, l_2, l_3, l_4, l_5, l_6, l_7, l_8, l_9, l_10, l_11, l_12, l_13, l_14, l_16, l_20, l_21, l_23, l_24, l_30, l_32, l_40, l_41, l_44, l_48, l_57, l_59, l_60, l_63, l_64, l_80, l_84, l_96, l_97, l_99, l_120, l_122, l_127, l_200, l_240, l_255, l_840, l_999, l_1000, l_1001, l_2400, l_3064, l_9999, l_10000, l_13849, l_16383, l_25173, l_65535, l_65536, l_99999, l_1000000000, neg_nI, pk_mul, nI_add, nI_subL, tn_nI, inb_t, grd_true, bnd_some, elS_l, elS_r, nI_ltI, nI_leI, nI_inj, fa_and, fa_or, m1_eq, eq_m1, m1_lt, m1_le, lt_m1, le_m1, m1_lt0, up2_at, up2_no, ite_true, ite_false, if_true, if_false, Bool.false_eq_true, reduceIte, reduceCtorEq, not_true_eq_false, not_false_eq_true, eq_self, decide_true, decide_false, le_tt, le_ff, lt_tt, lt_ff, eq_ff, and_true, true_and, and_false, false_and, or_true, true_or, or_false, false_or, ne_eq, decide_eq_true_eq, decide_eq_false_iff_not, Bool.not_true, Bool.not_false, Bool.and_true, Bool.true_and, Bool.and_false, Bool.false_and, gs_at, gs_no, oI_n, oI_s, p3.1, hwi, m1, m2]
            · rintro ⟨s1, s2⟩ e
              cases e
              refine ⟨_, ?_, rfl⟩
              show Fm_witnesses_b5 n (nI r) M' _ (nI (waysG g a b).length) = _
              unfold Fm_witnesses_b5
              simp (disch := omega) only [l_0, l_1, l_2, l_3, l_4, l_5, l_6, l_7, l_8, l_9, l_10, l_11, l_12, l_13, l_14, l_16, l_20, l_21, l_23, l_24, l_30, l_32, l_40, l_41, l_44, l_48, l_57, l_59, l_60, l_63, l_64, l_80, l_84, l_96, l_97, l_99, l_120, l_122, l_127, l_200, l_240, l_255, l_840, l_999, l_1000, l_1001, l_2400, l_3064, l_9999, l_10000, l_13849, l_16383, l_25173, l_65535, l_65536, l_99999, l_1000000000, neg_nI, pk_mul, nI_add, nI_subL, tn_nI, inb_t, grd_true, bnd_some, elS_l, elS_r, nI_ltI, nI_leI, nI_inj, fa_and, fa_or, m1_eq, eq_m1, m1_lt, m1_le, lt_m1, le_m1, m1_lt0, up2_at, up2_no, ite_true, ite_false, if_true, if_false, Bool.false_eq_true, reduceIte, reduceCtorEq, not_true_eq_false, not_false_eq_true, eq_self, decide_true, decide_false, le_tt, le_ff, lt_tt, lt_ff, eq_ff, and_true, true_and, and_false, false_and, or_true, true_or, or_false, false_or, ne_eq, decide_eq_true_eq, decide_eq_false_iff_not, Bool.not_true, Bool.not_false, Bool.and_true, Bool.true_and, Bool.and_false, Bool.false_and, gs_at, gs_no, oI_n, oI_s, p3.1]
          obtain ⟨q, m1, m2⟩ := hlw
          have hpc := pcN_le (wtN g (waysG g a b) r (waysG g a b).length)
          unfold Fm_witnesses
          rw [show (0 : Int64) = lN 0 from rfl, l_0, m1, m2, bnd_some, wit_loop _ _ 0 n rfl (Nat.lt_trans hwt (by decide)) (by omega) (by omega), Nat.zero_add]
          rfl
        have hca := ca_le (g := g) (L := waysG g a b) (r := r) (waysG g a b).length
        obtain ⟨s1, s2⟩ := sh_eq (a := a) (b := b) (r := r) hg.1.2.1 ha (waysG g a b).length (Nat.le_refl _)
        unfold Fm_blocked blA
        rw [Fm_areNodes_e (hF.lo (by omega)) (by omega), hx.1.1, Fm_isRate_e, hx.1.2, l_0, l_2, Fm_in_x (by decide) (by decide), hx.2]
        simp (disch := omega) only [l_0, l_1, l_2, l_3, l_4, l_5, l_6, l_7, l_8, l_9, l_10, l_11, l_12, l_13, l_14, l_16, l_20, l_21, l_23, l_24, l_30, l_32, l_40, l_41, l_44, l_48, l_57, l_59, l_60, l_63, l_64, l_80, l_84, l_96, l_97, l_99, l_120, l_122, l_127, l_200, l_240, l_255, l_840, l_999, l_1000, l_1001, l_2400, l_3064, l_9999, l_10000, l_13849, l_16383, l_25173, l_65535, l_65536, l_99999, l_1000000000, neg_nI, pk_mul, nI_add, nI_subL, tn_nI, inb_t, grd_true, bnd_some, elS_l, elS_r, nI_ltI, nI_leI, nI_inj, fa_and, fa_or, m1_eq, eq_m1, m1_lt, m1_le, lt_m1, le_m1, m1_lt0, up2_at, up2_no, ite_true, ite_false, if_true, if_false, Bool.false_eq_true, reduceIte, reduceCtorEq, not_true_eq_false, not_false_eq_true, eq_self, decide_true, decide_false, le_tt, le_ff, lt_tt, lt_ff, eq_ff, and_true, true_and, and_false, false_and, or_true, true_or, or_false, false_or, ne_eq, decide_eq_true_eq, decide_eq_false_iff_not, Bool.not_true, Bool.not_false, Bool.and_true, Bool.true_and, Bool.and_false, Bool.false_and, gs_at, gs_no, oI_n, oI_s, h0, p1, h12, l1, l2]
        by_cases hc : caN g (waysG g a b) r (waysG g a b).length = 0
        · simp (disch := omega) only [l_0, l_1, l_2, l_3, l_4, l_5, l_6, l_7, l_8, l_9, l_10, l_11, l_12, l_13, l_14, l_16, l_20, l_21, l_23, l_24, l_30, l_32, l_40, l_41, l_44, l_48, l_57, l_59, l_60, l_63, l_64, l_80, l_84, l_96, l_97, l_99, l_120, l_122, l_127, l_200, l_240, l_255, l_840, l_999, l_1000, l_1001, l_2400, l_3064, l_9999, l_10000, l_13849, l_16383, l_25173, l_65535, l_65536, l_99999, l_1000000000, neg_nI, pk_mul, nI_add, nI_subL, tn_nI, inb_t, grd_true, bnd_some, elS_l, elS_r, nI_ltI, nI_leI, nI_inj, fa_and, fa_or, m1_eq, eq_m1, m1_lt, m1_le, lt_m1, le_m1, m1_lt0, up2_at, up2_no, ite_true, ite_false, if_true, if_false, Bool.false_eq_true, reduceIte, reduceCtorEq, not_true_eq_false, not_false_eq_true, eq_self, decide_true, decide_false, le_tt, le_ff, lt_tt, lt_ff, eq_ff, and_true, true_and, and_false, false_and, or_true, true_or, or_false, false_or, ne_eq, decide_eq_true_eq, decide_eq_false_iff_not, Bool.not_true, Bool.not_false, Bool.and_true, Bool.true_and, Bool.and_false, Bool.false_and, gs_at, gs_no, oI_n, oI_s, hc]
        · rw [s1, s2 (by omega)]
          by_cases h1 : w = 1
          · simp (disch := omega) only [l_0, l_1, l_2, l_3, l_4, l_5, l_6, l_7, l_8, l_9, l_10, l_11, l_12, l_13, l_14, l_16, l_20, l_21, l_23, l_24, l_30, l_32, l_40, l_41, l_44, l_48, l_57, l_59, l_60, l_63, l_64, l_80, l_84, l_96, l_97, l_99, l_120, l_122, l_127, l_200, l_240, l_255, l_840, l_999, l_1000, l_1001, l_2400, l_3064, l_9999, l_10000, l_13849, l_16383, l_25173, l_65535, l_65536, l_99999, l_1000000000, neg_nI, pk_mul, nI_add, nI_subL, tn_nI, inb_t, grd_true, bnd_some, elS_l, elS_r, nI_ltI, nI_leI, nI_inj, fa_and, fa_or, m1_eq, eq_m1, m1_lt, m1_le, lt_m1, le_m1, m1_lt0, up2_at, up2_no, ite_true, ite_false, if_true, if_false, Bool.false_eq_true, reduceIte, reduceCtorEq, not_true_eq_false, not_false_eq_true, eq_self, decide_true, decide_false, le_tt, le_ff, lt_tt, lt_ff, eq_ff, and_true, true_and, and_false, false_and, or_true, true_or, or_false, false_or, ne_eq, decide_eq_true_eq, decide_eq_false_iff_not, Bool.not_true, Bool.not_false, Bool.and_true, Bool.true_and, Bool.and_false, Bool.false_and, gs_at, gs_no, oI_n, oI_s, hc, h1, hwl]
          · simp (disch := omega) only [l_0, l_1, l_2, l_3, l_4, l_5, l_6, l_7, l_8, l_9, l_10, l_11, l_12, l_13, l_14, l_16, l_20, l_21, l_23, l_24, l_30, l_32, l_40, l_41, l_44, l_48, l_57, l_59, l_60, l_63, l_64, l_80, l_84, l_96, l_97, l_99, l_120, l_122, l_127, l_200, l_240, l_255, l_840, l_999, l_1000, l_1001, l_2400, l_3064, l_9999, l_10000, l_13849, l_16383, l_25173, l_65535, l_65536, l_99999, l_1000000000, neg_nI, pk_mul, nI_add, nI_subL, tn_nI, inb_t, grd_true, bnd_some, elS_l, elS_r, nI_ltI, nI_leI, nI_inj, fa_and, fa_or, m1_eq, eq_m1, m1_lt, m1_le, lt_m1, le_m1, m1_lt0, up2_at, up2_no, ite_true, ite_false, if_true, if_false, Bool.false_eq_true, reduceIte, reduceCtorEq, not_true_eq_false, not_false_eq_true, eq_self, decide_true, decide_false, le_tt, le_ff, lt_tt, lt_ff, eq_ff, and_true, true_and, and_false, false_and, or_true, true_or, or_false, false_or, ne_eq, decide_eq_true_eq, decide_eq_false_iff_not, Bool.not_true, Bool.not_false, Bool.and_true, Bool.true_and, Bool.and_false, Bool.false_and, gs_at, gs_no, oI_n, oI_s, hc, h1]
  · have hx' := ts_nt hx
    refine ⟨ng 1, fun M hS hA => TC.id hS hA ?_, fun M h hF => TM.id hF ?_⟩
    · unfold Fg_blocked
      rw [Fg_isWish_e (hS.1.1.1 0 (by omega)) (by omega), bnd_some]
      cases hp : (plB (g 0) x y && rg z 1 64) with
      | false => rfl
      | true =>
        rw [hp, Bool.true_and] at hx'
        rcases i32c u with ⟨w, hw, rfl⟩ | h
        · rw [rg_n hw] at hx'
          have := of_decide_eq_false hx'
          have : 2 < w := by omega
          simp (disch := omega) only [l_0, l_1, l_2, l_3, l_4, l_5, l_6, l_7, l_8, l_9, l_10, l_11, l_12, l_13, l_14, l_16, l_20, l_21, l_23, l_24, l_30, l_32, l_40, l_41, l_44, l_48, l_57, l_59, l_60, l_63, l_64, l_80, l_84, l_96, l_97, l_99, l_120, l_122, l_127, l_200, l_240, l_255, l_840, l_999, l_1000, l_1001, l_2400, l_3064, l_9999, l_10000, l_13849, l_16383, l_25173, l_65535, l_65536, l_99999, l_1000000000, neg_nI, pk_mul, nI_add, nI_subL, tn_nI, inb_t, grd_true, bnd_some, elS_l, elS_r, nI_ltI, nI_leI, nI_inj, fa_and, fa_or, m1_eq, eq_m1, m1_lt, m1_le, lt_m1, le_m1, m1_lt0, up2_at, up2_no, ite_true, ite_false, if_true, if_false, Bool.false_eq_true, reduceIte, reduceCtorEq, not_true_eq_false, not_false_eq_true, eq_self, decide_true, decide_false, le_tt, le_ff, lt_tt, lt_ff, eq_ff, and_true, true_and, and_false, false_and, or_true, true_or, or_false, false_or, ne_eq, decide_eq_true_eq, decide_eq_false_iff_not, Bool.not_true, Bool.not_false, Bool.and_true, Bool.true_and, Bool.and_false, Bool.false_and, gs_at, gs_no, oI_n, oI_s]
        · simp (disch := omega) only [l_0, l_1, l_2, l_3, l_4, l_5, l_6, l_7, l_8, l_9, l_10, l_11, l_12, l_13, l_14, l_16, l_20, l_21, l_23, l_24, l_30, l_32, l_40, l_41, l_44, l_48, l_57, l_59, l_60, l_63, l_64, l_80, l_84, l_96, l_97, l_99, l_120, l_122, l_127, l_200, l_240, l_255, l_840, l_999, l_1000, l_1001, l_2400, l_3064, l_9999, l_10000, l_13849, l_16383, l_25173, l_65535, l_65536, l_99999, l_1000000000, neg_nI, pk_mul, nI_add, nI_subL, tn_nI, inb_t, grd_true, bnd_some, elS_l, elS_r, nI_ltI, nI_leI, nI_inj, fa_and, fa_or, m1_eq, eq_m1, m1_lt, m1_le, lt_m1, le_m1, m1_lt0, up2_at, up2_no, ite_true, ite_false, if_true, if_false, Bool.false_eq_true, reduceIte, reduceCtorEq, not_true_eq_false, not_false_eq_true, eq_self, decide_true, decide_false, le_tt, le_ff, lt_tt, lt_ff, eq_ff, and_true, true_and, and_false, false_and, or_true, true_or, or_false, false_or, ne_eq, decide_eq_true_eq, decide_eq_false_iff_not, Bool.not_true, Bool.not_false, Bool.and_true, Bool.true_and, Bool.and_false, Bool.false_and, gs_at, gs_no, oI_n, oI_s, xlt h]
    · unfold Fm_blocked
      rw [Fm_areNodes_e (hF.lo (by omega)) (by omega), bnd_some]
      cases hp : plB (g 0) x y with
      | false => rfl
      | true =>
        rw [hp, Bool.true_and] at hx'
        rw [Fm_isRate_e]
        cases hz : rg z 1 64 with
        | false => rfl
        | true =>
          rw [hz, Bool.true_and] at hx'
          rw [l_0, l_2, Fm_in_x (by decide) (by decide), hx']
          rfl
