/-! windows that are found: what they are, on which grids they are the same -/
theorem fdI_ok {slots rule w l v : Nat} {ft : Nat → Nat → Nat → Bool} {rw' : Nat → Nat → Nat → Nat} {b : Option (Nat × Nat × Nat × Nat)} {p : Nat × Nat × Nat × Nat} : ∀ {K : Nat}, fdI slots ft rw' rule w l v b K = some p → b = some p ∨ (p.1 = w ∧ p.2.2.1 = v ∧ ft l p.2.1 v = true)
  | 0, h => .inl h
  | K + 1, h => by
    rw [fdI_s] at h
    split at h
    · next q =>
      cases h
      rw [Bool.and_eq_true] at q
      exact .inr ⟨rfl, rfl, q.1⟩
    · exact fdI_ok h
theorem fdG_ok {g : Nat → Nat} {wl wk : Nat → Nat} {rate rule : Nat} {p : Nat × Nat × Nat × Nat} : ∀ {c : Nat}, fdG g wl wk rate rule c = some p → p.1 < c ∧ wdS g rate (wl p.1) = some p.2.2.1 ∧ fitB g (wk p.1) p.2.1 p.2.2.1 none = true
  | 0, h => by cases h
  | c + 1, h => by
    rw [fdG_s] at h
    cases hw : wdS g rate (wl c) with
    | none =>
      rw [hw] at h
      have := fdG_ok h
      exact ⟨by omega, this.2⟩
    | some v =>
      rw [hw] at h
      simp only at h
      split at h
      · have := fdG_ok h
        exact ⟨by omega, this.2⟩
      · rcases fdI_ok h with q | ⟨q1, q2, q3⟩
        · have := fdG_ok q
          exact ⟨by omega, this.2⟩
        · rw [q1, q2]
          exact ⟨by omega, hw, q3⟩
theorem ways_ne {g : Nat → Nat} (hN : NV g) {a b : Nat} (hab : a ≠ b) {e : We} (he : e ∈ waysG g a b) : 1 ≤ e.2.1 := by
  unfold waysG at he
  rcases fold_mem he with q | q
  · cases q
  · rw [pthW_succ hab] at q
    obtain ⟨p, hp, hy⟩ := List.mem_flatMap.mp q
    unfold kid at hy
    split at hy
    · cases hy
    · obtain ⟨j, h1, h2⟩ := pth_iv (fun v p hp => by
        obtain ⟨x1, x2, x3⟩ := chL_mem.mp hp
        have := byd_lt hN (by omega) x3
        have := hN.1
        omega) _ _ _ _ _ hy
      have : (extW (lenG g) (0, 0, a, 0) p).2.1 = 1 := rfl
      omega
theorem fdW_ok {g : Nat → Nat} (hN : NV g) {a b rate rule : Nat} (ha : a < g 0) (hab : a ≠ b) (hr : 1 ≤ rate) (hr2 : rate ≤ 64) {p : Nat × Nat × Nat × Nat} (h : fdW g a b rate rule = some p) : p.1 < (waysG g a b).length ∧ (0 < wkO (waysG g a b) p.1 ∧ wkO (waysG g a b) p.1 < 2 ^ g 3) ∧ (1 ≤ p.2.2.1 ∧ p.2.2.1 ≤ 64) ∧ p.2.1 + p.2.2.1 ≤ g 1 ∧ fitB g (wkO (waysG g a b) p.1) p.2.1 p.2.2.1 none = true := by
  obtain ⟨h1, h2, h3⟩ := fdG_ok h
  obtain ⟨w1, w2, w3, e, e1, e2, e3, e4, e5⟩ := ways_at hN ha h1
  have hv := wdS_pos h2 hr
  refine ⟨h1, ⟨?_, w2⟩, ⟨hv.1, by omega⟩, (fit_iff.mp h3).1, h3⟩
  have hne := ways_ne hN hab (List.mem_of_getElem? e1)
  rw [← e3]
  rcases Nat.eq_zero_or_pos e.2.2.2 with q | q
  · rw [q] at e4
    have : pcI 0 = 0 := by decide
    omega
  · exact q
/-! the same on grids on which the same is taken -/
theorem fdI_cong {slots rule w l v : Nat} {ft ft' : Nat → Nat → Nat → Bool} {rw1 rw2 : Nat → Nat → Nat → Nat} (hf : ∀ s, ft l s v = ft' l s v) (hr : rw1 = rw2) : ∀ {K : Nat} {b : Option (Nat × Nat × Nat × Nat)}, fdI slots ft rw1 rule w l v b K = fdI slots ft' rw2 rule w l v b K
  | 0, _ => rfl
  | K + 1, b => by
    rw [fdI_s, fdI_s, fdI_cong hf hr, hf, hr]
theorem fdO_cong {slots rule : Nat} {ft ft' : Nat → Nat → Nat → Bool} {rw1 rw2 : Nat → Nat → Nat → Nat} {wl wk : Nat → Nat} {wd : Nat → Option Nat} (hr : rw1 = rw2) : ∀ {c : Nat}, (∀ k, k < c → ∀ v, wd (wl k) = some v → ∀ s, ft (wk k) s v = ft' (wk k) s v) → fdO slots ft rw1 wl wk wd rule c = fdO slots ft' rw2 wl wk wd rule c
  | 0, _ => rfl
  | c + 1, hf => by
    have ih := fdO_cong (slots := slots) (rule := rule) (wl := wl) (wk := wk) (wd := wd) (ft := ft) (ft' := ft') hr (c := c) (fun k hk => hf k (by omega))
    unfold fdO
    cases hw : wd (wl c) with
    | none => exact ih
    | some v =>
      simp only
      rw [ih, fdI_cong (hf c (by omega) v hw) hr]
theorem fit_cong {g g' : Nat → Nat} (hL : LV g) (hL' : LV g') (h1 : g' 1 = g 1) (h2 : g' 2 = g 2) (hO : ∀ l i, OC g' l none i ↔ OC g l none i) {l f v : Nat} (hv : 1 ≤ v) : fitB g' l f v none = fitB g l f v none := by
  rw [Bool.eq_iff_iff, fit_oc hL' hv, fit_oc hL hv, h1, h2]
  constructor
  · intro h k hk
    refine ⟨(h k hk).1, ?_⟩
    rintro ⟨i, q1, q2⟩
    exact (h k hk).2 ⟨i, (hO l i).mpr q1, q2⟩
  · intro h k hk
    refine ⟨(h k hk).1, ?_⟩
    rintro ⟨i, q1, q2⟩
    exact (h k hk).2 ⟨i, (hO l i).mp q1, q2⟩
theorem row_cong {g g' : Nat → Nat} (h1 : g' 1 = g 1) (hO : ∀ l i, OC g' l none i ↔ OC g l none i) : rowS g' = rowS g := by
  have hz : ∀ l, fzB g' l = fzB g l := fun l => funext fun i => by rw [Bool.eq_iff_iff, fz_oc, fz_oc, h1, hO]
  funext l s v
  unfold rowS
  rw [hz, h1]
theorem ways_same {g g' : Nat → Nat} (h3 : g 3 ≤ 14) (lo : ∀ k, k < 64 → k < 4 ∨ 7 < k → g' k = g k) (a b : Nat) : waysG g' a b = waysG g a b := by
  have := ways_cong (g := g) (g' := g') (up := g 12) h3 (fun k h1 h2 _ => lo k h1 h2) a b
  rw [gs_self] at this
  rw [← this, ← lo 12 (by omega) (by omega), gs_self]
theorem fmA_same {g g' : Nat → Nat} (lo : ∀ k, k < 64 → k < 4 ∨ 7 < k → g' k = g k) (len : Nat) : ∀ i, i ≤ 4 → fmA g' len i = fmA g len i
  | 0, _ => rfl
  | i + 1, h => by
    unfold fmA
    rw [fmA_same lo len i (by omega), lo (8 + i) (by omega) (by omega)]
theorem fdW_cong {g g' : Nat → Nat} (h3 : g 3 ≤ 14) (hL : LV g) (hL' : LV g') (lo : ∀ k, k < 64 → k < 4 ∨ 7 < k → g' k = g k) (hO : ∀ l i, OC g' l none i ↔ OC g l none i) {a b rate rule : Nat} (hr : 1 ≤ rate) : fdW g' a b rate rule = fdW g a b rate rule := by
  have e1 : g' 1 = g 1 := lo 1 (by omega) (by omega)
  have hwd : wdS g' rate = wdS g rate := funext fun len => by
    unfold wdS fmS
    rw [fmA_same lo len 4 (by omega)]
  unfold fdW fdG
  rw [ways_same h3 lo, e1, hwd]
  exact fdO_cong (row_cong e1 hO) (fun k _ v hv s => fit_cong hL hL' e1 (lo 2 (by omega) (by omega)) hO (wdS_pos hv hr).1)
theorem SN.cong' {M : Mm} {s : Nat} {g g' : Nat → Nat} (h : SN M s g) (h3 : g 3 ≤ 14) (hc : ∀ k, k < 64 → k ≠ 7 → g' k = g k) : SN M s g' := by
  refine ⟨h.1.cong h3 (fun k hk h1 _ => hc k hk (by omega)) (by rw [hc 4 (by omega) (by omega)]; exact h.1.1 4 (by omega)), ?_, ?_, ?_⟩
  · rw [hc 12 (by omega) (by omega)]; exact h.2.1
  · rw [hc 5 (by omega) (by omega)]; exact h.2.2.1
  · rw [hc 6 (by omega) (by omega)]; exact h.2.2.2
/-! both finders -/
section
variable {M : Mm} {g : Nat → Nat} {n o a b rate rule : Nat}
theorem find_c (hW : GW g) (hS : SN M o g) (hU : UB M o g) (hA : CA M g) (ho : 18 ≤ o ∧ o < 90) (hn : 100 < n) (ha : a < g 0) (hb : b < g 0) (hab : a ≠ b) (hr1 : 1 ≤ rate) (hr2 : rate ≤ 64) (hru : rule < 4) : ∃ M', Fi_find n o (nI a) (nI b) (nI rate) (nI rule) M = some ((fdW g a b rate rule).isSome, M') ∧ (∀ p, fdW g a b rate rule = some p → M'.1 12 1 = nI p.1 ∧ M'.1 12 2 = nI (wkO (waysG g a b) p.1) ∧ M'.1 12 3 = nI p.2.1 ∧ M'.1 12 4 = nI p.2.2.1) ∧ CA M' g ∧ Fr (fp_Fi_find o) M M' := by
  obtain ⟨hG, hN, hNU, hL, hO⟩ := hW
  obtain ⟨M', h1, h2, h3, h4⟩ := Fi_find_e hG hN hNU hL hA hS.1 hS.2.1 hU ho hn ha hb hab hr1 hr2 hru
  refine ⟨M', h1, fun p hp => ?_, h3, h4⟩
  rw [hp] at h2
  exact ⟨h2.1, h2.2.1, h2.2.2.1, h2.2.2.2.1⟩
theorem WL_WY {L : List We} (h : WL M L) : WY M L.length (wlO L) (wkO L) := by
  obtain ⟨h1, h2, h3, h4, h5⟩ := h
  refine ⟨h1, h2, fun k hk => ?_⟩
  have hg : L[k]? = some L[k] := List.getElem?_eq_getElem hk
  have hq := HL_get h3 hg
  rw [Nat.zero_add] at hq
  have hd : L.getD k (0, 0, 0, 0) = L[k] := by rw [List.getD_eq_getElem?_getD, hg]; rfl
  have hb := h5 L[k] (List.getElem_mem hk)
  unfold wlO wkO
  rw [hd]
  exact ⟨hq.1, hq.2.2.2, hb.1, hb.2.2.2⟩
theorem find_m {h : Nat → Int32} (hW : GW g) (hF : FK M g h) (hn : 1099511627776 < n) (ha : a < g 0) (hb : b < g 0) (hab : a ≠ b) (hr1 : 1 ≤ rate) (hr2 : rate ≤ 64) (hru : rule < 4) : ∃ M', Fm_findsFor n (nI a) (nI b) (nI rate) (nI rule) M = some ((fdW g a b rate rule).isSome, M') ∧ (∀ p, fdW g a b rate rule = some p → M'.1 94 20 = nI p.1 ∧ M'.1 94 21 = nI p.2.1 ∧ M'.1 94 22 = nI p.2.2.1 ∧ M'.1 99 p.1 = nI (wkO (waysG g a b) p.1)) ∧ FK M' g h ∧ Fr fp_Fm_findsFor M M' := by
  obtain ⟨hG, hN, hNU, hL, hO⟩ := hW
  have hFR := hF.FR hG
  obtain ⟨M1, h1, h2, h3⟩ := Fm_findsWays_e (n := n) hFR hG hN ha hb hab hn
  have hF1 : FK M1 g h := hF.fr h3 (fun j => by unfold fp_Fm_findsWays; omega)
  have hWY := WL_WY h2
  obtain ⟨M2, c1, c2, c3⟩ := Fm_finds_e (n := n) (rate := rate) (rule := rule) hG hN hL (c := (waysG g a b).length) (wl := wlO (waysG g a b)) (wk := wkO (waysG g a b)) (M := M1) ⟨hF1.FR hG, hWY⟩ (by omega) hru hr1 hr2
  have hrun : Fm_findsFor n (nI a) (nI b) (nI rate) (nI rule) M = some ((fdW g a b rate rule).isSome, M2) := by
    unfold Fm_findsFor
    rw [h1, bnd_some, c1, bnd_some]
    rfl
  have hfr := fr_Fm_findsFor hrun
  refine ⟨M2, hrun, fun p hp => ?_, hF.fr hfr (fun j => by unfold fp_Fm_findsFor; omega), hfr⟩
  have hp' : fdG g (wlO (waysG g a b)) (wkO (waysG g a b)) rate rule (waysG g a b).length = some p := hp
  rw [hp'] at c2
  refine ⟨c2.1, c2.2.1, c2.2.2.1, ?_⟩
  rw [(c3 99 p.1 (by unfold fp_Fm_finds; omega)).1]
  exact (hWY.2.2 p.1 (fdG_ok hp').1).2.1
theorem lights_m {h : Nat → Int32} {d on f w k : Nat} (hF : FK M g h) (hd : d < 300) (hk : k < 5) (q1 : M.1 94 20 = nI k) (q2 : M.1 94 21 = nI f) (q3 : M.1 94 22 = nI w) (q4 : M.1 99 k = nI on) : ∃ M', Fm_lights (nI d) M = some M' ∧ FK M' (litG g d on f w) h ∧ Fr (fun c _ => c = 95) M M' := by
  obtain ⟨M1, a1, a2, a3⟩ := hF.sets (d := d) (w := 3) (v := 0) hd (by omega) (by omega)
  obtain ⟨M2, b1, b2, b3⟩ := a2.sets (d := d) (w := 4) (v := f) hd (by omega) (by omega)
  obtain ⟨M3, c1, c2, c3⟩ := b2.sets (d := d) (w := 5) (v := w) hd (by omega) (by omega)
  obtain ⟨M4, d1, d2, d3⟩ := c2.sets (d := d) (w := 6) (v := on) hd (by omega) (by omega)
  have e1 : M1.1 94 21 = nI f := (a3 94 21 (by omega)).1.trans q2
  have e2 : M2.1 94 22 = nI w := ((a3.tr b3) 94 22 (by omega)).1.trans q3
  have e3 : M3.1 94 20 = nI k := (((a3.tr b3).tr c3) 94 20 (by omega)).1.trans q1
  have e4 : M3.1 99 k = nI on := (((a3.tr b3).tr c3) 99 k (by omega)).1.trans q4
  refine ⟨M4, ?_, d2, ((a3.tr b3).tr c3).tr d3⟩
  unfold Fm_lights
  simp (disch := omega) only [l_0, l_1, l_2, l_3, l_4, l_5, l_6, l_7, l_8, l_9, l_10, l_11, l_12, l_13, l_14, l_16, l_20, l_21, l_23, l_24, l_30, l_32, l_40, l_41, l_44, l_48, l_57, l_59, l_60, l_63, l_64, l_80, l_84, l_96, l_97, l_99, l_120, l_122, l_127, l_200, l_240, l_255, l_840, l_999, l_1000, l_1001, l_2400, l_3064, l_9999, l_10000, l_13849, l_16383, l_25173, l_65535, l_65536, l_99999, l_1000000000, neg_nI, pk_mul, nI_add, nI_subL, tn_nI, inb_t, grd_true, bnd_some, elS_l, elS_r, nI_ltI, nI_leI, nI_inj, fa_and, fa_or, m1_eq, eq_m1, m1_lt, m1_le, lt_m1, le_m1, m1_lt0, up2_at, up2_no, ite_true, ite_false, if_true, if_false, Bool.false_eq_true, reduceIte, reduceCtorEq, not_true_eq_false, not_false_eq_true, eq_self, decide_true, decide_false, le_tt, le_ff, lt_tt, lt_ff, eq_ff, and_true, true_and, and_false, false_and, or_true, true_or, or_false, false_or, ne_eq, decide_eq_true_eq, decide_eq_false_iff_not, Bool.not_true, Bool.not_false, Bool.and_true, Bool.true_and, Bool.and_false, Bool.false_and, gs_at, gs_no, oI_n, oI_s, a1, e1, b1, e2, c1, e3, e4, d1]
end
/-! a demand more -/
def zG (g : Nat → Nat) (d k : Nat) : Nat → Nat := fun j => if 64 + 10 * d ≤ j ∧ j < 64 + 10 * d + k then (if j = 64 + 10 * d + 7 then 1 else 0) else g j
def addG (g : Nat → Nat) (a b r : Nat) : Nat → Nat := gs (gs (gs (gs (gs (zG (gs g 7 (g 7 + 1)) (g 7) 10) (64 + 10 * g 7 + 0) a) (64 + 10 * g 7 + 1) b) (64 + 10 * g 7 + 2) r) (64 + 10 * g 7 + 3) 1) (64 + 10 * g 7 + 7) 0
section
variable {g : Nat → Nat} {a b r : Nat}
theorem add_7 : addG g a b r 7 = g 7 + 1 := by
  unfold addG
  rw [gs_no (by omega), gs_no (by omega), gs_no (by omega), gs_no (by omega), gs_no (by omega)]
  unfold zG
  rw [if_neg (by omega), gs_at]
theorem add_lo {k : Nat} (h : k < 64) (h7 : k ≠ 7) : addG g a b r k = g k := by
  unfold addG
  rw [gs_no (by omega), gs_no (by omega), gs_no (by omega), gs_no (by omega), gs_no (by omega)]
  unfold zG
  rw [if_neg (by omega), gs_no h7]
theorem add_ne {e w : Nat} (h : e ≠ g 7) (hw : w < 10) : addG g a b r (64 + 10 * e + w) = g (64 + 10 * e + w) := by
  unfold addG
  rw [gs_no (by omega), gs_no (by omega), gs_no (by omega), gs_no (by omega), gs_no (by omega)]
  unfold zG
  rw [if_neg (by omega), gs_no (by omega)]
theorem add_d0 : addG g a b r (64 + 10 * g 7 + 0) = a := by
  unfold addG
  rw [gs_no (by omega), gs_no (by omega), gs_no (by omega), gs_no (by omega), gs_at]
theorem add_d1 : addG g a b r (64 + 10 * g 7 + 1) = b := by
  unfold addG
  rw [gs_no (by omega), gs_no (by omega), gs_no (by omega), gs_at]
theorem add_d2 : addG g a b r (64 + 10 * g 7 + 2) = r := by
  unfold addG
  rw [gs_no (by omega), gs_no (by omega), gs_at]
theorem add_d3 : addG g a b r (64 + 10 * g 7 + 3) = 1 := by
  unfold addG
  rw [gs_no (by omega), gs_at]
theorem add_d7 : addG g a b r (64 + 10 * g 7 + 7) = 0 := gs_at
theorem add_lt (hG : GB g) (ha : a < 1048576) (hb : b < 1048576) (hr : r < 1048576) (h : g 7 < 300) : GB (addG g a b r) := by
  refine ⟨fun k => ?_, by rw [add_7]; omega⟩
  have hz : ∀ j, zG (gs g 7 (g 7 + 1)) (g 7) 10 j < 1048576 := fun j => by
    unfold zG gs
    split
    · split <;> omega
    · split
      · omega
      · exact hG.1 j
  unfold addG gs
  split
  · omega
  · split
    · omega
    · split
      · exact hr
      · split
        · exact hb
        · split
          · exact ha
          · exact hz k
theorem OC_add {l i : Nat} : OC (addG g a b r) l none i ↔ OC g l none i := by
  constructor
  · rintro ⟨d, h1, h2, h3, h4⟩
    rw [add_7] at h1
    by_cases c : d = g 7
    · rw [c, add_d3] at h3; omega
    · rw [add_ne c (by omega)] at h3
      rw [add_ne c (by omega), add_ne c (by omega), add_ne c (by omega)] at h4
      exact ⟨d, by omega, h2, h3, h4⟩
  · rintro ⟨d, h1, h2, h3, h4⟩
    have c : d ≠ g 7 := by omega
    refine ⟨d, by rw [add_7]; omega, h2, by rw [add_ne c (by omega)]; exact h3, ?_⟩
    rw [add_ne c (by omega), add_ne c (by omega), add_ne c (by omega)]
    exact h4
theorem GW_add (hW : GW g) (ha : a < 8) (hb : b < 8) (hr : r ≤ 64) (h : g 7 < 300) : GW (addG g a b r) := by
  obtain ⟨hG, hN, hU, hL, hO⟩ := hW
  obtain ⟨n1, n2, n3, n4⟩ := hN
  have e3 : addG g a b r 3 = g 3 := add_lo (by omega) (by omega)
  refine ⟨add_lt hG (by omega) (by omega) (by omega) h, ⟨?_, fun f hf => ?_, fun l hl => ?_, fun l m hl hm => ?_⟩, fun l m hl hm => ?_, fun d hd hl => ?_, fun d e hd he hde h1 h2 h3 => ?_⟩
  · rw [add_lo (k := 0) (by omega) (by omega), add_lo (k := 1) (by omega) (by omega), add_lo (k := 2) (by omega) (by omega), e3, add_lo (k := 12) (by omega) (by omega)]
    exact n1
  · rw [add_lo (by omega) (by omega)]; exact n2 f hf
  · rw [e3] at hl
    rw [add_lo (k := 16 + l) (by omega) (by omega), add_lo (k := 30 + l) (by omega) (by omega), add_lo (k := 44 + l) (by omega) (by omega), add_lo (k := 0) (by omega) (by omega)]
    exact n3 l hl
  · rw [e3] at hl hm
    rw [add_lo (k := 16 + l) (by omega) (by omega), add_lo (k := 30 + l) (by omega) (by omega), add_lo (k := 16 + m) (by omega) (by omega), add_lo (k := 30 + m) (by omega) (by omega)]
    exact n4 l m hl hm
  · rw [e3] at hl hm
    rw [add_lo (k := 16 + l) (by omega) (by omega), add_lo (k := 30 + l) (by omega) (by omega), add_lo (k := 16 + m) (by omega) (by omega), add_lo (k := 30 + m) (by omega) (by omega)]
    exact hU l m hl hm
  · rw [add_7] at hd
    by_cases c : d = g 7
    · rw [c, add_d3] at hl; omega
    · rw [add_ne c (by omega)] at hl
      rw [add_ne (w := 4) c (by omega), add_ne (w := 5) c (by omega), add_ne (w := 6) c (by omega), add_lo (k := 1) (by omega) (by omega), e3]
      exact hL d (by omega) hl
  · rw [add_7] at hd he
    by_cases c : d = g 7
    · rw [c, add_d3] at h1; omega
    · by_cases c2 : e = g 7
      · rw [c2, add_d3] at h2; omega
      · rw [add_ne c (by omega)] at h1
        rw [add_ne c2 (by omega)] at h2
        rw [add_ne c (by omega), add_ne c2 (by omega)] at h3
        rw [add_ne (w := 4) c (by omega), add_ne (w := 5) c (by omega), add_ne (w := 4) c2 (by omega), add_ne (w := 5) c2 (by omega), add_lo (k := 2) (by omega) (by omega)]
        exact hO d e (by omega) (by omega) hde h1 h2 h3
theorem GV_add (hg : GV g) (ha : a < g 0) (hb : b < g 0) (hab : a ≠ b) (hr1 : 1 ≤ r) (hr : r ≤ 64) (h : g 7 < 40) : GV (addG g a b r) := by
  have b1 := hg.1.2.1.1
  refine ⟨GW_add hg.1 (by omega) (by omega) hr (by omega), ⟨?_, fun d hd => ?_⟩, by rw [add_7]; omega⟩
  · rw [add_lo (k := 5) (by omega) (by omega), add_lo (k := 6) (by omega) (by omega), add_lo (k := 4) (by omega) (by omega)]
    exact hg.2.1.1
  · rw [add_7] at hd
    by_cases c : d = g 7
    · rw [c, add_d0, add_d1, add_d2, add_d3, add_d7, add_lo (k := 0) (by omega) (by omega)]
      exact ⟨ha, hb, hab, hr1, hr, by omega, by omega, fun _ => .inl rfl⟩
    · rw [add_ne (w := 0) c (by omega), add_ne (w := 1) c (by omega), add_ne (w := 2) c (by omega), add_ne (w := 3) c (by omega), add_ne (w := 7) c (by omega), add_lo (k := 0) (by omega) (by omega), add_lo (k := 5) (by omega) (by omega)]
      exact hg.2.1.2 d (by omega)
theorem fit_add {l f v : Nat} : fitB (addG g a b r) l f v (some (g 7)) = fitB g l f v none := by
  rw [Bool.eq_iff_iff, fit_iff, fit_iff, add_7, add_lo (k := 1) (by omega) (by omega), add_lo (k := 2) (by omega) (by omega)]
  refine and_congr_right (fun _ => ?_)
  constructor
  · intro h d h1 _ h3 h4
    have c : d ≠ g 7 := by omega
    have := h d (by omega) (fun q => c (by cases q; rfl)) (by rw [add_ne c (by omega)]; exact h3) (by rw [add_ne c (by omega)]; exact h4)
    rw [add_ne c (by omega), add_ne c (by omega)] at this
    exact this
  · intro h d h1 h2 h3 h4
    have c : d ≠ g 7 := fun q => h2 (by rw [q])
    rw [add_ne c (by omega)] at h3 h4
    rw [add_ne c (by omega), add_ne c (by omega)]
    exact h d (by omega) (by simp) h3 h4
theorem fdW_add (hW : GW g) (ha : a < 8) (hb : b < 8) (hr : r ≤ 64) (h : g 7 < 300) {a' b' rate rule : Nat} (hr1 : 1 ≤ rate) : fdW (addG g a b r) a' b' rate rule = fdW g a' b' rate rule :=
  fdW_cong hW.2.1.1.2.2.2.2.2.1 hW.2.2.2.1 (GW_add hW ha hb hr h).2.2.2.1 (fun k h1 h2 => add_lo h1 (by omega)) (fun l i => OC_add) hr1
theorem ways_add (hW : GW g) {a' b' : Nat} : waysG (addG g a b r) a' b' = waysG g a' b' := ways_same hW.2.1.1.2.2.2.2.2.1 (fun k h1 h2 => add_lo h1 (by omega)) a' b'
end
section
variable {M : Mm} {g : Nat → Nat} {n s a b r : Nat}
theorem St_add_e (hS : SV M s g) (h3 : g 3 ≤ 14) (h : g 7 < 40) : ∃ M', St_add s (nI a) (nI b) (nI r) M = some (nI (g 7), M') ∧ SV M' s (addG g a b r) ∧ Fr (fp_St_add s) M M' := by
  have h4 := hS.2.1
  have hrun : ∃ M' : Mm, St_add s (nI a) (nI b) (nI r) M = some (nI (g 7), M') ∧ M'.2 = M.2 ∧ M'.1 = up2 (up2 (up2 (up2 (up2 (up2 M.1 (s + 7) (g 7) (nI a)) (s + 8) (g 7) (nI b)) (s + 9) (g 7) (nI r)) (s + 10) (g 7) (nI 1)) (s + 11) (g 7) (ng 1)) s 4 (nI (g 7 + 1)) := by
    refine ⟨(up2 (up2 (up2 (up2 (up2 (up2 M.1 (s + 7) (g 7) (nI a)) (s + 8) (g 7) (nI b)) (s + 9) (g 7) (nI r)) (s + 10) (g 7) (nI 1)) (s + 11) (g 7) (ng 1)) s 4 (nI (g 7 + 1)), M.2), ?_, rfl, rfl⟩
    unfold St_add
    simp (disch := omega) only [l_0, l_1, l_2, l_3, l_4, l_5, l_6, l_7, l_8, l_9, l_10, l_11, l_12, l_13, l_14, l_16, l_20, l_21, l_23, l_24, l_30, l_32, l_40, l_41, l_44, l_48, l_57, l_59, l_60, l_63, l_64, l_80, l_84, l_96, l_97, l_99, l_120, l_122, l_127, l_200, l_240, l_255, l_840, l_999, l_1000, l_1001, l_2400, l_3064, l_9999, l_10000, l_13849, l_16383, l_25173, l_65535, l_65536, l_99999, l_1000000000, neg_nI, pk_mul, nI_add, nI_subL, tn_nI, inb_t, grd_true, bnd_some, elS_l, elS_r, nI_ltI, nI_leI, nI_inj, fa_and, fa_or, m1_eq, eq_m1, m1_lt, m1_le, lt_m1, le_m1, m1_lt0, up2_at, up2_no, ite_true, ite_false, if_true, if_false, Bool.false_eq_true, reduceIte, reduceCtorEq, not_true_eq_false, not_false_eq_true, eq_self, decide_true, decide_false, le_tt, le_ff, lt_tt, lt_ff, eq_ff, and_true, true_and, and_false, false_and, or_true, true_or, or_false, false_or, ne_eq, decide_eq_true_eq, decide_eq_false_iff_not, Bool.not_true, Bool.not_false, Bool.and_true, Bool.true_and, Bool.and_false, Bool.false_and, gs_at, gs_no, oI_n, oI_s, h4]
  obtain ⟨M', r1, r2, r3⟩ := hrun
  have hfr := fr_St_add r1
  refine ⟨M', r1, ⟨(hS.1.fr hfr (fun k j hk q => by unfold fp_St_add at q; omega) (fun j hj q => by unfold fp_St_add at q; omega)).cong' h3 (fun k h1 h2 => add_lo h1 h2), ?_, fun d hd => ?_, fun l hl i => ?_⟩, hfr⟩
  · rw [add_7, r3, up2_at]
  · rw [add_7] at hd
    by_cases c : d = g 7
    · subst c
      refine ⟨?_, ?_, ?_, ?_, ?_, fun q => ?_⟩
      · rw [add_d0, r3]; simp (disch := omega) only [l_0, l_1, l_2, l_3, l_4, l_5, l_6, l_7, l_8, l_9, l_10, l_11, l_12, l_13, l_14, l_16, l_20, l_21, l_23, l_24, l_30, l_32, l_40, l_41, l_44, l_48, l_57, l_59, l_60, l_63, l_64, l_80, l_84, l_96, l_97, l_99, l_120, l_122, l_127, l_200, l_240, l_255, l_840, l_999, l_1000, l_1001, l_2400, l_3064, l_9999, l_10000, l_13849, l_16383, l_25173, l_65535, l_65536, l_99999, l_1000000000, neg_nI, pk_mul, nI_add, nI_subL, tn_nI, inb_t, grd_true, bnd_some, elS_l, elS_r, nI_ltI, nI_leI, nI_inj, fa_and, fa_or, m1_eq, eq_m1, m1_lt, m1_le, lt_m1, le_m1, m1_lt0, up2_at, up2_no, ite_true, ite_false, if_true, if_false, Bool.false_eq_true, reduceIte, reduceCtorEq, not_true_eq_false, not_false_eq_true, eq_self, decide_true, decide_false, le_tt, le_ff, lt_tt, lt_ff, eq_ff, and_true, true_and, and_false, false_and, or_true, true_or, or_false, false_or, ne_eq, decide_eq_true_eq, decide_eq_false_iff_not, Bool.not_true, Bool.not_false, Bool.and_true, Bool.true_and, Bool.and_false, Bool.false_and, gs_at, gs_no, oI_n, oI_s]
      · rw [add_d1, r3]; simp (disch := omega) only [l_0, l_1, l_2, l_3, l_4, l_5, l_6, l_7, l_8, l_9, l_10, l_11, l_12, l_13, l_14, l_16, l_20, l_21, l_23, l_24, l_30, l_32, l_40, l_41, l_44, l_48, l_57, l_59, l_60, l_63, l_64, l_80, l_84, l_96, l_97, l_99, l_120, l_122, l_127, l_200, l_240, l_255, l_840, l_999, l_1000, l_1001, l_2400, l_3064, l_9999, l_10000, l_13849, l_16383, l_25173, l_65535, l_65536, l_99999, l_1000000000, neg_nI, pk_mul, nI_add, nI_subL, tn_nI, inb_t, grd_true, bnd_some, elS_l, elS_r, nI_ltI, nI_leI, nI_inj, fa_and, fa_or, m1_eq, eq_m1, m1_lt, m1_le, lt_m1, le_m1, m1_lt0, up2_at, up2_no, ite_true, ite_false, if_true, if_false, Bool.false_eq_true, reduceIte, reduceCtorEq, not_true_eq_false, not_false_eq_true, eq_self, decide_true, decide_false, le_tt, le_ff, lt_tt, lt_ff, eq_ff, and_true, true_and, and_false, false_and, or_true, true_or, or_false, false_or, ne_eq, decide_eq_true_eq, decide_eq_false_iff_not, Bool.not_true, Bool.not_false, Bool.and_true, Bool.true_and, Bool.and_false, Bool.false_and, gs_at, gs_no, oI_n, oI_s]
      · rw [add_d2, r3]; simp (disch := omega) only [l_0, l_1, l_2, l_3, l_4, l_5, l_6, l_7, l_8, l_9, l_10, l_11, l_12, l_13, l_14, l_16, l_20, l_21, l_23, l_24, l_30, l_32, l_40, l_41, l_44, l_48, l_57, l_59, l_60, l_63, l_64, l_80, l_84, l_96, l_97, l_99, l_120, l_122, l_127, l_200, l_240, l_255, l_840, l_999, l_1000, l_1001, l_2400, l_3064, l_9999, l_10000, l_13849, l_16383, l_25173, l_65535, l_65536, l_99999, l_1000000000, neg_nI, pk_mul, nI_add, nI_subL, tn_nI, inb_t, grd_true, bnd_some, elS_l, elS_r, nI_ltI, nI_leI, nI_inj, fa_and, fa_or, m1_eq, eq_m1, m1_lt, m1_le, lt_m1, le_m1, m1_lt0, up2_at, up2_no, ite_true, ite_false, if_true, if_false, Bool.false_eq_true, reduceIte, reduceCtorEq, not_true_eq_false, not_false_eq_true, eq_self, decide_true, decide_false, le_tt, le_ff, lt_tt, lt_ff, eq_ff, and_true, true_and, and_false, false_and, or_true, true_or, or_false, false_or, ne_eq, decide_eq_true_eq, decide_eq_false_iff_not, Bool.not_true, Bool.not_false, Bool.and_true, Bool.true_and, Bool.and_false, Bool.false_and, gs_at, gs_no, oI_n, oI_s]
      · rw [add_d3, r3]; simp (disch := omega) only [l_0, l_1, l_2, l_3, l_4, l_5, l_6, l_7, l_8, l_9, l_10, l_11, l_12, l_13, l_14, l_16, l_20, l_21, l_23, l_24, l_30, l_32, l_40, l_41, l_44, l_48, l_57, l_59, l_60, l_63, l_64, l_80, l_84, l_96, l_97, l_99, l_120, l_122, l_127, l_200, l_240, l_255, l_840, l_999, l_1000, l_1001, l_2400, l_3064, l_9999, l_10000, l_13849, l_16383, l_25173, l_65535, l_65536, l_99999, l_1000000000, neg_nI, pk_mul, nI_add, nI_subL, tn_nI, inb_t, grd_true, bnd_some, elS_l, elS_r, nI_ltI, nI_leI, nI_inj, fa_and, fa_or, m1_eq, eq_m1, m1_lt, m1_le, lt_m1, le_m1, m1_lt0, up2_at, up2_no, ite_true, ite_false, if_true, if_false, Bool.false_eq_true, reduceIte, reduceCtorEq, not_true_eq_false, not_false_eq_true, eq_self, decide_true, decide_false, le_tt, le_ff, lt_tt, lt_ff, eq_ff, and_true, true_and, and_false, false_and, or_true, true_or, or_false, false_or, ne_eq, decide_eq_true_eq, decide_eq_false_iff_not, Bool.not_true, Bool.not_false, Bool.and_true, Bool.true_and, Bool.and_false, Bool.false_and, gs_at, gs_no, oI_n, oI_s]
      · rw [add_d7, r3, z0m1]; simp (disch := omega) only [l_0, l_1, l_2, l_3, l_4, l_5, l_6, l_7, l_8, l_9, l_10, l_11, l_12, l_13, l_14, l_16, l_20, l_21, l_23, l_24, l_30, l_32, l_40, l_41, l_44, l_48, l_57, l_59, l_60, l_63, l_64, l_80, l_84, l_96, l_97, l_99, l_120, l_122, l_127, l_200, l_240, l_255, l_840, l_999, l_1000, l_1001, l_2400, l_3064, l_9999, l_10000, l_13849, l_16383, l_25173, l_65535, l_65536, l_99999, l_1000000000, neg_nI, pk_mul, nI_add, nI_subL, tn_nI, inb_t, grd_true, bnd_some, elS_l, elS_r, nI_ltI, nI_leI, nI_inj, fa_and, fa_or, m1_eq, eq_m1, m1_lt, m1_le, lt_m1, le_m1, m1_lt0, up2_at, up2_no, ite_true, ite_false, if_true, if_false, Bool.false_eq_true, reduceIte, reduceCtorEq, not_true_eq_false, not_false_eq_true, eq_self, decide_true, decide_false, le_tt, le_ff, lt_tt, lt_ff, eq_ff, and_true, true_and, and_false, false_and, or_true, true_or, or_false, false_or, ne_eq, decide_eq_true_eq, decide_eq_false_iff_not, Bool.not_true, Bool.not_false, Bool.and_true, Bool.true_and, Bool.and_false, Bool.false_and, gs_at, gs_no, oI_n, oI_s]
      · rw [add_d3] at q; omega
    · obtain ⟨c1, c2, c3, c4, c5, c6⟩ := hS.2.2.1 d (by omega)
      refine ⟨?_, ?_, ?_, ?_, ?_, fun q => ?_⟩
      · rw [add_ne c (by omega), r3]; simp (disch := omega) only [l_0, l_1, l_2, l_3, l_4, l_5, l_6, l_7, l_8, l_9, l_10, l_11, l_12, l_13, l_14, l_16, l_20, l_21, l_23, l_24, l_30, l_32, l_40, l_41, l_44, l_48, l_57, l_59, l_60, l_63, l_64, l_80, l_84, l_96, l_97, l_99, l_120, l_122, l_127, l_200, l_240, l_255, l_840, l_999, l_1000, l_1001, l_2400, l_3064, l_9999, l_10000, l_13849, l_16383, l_25173, l_65535, l_65536, l_99999, l_1000000000, neg_nI, pk_mul, nI_add, nI_subL, tn_nI, inb_t, grd_true, bnd_some, elS_l, elS_r, nI_ltI, nI_leI, nI_inj, fa_and, fa_or, m1_eq, eq_m1, m1_lt, m1_le, lt_m1, le_m1, m1_lt0, up2_at, up2_no, ite_true, ite_false, if_true, if_false, Bool.false_eq_true, reduceIte, reduceCtorEq, not_true_eq_false, not_false_eq_true, eq_self, decide_true, decide_false, le_tt, le_ff, lt_tt, lt_ff, eq_ff, and_true, true_and, and_false, false_and, or_true, true_or, or_false, false_or, ne_eq, decide_eq_true_eq, decide_eq_false_iff_not, Bool.not_true, Bool.not_false, Bool.and_true, Bool.true_and, Bool.and_false, Bool.false_and, gs_at, gs_no, oI_n, oI_s, c1]
      · rw [add_ne c (by omega), r3]; simp (disch := omega) only [l_0, l_1, l_2, l_3, l_4, l_5, l_6, l_7, l_8, l_9, l_10, l_11, l_12, l_13, l_14, l_16, l_20, l_21, l_23, l_24, l_30, l_32, l_40, l_41, l_44, l_48, l_57, l_59, l_60, l_63, l_64, l_80, l_84, l_96, l_97, l_99, l_120, l_122, l_127, l_200, l_240, l_255, l_840, l_999, l_1000, l_1001, l_2400, l_3064, l_9999, l_10000, l_13849, l_16383, l_25173, l_65535, l_65536, l_99999, l_1000000000, neg_nI, pk_mul, nI_add, nI_subL, tn_nI, inb_t, grd_true, bnd_some, elS_l, elS_r, nI_ltI, nI_leI, nI_inj, fa_and, fa_or, m1_eq, eq_m1, m1_lt, m1_le, lt_m1, le_m1, m1_lt0, up2_at, up2_no, ite_true, ite_false, if_true, if_false, Bool.false_eq_true, reduceIte, reduceCtorEq, not_true_eq_false, not_false_eq_true, eq_self, decide_true, decide_false, le_tt, le_ff, lt_tt, lt_ff, eq_ff, and_true, true_and, and_false, false_and, or_true, true_or, or_false, false_or, ne_eq, decide_eq_true_eq, decide_eq_false_iff_not, Bool.not_true, Bool.not_false, Bool.and_true, Bool.true_and, Bool.and_false, Bool.false_and, gs_at, gs_no, oI_n, oI_s, c2]
      · rw [add_ne c (by omega), r3]; simp (disch := omega) only [l_0, l_1, l_2, l_3, l_4, l_5, l_6, l_7, l_8, l_9, l_10, l_11, l_12, l_13, l_14, l_16, l_20, l_21, l_23, l_24, l_30, l_32, l_40, l_41, l_44, l_48, l_57, l_59, l_60, l_63, l_64, l_80, l_84, l_96, l_97, l_99, l_120, l_122, l_127, l_200, l_240, l_255, l_840, l_999, l_1000, l_1001, l_2400, l_3064, l_9999, l_10000, l_13849, l_16383, l_25173, l_65535, l_65536, l_99999, l_1000000000, neg_nI, pk_mul, nI_add, nI_subL, tn_nI, inb_t, grd_true, bnd_some, elS_l, elS_r, nI_ltI, nI_leI, nI_inj, fa_and, fa_or, m1_eq, eq_m1, m1_lt, m1_le, lt_m1, le_m1, m1_lt0, up2_at, up2_no, ite_true, ite_false, if_true, if_false, Bool.false_eq_true, reduceIte, reduceCtorEq, not_true_eq_false, not_false_eq_true, eq_self, decide_true, decide_false, le_tt, le_ff, lt_tt, lt_ff, eq_ff, and_true, true_and, and_false, false_and, or_true, true_or, or_false, false_or, ne_eq, decide_eq_true_eq, decide_eq_false_iff_not, Bool.not_true, Bool.not_false, Bool.and_true, Bool.true_and, Bool.and_false, Bool.false_and, gs_at, gs_no, oI_n, oI_s, c3]
      · rw [add_ne c (by omega), r3]; simp (disch := omega) only [l_0, l_1, l_2, l_3, l_4, l_5, l_6, l_7, l_8, l_9, l_10, l_11, l_12, l_13, l_14, l_16, l_20, l_21, l_23, l_24, l_30, l_32, l_40, l_41, l_44, l_48, l_57, l_59, l_60, l_63, l_64, l_80, l_84, l_96, l_97, l_99, l_120, l_122, l_127, l_200, l_240, l_255, l_840, l_999, l_1000, l_1001, l_2400, l_3064, l_9999, l_10000, l_13849, l_16383, l_25173, l_65535, l_65536, l_99999, l_1000000000, neg_nI, pk_mul, nI_add, nI_subL, tn_nI, inb_t, grd_true, bnd_some, elS_l, elS_r, nI_ltI, nI_leI, nI_inj, fa_and, fa_or, m1_eq, eq_m1, m1_lt, m1_le, lt_m1, le_m1, m1_lt0, up2_at, up2_no, ite_true, ite_false, if_true, if_false, Bool.false_eq_true, reduceIte, reduceCtorEq, not_true_eq_false, not_false_eq_true, eq_self, decide_true, decide_false, le_tt, le_ff, lt_tt, lt_ff, eq_ff, and_true, true_and, and_false, false_and, or_true, true_or, or_false, false_or, ne_eq, decide_eq_true_eq, decide_eq_false_iff_not, Bool.not_true, Bool.not_false, Bool.and_true, Bool.true_and, Bool.and_false, Bool.false_and, gs_at, gs_no, oI_n, oI_s, c4]
      · rw [add_ne c (by omega), r3]; simp (disch := omega) only [l_0, l_1, l_2, l_3, l_4, l_5, l_6, l_7, l_8, l_9, l_10, l_11, l_12, l_13, l_14, l_16, l_20, l_21, l_23, l_24, l_30, l_32, l_40, l_41, l_44, l_48, l_57, l_59, l_60, l_63, l_64, l_80, l_84, l_96, l_97, l_99, l_120, l_122, l_127, l_200, l_240, l_255, l_840, l_999, l_1000, l_1001, l_2400, l_3064, l_9999, l_10000, l_13849, l_16383, l_25173, l_65535, l_65536, l_99999, l_1000000000, neg_nI, pk_mul, nI_add, nI_subL, tn_nI, inb_t, grd_true, bnd_some, elS_l, elS_r, nI_ltI, nI_leI, nI_inj, fa_and, fa_or, m1_eq, eq_m1, m1_lt, m1_le, lt_m1, le_m1, m1_lt0, up2_at, up2_no, ite_true, ite_false, if_true, if_false, Bool.false_eq_true, reduceIte, reduceCtorEq, not_true_eq_false, not_false_eq_true, eq_self, decide_true, decide_false, le_tt, le_ff, lt_tt, lt_ff, eq_ff, and_true, true_and, and_false, false_and, or_true, true_or, or_false, false_or, ne_eq, decide_eq_true_eq, decide_eq_false_iff_not, Bool.not_true, Bool.not_false, Bool.and_true, Bool.true_and, Bool.and_false, Bool.false_and, gs_at, gs_no, oI_n, oI_s, c5]
      · rw [add_ne c (by omega)] at q
        obtain ⟨x1, x2, x3, x4⟩ := c6 q
        refine ⟨?_, ?_, ?_, ?_⟩
        · rw [add_ne c (by omega), r3]; simp (disch := omega) only [l_0, l_1, l_2, l_3, l_4, l_5, l_6, l_7, l_8, l_9, l_10, l_11, l_12, l_13, l_14, l_16, l_20, l_21, l_23, l_24, l_30, l_32, l_40, l_41, l_44, l_48, l_57, l_59, l_60, l_63, l_64, l_80, l_84, l_96, l_97, l_99, l_120, l_122, l_127, l_200, l_240, l_255, l_840, l_999, l_1000, l_1001, l_2400, l_3064, l_9999, l_10000, l_13849, l_16383, l_25173, l_65535, l_65536, l_99999, l_1000000000, neg_nI, pk_mul, nI_add, nI_subL, tn_nI, inb_t, grd_true, bnd_some, elS_l, elS_r, nI_ltI, nI_leI, nI_inj, fa_and, fa_or, m1_eq, eq_m1, m1_lt, m1_le, lt_m1, le_m1, m1_lt0, up2_at, up2_no, ite_true, ite_false, if_true, if_false, Bool.false_eq_true, reduceIte, reduceCtorEq, not_true_eq_false, not_false_eq_true, eq_self, decide_true, decide_false, le_tt, le_ff, lt_tt, lt_ff, eq_ff, and_true, true_and, and_false, false_and, or_true, true_or, or_false, false_or, ne_eq, decide_eq_true_eq, decide_eq_false_iff_not, Bool.not_true, Bool.not_false, Bool.and_true, Bool.true_and, Bool.and_false, Bool.false_and, gs_at, gs_no, oI_n, oI_s, x1]
        · rw [add_ne c (by omega), r3]; simp (disch := omega) only [l_0, l_1, l_2, l_3, l_4, l_5, l_6, l_7, l_8, l_9, l_10, l_11, l_12, l_13, l_14, l_16, l_20, l_21, l_23, l_24, l_30, l_32, l_40, l_41, l_44, l_48, l_57, l_59, l_60, l_63, l_64, l_80, l_84, l_96, l_97, l_99, l_120, l_122, l_127, l_200, l_240, l_255, l_840, l_999, l_1000, l_1001, l_2400, l_3064, l_9999, l_10000, l_13849, l_16383, l_25173, l_65535, l_65536, l_99999, l_1000000000, neg_nI, pk_mul, nI_add, nI_subL, tn_nI, inb_t, grd_true, bnd_some, elS_l, elS_r, nI_ltI, nI_leI, nI_inj, fa_and, fa_or, m1_eq, eq_m1, m1_lt, m1_le, lt_m1, le_m1, m1_lt0, up2_at, up2_no, ite_true, ite_false, if_true, if_false, Bool.false_eq_true, reduceIte, reduceCtorEq, not_true_eq_false, not_false_eq_true, eq_self, decide_true, decide_false, le_tt, le_ff, lt_tt, lt_ff, eq_ff, and_true, true_and, and_false, false_and, or_true, true_or, or_false, false_or, ne_eq, decide_eq_true_eq, decide_eq_false_iff_not, Bool.not_true, Bool.not_false, Bool.and_true, Bool.true_and, Bool.and_false, Bool.false_and, gs_at, gs_no, oI_n, oI_s, x2]
        · rw [add_ne c (by omega), r3]; simp (disch := omega) only [l_0, l_1, l_2, l_3, l_4, l_5, l_6, l_7, l_8, l_9, l_10, l_11, l_12, l_13, l_14, l_16, l_20, l_21, l_23, l_24, l_30, l_32, l_40, l_41, l_44, l_48, l_57, l_59, l_60, l_63, l_64, l_80, l_84, l_96, l_97, l_99, l_120, l_122, l_127, l_200, l_240, l_255, l_840, l_999, l_1000, l_1001, l_2400, l_3064, l_9999, l_10000, l_13849, l_16383, l_25173, l_65535, l_65536, l_99999, l_1000000000, neg_nI, pk_mul, nI_add, nI_subL, tn_nI, inb_t, grd_true, bnd_some, elS_l, elS_r, nI_ltI, nI_leI, nI_inj, fa_and, fa_or, m1_eq, eq_m1, m1_lt, m1_le, lt_m1, le_m1, m1_lt0, up2_at, up2_no, ite_true, ite_false, if_true, if_false, Bool.false_eq_true, reduceIte, reduceCtorEq, not_true_eq_false, not_false_eq_true, eq_self, decide_true, decide_false, le_tt, le_ff, lt_tt, lt_ff, eq_ff, and_true, true_and, and_false, false_and, or_true, true_or, or_false, false_or, ne_eq, decide_eq_true_eq, decide_eq_false_iff_not, Bool.not_true, Bool.not_false, Bool.and_true, Bool.true_and, Bool.and_false, Bool.false_and, gs_at, gs_no, oI_n, oI_s, x3]
        · rw [add_ne c (by omega), add_ne c (by omega), r2]; exact x4
  · rw [add_lo (by omega) (by omega)] at hl
    rw [OC_add, ← hS.2.2.2 l hl i]
    unfold usN
    rw [r2]
theorem comes_m {h : Nat → Int32} (hF : FK M g h) (hd : g 7 < 300) (hn : 100 < n) : ∃ M', (∀ lit : Bool, Fm_comes n (nI a) (nI b) (nI r) lit M = if lit = true then bnd (Fm_lights (nI (g 7)) M') (fun z => some (nI (g 7), z)) else some (nI (g 7), M')) ∧ FK M' (addG g a b r) h ∧ Fr (fun c _ => c = 95) M M' := by
  have h7 : M.1 95 7 = nI (g 7) := hF.lo (by omega)
  have hF0 : FK (up2 M.1 95 7 (nI (g 7 + 1)), M.2) (gs g 7 (g 7 + 1)) h := hF.set (by omega) (by rw [iv_lo (by omega), gs_at])
  have hlp : ∃ r, loop (fun s1 : Int32 × Mm => Fm_comes_b23 (nI (g 7)) s1.1 s1.2) n (nI 0, (up2 M.1 95 7 (nI (g 7 + 1)), M.2)) = some r ∧ (FK r (zG (gs g 7 (g 7 + 1)) (g 7) 10) h ∧ Fr (fun c _ => c = 95) M r) := by
    refine loop_I0 (fun i (st : Int32 × Mm) => st.1 = nI i ∧ FK st.2 (zG (gs g 7 (g 7 + 1)) (g 7) i) h ∧ Fr (fun c _ => c = 95) M st.2) _ 10 ⟨rfl, ?_, Fr.I Fr.rf rfl⟩ (by omega) ?_ ?_
    · have : zG (gs g 7 (g 7 + 1)) (g 7) 0 = gs g 7 (g 7 + 1) := by
        funext j
        unfold zG
        rw [if_neg (by omega)]
      rw [this]
      exact hF0
    · rintro i ⟨s1, M1⟩ hi ⟨e1, e2, e3⟩
      simp only at e1 e2 e3
      subst e1
      left
      have hz : zG (gs g 7 (g 7 + 1)) (g 7) (i + 1) = gs (zG (gs g 7 (g 7 + 1)) (g 7) i) (64 + 10 * g 7 + i) (if i = 7 then 1 else 0) := by
        funext j
        unfold zG
        by_cases c : j = 64 + 10 * g 7 + i
        · subst c
          rw [if_pos (by omega), gs_at]
          by_cases c7 : i = 7
          · rw [if_pos (by omega), if_pos c7]
          · rw [if_neg (by omega), if_neg c7]
        · rw [gs_no c]
          by_cases c2 : 64 + 10 * g 7 ≤ j ∧ j < 64 + 10 * g 7 + i
          · rw [if_pos (by omega), if_pos c2]
          · rw [if_neg (by omega), if_neg c2]
      refine ⟨(nI (i + 1), (up2 M1.1 95 (64 + 10 * g 7 + i) (nI 0), M1.2)), ?_, rfl, ?_, Fr.I e3 rfl⟩
      · show Fm_comes_b23 (nI (g 7)) (nI i) M1 = _
        unfold Fm_comes_b23
        simp (disch := omega) only [l_0, l_1, l_2, l_3, l_4, l_5, l_6, l_7, l_8, l_9, l_10, l_11, l_12, l_13, l_14, l_16, l_20, l_21, l_23, l_24, l_30, l_32, l_40, l_41, l_44, l_48, l_57, l_59, l_60, l_63, l_64, l_80, l_84, l_96, l_97, l_99, l_120, l_122, l_127, l_200, l_240, l_255, l_840, l_999, l_1000, l_1001, l_2400, l_3064, l_9999, l_10000, l_13849, l_16383, l_25173, l_65535, l_65536, l_99999, l_1000000000, neg_nI, pk_mul, nI_add, nI_subL, tn_nI, inb_t, grd_true, bnd_some, elS_l, elS_r, nI_ltI, nI_leI, nI_inj, fa_and, fa_or, m1_eq, eq_m1, m1_lt, m1_le, lt_m1, le_m1, m1_lt0, up2_at, up2_no, ite_true, ite_false, if_true, if_false, Bool.false_eq_true, reduceIte, reduceCtorEq, not_true_eq_false, not_false_eq_true, eq_self, decide_true, decide_false, le_tt, le_ff, lt_tt, lt_ff, eq_ff, and_true, true_and, and_false, false_and, or_true, true_or, or_false, false_or, ne_eq, decide_eq_true_eq, decide_eq_false_iff_not, Bool.not_true, Bool.not_false, Bool.and_true, Bool.true_and, Bool.and_false, Bool.false_and, gs_at, gs_no, oI_n, oI_s, Fm_sets_e]
      · show FK (up2 M1.1 95 (64 + 10 * g 7 + i) (nI 0), M1.2) _ h
        rw [hz]
        refine e2.set (by omega) ?_
        by_cases c7 : i = 7
        · subst c7
          rw [iv_e, gs_at]
          rfl
        · rw [iv_d hi c7, gs_at, if_neg c7]
    · rintro ⟨s1, M1⟩ ⟨e1, e2, e3⟩
      simp only at e1 e2 e3
      subst e1
      refine ⟨M1, ?_, e2, e3⟩
      show Fm_comes_b23 (nI (g 7)) (nI 10) M1 = _
      unfold Fm_comes_b23
      simp (disch := omega) only [l_0, l_1, l_2, l_3, l_4, l_5, l_6, l_7, l_8, l_9, l_10, l_11, l_12, l_13, l_14, l_16, l_20, l_21, l_23, l_24, l_30, l_32, l_40, l_41, l_44, l_48, l_57, l_59, l_60, l_63, l_64, l_80, l_84, l_96, l_97, l_99, l_120, l_122, l_127, l_200, l_240, l_255, l_840, l_999, l_1000, l_1001, l_2400, l_3064, l_9999, l_10000, l_13849, l_16383, l_25173, l_65535, l_65536, l_99999, l_1000000000, neg_nI, pk_mul, nI_add, nI_subL, tn_nI, inb_t, grd_true, bnd_some, elS_l, elS_r, nI_ltI, nI_leI, nI_inj, fa_and, fa_or, m1_eq, eq_m1, m1_lt, m1_le, lt_m1, le_m1, m1_lt0, up2_at, up2_no, ite_true, ite_false, if_true, if_false, Bool.false_eq_true, reduceIte, reduceCtorEq, not_true_eq_false, not_false_eq_true, eq_self, decide_true, decide_false, le_tt, le_ff, lt_tt, lt_ff, eq_ff, and_true, true_and, and_false, false_and, or_true, true_or, or_false, false_or, ne_eq, decide_eq_true_eq, decide_eq_false_iff_not, Bool.not_true, Bool.not_false, Bool.and_true, Bool.true_and, Bool.and_false, Bool.false_and, gs_at, gs_no, oI_n, oI_s]
  obtain ⟨M0, l1, l2, l3⟩ := hlp
  obtain ⟨M1, a1, a2, a3⟩ := l2.sets (d := g 7) (w := 0) (v := a) hd (by omega) (by omega)
  obtain ⟨M2, b1, b2, b3⟩ := a2.sets (d := g 7) (w := 1) (v := b) hd (by omega) (by omega)
  obtain ⟨M3, c1, c2, c3⟩ := b2.sets (d := g 7) (w := 2) (v := r) hd (by omega) (by omega)
  obtain ⟨M4, d1, d2, d3⟩ := c2.sets (d := g 7) (w := 3) (v := 1) hd (by omega) (by omega)
  obtain ⟨M5, e1, e2, e3⟩ := d2.setE (d := g 7) (v := 0) (x := ng 1) hd rfl
  refine ⟨M5, fun lit => ?_, e2, ((((l3.tr a3).tr b3).tr c3).tr d3).tr e3⟩
  unfold Fm_comes
  simp (disch := omega) only [l_0, l_1, l_2, l_3, l_4, l_5, l_6, l_7, l_8, l_9, l_10, l_11, l_12, l_13, l_14, l_16, l_20, l_21, l_23, l_24, l_30, l_32, l_40, l_41, l_44, l_48, l_57, l_59, l_60, l_63, l_64, l_80, l_84, l_96, l_97, l_99, l_120, l_122, l_127, l_200, l_240, l_255, l_840, l_999, l_1000, l_1001, l_2400, l_3064, l_9999, l_10000, l_13849, l_16383, l_25173, l_65535, l_65536, l_99999, l_1000000000, neg_nI, pk_mul, nI_add, nI_subL, tn_nI, inb_t, grd_true, bnd_some, elS_l, elS_r, nI_ltI, nI_leI, nI_inj, fa_and, fa_or, m1_eq, eq_m1, m1_lt, m1_le, lt_m1, le_m1, m1_lt0, up2_at, up2_no, ite_true, ite_false, if_true, if_false, Bool.false_eq_true, reduceIte, reduceCtorEq, not_true_eq_false, not_false_eq_true, eq_self, decide_true, decide_false, le_tt, le_ff, lt_tt, lt_ff, eq_ff, and_true, true_and, and_false, false_and, or_true, true_or, or_false, false_or, ne_eq, decide_eq_true_eq, decide_eq_false_iff_not, Bool.not_true, Bool.not_false, Bool.and_true, Bool.true_and, Bool.and_false, Bool.false_and, gs_at, gs_no, oI_n, oI_s, h7, l1, a1, b1, c1, d1, e1]
end
theorem op_ask {n : Nat} (hn : 1099511627776 < n) (x y z u : Int32) : T2 (Fg_ask n x y z u) (Fm_ask n x y z u) := by
  intro g hg
  have hG := hg.1.1
  have h40 := hg.2.2
  have b1 := hg.1.2.1.1
  by_cases hx : (plB (g 0) x y && rg z 1 64 && inb u 4) = true
  · have hx' := hx
    rw [Bool.and_eq_true, Bool.and_eq_true] at hx
    obtain ⟨a, b, ha, hb, hab, rfl, rfl⟩ := (pl_iff (by omega)).mp hx.1.1
    obtain ⟨r, r1, r2, rfl⟩ := (rg_iff (by decide)).mp hx.1.2
    obtain ⟨ru, hu, rfl⟩ := (inb_iff (by decide)).mp hx.2
    have hw : ∀ M, SV M 18 g → Fg_isWish (nI a) (nI b) (nI r) M = some true := fun M hS => by
      rw [Fg_isWish_e (hS.1.1.1 0 (by omega)) (by omega), hx.1.1, hx.1.2]; rfl
    have hq : ∀ M h, FK M g h → Fm_isAsked (nI a) (nI b) (nI r) (nI ru) M = some true := fun M h hF => by
      rw [Fm_isAsked_e (hF.lo (by omega)) (by omega), hx']
    have hrl : ∀ M, Fg_isRule (nI ru) M = some true := fun M => by rw [Fg_isRule_e, hx.2]
    by_cases h7 : g 7 = 40
    · refine ⟨ng 3, g, hg, fun M hS hA => TC.id hS hA ?_, fun M h hF => TM.id hF ?_⟩
      · have h4 := hS.2.1
        unfold Fg_ask
        simp (disch := omega) only [l_0, l_1, l_2, l_3, l_4, l_5, l_6, l_7, l_8, l_9, l_10, l_11, l_12, l_13, l_14, l_16, l_20, l_21, l_23, l_24, l_30, l_32, l_40, l_41, l_44, l_48, l_57, l_59, l_60, l_63, l_64, l_80, l_84, l_96, l_97, l_99, l_120, l_122, l_127, l_200, l_240, l_255, l_840, l_999, l_1000, l_1001, l_2400, l_3064, l_9999, l_10000, l_13849, l_16383, l_25173, l_65535, l_65536, l_99999, l_1000000000, neg_nI, pk_mul, nI_add, nI_subL, tn_nI, inb_t, grd_true, bnd_some, elS_l, elS_r, nI_ltI, nI_leI, nI_inj, fa_and, fa_or, m1_eq, eq_m1, m1_lt, m1_le, lt_m1, le_m1, m1_lt0, up2_at, up2_no, ite_true, ite_false, if_true, if_false, Bool.false_eq_true, reduceIte, reduceCtorEq, not_true_eq_false, not_false_eq_true, eq_self, decide_true, decide_false, le_tt, le_ff, lt_tt, lt_ff, eq_ff, and_true, true_and, and_false, false_and, or_true, true_or, or_false, false_or, ne_eq, decide_eq_true_eq, decide_eq_false_iff_not, Bool.not_true, Bool.not_false, Bool.and_true, Bool.true_and, Bool.and_false, Bool.false_and, gs_at, gs_no, oI_n, oI_s, hw M hS, hrl, h4, h7]
      · unfold Fm_ask
        simp (disch := omega) only [l_0, l_1, l_2, l_3, l_4, l_5, l_6, l_7, l_8, l_9, l_10, l_11, l_12, l_13, l_14, l_16, l_20, l_21, l_23, l_24, l_30, l_32, l_40, l_41, l_44, l_48, l_57, l_59, l_60, l_63, l_64, l_80, l_84, l_96, l_97, l_99, l_120, l_122, l_127, l_200, l_240, l_255, l_840, l_999, l_1000, l_1001, l_2400, l_3064, l_9999, l_10000, l_13849, l_16383, l_25173, l_65535, l_65536, l_99999, l_1000000000, neg_nI, pk_mul, nI_add, nI_subL, tn_nI, inb_t, grd_true, bnd_some, elS_l, elS_r, nI_ltI, nI_leI, nI_inj, fa_and, fa_or, m1_eq, eq_m1, m1_lt, m1_le, lt_m1, le_m1, m1_lt0, up2_at, up2_no, ite_true, ite_false, if_true, if_false, Bool.false_eq_true, reduceIte, reduceCtorEq, not_true_eq_false, not_false_eq_true, eq_self, decide_true, decide_false, le_tt, le_ff, lt_tt, lt_ff, eq_ff, and_true, true_and, and_false, false_and, or_true, true_or, or_false, false_or, ne_eq, decide_eq_true_eq, decide_eq_false_iff_not, Bool.not_true, Bool.not_false, Bool.and_true, Bool.true_and, Bool.and_false, Bool.false_and, gs_at, gs_no, oI_n, oI_s, hq M h hF, hF.lo, h7]
    · have hga := GV_add hg ha hb hab r1 r2 (by omega)
      have e0 : addG g a b r 0 = g 0 := add_lo (by omega) (by omega)
      have e3 : addG g a b r 3 = g 3 := add_lo (by omega) (by omega)
      have hfd : fdW (addG g a b r) a b r ru = fdW g a b r ru := fdW_add hg.1 (by omega) (by omega) r2 (by omega) r1
      have hwy : waysG (addG g a b r) a b = waysG g a b := ways_add hg.1
      cases hf : fdW g a b r ru with
      | none =>
        refine ⟨ng 2, addG g a b r, hga, fun M hS hA => ?_, fun M h hF => ?_⟩
        · obtain ⟨M1, a1, a2, a3⟩ := St_add_e (a := a) (b := b) (r := r) hS (by omega) (by omega)
          have hA1 : CA M1 (addG g a b r) := (hA.fr a3 (fun j => by unfold fp_St_add; omega)).cong (by omega) (fun k h1 h2 h3 => add_lo h1 (by omega))
          obtain ⟨M2, c1, c2, c3, c4⟩ := find_c hga.1 a2.1 a2.2.2.2 hA1 (by omega) (n := n) (by omega) (a := a) (b := b) (rate := r) (rule := ru) (by omega) (by omega) hab r1 r2 hu
          rw [hfd, hf] at c1
          refine ⟨M2, ?_, a2.fr c4 (fun k j hk => by unfold fp_Fi_find; omega), c3, (a3.mono (fun c j q => by unfold fp_St_add at q; unfold PC; omega)).tr (c4.mono (fun c j q => by unfold fp_Fi_find at q; unfold PC; omega))⟩
          have h4 := hS.2.1
          unfold Fg_ask
          simp (disch := omega) only [l_0, l_1, l_2, l_3, l_4, l_5, l_6, l_7, l_8, l_9, l_10, l_11, l_12, l_13, l_14, l_16, l_20, l_21, l_23, l_24, l_30, l_32, l_40, l_41, l_44, l_48, l_57, l_59, l_60, l_63, l_64, l_80, l_84, l_96, l_97, l_99, l_120, l_122, l_127, l_200, l_240, l_255, l_840, l_999, l_1000, l_1001, l_2400, l_3064, l_9999, l_10000, l_13849, l_16383, l_25173, l_65535, l_65536, l_99999, l_1000000000, neg_nI, pk_mul, nI_add, nI_subL, tn_nI, inb_t, grd_true, bnd_some, elS_l, elS_r, nI_ltI, nI_leI, nI_inj, fa_and, fa_or, m1_eq, eq_m1, m1_lt, m1_le, lt_m1, le_m1, m1_lt0, up2_at, up2_no, ite_true, ite_false, if_true, if_false, Bool.false_eq_true, reduceIte, reduceCtorEq, not_true_eq_false, not_false_eq_true, eq_self, decide_true, decide_false, le_tt, le_ff, lt_tt, lt_ff, eq_ff, and_true, true_and, and_false, false_and, or_true, true_or, or_false, false_or, ne_eq, decide_eq_true_eq, decide_eq_false_iff_not, Bool.not_true, Bool.not_false, Bool.and_true, Bool.true_and, Bool.and_false, Bool.false_and, gs_at, gs_no, oI_n, oI_s, hw M hS, hrl, h4, a1, c1, Option.isSome_none]
        · obtain ⟨M1, c1, c2, c3, c4⟩ := find_m hg.1 hF hn ha hb hab r1 r2 hu
          rw [hf] at c1
          obtain ⟨M2, d1, d2, d3⟩ := comes_m (a := a) (b := b) (r := r) (n := n) c3 (by omega) (by omega)
          refine TM.mk (M2 := M2) (P := fun c j => fp_Fm_findsFor c j ∨ c = 95) ?_ d2 ((c4.mono (fun c j q => .inl q)).tr (d3.mono (fun c j q => .inr q))) (fun c j q => by unfold fp_Fm_findsFor at q; unfold PM; omega)
          unfold Fm_ask
          simp (disch := omega) only [l_0, l_1, l_2, l_3, l_4, l_5, l_6, l_7, l_8, l_9, l_10, l_11, l_12, l_13, l_14, l_16, l_20, l_21, l_23, l_24, l_30, l_32, l_40, l_41, l_44, l_48, l_57, l_59, l_60, l_63, l_64, l_80, l_84, l_96, l_97, l_99, l_120, l_122, l_127, l_200, l_240, l_255, l_840, l_999, l_1000, l_1001, l_2400, l_3064, l_9999, l_10000, l_13849, l_16383, l_25173, l_65535, l_65536, l_99999, l_1000000000, neg_nI, pk_mul, nI_add, nI_subL, tn_nI, inb_t, grd_true, bnd_some, elS_l, elS_r, nI_ltI, nI_leI, nI_inj, fa_and, fa_or, m1_eq, eq_m1, m1_lt, m1_le, lt_m1, le_m1, m1_lt0, up2_at, up2_no, ite_true, ite_false, if_true, if_false, Bool.false_eq_true, reduceIte, reduceCtorEq, not_true_eq_false, not_false_eq_true, eq_self, decide_true, decide_false, le_tt, le_ff, lt_tt, lt_ff, eq_ff, and_true, true_and, and_false, false_and, or_true, true_or, or_false, false_or, ne_eq, decide_eq_true_eq, decide_eq_false_iff_not, Bool.not_true, Bool.not_false, Bool.and_true, Bool.true_and, Bool.and_false, Bool.false_and, gs_at, gs_no, oI_n, oI_s, hq M h hF, hF.lo, c1, d1, Option.isSome_none, h7]
      | some p =>
        obtain ⟨p1, p2, p3, p4, p5⟩ := fdW_ok hg.1.2.1 ha hab r1 r2 hf
        have hwl := ways_len (g := g) (a := a) (b := b)
        have hgl : GV (litG (addG g a b r) (g 7) (wkO (waysG g a b) p.1) p.2.1 p.2.2.1) := GV_lit hga (by rw [add_7]; omega) p3.1 p2.1 (by rw [e3]; exact p2.2) (by rw [fit_add]; exact p5) (.inr (.inr add_d7))
        refine ⟨nI (g 7), litG (addG g a b r) (g 7) (wkO (waysG g a b) p.1) p.2.1 p.2.2.1, hgl, fun M hS hA => ?_, fun M h hF => ?_⟩
        · obtain ⟨M1, a1, a2, a3⟩ := St_add_e (a := a) (b := b) (r := r) hS (by omega) (by omega)
          have hA1 : CA M1 (addG g a b r) := (hA.fr a3 (fun j => by unfold fp_St_add; omega)).cong (by omega) (fun k h1 h2 h3 => add_lo h1 (by omega))
          obtain ⟨M2, c1, c2, c3, c4⟩ := find_c hga.1 a2.1 a2.2.2.2 hA1 (by omega) (n := n) (by omega) (a := a) (b := b) (rate := r) (rule := ru) (by omega) (by omega) hab r1 r2 hu
          rw [hfd, hf] at c1
          obtain ⟨k1, k2, k3, k4⟩ := c2 p (by rw [hfd]; exact hf)
          rw [hwy] at k2
          have hS2 : SV M2 18 (addG g a b r) := a2.fr c4 (fun k j hk => by unfold fp_Fi_find; omega)
          obtain ⟨M3, d1, d2, d3⟩ := SV_put hga.1 hga.2.2 hS2 (n := n) (d := g 7) (on := wkO (waysG g a b) p.1) (f := p.2.1) (w := p.2.2.1) (by rw [add_7]; omega) (by rw [add_d3]; omega) (by rw [e3]; exact p2.2) (by omega) (by omega)
          refine ⟨M3, ?_, d2, (c3.fr d3 (fun j => by unfold fp_St_put; omega)).cong (by omega) (fun k h1 h2 h3 => lit_lo h1), ((a3.mono (fun c j q => by unfold fp_St_add at q; unfold PC; omega)).tr (c4.mono (fun c j q => by unfold fp_Fi_find at q; unfold PC; omega))).tr (d3.mono (fun c j q => by unfold fp_St_put at q; unfold PC; omega))⟩
          have h4 := hS.2.1
          unfold Fg_ask
          simp (disch := omega) only [l_0, l_1, l_2, l_3, l_4, l_5, l_6, l_7, l_8, l_9, l_10, l_11, l_12, l_13, l_14, l_16, l_20, l_21, l_23, l_24, l_30, l_32, l_40, l_41, l_44, l_48, l_57, l_59, l_60, l_63, l_64, l_80, l_84, l_96, l_97, l_99, l_120, l_122, l_127, l_200, l_240, l_255, l_840, l_999, l_1000, l_1001, l_2400, l_3064, l_9999, l_10000, l_13849, l_16383, l_25173, l_65535, l_65536, l_99999, l_1000000000, neg_nI, pk_mul, nI_add, nI_subL, tn_nI, inb_t, grd_true, bnd_some, elS_l, elS_r, nI_ltI, nI_leI, nI_inj, fa_and, fa_or, m1_eq, eq_m1, m1_lt, m1_le, lt_m1, le_m1, m1_lt0, up2_at, up2_no, ite_true, ite_false, if_true, if_false, Bool.false_eq_true, reduceIte, reduceCtorEq, not_true_eq_false, not_false_eq_true, eq_self, decide_true, decide_false, le_tt, le_ff, lt_tt, lt_ff, eq_ff, and_true, true_and, and_false, false_and, or_true, true_or, or_false, false_or, ne_eq, decide_eq_true_eq, decide_eq_false_iff_not, Bool.not_true, Bool.not_false, Bool.and_true, Bool.true_and, Bool.and_false, Bool.false_and, gs_at, gs_no, oI_n, oI_s, hw M hS, hrl, h4, a1, c1, Option.isSome_some, k2, k3, k4, d1]
        · obtain ⟨M1, c1, c2, c3, c4⟩ := find_m hg.1 hF hn ha hb hab r1 r2 hu
          rw [hf] at c1
          obtain ⟨k1, k2, k3, k4⟩ := c2 p hf
          obtain ⟨M2, d1, d2, d3⟩ := comes_m (a := a) (b := b) (r := r) (n := n) c3 (by omega) (by omega)
          obtain ⟨M3, f1, f2, f3⟩ := lights_m (d := g 7) (on := wkO (waysG g a b) p.1) (f := p.2.1) (w := p.2.2.1) (k := p.1) d2 (by omega) (by omega) ((d3 94 20 (by omega)).1.trans k1) ((d3 94 21 (by omega)).1.trans k2) ((d3 94 22 (by omega)).1.trans k3) ((d3 99 p.1 (by omega)).1.trans k4)
          refine TM.mk (M2 := M3) (P := fun c j => fp_Fm_findsFor c j ∨ c = 95) ?_ f2 (((c4.mono (fun c j q => .inl q)).tr (d3.mono (fun c j q => .inr q))).tr (f3.mono (fun c j q => .inr q))) (fun c j q => by unfold fp_Fm_findsFor at q; unfold PM; omega)
          unfold Fm_ask
          simp (disch := omega) only [l_0, l_1, l_2, l_3, l_4, l_5, l_6, l_7, l_8, l_9, l_10, l_11, l_12, l_13, l_14, l_16, l_20, l_21, l_23, l_24, l_30, l_32, l_40, l_41, l_44, l_48, l_57, l_59, l_60, l_63, l_64, l_80, l_84, l_96, l_97, l_99, l_120, l_122, l_127, l_200, l_240, l_255, l_840, l_999, l_1000, l_1001, l_2400, l_3064, l_9999, l_10000, l_13849, l_16383, l_25173, l_65535, l_65536, l_99999, l_1000000000, neg_nI, pk_mul, nI_add, nI_subL, tn_nI, inb_t, grd_true, bnd_some, elS_l, elS_r, nI_ltI, nI_leI, nI_inj, fa_and, fa_or, m1_eq, eq_m1, m1_lt, m1_le, lt_m1, le_m1, m1_lt0, up2_at, up2_no, ite_true, ite_false, if_true, if_false, Bool.false_eq_true, reduceIte, reduceCtorEq, not_true_eq_false, not_false_eq_true, eq_self, decide_true, decide_false, le_tt, le_ff, lt_tt, lt_ff, eq_ff, and_true, true_and, and_false, false_and, or_true, true_or, or_false, false_or, ne_eq, decide_eq_true_eq, decide_eq_false_iff_not, Bool.not_true, Bool.not_false, Bool.and_true, Bool.true_and, Bool.and_false, Bool.false_and, gs_at, gs_no, oI_n, oI_s, hq M h hF, hF.lo, c1, d1, Option.isSome_some, f1, h7]
  · have hx' := ts_nt hx
    refine ⟨ng 1, g, hg, fun M hS hA => TC.id hS hA ?_, fun M h hF => TM.id hF ?_⟩
    · unfold Fg_ask
      rw [Fg_isWish_e (hS.1.1.1 0 (by omega)) (by omega), bnd_some]
      cases hw : (plB (g 0) x y && rg z 1 64) with
      | false => rfl
      | true =>
        rw [hw, Bool.true_and] at hx'
        rw [Fg_isRule_e, hx']
        rfl
    · unfold Fm_ask
      rw [Fm_isAsked_e (hF.lo (by omega)) (by omega), hx']
      rfl
