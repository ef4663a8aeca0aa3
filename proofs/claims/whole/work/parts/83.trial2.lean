/-! trials: one time behind another; calls: trial, bestRule -/
def mxO (a b : Option Nat) : Option Nat := match a, b with
  | none, y => y
  | some x, none => some x
  | some x, some y => some (max x y)
def leO (a b : Option Nat) : Prop := ∀ x, a = some x → ∃ y, b = some y ∧ x ≤ y
theorem mx_le {a b : Option Nat} (h : leO b a) : mxO a b = a := by
  cases b with
  | none => cases a <;> rfl
  | some y =>
    obtain ⟨x, rfl, h1⟩ := h y rfl
    show some (max x y) = some x
    rw [Nat.max_eq_left h1]
theorem le_mx {a b : Option Nat} : leO b (mxO a b) := by
  intro x hx
  subst hx
  cases a with
  | none => exact ⟨x, rfl, Nat.le_refl _⟩
  | some z => exact ⟨max z x, rfl, Nat.le_max_right _ _⟩
theorem leO_tr {a b c : Option Nat} (h1 : leO a b) (h2 : leO b c) : leO a c := by
  intro x hx
  obtain ⟨y, hy, q1⟩ := h1 x hx
  obtain ⟨z, hz, q2⟩ := h2 y hy
  exact ⟨z, hz, Nat.le_trans q1 q2⟩
def smO (a : Option Nat) : Prop := ∀ x, a = some x → x < 100
theorem imx_O {a b : Option Nat} (ha : smO a) (hb : smO b) : imx (oI a) (oI b) = oI (mxO a b) := by
  cases a with
  | none => cases b with
    | none => rfl
    | some y =>
      have := hb y rfl
      show imx (ng 1) (nI y) = nI y
      unfold imx
      rw [if_pos (by rw [m1_lt (by omega) (by omega) (by omega)]; trivial)]
  | some x => cases b with
    | none =>
      have := ha x rfl
      show imx (nI x) (ng 1) = nI x
      unfold imx
      rw [if_neg (by rw [lt_m1 (by omega) (by omega)]; exact id)]
    | some y =>
      have := ha x rfl
      have := hb y rfl
      exact imx_e (by omega) (by omega)
theorem Fm_max_O {a b : Option Nat} {M : Mm} (ha : smO a) (hb : smO b) : Fm_max (oI a) (oI b) M = some (oI (mxO a b)) := by
  cases a with
  | none => cases b with
    | none => rfl
    | some y =>
      have := hb y rfl
      exact Fm_max_n (by omega)
  | some x => cases b with
    | none =>
      have := ha x rfl
      show Fm_max (nI x) (ng 1) M = some (nI x)
      unfold Fm_max
      rw [if_neg (by rw [le_m1 (by omega) (by omega) (by omega)]; exact id)]
    | some y =>
      have := ha x rfl
      have := hb y rfl
      exact Fm_max_e (by omega) (by omega)
theorem mx_sm {a b : Option Nat} (ha : smO a) (hb : smO b) : smO (mxO a b) := by
  intro z hz
  cases a with
  | none => exact hb z hz
  | some x => cases b with
    | none => exact ha z hz
    | some y =>
      have := ha x rfl
      have := hb y rfl
      cases hz
      omega
theorem tp_mono {g g' : Nat → Nat} (hL : LV g) (hL' : LV g') {l : Nat} (h : ∀ i, OC g' l none i → OC g l none i) : leO (tpF g' l (g' 7)) (tpF g l (g 7)) := by
  intro x h1
  have hx := h x ((tp_oc hL').2 x h1).1
  cases h2 : tpF g l (g 7) with
  | none => exact ((tp_oc hL).1 h2 x hx).elim
  | some y => exact ⟨y, rfl, ((tp_oc hL).2 y h2).2 x hx⟩
theorem OC_of {g : Nat → Nat} {P : Nat → Bool} {k l i : Nat} (h : OC (ofS g P k) l none i) : OC g l none i := by
  obtain ⟨d, h1, h2, h3, h4, h5⟩ := h
  rw [of_lo (by omega)] at h1
  rw [of_w (by omega) (by omega)] at h4
  rw [of_w (w := 4) (by omega) (by omega), of_w (w := 5) (by omega) (by omega)] at h5
  refine ⟨d, h1, h2, ?_, h4, h5⟩
  rw [of_3] at h3
  split at h3
  · omega
  · exact h3
theorem litMany_m {M : Mm} {g : Nat → Nat} {h : Nat → Int32} {n : Nat} (hG : GB g) (hF : FK M g h) (hn : 300 < n) : Fm_litMany n M = some (nI (fb_ct (ltS g) (g 7))) := by
  have h300 := hG.2
  have h7 := hF.lo (k := 7) (by omega)
  have hl := loop_zero (body := fun s1 : Int32 × Int32 => Fm_litMany_b4 M s1.1 s1.2) (fun i => (nI (fb_ct (ltS g) i), nI i)) (g 7) (nI (fb_ct (ltS g) (g 7))) (fun i hi => by
      have hil := Fm_isLit_e (hF.FR hG) hG (d := i) hi
      have hct := fb_ct_le (ltS g) i
      rw [fb_ct_succ]
      show Fm_litMany_b4 M (nI (fb_ct (ltS g) i)) (nI i) = _
      unfold Fm_litMany_b4 Fm_litMany_j27 ltS
      by_cases c : g (64 + 10 * i + 3) = 0
      · simp (disch := omega) only [l_0, l_1, l_2, l_3, l_4, l_5, l_6, l_7, l_8, l_9, l_10, l_11, l_12, l_13, l_14, l_16, l_20, l_21, l_23, l_24, l_30, l_32, l_40, l_41, l_44, l_48, l_57, l_59, l_60, l_63, l_64, l_80, l_84, l_96, l_97, l_99, l_120, l_122, l_127, l_200, l_240, l_255, l_840, l_999, l_1000, l_1001, l_2400, l_3064, l_9999, l_10000, l_13849, l_16383, l_25173, l_65535, l_65536, l_99999, l_1000000000, neg_nI, pk_mul, nI_add, nI_subL, tn_nI, inb_t, grd_true, bnd_some, elS_l, elS_r, nI_ltI, nI_leI, nI_inj, fa_and, fa_or, m1_eq, eq_m1, m1_lt, m1_le, lt_m1, le_m1, m1_lt0, up2_at, up2_no, ite_true, ite_false, if_true, if_false, Bool.false_eq_true, reduceIte, reduceCtorEq, not_true_eq_false, not_false_eq_true, eq_self, decide_true, decide_false, le_tt, le_ff, lt_tt, lt_ff, eq_ff, and_true, true_and, and_false, false_and, or_true, true_or, or_false, false_or, ne_eq, decide_eq_true_eq, decide_eq_false_iff_not, Bool.not_true, Bool.not_false, Bool.and_true, Bool.true_and, Bool.and_false, Bool.false_and, gs_at, gs_no, oI_n, oI_s, h7, hil, c]
      · simp (disch := omega) only [l_0, l_1, l_2, l_3, l_4, l_5, l_6, l_7, l_8, l_9, l_10, l_11, l_12, l_13, l_14, l_16, l_20, l_21, l_23, l_24, l_30, l_32, l_40, l_41, l_44, l_48, l_57, l_59, l_60, l_63, l_64, l_80, l_84, l_96, l_97, l_99, l_120, l_122, l_127, l_200, l_240, l_255, l_840, l_999, l_1000, l_1001, l_2400, l_3064, l_9999, l_10000, l_13849, l_16383, l_25173, l_65535, l_65536, l_99999, l_1000000000, neg_nI, pk_mul, nI_add, nI_subL, tn_nI, inb_t, grd_true, bnd_some, elS_l, elS_r, nI_ltI, nI_leI, nI_inj, fa_and, fa_or, m1_eq, eq_m1, m1_lt, m1_le, lt_m1, le_m1, m1_lt0, up2_at, up2_no, ite_true, ite_false, if_true, if_false, Bool.false_eq_true, reduceIte, reduceCtorEq, not_true_eq_false, not_false_eq_true, eq_self, decide_true, decide_false, le_tt, le_ff, lt_tt, lt_ff, eq_ff, and_true, true_and, and_false, false_and, or_true, true_or, or_false, false_or, ne_eq, decide_eq_true_eq, decide_eq_false_iff_not, Bool.not_true, Bool.not_false, Bool.and_true, Bool.true_and, Bool.and_false, Bool.false_and, gs_at, gs_no, oI_n, oI_s, h7, hil, c, Nat.add_zero]) (by
      show Fm_litMany_b4 M _ (nI (g 7)) = _
      unfold Fm_litMany_b4
      simp (disch := omega) only [l_0, l_1, l_2, l_3, l_4, l_5, l_6, l_7, l_8, l_9, l_10, l_11, l_12, l_13, l_14, l_16, l_20, l_21, l_23, l_24, l_30, l_32, l_40, l_41, l_44, l_48, l_57, l_59, l_60, l_63, l_64, l_80, l_84, l_96, l_97, l_99, l_120, l_122, l_127, l_200, l_240, l_255, l_840, l_999, l_1000, l_1001, l_2400, l_3064, l_9999, l_10000, l_13849, l_16383, l_25173, l_65535, l_65536, l_99999, l_1000000000, neg_nI, pk_mul, nI_add, nI_subL, tn_nI, inb_t, grd_true, bnd_some, elS_l, elS_r, nI_ltI, nI_leI, nI_inj, fa_and, fa_or, m1_eq, eq_m1, m1_lt, m1_le, lt_m1, le_m1, m1_lt0, up2_at, up2_no, ite_true, ite_false, if_true, if_false, Bool.false_eq_true, reduceIte, reduceCtorEq, not_true_eq_false, not_false_eq_true, eq_self, decide_true, decide_false, le_tt, le_ff, lt_tt, lt_ff, eq_ff, and_true, true_and, and_false, false_and, or_true, true_or, or_false, false_or, ne_eq, decide_eq_true_eq, decide_eq_false_iff_not, Bool.not_true, Bool.not_false, Bool.and_true, Bool.true_and, Bool.and_false, Bool.false_and, gs_at, gs_no, oI_n, oI_s, h7]) (n := n) (by omega)
  unfold Fm_litMany
  rw [l_0]
  exact (bnd_e hl).trans rfl
/-! one time -/
section
variable {g : Nat → Nat} {n t N load u B R : Nat} {T : Option Nat}
/-- the grid once all is drawn -/
def drG (g : Nat → Nat) (t : Nat) : Nat → Nat := gs (ofS g (enB g t) (g 7)) 6 (drN (drN (drN (drN (g 6)))))
def fmN (g : Nat → Nat) : Nat := drN (g 6) % g 0
def toN (g : Nat → Nat) : Nat := (fmN g + 1 + drN (drN (g 6)) % (g 0 - 1)) % g 0
def rtN (g : Nat → Nat) (load : Nat) : Nat := 1 + drN (drN (drN (g 6))) % load
def edN (g : Nat → Nat) (t : Nat) : Nat := t + 1 + drN (drN (drN (drN (g 6)))) % 20
/-- the grid behind a time -/
def stG (g : Nat → Nat) (t load u : Nat) : Nat → Nat := match fdW (drG g t) (fmN g) (toN g) (rtN g load) u with
  | none => gs (addG (drG g t) (fmN g) (toN g) (rtN g load)) (64 + 10 * t + 7) 0
  | some p => gs (layG (drG g t) (fmN g) (toN g) (rtN g load) p) (64 + 10 * t + 7) (edN g t + 1)
theorem dr_W (hW : GW g) : GW (drG g t) := by
  have := dr_lt (drN (drN (drN (g 6))))
  have hW1 := of_W (P := enB g t) hW (g 7)
  unfold drG
  exact GW_cong hW1 (GB_gs hW1.1 (by omega) (by omega)) (fun j _ _ _ q _ => gs_no q) (by rw [gs_no (by omega)]; exact hW1.2.1.1.2.2.2.2.2.2) (fun d _ w _ _ => gs_no (by omega))
theorem dr_lo {k : Nat} (h : k < 64) (h6 : k ≠ 6) : drG g t k = g k := by
  unfold drG
  rw [gs_no h6, of_lo h]
theorem pr_ok (hW : GW g) (hl : 1 ≤ load) (hl2 : load ≤ 64) : fmN g < g 0 ∧ toN g < g 0 ∧ fmN g ≠ toN g ∧ 1 ≤ rtN g load ∧ rtN g load ≤ 64 := by
  have b1 := hW.2.1.1
  have h1 : fmN g < g 0 := Nat.mod_lt _ (by omega)
  have h2 := to_ne (N := g 0) (a := fmN g) (k := drN (drN (g 6)) % (g 0 - 1)) h1 (Nat.mod_lt _ (by omega))
  have h3 : drN (drN (drN (g 6))) % load < load := Nat.mod_lt _ (by omega)
  unfold rtN
  exact ⟨h1, h2.1, h2.2, by omega, by omega⟩
theorem OC_set7 {d v l i : Nat} : OC (gs g (64 + 10 * d + 7) v) l none i ↔ OC g l none i := OC_cong (gs_no (by omega)) (fun e _ w h1 h2 => gs_no (by omega))
theorem W_set7 {d v : Nat} (hW : GW g) (hv : v < 1048576) : GW (gs g (64 + 10 * d + 7) v) :=
  GW_cong hW (GB_gs hW.1 hv (by omega)) (fun j _ _ _ _ _ => gs_no (by omega)) (by rw [gs_no (by omega)]; exact hW.2.1.1.2.2.2.2.2.2) (fun e _ w _ _ => gs_no (by omega))
theorem dr_3 {d : Nat} : drG g t (64 + 10 * d + 3) = if d < g 7 ∧ enB g t d = true then 3 else g (64 + 10 * d + 3) := by
  unfold drG
  rw [gs_no (by omega), of_3]
theorem dr_w {d w : Nat} (h : w < 10) (h3 : w ≠ 3) : drG g t (64 + 10 * d + w) = g (64 + 10 * d + w) := by
  unfold drG
  rw [gs_no (by omega), of_w h h3]
theorem dr_lit {d : Nat} (hT : TG g t (t + 1)) (hd : d < t) (h : drG g t (64 + 10 * d + 3) = 0) : g (64 + 10 * d + 3) = 0 ∧ t + 2 ≤ g (64 + 10 * d + 7) ∧ g (64 + 10 * d + 7) ≤ d + 21 := by
  rw [dr_3] at h
  split at h
  · omega
  · next q =>
    have h1 := (hT.2.2.2 d hd).2 h
    refine ⟨h, ?_, h1.2⟩
    rcases Nat.lt_or_ge (t + 1) (g (64 + 10 * d + 7)) with w | w
    · exact w
    · exact absurd ⟨by rw [hT.2.1]; exact hd, decide_eq_true ⟨.inl h, by omega⟩⟩ q
theorem st_TG (ht : t < 200) (hT : TG g t (t + 1)) (hl : 1 ≤ load) (hl2 : load ≤ 64) (hu : u < 4) : TG (stG g t load u) (t + 1) (t + 2) := by
  obtain ⟨hW, h7, h6, hd⟩ := id hT
  obtain ⟨p1, p2, p3, p4, p5⟩ := pr_ok hW hl hl2
  have b1 := hW.2.1.1
  have hWd := dr_W (t := t) hW
  have d7 : drG g t 7 = t := by rw [dr_lo (by omega) (by omega)]; exact h7
  have d0 : drG g t 0 = g 0 := dr_lo (by omega) (by omega)
  have d6 : drG g t 6 ≤ 65535 := by
    have := dr_lt (drN (drN (drN (g 6))))
    unfold drG
    rw [gs_at]
    omega
  have he : drN (drN (drN (drN (g 6)))) % 20 < 20 := Nat.mod_lt _ (by decide)
  unfold stG
  cases hf : fdW (drG g t) (fmN g) (toN g) (rtN g load) u with
  | none =>
    refine ⟨W_set7 (GW_add hWd (by omega) (by omega) p5 (by omega)) (by omega), ?_, ?_, fun d hdt => ?_⟩
    · show gs _ _ _ 7 = _
      rw [gs_no (by omega), add_7, d7]
    · show gs _ _ _ 6 ≤ _
      rw [gs_no (by omega), add_lo (by omega) (by omega)]; exact d6
    · show gs _ _ _ (64 + 10 * d + 3) ≠ 2 ∧ (gs _ _ _ (64 + 10 * d + 3) = 0 → t + 2 ≤ gs _ _ _ (64 + 10 * d + 7) ∧ gs _ _ _ (64 + 10 * d + 7) ≤ d + 21)
      rw [gs_no (by omega)]
      by_cases c : d = t
      · have e3 : addG (drG g t) (fmN g) (toN g) (rtN g load) (64 + 10 * d + 3) = 1 := by
          have := add_d3 (g := drG g t) (a := fmN g) (b := toN g) (r := rtN g load)
          rw [d7] at this
          rw [c]
          exact this
        rw [e3]
        exact ⟨by omega, fun q => by omega⟩
      · rw [gs_no (by omega), add_ne (by omega) (by omega), add_ne (by omega) (by omega)]
        refine ⟨?_, fun q => ?_⟩
        · rw [dr_3]
          have := (hd d (by omega)).1
          split <;> omega
        · have := dr_lit hT (by omega) q
          rw [dr_w (by omega) (by omega)]
          omega
  | some p =>
    refine ⟨W_set7 (lay_W hWd (by rw [d0]; exact p1) (by rw [d0]; exact p2) p3 p4 p5 (by omega) hf) (by unfold edN; omega), ?_, ?_, fun d hdt => ?_⟩
    · show gs _ _ _ 7 = _
      rw [gs_no (by omega), lay_7, d7]
    · show gs _ _ _ 6 ≤ _
      rw [gs_no (by omega), lay_lo (by omega) (by omega)]; exact d6
    · show gs _ _ _ (64 + 10 * d + 3) ≠ 2 ∧ (gs _ _ _ (64 + 10 * d + 3) = 0 → t + 2 ≤ gs _ _ _ (64 + 10 * d + 7) ∧ gs _ _ _ (64 + 10 * d + 7) ≤ d + 21)
      rw [gs_no (by omega)]
      by_cases c : d = t
      · subst c
        rw [gs_at]
        refine ⟨?_, fun _ => by unfold edN; omega⟩
        have : layG (drG g d) (fmN g) (toN g) (rtN g load) p (64 + 10 * d + 3) = 0 := by
          unfold layG
          rw [d7]
          exact lit_3
        rw [this]
        omega
      · rw [gs_no (by omega)]
        have e1 : ∀ w, w < 10 → layG (drG g t) (fmN g) (toN g) (rtN g load) p (64 + 10 * d + w) = drG g t (64 + 10 * d + w) := fun w hw => by
          unfold layG
          rw [lit_ne (by omega) hw, add_ne (by omega) hw]
        rw [e1 3 (by omega), e1 7 (by omega)]
        refine ⟨?_, fun q => ?_⟩
        · rw [dr_3]
          have := (hd d (by omega)).1
          split <;> omega
        · have := dr_lit hT (by omega) q
          rw [dr_w (by omega) (by omega)]
          omega
theorem st_lo {k : Nat} (h : k < 64) (h6 : k ≠ 6) (h7 : k ≠ 7) : stG g t load u k = g k := by
  unfold stG
  cases fdW (drG g t) (fmN g) (toN g) (rtN g load) u with
  | none =>
    show gs _ _ _ k = _
    rw [gs_no (by omega), add_lo h h7, dr_lo h h6]
  | some p =>
    show gs _ _ _ k = _
    rw [gs_no (by omega), lay_lo h h7, dr_lo h h6]
end
