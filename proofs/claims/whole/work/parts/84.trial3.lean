/-! trials: a time on both sides -/
theorem find_x {M : Mm} {g : Nat → Nat} {n o a b rate rule : Nat} (hW : GW g) (hC : CN M (o + 1) g) (hup : M.1 o 1 = nI (g 12)) (hU : UB M o g) (hA : CA M g) (ho : 18 ≤ o ∧ o < 90) (hn : 100 < n) (ha : a < g 0) (hb : b < g 0) (hab : a ≠ b) (hr1 : 1 ≤ rate) (hr2 : rate ≤ 64) (hru : rule < 4) : ∃ M', Fi_find n o (nI a) (nI b) (nI rate) (nI rule) M = some ((fdW g a b rate rule).isSome, M') ∧ (∀ p, fdW g a b rate rule = some p → M'.1 12 1 = nI p.1 ∧ M'.1 12 2 = nI (wkO (waysG g a b) p.1) ∧ M'.1 12 3 = nI p.2.1 ∧ M'.1 12 4 = nI p.2.2.1) ∧ CA M' g ∧ Fr (fp_Fi_find o) M M' := by
  obtain ⟨hG, hN, hNU, hL, hO⟩ := hW
  obtain ⟨M', h1, h2, h3, h4⟩ := Fi_find_e hG hN hNU hL hA hC hup hU ho hn ha hb hab hr1 hr2 hru
  refine ⟨M', h1, fun p hp => ?_, h3, h4⟩
  rw [hp] at h2
  exact ⟨h2.1, h2.2.1, h2.2.2.1, h2.2.2.2.1⟩
def bN (g : Nat → Nat) (t load u B : Nat) : Nat := match fdW (drG g t) (fmN g) (toN g) (rtN g load) u with | none => B + 1 | some _ => B
def raN (g : Nat → Nat) (t load u R : Nat) : Nat := match fdW (drG g t) (fmN g) (toN g) (rtN g load) u with | none => R + rtN g load | some _ => R
section
variable {g : Nat → Nat} {n t load u B R : Nat} {T : Option Nat}
theorem st_OC (hT : TG g t (t + 1)) (hf : fdW (drG g t) (fmN g) (toN g) (rtN g load) u = none) {l i : Nat} : OC (stG g t load u) l none i ↔ OC (drG g t) l none i := by
  unfold stG
  rw [hf]
  show OC (gs _ _ _) l none i ↔ _
  rw [OC_set7, OC_add]
theorem OC_dr {l i : Nat} : OC (drG g t) l none i ↔ OC (ofS g (enB g t) (g 7)) l none i := OC_cong (gs_no (by omega)) (fun e _ w h1 h2 => gs_no (by omega))
theorem step_c {M : Mm} (ht : t < 200) (hT : TG g t (t + 1)) (hl : 1 ≤ load) (hl2 : load ≤ 64) (hu : u < 4) (hB : B ≤ 200) (hRr : R ≤ 12800) (hs : smO T) (hle : leO (tpF g 16383 (g 7)) T) (hR : TRc M g B R T) (hn : 100 < n) : ∃ M1 M2, Tr_endThoseOf n (nI t) M = some M1 ∧ Tr_askAt n (nI t) (nI load) (nI u) M1 = some M2 ∧ TRc M2 (stG g t load u) (bN g t load u B) (raN g t load u R) (mxO T (tpF (stG g t load u) 16383 (t + 1))) := by
  obtain ⟨M1, q1, q2⟩ := end_c (n := n) (by omega) hT hR hn
  have hTn := st_TG ht hT hl hl2 hu
  obtain ⟨hW, h7, h6, hd⟩ := id hT
  have b1 := hW.2.1.1
  obtain ⟨p1, p2, p3, p4, p5⟩ := pr_ok hW hl hl2
  have hWd := dr_W (t := t) hW
  have hW1 := of_W (P := enB g t) hW (g 7)
  have d7 : drG g t 7 = t := by rw [dr_lo (by omega) (by omega)]; exact h7
  have d0 : drG g t 0 = g 0 := dr_lo (by omega) (by omega)
  have d3 : drG g t 3 = g 3 := dr_lo (by omega) (by omega)
  obtain ⟨⟨c1, c2, c3, c4⟩, ⟨pl1, pl2⟩, x2, x3, x4, x5, x6⟩ := q2
  rw [of_lo (by omega)] at x2 pl1 x6
  have w0 : M1.1 55 0 = nI (g 0) := by
    have := c1.1 0 (by omega)
    rw [of_lo (by omega)] at this
    exact this
  have hx0 := dr_lt (g 6)
  have hx1 := dr_lt (drN (g 6))
  have hx2 := dr_lt (drN (drN (g 6)))
  have hx3 := dr_lt (drN (drN (drN (g 6))))
  have hmx : imx (nI 2) (nI (g 0)) = nI (g 0) := by rw [imx_e (by omega) (by omega), Nat.max_eq_right (by omega)]
  -- the four draws
  obtain ⟨Md, hMd⟩ : ∃ Md : Mm, Md = (up2 M1.1 93 2 (nI (drN (drN (drN (drN (g 6)))))), M1.2) := ⟨_, rfl⟩
  have hdr : Fr (fun c j => c = 93 ∧ j = 2) M1 Md := by rw [hMd]; exact Fr.I Fr.rf ⟨rfl, rfl⟩
  have hd2 : Md.1 93 2 = nI (drN (drN (drN (drN (g 6))))) := by rw [hMd]; show up2 M1.1 93 2 _ 93 2 = _; exact up2_at
  have up3 : ∀ (A : Nat → Nat → Int32) (x y : Int32), up2 (up2 A 93 2 x) 93 2 y = up2 A 93 2 y := fun A x y => by
    funext c j
    unfold up2
    by_cases e : c = 93 ∧ j = 2
    · rw [if_pos e, if_pos e]
    · rw [if_neg e, if_neg e, if_neg e]
  have t1 := Tr_draw_e (M := M1) (m := g 0) x2 (by omega) (by omega) (by omega)
  have t2 := Tr_draw_e (M := (up2 M1.1 93 2 (nI (drN (g 6))), M1.2)) (x := drN (g 6)) (m := g 0 - 1) (show up2 M1.1 93 2 (nI (drN (g 6))) 93 2 = nI (drN (g 6)) from up2_at) hx0 (by omega) (by omega)
  have t3 := Tr_draw_e (M := (up2 M1.1 93 2 (nI (drN (drN (g 6)))), M1.2)) (x := drN (drN (g 6))) (m := load) (show up2 M1.1 93 2 (nI (drN (drN (g 6)))) 93 2 = nI (drN (drN (g 6))) from up2_at) hx1 (by omega) (by omega)
  have t4 := Tr_draw_e (M := (up2 M1.1 93 2 (nI (drN (drN (drN (g 6))))), M1.2)) (x := drN (drN (drN (g 6)))) (m := 20) (show up2 M1.1 93 2 (nI (drN (drN (drN (g 6))))) 93 2 = nI (drN (drN (drN (g 6)))) from up2_at) hx2 (by omega) (by omega)
  rw [up3] at t2 t3 t4
  rw [← hMd] at t4
  -- the find
  have hC : CN Md 55 (drG g t) := (c1.fr hdr (fun k j hk q => by omega)).cong hW1.2.1.1.2.2.2.2.2.1 (fun k h1 h2 _ => by unfold drG; exact gs_no (by omega)) (by
    have := (c1.fr hdr (fun k j hk q => by omega)).1 4 (by omega)
    rw [of_lo (by omega)] at this
    rw [dr_lo (by omega) (by omega)]
    exact this)
  have hup : Md.1 54 1 = nI (drG g t 12) := by
    rw [(hdr 54 1 (by omega)).1, dr_lo (by omega) (by omega), c2, of_lo (by omega)]
  have hU : UB Md 54 (drG g t) := fun l hl' i => by
    rw [OC_dr]
    have := (c3.fr hdr (fun j => by omega)) l (by rw [of_lo (by omega)]; rw [d3] at hl'; exact hl') i
    exact this
  have hA : CA Md (drG g t) := (c4.fr hdr (fun j => by omega)).cong hW1.2.1.1.2.2.2.2.2.1 (fun k h1 h2 _ => by unfold drG; exact gs_no (by omega))
  obtain ⟨M2, f1, f2, f3, f4⟩ := find_x (n := n) (o := 54) (a := fmN g) (b := toN g) (rate := rtN g load) (rule := u) hWd hC hup hU hA (by omega) hn (by rw [d0]; exact p1) (by rw [d0]; exact p2) p3 p4 p5 hu
  have hirm : irm (nI (fmN g + 1 + drN (drN (g 6)) % (g 0 - 1))) (nI (g 0)) = nI (toN g) := by
    have := Nat.mod_lt (drN (drN (g 6))) (show 0 < g 0 - 1 by omega)
    rw [irm_e (by omega) (by omega) (by omega)]
    rfl
  have hfm : nI (drN (g 6) % g 0) = nI (fmN g) := rfl
  have F12 : Fr (fun c j => c = 93 ∧ j = 2 ∨ fp_Fi_find 54 c j) M1 M2 := (hdr.mono (fun c j q => .inl q)).tr (f4.mono (fun c j q => .inr q))
  have g93 : ∀ j, j ≠ 2 → M2.1 93 j = M1.1 93 j := fun j hj => (F12 93 j (by unfold fp_Fi_find; omega)).1
  have hp : ∀ c j, c = 64 ∨ c = 65 ∨ c = 66 ∨ c = 69 → M2.1 c j = M1.1 c j ∧ M2.2 c j = M1.2 c j := fun c j hc => F12 c j (by unfold fp_Fi_find; omega)
  have h92 : M2.1 93 2 = nI (drG g t 6) := by
    rw [(f4 93 2 (by unfold fp_Fi_find; omega)).1, hd2]
    unfold drG
    rw [gs_at]
  have e40 : irm (nI t) (nI 40) = nI (t % 40) := irm_e (by omega) (by omega) (by omega)
  have h20 : drN (drN (drN (drN (g 6)))) % 20 < 20 := Nat.mod_lt _ (by decide)
  have hrl : drN (drN (drN (g 6))) % load < load := Nat.mod_lt _ (by omega)
  have hf0 : drN (g 6) % g 0 < g 0 := Nat.mod_lt _ (by omega)
  have hf1 : drN (drN (g 6)) % (g 0 - 1) < g 0 - 1 := Nat.mod_lt _ (by omega)
  have litd : ∀ d, d < t → (ofS g (enB g t) (g 7) (64 + 10 * d + 3) = drG g t (64 + 10 * d + 3)) := fun d _ => by unfold drG; rw [gs_no (by omega)]
  have hctd : fb_ct (ltS (ofS g (enB g t) (g 7))) (g 7) = fb_ct (ltS (drG g t)) t := by
    have e : fb_ct (ltS (ofS g (enB g t) (g 7))) (g 7) = fb_ct (ltS (ofS g (enB g t) (g 7))) t := congrArg _ h7
    rw [e]
    exact fb_ct_cong (fun d hd' => by unfold ltS; rw [litd d hd'])
  have hcle := fb_ct_le (ltS (drG g t)) t
  rw [hctd] at x6
  refine ⟨M1, ?_⟩
  cases hf : fdW (drG g t) (fmN g) (toN g) (rtN g load) u with
  | none =>
    rw [hf] at f1
    have hst : stG g t load u = gs (addG (drG g t) (fmN g) (toN g) (rtN g load)) (64 + 10 * t + 7) 0 := by unfold stG; rw [hf]
    have hoc : ∀ l i, OC (stG g t load u) l none i ↔ OC (drG g t) l none i := fun l i => st_OC hT hf
    have hmxT : mxO T (tpF (stG g t load u) 16383 (t + 1)) = T := by
      have hsub : ∀ l i, OC (stG g t load u) l none i → OC g l none i := fun l i q => OC_of ((OC_dr (g := g) (t := t) (l := l) (i := i)).mp ((hoc l i).mp q))
      have h1 := tp_mono (g := g) (g' := stG g t load u) (l := 16383) hW.2.2.2.1 hTn.1.2.2.2.1 (hsub 16383)
      rw [hTn.2.1] at h1
      have h2 : leO (tpF (stG g t load u) 16383 (t + 1)) T := leO_tr h1 hle
      exact mx_le h2
    have hs7 : stG g t load u 7 = t + 1 := hTn.2.1
    have hst3 : ∀ d, d < t → stG g t load u (64 + 10 * d + 3) = drG g t (64 + 10 * d + 3) := fun d hd' => by
      rw [hst, gs_no (by omega), add_ne (by omega) (by omega)]
    have hstw : ∀ d w, d < t → w < 10 → stG g t load u (64 + 10 * d + w) = drG g t (64 + 10 * d + w) := fun d w hd' hw => by
      rw [hst, gs_no (by omega), add_ne (by omega) hw]
    have hstt : stG g t load u (64 + 10 * t + 3) = 1 := by
      have := add_d3 (g := drG g t) (a := fmN g) (b := toN g) (r := rtN g load)
      rw [d7] at this
      rw [hst, gs_no (by omega)]
      exact this
    obtain ⟨M3, hM3⟩ : ∃ M3 : Mm, M3 = (up2 (up2 M2.1 93 3 (nI (B + 1))) 93 4 (nI (R + rtN g load)), M2.2) := ⟨_, rfl⟩
    have hf3 : Fr (fun c j => c = 93 ∧ (j = 3 ∨ j = 4)) M2 M3 := by rw [hM3]; exact Fr.I (Fr.I Fr.rf ⟨rfl, .inl rfl⟩) ⟨rfl, .inr rfl⟩
    refine ⟨M3, q1, ?_, ?_⟩
    · have y3 : M2.1 93 3 = nI B := by rw [g93 3 (by omega)]; exact x3
      have y4 : M2.1 93 4 = nI R := by rw [g93 4 (by omega)]; exact x4
      rw [hM3]
      unfold Tr_askAt
      simp (disch := omega) only [l_0, l_1, l_2, l_3, l_4, l_5, l_6, l_7, l_8, l_9, l_10, l_11, l_12, l_13, l_14, l_16, l_20, l_21, l_23, l_24, l_30, l_32, l_40, l_41, l_44, l_48, l_57, l_59, l_60, l_63, l_64, l_80, l_84, l_96, l_97, l_99, l_120, l_122, l_127, l_200, l_240, l_255, l_840, l_999, l_1000, l_1001, l_2400, l_3064, l_9999, l_10000, l_13849, l_16383, l_25173, l_65535, l_65536, l_99999, l_1000000000, neg_nI, pk_mul, nI_add, nI_subL, tn_nI, inb_t, grd_true, bnd_some, elS_l, elS_r, nI_ltI, nI_leI, nI_inj, fa_and, fa_or, m1_eq, eq_m1, m1_lt, m1_le, lt_m1, le_m1, m1_lt0, up2_at, up2_no, ite_true, ite_false, if_true, if_false, Bool.false_eq_true, reduceIte, reduceCtorEq, not_true_eq_false, not_false_eq_true, eq_self, decide_true, decide_false, le_tt, le_ff, lt_tt, lt_ff, eq_ff, and_true, true_and, and_false, false_and, or_true, true_or, or_false, false_or, ne_eq, decide_eq_true_eq, decide_eq_false_iff_not, Bool.not_true, Bool.not_false, Bool.and_true, Bool.true_and, Bool.and_false, Bool.false_and, gs_at, gs_no, oI_n, oI_s, w0, hmx, t1, t2, t3, t4, nz_e, hfm, hirm, show 1 + drN (drN (drN (g 6))) % load = rtN g load from rfl, f1, Option.isSome_none, y3, y4]
    · have hbn : bN g t load u B = B + 1 := by unfold bN; rw [hf]
      have hrn : raN g t load u R = R + rtN g load := by unfold raN; rw [hf]
      rw [hbn, hrn, hmxT]
      refine ⟨⟨((hC.fr f4 (fun k j hk q => by unfold fp_Fi_find at q; omega)).fr hf3 (fun k j hk q => by omega)).cong hWd.2.1.1.2.2.2.2.2.1 (fun k h1 h2 h3 => by rw [st_lo h1 (by omega) (by omega), dr_lo h1 (by omega)]) ?_, ?_, fun l hl' i => ?_, (f3.fr hf3 (fun j => by omega)).cong hWd.2.1.1.2.2.2.2.2.1 (fun k h1 h2 h3 => by rw [st_lo h1 (by omega) (by omega), dr_lo h1 (by omega)])⟩, ⟨fun p hp40 hall => ?_, fun d hd1 hd2' => ?_⟩, ?_, ?_, ?_, ?_, ?_⟩
      · rw [st_lo (by omega) (by omega) (by omega), (hf3 55 4 (by omega)).1, (f4 55 4 (by unfold fp_Fi_find; omega)).1, hC.1 4 (by omega), dr_lo (by omega) (by omega)]
      · rw [st_lo (by omega) (by omega) (by omega), (hf3 54 1 (by omega)).1, (f4 54 1 (by unfold fp_Fi_find; omega)).1, hup, dr_lo (by omega) (by omega)]
      · rw [hoc]
        rw [st_lo (by omega) (by omega) (by omega), ← d3] at hl'
        exact ((hU.fr f4 (fun j => by unfold fp_Fi_find; omega)).fr hf3 (fun j => by omega)) l hl' i
      · rw [(hf3 64 p (by omega)).1, (hp 64 p (by omega)).1]
        refine pl1 p hp40 (fun d h1 h2 => ?_)
        rw [litd d (by omega), ← hst3 d (by omega)]
        exact hall d (by rw [hs7]; omega) h2
      · rw [hs7] at hd1
        have hdt : d ≠ t := fun q => by rw [q, hstt] at hd2'; omega
        rw [hst3 d (by omega), ← litd d (by omega)] at hd2'
        obtain ⟨z1, z2, z3, z4⟩ := pl2 d (by rw [of_lo (by omega), h7]; omega) hd2'
        rw [hstw d 4 (by omega) (by omega), hstw d 5 (by omega) (by omega), hstw d 6 (by omega) (by omega), hstw d 7 (by omega) (by omega), dr_w (w := 4) (by omega) (by omega), dr_w (w := 5) (by omega) (by omega), dr_w (w := 6) (by omega) (by omega), dr_w (w := 7) (by omega) (by omega)]
        rw [of_w (by omega) (by omega)] at z2 z4
        rw [of_w (w := 4) (by omega) (by omega), of_w (w := 5) (by omega) (by omega)] at z3
        refine ⟨?_, ?_, ?_, ?_⟩
        · rw [(hf3 64 _ (by omega)).1, (hp 64 _ (by omega)).1]; exact z1
        · rw [(hf3 66 _ (by omega)).1, (hp 66 _ (by omega)).1]; exact z2
        · rw [(hf3 69 _ (by omega)).2, (hp 69 _ (by omega)).2]; exact z3
        · rw [(hf3 65 _ (by omega)).1, (hp 65 _ (by omega)).1]; exact z4
      · rw [(hf3 93 2 (by omega)).1, h92, hst, gs_no (by omega), add_lo (by omega) (by omega)]
      · rw [hM3]; show up2 (up2 M2.1 93 3 (nI (B + 1))) 93 4 (nI (R + rtN g load)) 93 3 = _; simp (disch := omega) only [l_0, l_1, l_2, l_3, l_4, l_5, l_6, l_7, l_8, l_9, l_10, l_11, l_12, l_13, l_14, l_16, l_20, l_21, l_23, l_24, l_30, l_32, l_40, l_41, l_44, l_48, l_57, l_59, l_60, l_63, l_64, l_80, l_84, l_96, l_97, l_99, l_120, l_122, l_127, l_200, l_240, l_255, l_840, l_999, l_1000, l_1001, l_2400, l_3064, l_9999, l_10000, l_13849, l_16383, l_25173, l_65535, l_65536, l_99999, l_1000000000, neg_nI, pk_mul, nI_add, nI_subL, tn_nI, inb_t, grd_true, bnd_some, elS_l, elS_r, nI_ltI, nI_leI, nI_inj, fa_and, fa_or, m1_eq, eq_m1, m1_lt, m1_le, lt_m1, le_m1, m1_lt0, up2_at, up2_no, ite_true, ite_false, if_true, if_false, Bool.false_eq_true, reduceIte, reduceCtorEq, not_true_eq_false, not_false_eq_true, eq_self, decide_true, decide_false, le_tt, le_ff, lt_tt, lt_ff, eq_ff, and_true, true_and, and_false, false_and, or_true, true_or, or_false, false_or, ne_eq, decide_eq_true_eq, decide_eq_false_iff_not, Bool.not_true, Bool.not_false, Bool.and_true, Bool.true_and, Bool.and_false, Bool.false_and, gs_at, gs_no, oI_n, oI_s]
      · rw [hM3]; show up2 (up2 M2.1 93 3 (nI (B + 1))) 93 4 (nI (R + rtN g load)) 93 4 = _; simp (disch := omega) only [l_0, l_1, l_2, l_3, l_4, l_5, l_6, l_7, l_8, l_9, l_10, l_11, l_12, l_13, l_14, l_16, l_20, l_21, l_23, l_24, l_30, l_32, l_40, l_41, l_44, l_48, l_57, l_59, l_60, l_63, l_64, l_80, l_84, l_96, l_97, l_99, l_120, l_122, l_127, l_200, l_240, l_255, l_840, l_999, l_1000, l_1001, l_2400, l_3064, l_9999, l_10000, l_13849, l_16383, l_25173, l_65535, l_65536, l_99999, l_1000000000, neg_nI, pk_mul, nI_add, nI_subL, tn_nI, inb_t, grd_true, bnd_some, elS_l, elS_r, nI_ltI, nI_leI, nI_inj, fa_and, fa_or, m1_eq, eq_m1, m1_lt, m1_le, lt_m1, le_m1, m1_lt0, up2_at, up2_no, ite_true, ite_false, if_true, if_false, Bool.false_eq_true, reduceIte, reduceCtorEq, not_true_eq_false, not_false_eq_true, eq_self, decide_true, decide_false, le_tt, le_ff, lt_tt, lt_ff, eq_ff, and_true, true_and, and_false, false_and, or_true, true_or, or_false, false_or, ne_eq, decide_eq_true_eq, decide_eq_false_iff_not, Bool.not_true, Bool.not_false, Bool.and_true, Bool.true_and, Bool.and_false, Bool.false_and, gs_at, gs_no, oI_n, oI_s]
      · rw [(hf3 93 5 (by omega)).1, g93 5 (by omega)]; exact x5
      · rw [(hf3 93 6 (by omega)).1, g93 6 (by omega), x6, hs7, fb_ct_succ]
        have : ltS (stG g t load u) t = false := decide_eq_false (by rw [hstt]; omega)
        rw [this, if_neg (by simp), Nat.add_zero, fb_ct_cong (p := ltS (stG g t load u)) (q := ltS (drG g t)) (fun d hd' => by unfold ltS; rw [hst3 d hd'])]
  | some p =>
    rw [hf] at f1
    obtain ⟨k1, k2, k3, k4⟩ := f2 p hf
    obtain ⟨o1, o2, o3, o4, o5⟩ := fdW_ok hWd.2.1 (by rw [d0]; exact p1) p3 p4 p5 hf
    have d1 : drG g t 1 = g 1 := dr_lo (by omega) (by omega)
    have hst : stG g t load u = gs (layG (drG g t) (fmN g) (toN g) (rtN g load) p) (64 + 10 * t + 7) (edN g t + 1) := by unfold stG; rw [hf]
    have hlay : layG (drG g t) (fmN g) (toN g) (rtN g load) p = litG (addG (drG g t) (fmN g) (toN g) (rtN g load)) t (wkO (waysG (drG g t) (fmN g) (toN g)) p.1) p.2.1 p.2.2.1 := by unfold layG; rw [d7]
    have hWa := GW_add hWd (a := fmN g) (b := toN g) (r := rtN g load) (by omega) (by omega) p5 (by omega)
    have a3 : addG (drG g t) (fmN g) (toN g) (rtN g load) 3 = g 3 := by rw [add_lo (by omega) (by omega), d3]
    have a7 : addG (drG g t) (fmN g) (toN g) (rtN g load) 7 = t + 1 := by rw [add_7, d7]
    have hU2 : UB M2 54 (addG (drG g t) (fmN g) (toN g) (rtN g load)) := fun l hl' i => by
      rw [OC_add]
      rw [a3, ← d3] at hl'
      exact (hU.fr f4 (fun j => by unfold fp_Fi_find; omega)) l hl' i
    have hC2 : CN M2 55 (drG g t) := hC.fr f4 (fun k j hk q => by unfold fp_Fi_find at q; omega)
    obtain ⟨M3, r1, r2, r3, r4, r5⟩ := put_x (n := n) (s := 54) (p := t % 40) (d := t) (on := wkO (waysG (drG g t) (fmN g) (toN g)) p.1) (f := p.2.1) (w := p.2.2.1) hWa (by rw [a3, ← d3]; exact hC2.1 3 (by omega)) hU2 (by omega) (by omega) (by have := add_d3 (g := drG g t) (a := fmN g) (b := toN g) (r := rtN g load); rw [d7] at this; rw [this]; omega) (by rw [a3, ← d3]; exact o2.2) (by omega) hn
    rw [← hlay] at r5
    have hfr := fr_St_put r1
    have hs7 : stG g t load u 7 = t + 1 := hTn.2.1
    have hstw : ∀ d w, d < t → w < 10 → stG g t load u (64 + 10 * d + w) = drG g t (64 + 10 * d + w) := fun d w hd' hw => by
      rw [hst, gs_no (by omega), hlay, lit_ne (by omega) hw, add_ne (by omega) hw]
    have s3 : stG g t load u (64 + 10 * t + 3) = 0 := by rw [hst, gs_no (by omega), hlay, lit_3]
    have s4 : stG g t load u (64 + 10 * t + 4) = p.2.1 := by rw [hst, gs_no (by omega), hlay, lit_4]
    have s5 : stG g t load u (64 + 10 * t + 5) = p.2.2.1 := by rw [hst, gs_no (by omega), hlay, lit_5]
    have s6 : stG g t load u (64 + 10 * t + 6) = wkO (waysG (drG g t) (fmN g) (toN g)) p.1 := by rw [hst, gs_no (by omega), hlay, lit_6]
    have s7' : stG g t load u (64 + 10 * t + 7) = edN g t + 1 := by rw [hst, gs_at]
    have hcnt : fb_ct (ltS (stG g t load u)) (t + 1) = fb_ct (ltS (drG g t)) t + 1 := by
      have : ltS (stG g t load u) t = true := decide_eq_true s3
      rw [fb_ct_succ, this, if_pos rfl, fb_ct_cong (p := ltS (stG g t load u)) (q := ltS (drG g t)) (fun d hd' => by unfold ltS; rw [hstw d 3 hd' (by omega)])]
    -- the memory behind the top
    obtain ⟨M4, hM4⟩ : ∃ M4 : Mm, M4 = (up2 (up2 M3.1 65 (t % 40) (nI (edN g t))) 93 6 (nI (fb_ct (ltS (drG g t)) t + 1)), M3.2) := ⟨_, rfl⟩
    have hf4 : Fr (fun c j => c = 65 ∧ j = t % 40 ∨ c = 93 ∧ j = 6) M3 M4 := by rw [hM4]; exact Fr.I (Fr.I Fr.rf (.inl ⟨rfl, rfl⟩)) (.inr ⟨rfl, rfl⟩)
    have hU4 : UB M4 54 (stG g t load u) := fun l hl' i => by
      rw [hst, OC_set7]
      rw [st_lo (by omega) (by omega) (by omega), ← d3] at hl'
      exact (r5.fr hf4 (fun j => by omega)) l (by rw [lay_lo (by omega) (by omega)]; exact hl') i
    have hC3 : CN M4 55 (stG g t load u) := by
      have hc := (hC2.fr hfr (fun k j hk q => by unfold fp_St_put at q; omega)).fr hf4 (fun k j hk q => by omega)
      refine hc.cong hWd.2.1.1.2.2.2.2.2.1 (fun k h1 h2 h3 => by rw [st_lo h1 (by omega) (by omega), dr_lo h1 (by omega)]) ?_
      rw [st_lo (by omega) (by omega) (by omega), hc.1 4 (by omega), dr_lo (by omega) (by omega)]
    have htop := St_top_e (n := n) (s := 54) hTn.1.2.1 hTn.1.2.2.2.1 hC3 hU4 hn
    rw [hs7] at htop
    have hsm : smO (tpF (stG g t load u) 16383 (t + 1)) := fun x hx => by
      rw [← hs7] at hx
      have := tp_lt hTn.1.2.1 hTn.1.2.2.2.1 hx
      omega
    obtain ⟨M5, hM5⟩ : ∃ M5 : Mm, M5 = (up2 M4.1 93 5 (oI (mxO T (tpF (stG g t load u) 16383 (t + 1)))), M4.2) := ⟨_, rfl⟩
    have hf5 : Fr (fun c j => c = 93 ∧ j = 5) M4 M5 := by rw [hM5]; exact Fr.I Fr.rf ⟨rfl, rfl⟩
    have y6 : M3.1 93 6 = nI (fb_ct (ltS (drG g t)) t) := by rw [(hfr 93 6 (by unfold fp_St_put; omega)).1, g93 6 (by omega)]; exact x6
    have y5 : M3.1 93 5 = oI T := by rw [(hfr 93 5 (by unfold fp_St_put; omega)).1, g93 5 (by omega)]; exact x5
    refine ⟨M5, q1, ?_, ?_⟩
    · have hed : nI (t + 1 + drN (drN (drN (drN (g 6)))) % 20) = nI (edN g t) := rfl
      have him := imx_O hs hsm
      rw [hM4] at htop
      rw [hM5, hM4]
      unfold Tr_askAt
      simp (disch := omega) only [l_0, l_1, l_2, l_3, l_4, l_5, l_6, l_7, l_8, l_9, l_10, l_11, l_12, l_13, l_14, l_16, l_20, l_21, l_23, l_24, l_30, l_32, l_40, l_41, l_44, l_48, l_57, l_59, l_60, l_63, l_64, l_80, l_84, l_96, l_97, l_99, l_120, l_122, l_127, l_200, l_240, l_255, l_840, l_999, l_1000, l_1001, l_2400, l_3064, l_9999, l_10000, l_13849, l_16383, l_25173, l_65535, l_65536, l_99999, l_1000000000, neg_nI, pk_mul, nI_add, nI_subL, tn_nI, inb_t, grd_true, bnd_some, elS_l, elS_r, nI_ltI, nI_leI, nI_inj, fa_and, fa_or, m1_eq, eq_m1, m1_lt, m1_le, lt_m1, le_m1, m1_lt0, up2_at, up2_no, ite_true, ite_false, if_true, if_false, Bool.false_eq_true, reduceIte, reduceCtorEq, not_true_eq_false, not_false_eq_true, eq_self, decide_true, decide_false, le_tt, le_ff, lt_tt, lt_ff, eq_ff, and_true, true_and, and_false, false_and, or_true, true_or, or_false, false_or, ne_eq, decide_eq_true_eq, decide_eq_false_iff_not, Bool.not_true, Bool.not_false, Bool.and_true, Bool.true_and, Bool.and_false, Bool.false_and, gs_at, gs_no, oI_n, oI_s, w0, hmx, t1, t2, t3, t4, nz_e, hfm, hirm, show 1 + drN (drN (drN (g 6))) % load = rtN g load from rfl, f1, Option.isSome_some, k2, k3, k4, e40, r1, hed, y6, htop, y5, him]
    · have hbn : bN g t load u B = B := by unfold bN; rw [hf]
      have hrn : raN g t load u R = R := by unfold raN; rw [hf]
      rw [hbn, hrn]
      have F25 : Fr (fun c j => fp_St_put 54 c j ∨ c = 65 ∨ c = 93) M2 M5 := ((hfr.mono (fun c j q => .inl q)).tr (hf4.mono (fun c j q => by omega))).tr (hf5.mono (fun c j q => by omega))
      have hne : ∀ d, d < t → drG g t (64 + 10 * d + 3) = 0 → d % 40 ≠ t % 40 := fun d hd' hl' => by
        have := dr_lit hT hd' hl'
        omega
      have m64 : ∀ j, M5.1 64 j = up2 (up2 (up2 (up2 M2.1 64 (t % 40) (nI 0)) 66 (t % 40) (nI (wkO (waysG (drG g t) (fmN g) (toN g)) p.1))) 67 (t % 40) (nI p.2.1)) 68 (t % 40) (nI p.2.2.1) 64 j := fun j => by
        rw [(hf5 64 j (by omega)).1, (hf4 64 j (by omega)).1, r2]
      have m66 : ∀ j, M5.1 66 j = up2 (up2 (up2 (up2 M2.1 64 (t % 40) (nI 0)) 66 (t % 40) (nI (wkO (waysG (drG g t) (fmN g) (toN g)) p.1))) 67 (t % 40) (nI p.2.1)) 68 (t % 40) (nI p.2.2.1) 66 j := fun j => by
        rw [(hf5 66 j (by omega)).1, (hf4 66 j (by omega)).1, r2]
      have m69 : ∀ j, M5.2 69 j = M3.2 69 j := fun j => by
        rw [(hf5 69 j (by omega)).2, (hf4 69 j (by omega)).2]
      refine ⟨⟨hC3.fr hf5 (fun k j hk q => by omega), ?_, hU4.fr hf5 (fun j => by omega), (f3.fr F25 (fun j => by unfold fp_St_put; omega)).cong hWd.2.1.1.2.2.2.2.2.1 (fun k h1 h2 h3 => by rw [st_lo h1 (by omega) (by omega), dr_lo h1 (by omega)])⟩, ⟨fun q hq40 hall => ?_, fun d hd1 hd2' => ?_⟩, ?_, ?_, ?_, ?_, ?_⟩
      · rw [st_lo (by omega) (by omega) (by omega), (F25 54 1 (by unfold fp_St_put; omega)).1, (f4 54 1 (by unfold fp_Fi_find; omega)).1, hup, dr_lo (by omega) (by omega)]
      · have hqt : q ≠ t % 40 := fun w => hall t (by rw [hs7]; omega) w.symm s3
        rw [m64]
        have e := (hp 64 q (by omega)).1
        have := pl1 q hq40 (fun d h1 h2 => by
          rw [litd d (by omega), ← hstw d 3 (by omega) (by omega)]
          exact hall d (by rw [hs7]; omega) h2)
        simp (disch := omega) only [l_0, l_1, l_2, l_3, l_4, l_5, l_6, l_7, l_8, l_9, l_10, l_11, l_12, l_13, l_14, l_16, l_20, l_21, l_23, l_24, l_30, l_32, l_40, l_41, l_44, l_48, l_57, l_59, l_60, l_63, l_64, l_80, l_84, l_96, l_97, l_99, l_120, l_122, l_127, l_200, l_240, l_255, l_840, l_999, l_1000, l_1001, l_2400, l_3064, l_9999, l_10000, l_13849, l_16383, l_25173, l_65535, l_65536, l_99999, l_1000000000, neg_nI, pk_mul, nI_add, nI_subL, tn_nI, inb_t, grd_true, bnd_some, elS_l, elS_r, nI_ltI, nI_leI, nI_inj, fa_and, fa_or, m1_eq, eq_m1, m1_lt, m1_le, lt_m1, le_m1, m1_lt0, up2_at, up2_no, ite_true, ite_false, if_true, if_false, Bool.false_eq_true, reduceIte, reduceCtorEq, not_true_eq_false, not_false_eq_true, eq_self, decide_true, decide_false, le_tt, le_ff, lt_tt, lt_ff, eq_ff, and_true, true_and, and_false, false_and, or_true, true_or, or_false, false_or, ne_eq, decide_eq_true_eq, decide_eq_false_iff_not, Bool.not_true, Bool.not_false, Bool.and_true, Bool.true_and, Bool.and_false, Bool.false_and, gs_at, gs_no, oI_n, oI_s, e, this]
      · rw [hs7] at hd1
        by_cases c : d = t
        · subst c
          rw [s4, s5, s6, s7']
          refine ⟨?_, ?_, ?_, ?_⟩
          · rw [m64]; simp (disch := omega) only [l_0, l_1, l_2, l_3, l_4, l_5, l_6, l_7, l_8, l_9, l_10, l_11, l_12, l_13, l_14, l_16, l_20, l_21, l_23, l_24, l_30, l_32, l_40, l_41, l_44, l_48, l_57, l_59, l_60, l_63, l_64, l_80, l_84, l_96, l_97, l_99, l_120, l_122, l_127, l_200, l_240, l_255, l_840, l_999, l_1000, l_1001, l_2400, l_3064, l_9999, l_10000, l_13849, l_16383, l_25173, l_65535, l_65536, l_99999, l_1000000000, neg_nI, pk_mul, nI_add, nI_subL, tn_nI, inb_t, grd_true, bnd_some, elS_l, elS_r, nI_ltI, nI_leI, nI_inj, fa_and, fa_or, m1_eq, eq_m1, m1_lt, m1_le, lt_m1, le_m1, m1_lt0, up2_at, up2_no, ite_true, ite_false, if_true, if_false, Bool.false_eq_true, reduceIte, reduceCtorEq, not_true_eq_false, not_false_eq_true, eq_self, decide_true, decide_false, le_tt, le_ff, lt_tt, lt_ff, eq_ff, and_true, true_and, and_false, false_and, or_true, true_or, or_false, false_or, ne_eq, decide_eq_true_eq, decide_eq_false_iff_not, Bool.not_true, Bool.not_false, Bool.and_true, Bool.true_and, Bool.and_false, Bool.false_and, gs_at, gs_no, oI_n, oI_s]
          · rw [m66]; simp (disch := omega) only [l_0, l_1, l_2, l_3, l_4, l_5, l_6, l_7, l_8, l_9, l_10, l_11, l_12, l_13, l_14, l_16, l_20, l_21, l_23, l_24, l_30, l_32, l_40, l_41, l_44, l_48, l_57, l_59, l_60, l_63, l_64, l_80, l_84, l_96, l_97, l_99, l_120, l_122, l_127, l_200, l_240, l_255, l_840, l_999, l_1000, l_1001, l_2400, l_3064, l_9999, l_10000, l_13849, l_16383, l_25173, l_65535, l_65536, l_99999, l_1000000000, neg_nI, pk_mul, nI_add, nI_subL, tn_nI, inb_t, grd_true, bnd_some, elS_l, elS_r, nI_ltI, nI_leI, nI_inj, fa_and, fa_or, m1_eq, eq_m1, m1_lt, m1_le, lt_m1, le_m1, m1_lt0, up2_at, up2_no, ite_true, ite_false, if_true, if_false, Bool.false_eq_true, reduceIte, reduceCtorEq, not_true_eq_false, not_false_eq_true, eq_self, decide_true, decide_false, le_tt, le_ff, lt_tt, lt_ff, eq_ff, and_true, true_and, and_false, false_and, or_true, true_or, or_false, false_or, ne_eq, decide_eq_true_eq, decide_eq_false_iff_not, Bool.not_true, Bool.not_false, Bool.and_true, Bool.true_and, Bool.and_false, Bool.false_and, gs_at, gs_no, oI_n, oI_s]
          · rw [m69]; exact r3
          · rw [(hf5 65 _ (by omega)).1, hM4]
            show up2 (up2 M3.1 65 (d % 40) (nI (edN g d))) 93 6 (nI (fb_ct (ltS (drG g d)) d + 1)) 65 (d % 40) = _
            simp (disch := omega) only [l_0, l_1, l_2, l_3, l_4, l_5, l_6, l_7, l_8, l_9, l_10, l_11, l_12, l_13, l_14, l_16, l_20, l_21, l_23, l_24, l_30, l_32, l_40, l_41, l_44, l_48, l_57, l_59, l_60, l_63, l_64, l_80, l_84, l_96, l_97, l_99, l_120, l_122, l_127, l_200, l_240, l_255, l_840, l_999, l_1000, l_1001, l_2400, l_3064, l_9999, l_10000, l_13849, l_16383, l_25173, l_65535, l_65536, l_99999, l_1000000000, neg_nI, pk_mul, nI_add, nI_subL, tn_nI, inb_t, grd_true, bnd_some, elS_l, elS_r, nI_ltI, nI_leI, nI_inj, fa_and, fa_or, m1_eq, eq_m1, m1_lt, m1_le, lt_m1, le_m1, m1_lt0, up2_at, up2_no, ite_true, ite_false, if_true, if_false, Bool.false_eq_true, reduceIte, reduceCtorEq, not_true_eq_false, not_false_eq_true, eq_self, decide_true, decide_false, le_tt, le_ff, lt_tt, lt_ff, eq_ff, and_true, true_and, and_false, false_and, or_true, true_or, or_false, false_or, ne_eq, decide_eq_true_eq, decide_eq_false_iff_not, Bool.not_true, Bool.not_false, Bool.and_true, Bool.true_and, Bool.and_false, Bool.false_and, gs_at, gs_no, oI_n, oI_s, Nat.add_sub_cancel]
        · have hl0 : drG g t (64 + 10 * d + 3) = 0 := by rw [← hstw d 3 (by omega) (by omega)]; exact hd2'
          have hnn := hne d (by omega) hl0
          obtain ⟨z1, z2, z3, z4⟩ := pl2 d (by rw [of_lo (by omega), h7]; omega) (by rw [litd d (by omega)]; exact hl0)
          rw [hstw d 4 (by omega) (by omega), hstw d 5 (by omega) (by omega), hstw d 6 (by omega) (by omega), hstw d 7 (by omega) (by omega), dr_w (w := 4) (by omega) (by omega), dr_w (w := 5) (by omega) (by omega), dr_w (w := 6) (by omega) (by omega), dr_w (w := 7) (by omega) (by omega)]
          rw [of_w (by omega) (by omega)] at z2 z4
          rw [of_w (w := 4) (by omega) (by omega), of_w (w := 5) (by omega) (by omega)] at z3
          refine ⟨?_, ?_, ?_, ?_⟩
          · rw [m64]; simp (disch := omega) only [l_0, l_1, l_2, l_3, l_4, l_5, l_6, l_7, l_8, l_9, l_10, l_11, l_12, l_13, l_14, l_16, l_20, l_21, l_23, l_24, l_30, l_32, l_40, l_41, l_44, l_48, l_57, l_59, l_60, l_63, l_64, l_80, l_84, l_96, l_97, l_99, l_120, l_122, l_127, l_200, l_240, l_255, l_840, l_999, l_1000, l_1001, l_2400, l_3064, l_9999, l_10000, l_13849, l_16383, l_25173, l_65535, l_65536, l_99999, l_1000000000, neg_nI, pk_mul, nI_add, nI_subL, tn_nI, inb_t, grd_true, bnd_some, elS_l, elS_r, nI_ltI, nI_leI, nI_inj, fa_and, fa_or, m1_eq, eq_m1, m1_lt, m1_le, lt_m1, le_m1, m1_lt0, up2_at, up2_no, ite_true, ite_false, if_true, if_false, Bool.false_eq_true, reduceIte, reduceCtorEq, not_true_eq_false, not_false_eq_true, eq_self, decide_true, decide_false, le_tt, le_ff, lt_tt, lt_ff, eq_ff, and_true, true_and, and_false, false_and, or_true, true_or, or_false, false_or, ne_eq, decide_eq_true_eq, decide_eq_false_iff_not, Bool.not_true, Bool.not_false, Bool.and_true, Bool.true_and, Bool.and_false, Bool.false_and, gs_at, gs_no, oI_n, oI_s, (hp 64 (d % 40) (by omega)).1, z1]
          · rw [m66]; simp (disch := omega) only [l_0, l_1, l_2, l_3, l_4, l_5, l_6, l_7, l_8, l_9, l_10, l_11, l_12, l_13, l_14, l_16, l_20, l_21, l_23, l_24, l_30, l_32, l_40, l_41, l_44, l_48, l_57, l_59, l_60, l_63, l_64, l_80, l_84, l_96, l_97, l_99, l_120, l_122, l_127, l_200, l_240, l_255, l_840, l_999, l_1000, l_1001, l_2400, l_3064, l_9999, l_10000, l_13849, l_16383, l_25173, l_65535, l_65536, l_99999, l_1000000000, neg_nI, pk_mul, nI_add, nI_subL, tn_nI, inb_t, grd_true, bnd_some, elS_l, elS_r, nI_ltI, nI_leI, nI_inj, fa_and, fa_or, m1_eq, eq_m1, m1_lt, m1_le, lt_m1, le_m1, m1_lt0, up2_at, up2_no, ite_true, ite_false, if_true, if_false, Bool.false_eq_true, reduceIte, reduceCtorEq, not_true_eq_false, not_false_eq_true, eq_self, decide_true, decide_false, le_tt, le_ff, lt_tt, lt_ff, eq_ff, and_true, true_and, and_false, false_and, or_true, true_or, or_false, false_or, ne_eq, decide_eq_true_eq, decide_eq_false_iff_not, Bool.not_true, Bool.not_false, Bool.and_true, Bool.true_and, Bool.and_false, Bool.false_and, gs_at, gs_no, oI_n, oI_s, (hp 66 (d % 40) (by omega)).1, z2]
          · rw [m69, r4 69 _ (by omega) (by omega), (hp 69 _ (by omega)).2]; exact z3
          · rw [(hf5 65 _ (by omega)).1, (hf4 65 _ (by omega)).1, (hfr 65 _ (by unfold fp_St_put; omega)).1, (hp 65 _ (by omega)).1]; exact z4
      · rw [(hf5 93 2 (by omega)).1, (hf4 93 2 (by omega)).1, (hfr 93 2 (by unfold fp_St_put; omega)).1, h92, hst, gs_no (by omega), lay_lo (by omega) (by omega)]
      · rw [(hf5 93 3 (by omega)).1, (hf4 93 3 (by omega)).1, (hfr 93 3 (by unfold fp_St_put; omega)).1, g93 3 (by omega)]; exact x3
      · rw [(hf5 93 4 (by omega)).1, (hf4 93 4 (by omega)).1, (hfr 93 4 (by unfold fp_St_put; omega)).1, g93 4 (by omega)]; exact x4
      · rw [hM5]; show up2 M4.1 93 5 _ 93 5 = _; exact up2_at
      · rw [(hf5 93 6 (by omega)).1, hM4, hs7, hcnt]
        show up2 (up2 M3.1 65 (t % 40) (nI (edN g t))) 93 6 (nI (fb_ct (ltS (drG g t)) t + 1)) 93 6 = _
        exact up2_at
end
