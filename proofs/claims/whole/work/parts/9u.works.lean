/-! works: the steps done -/
theorem TC.on {ρ σ : Type} {f : Mm → Option (ρ × Mm)} {f2 : Mm → Option (σ × Mm)} {M : Mm} {r : ρ} {ok : σ} {g' : Nat → Nat} {F : ρ × Mm → Option (σ × Mm)} (h : TC f M r g') (e : f2 M = bnd (f M) F) (hF : ∀ M', F (r, M') = some (ok, M')) : TC f2 M ok g' := by
  obtain ⟨M1, a1, a2⟩ := h
  refine ⟨M1, ?_, a2⟩
  rw [e, a1, bnd_some, hF]
theorem TM.on {ρ σ : Type} {f : Mm → Option (ρ × Mm)} {f2 : Mm → Option (σ × Mm)} {M : Mm} {r : ρ} {ok : σ} {h : Nat → Int32} {g' : Nat → Nat} {F : ρ × Mm → Option (σ × Mm)} (hh : TM f M h r g') (e : f2 M = bnd (f M) F) (hF : ∀ M', F (r, M') = some (ok, M')) : TM f2 M h ok g' := by
  obtain ⟨M1, h', a1, a2⟩ := hh
  refine ⟨M1, h', ?_, a2⟩
  rw [e, a1, bnd_some, hF]
theorem nof_i {C : Mm} {s i : Nat} (hs : s < 24) (hi : i < 4) : Rd_numberOf (nI s) (nI i) C = some (C.1 11 (4 * s + i)) := by
  have e4 : s * 4 + i = 4 * s + i := by omega
  unfold Rd_numberOf
  simp (disch := omega) only [l_0, l_1, l_2, l_3, l_4, l_5, l_6, l_7, l_8, l_9, l_10, l_11, l_12, l_13, l_14, l_16, l_20, l_21, l_23, l_24, l_30, l_32, l_40, l_41, l_44, l_48, l_57, l_59, l_60, l_63, l_64, l_80, l_84, l_96, l_97, l_99, l_120, l_122, l_127, l_200, l_240, l_255, l_840, l_999, l_1000, l_1001, l_2400, l_3064, l_9999, l_10000, l_13849, l_16383, l_25173, l_65535, l_65536, l_99999, l_1000000000, neg_nI, pk_mul, nI_add, nI_subL, tn_nI, inb_t, grd_true, bnd_some, elS_l, elS_r, nI_ltI, nI_leI, nI_inj, fa_and, fa_or, m1_eq, eq_m1, m1_lt, m1_le, lt_m1, le_m1, m1_lt0, up2_at, up2_no, ite_true, ite_false, if_true, if_false, Bool.false_eq_true, reduceIte, reduceCtorEq, not_true_eq_false, not_false_eq_true, eq_self, decide_true, decide_false, le_tt, le_ff, lt_tt, lt_ff, eq_ff, and_true, true_and, and_false, false_and, or_true, true_or, or_false, false_or, ne_eq, decide_eq_true_eq, decide_eq_false_iff_not, Bool.not_true, Bool.not_false, Bool.and_true, Bool.true_and, Bool.and_false, Bool.false_and, gs_at, gs_no, oI_n, oI_s, e4]
theorem wof_i {C : Mm} {s : Nat} (hs : s < 24) : Rd_wordOf (nI s) C = some (C.1 10 s) := by
  unfold Rd_wordOf
  simp (disch := omega) only [l_0, l_1, l_2, l_3, l_4, l_5, l_6, l_7, l_8, l_9, l_10, l_11, l_12, l_13, l_14, l_16, l_20, l_21, l_23, l_24, l_30, l_32, l_40, l_41, l_44, l_48, l_57, l_59, l_60, l_63, l_64, l_80, l_84, l_96, l_97, l_99, l_120, l_122, l_127, l_200, l_240, l_255, l_840, l_999, l_1000, l_1001, l_2400, l_3064, l_9999, l_10000, l_13849, l_16383, l_25173, l_65535, l_65536, l_99999, l_1000000000, neg_nI, pk_mul, nI_add, nI_subL, tn_nI, inb_t, grd_true, bnd_some, elS_l, elS_r, nI_ltI, nI_leI, nI_inj, fa_and, fa_or, m1_eq, eq_m1, m1_lt, m1_le, lt_m1, le_m1, m1_lt0, up2_at, up2_no, ite_true, ite_false, if_true, if_false, Bool.false_eq_true, reduceIte, reduceCtorEq, not_true_eq_false, not_false_eq_true, eq_self, decide_true, decide_false, le_tt, le_ff, lt_tt, lt_ff, eq_ff, and_true, true_and, and_false, false_and, or_true, true_or, or_false, false_or, ne_eq, decide_eq_true_eq, decide_eq_false_iff_not, Bool.not_true, Bool.not_false, Bool.and_true, Bool.true_and, Bool.and_false, Bool.false_and, gs_at, gs_no, oI_n, oI_s]
def okN (r : Int32) : Bool := !decide (r < (0 : Int32))
theorem okN_e {r : Int32} {M : Mm} : (if r < (0 : Int32) then some (false, M) else some (true, M)) = some (okN r, M) := by
  unfold okN
  by_cases c : r < (0 : Int32)
  · rw [if_pos c, decide_eq_true c]; rfl
  · rw [if_neg c, decide_eq_false c]; rfl
def okJ (r : Int32) : Bool := !decide (r ≤ (-1000 : Int32))
theorem okJ_e {r : Int32} {M : Mm} : (if r ≤ (-1000 : Int32) then some (false, M) else some (true, M)) = some (okJ r, M) := by
  unfold okJ
  by_cases c : r ≤ (-1000 : Int32)
  · rw [if_pos c, decide_eq_true c]; rfl
  · rw [if_neg c, decide_eq_false c]; rfl
def okA (r : Int32) : Bool := decide ((0 : Int32) ≤ r) || decide (r = (-2 : Int32))
theorem okA_e {r : Int32} {M : Mm} : (if (0 : Int32) ≤ r then some (true, M) else if r = (-2 : Int32) then some (true, M) else some (false, M)) = some (okA r, M) := by
  unfold okA
  by_cases c : (0 : Int32) ≤ r
  · rw [if_pos c, decide_eq_true c]; rfl
  · rw [if_neg c, decide_eq_false c]
    by_cases d : r = (-2 : Int32)
    · rw [if_pos d, decide_eq_true d]; rfl
    · rw [if_neg d, decide_eq_false d]; rfl
/-- one step, as both sides do it -/
def ST (n v : Nat) (nu : Nat → Int32) (s : Nat) : Prop := ∀ g, GV g → ∃ ok g', GV g' ∧ (∀ C, SV C 18 g → CA C g → C.1 10 s = nI v → (∀ i, i < sDu v → C.1 11 (4 * s + i) = nu (4 * s + i)) → TC (Fg_stepIsDone n (nI s)) C ok g') ∧ ∀ N h, FK N g h → N.2 113 s = lN (wC (v + 5)) → (∀ i, i < sDu v → N.1 114 (4 * s + i) = nu (4 * s + i)) → TM (Fm_does n (nI s)) N h ok g'
section
variable {n s : Nat} {nu : Nat → Int32}
theorem ST_of {ρ : Type} {v : Nat} {fc fm : Mm → Option (ρ × Mm)} {F : ρ × Mm → Option (Bool × Mm)} {ok : ρ → Bool} (h : T2 fc fm) (hF : ∀ r M', F (r, M') = some (ok r, M')) (hc : ∀ C : Mm, C.1 10 s = nI v → (∀ i, i < sDu v → C.1 11 (4 * s + i) = nu (4 * s + i)) → Fg_stepIsDone n (nI s) C = bnd (fc C) F) (hm : ∀ N : Mm, N.2 113 s = lN (wC (v + 5)) → (∀ i, i < sDu v → N.1 114 (4 * s + i) = nu (4 * s + i)) → Fm_does n (nI s) N = bnd (fm N) F) : ST n v nu s := fun g hg => by
  obtain ⟨r, g', a1, a2, a3⟩ := h g hg
  exact ⟨ok r, g', a1, fun C c1 c2 c3 c4 => (a2 C c1 c2).on (hc C c3 c4) (hF r), fun N h n1 n2 n3 => (a3 N h n1).on (hm N n2 n3) (hF r)⟩
theorem stC_e {v : Nat} {C : Mm} (hs : s < 24) (hv : v < 11) (h10 : C.1 10 s = nI v) : Fg_stepIsDone n (nI s) C = (fun z1 z3 z5 : Int32 => if z5 = (0 : Int32) then bnd (Rd_numberOf (nI s) (2 : Int32) C) (fun z8 => bnd (Rd_numberOf (nI s) (3 : Int32) C) (fun z10 => bnd (Fg_ask n z1 z3 z8 z10 C) (fun z12 => if (0 : Int32) ≤ z12.1 then Fg_stepIsDone_j126 z12.2 else if z12.1 = (-2 : Int32) then Fg_stepIsDone_j126 z12.2 else some (false, z12.2)))) else if z5 = (1 : Int32) then bnd (Fg_drop n z1 C) (fun z17 => some (z17.1, z17.2)) else if z5 = (2 : Int32) then bnd (Fg_slide n z1 C) (fun z20 => if z20.1 < (0 : Int32) then some (false, z20.2) else some (true, z20.2)) else if z5 = (3 : Int32) then bnd (Fg_sweep n C) (fun z24 => if z24.1 < (0 : Int32) then some (false, z24.2) else some (true, z24.2)) else if z5 = (4 : Int32) then bnd (Fg_jump n z1 z3 C) (fun z28 => if z28.1 ≤ (-1000 : Int32) then some (false, z28.2) else some (true, z28.2)) else if z5 = (5 : Int32) then bnd (Fg_cut n z1 C) (fun z32 => if z32.1 < (0 : Int32) then some (false, z32.2) else some (true, z32.2)) else if z5 = (6 : Int32) then bnd (Fg_mend z1 C) (fun z36 => some (z36.1, z36.2)) else if z5 = (7 : Int32) then bnd (Fg_relight n z1 C) (fun z39 => if z39.1 < (0 : Int32) then some (false, z39.2) else some (true, z39.2)) else if z5 = (8 : Int32) then bnd (Fg_plan n z1 C) (fun z43 => if z43.1 < (0 : Int32) then some (false, z43.2) else some (true, z43.2)) else if z5 = (9 : Int32) then bnd (Fg_lasts z1 z3 C) (fun z47 => if z47.1 < (0 : Int32) then some (false, z47.2) else some (true, z47.2)) else if z5 = (10 : Int32) then bnd (Fg_ticks n z1 C) (fun z51 => if z51.1 < (0 : Int32) then some (false, z51.2) else some (true, z51.2)) else some (false, C)) (C.1 11 (4 * s + 0)) (C.1 11 (4 * s + 1)) (nI v) := by
  unfold Fg_stepIsDone
  rw [l_0, nof_i hs (by omega), bnd_some, l_1, nof_i hs (by omega), bnd_some, wof_i hs, bnd_some, h10]
theorem ST_all (hn : 1099511627776 < n) (hs : s < 24) : ∀ v, v < 11 → ST n v nu s := by
  have hn1 : 3000 < n := by omega
  have gm : ∀ N : Mm, Fm_does n (nI s) N = (if (N.2 113 s) = (1643 : Int64) then
    bnd (Fm_ask n (N.1 114 (4 * s + 0)) (N.1 114 (4 * s + 1)) (N.1 114 (4 * s + 2)) (N.1 114 (4 * s + 3)) N) (fun z44 =>
    if (0 : Int32) ≤ z44.1 then Fm_does_j79 z44.2 else if z44.1 = (-2 : Int32) then Fm_does_j79 z44.2 else some (false, z44.2))
  else if (N.2 113 s) = (150000 : Int64) then bnd (Fm_drop (N.1 114 (4 * s + 0)) N) (fun z40 => some (z40.1, z40.2))
  else if (N.2 113 s) = (20325509 : Int64) then bnd (Fm_slide n (N.1 114 (4 * s + 0)) N) (fun z37 => if z37.1 < (0 : Int32) then some (false, z37.2) else some (true, z37.2))
  else if (N.2 113 s) = (20681904 : Int64) then bnd (Fm_sweep n N) (fun z34 => if z34.1 < (0 : Int32) then some (false, z34.2) else some (true, z34.2))
  else if (N.2 113 s) = (349616 : Int64) then bnd (Fm_jump n (N.1 114 (4 * s + 0)) (N.1 114 (4 * s + 1)) N) (fun z31 => if z31.1 ≤ (-1000 : Int32) then some (false, z31.2) else some (true, z31.2))
  else if (N.2 113 s) = (3764 : Int64) then bnd (Fm_cut n (N.1 114 (4 * s + 0)) N) (fun z28 => if z28.1 < (0 : Int32) then some (false, z28.2) else some (true, z28.2))
  else if (N.2 113 s) = (431556 : Int64) then bnd (Fm_mend (N.1 114 (4 * s + 0)) N) (fun z26 => some (z26.1, z26.2))
  else if (N.2 113 s) = (19508010260 : Int64) then bnd (Fm_relight n (N.1 114 (4 * s + 0)) N) (fun z23 => if z23.1 < (0 : Int32) then some (false, z23.2) else some (true, z23.2))
  else if (N.2 113 s) = (536622 : Int64) then bnd (Fm_plan n (N.1 114 (4 * s + 0)) N) (fun z20 => if z20.1 < (0 : Int32) then some (false, z20.2) else some (true, z20.2))
  else if (N.2 113 s) = (12635795 : Int64) then bnd (Fm_lasts (N.1 114 (4 * s + 0)) (N.1 114 (4 * s + 1)) N) (fun z17 => if z17.1 < (0 : Int32) then some (false, z17.2) else some (true, z17.2))
  else bnd (Fm_ticks n (N.1 114 (4 * s + 0)) N) (fun z14 => if z14.1 < (0 : Int32) then some (false, z14.2) else some (true, z14.2))) := fun N => by
    have e1 : (4 : Int32) * nI s = nI (4 * s) := by rw [l_4, pk_mul]
    unfold Fm_does
    rw [e1, l_1, l_2, l_3, nI_add, nI_add, nI_add, grd_t (inb_t hs (by omega)), grd_t (inb_t (by omega) (by omega)), grd_t (inb_t (by omega) (by omega)), grd_t (inb_t (by omega) (by omega)), grd_t (inb_t (by omega) (by omega)), tn_nI (by omega), tn_nI (by omega), tn_nI (by omega), tn_nI (by omega), tn_nI (by omega)]
    rfl
  intro v hv
  have hvs : v = 0 ∨ v = 1 ∨ v = 2 ∨ v = 3 ∨ v = 4 ∨ v = 5 ∨ v = 6 ∨ v = 7 ∨ v = 8 ∨ v = 9 ∨ v = 10 := by omega
  have gc : ∀ v (C : Mm), v < 11 → C.1 10 s = nI v → _ := fun v C hv h10 => stC_e (n := n) (C := C) hs hv h10
  rcases hvs with rfl | rfl | rfl | rfl | rfl | rfl | rfl | rfl | rfl | rfl | rfl
  · refine ST_of (ok := okA) (op_ask hn (nu (4 * s + 0)) (nu (4 * s + 1)) (nu (4 * s + 2)) (nu (4 * s + 3))) (F := fun z12 => if (0 : Int32) ≤ z12.1 then some (true, z12.2) else if z12.1 = (-2 : Int32) then some (true, z12.2) else some (false, z12.2)) (fun r M' => okA_e) (fun C h1 h2 => ?_) (fun N h1 h2 => ?_)
    · rw [gc 0 C (by omega) h1]
      dsimp only
      rw [if_pos (by decide), l_2, l_3, nof_i hs (by omega), bnd_some, nof_i hs (by omega), bnd_some, h2 0 (by decide), h2 1 (by decide), h2 2 (by decide), h2 3 (by decide)]
      rfl
    · rw [gm N, h1, w_5, if_pos rfl, h2 0 (by decide), h2 1 (by decide), h2 2 (by decide), h2 3 (by decide)]
      rfl
  · refine ST_of (ok := fun r => r) (op_drop (n := n) (by omega) (nu (4 * s + 0))) (F := fun z17 => some (z17.1, z17.2)) (fun r M' => rfl) (fun C h1 h2 => ?_) (fun N h1 h2 => ?_)
    · rw [gc 1 C (by omega) h1]
      dsimp only
      rw [if_neg (by decide), if_pos (by decide), h2 0 (by decide)]
    · rw [gm N, h1, w_5, w_6, if_neg (show lN (wC (1 + 5)) ≠ lN (wC (0 + 5)) by decide), if_pos rfl, h2 0 (by decide)]
  · refine ST_of (ok := okN) (op_slide (n := n) (by omega) (nu (4 * s + 0))) (F := fun z20 => if z20.1 < (0 : Int32) then some (false, z20.2) else some (true, z20.2)) (fun r M' => okN_e) (fun C h1 h2 => ?_) (fun N h1 h2 => ?_)
    · rw [gc 2 C (by omega) h1]
      dsimp only
      rw [if_neg (by decide), if_neg (by decide), if_pos (by decide), h2 0 (by decide)]
    · rw [gm N, h1, w_5, w_6, w_7, if_neg (show lN (wC (2 + 5)) ≠ lN (wC (0 + 5)) by decide), if_neg (show lN (wC (2 + 5)) ≠ lN (wC (1 + 5)) by decide), if_pos rfl, h2 0 (by decide)]
  · refine ST_of (ok := okN) (op_sweep (n := n) (by omega)) (F := fun z20 => if z20.1 < (0 : Int32) then some (false, z20.2) else some (true, z20.2)) (fun r M' => okN_e) (fun C h1 h2 => ?_) (fun N h1 h2 => ?_)
    · rw [gc 3 C (by omega) h1]
      dsimp only
      rw [if_neg (by decide), if_neg (by decide), if_neg (by decide), if_pos (by decide)]
    · rw [gm N, h1, w_5, w_6, w_7, w_8, if_neg (show lN (wC (3 + 5)) ≠ lN (wC (0 + 5)) by decide), if_neg (show lN (wC (3 + 5)) ≠ lN (wC (1 + 5)) by decide), if_neg (show lN (wC (3 + 5)) ≠ lN (wC (2 + 5)) by decide), if_pos rfl]
  · refine ST_of (ok := okJ) (op_jump (n := n) (by omega) (nu (4 * s + 0)) (nu (4 * s + 1))) (F := fun z20 => if z20.1 ≤ (-1000 : Int32) then some (false, z20.2) else some (true, z20.2)) (fun r M' => okJ_e) (fun C h1 h2 => ?_) (fun N h1 h2 => ?_)
    · rw [gc 4 C (by omega) h1]
      dsimp only
      rw [if_neg (by decide), if_neg (by decide), if_neg (by decide), if_neg (by decide), if_pos (by decide), h2 0 (by decide), h2 1 (by decide)]
    · rw [gm N, h1, w_5, w_6, w_7, w_8, w_9, if_neg (show lN (wC (4 + 5)) ≠ lN (wC (0 + 5)) by decide), if_neg (show lN (wC (4 + 5)) ≠ lN (wC (1 + 5)) by decide), if_neg (show lN (wC (4 + 5)) ≠ lN (wC (2 + 5)) by decide), if_neg (show lN (wC (4 + 5)) ≠ lN (wC (3 + 5)) by decide), if_pos rfl, h2 0 (by decide), h2 1 (by decide)]
  · refine ST_of (ok := okN) (op_cut (n := n) (by omega) (nu (4 * s + 0))) (F := fun z20 => if z20.1 < (0 : Int32) then some (false, z20.2) else some (true, z20.2)) (fun r M' => okN_e) (fun C h1 h2 => ?_) (fun N h1 h2 => ?_)
    · rw [gc 5 C (by omega) h1]
      dsimp only
      rw [if_neg (by decide), if_neg (by decide), if_neg (by decide), if_neg (by decide), if_neg (by decide), if_pos (by decide), h2 0 (by decide)]
    · rw [gm N, h1, w_5, w_6, w_7, w_8, w_9, w_10, if_neg (show lN (wC (5 + 5)) ≠ lN (wC (0 + 5)) by decide), if_neg (show lN (wC (5 + 5)) ≠ lN (wC (1 + 5)) by decide), if_neg (show lN (wC (5 + 5)) ≠ lN (wC (2 + 5)) by decide), if_neg (show lN (wC (5 + 5)) ≠ lN (wC (3 + 5)) by decide), if_neg (show lN (wC (5 + 5)) ≠ lN (wC (4 + 5)) by decide), if_pos rfl, h2 0 (by decide)]
  · refine ST_of (ok := fun r => r) (op_mend (nu (4 * s + 0))) (F := fun z17 => some (z17.1, z17.2)) (fun r M' => rfl) (fun C h1 h2 => ?_) (fun N h1 h2 => ?_)
    · rw [gc 6 C (by omega) h1]
      dsimp only
      rw [if_neg (by decide), if_neg (by decide), if_neg (by decide), if_neg (by decide), if_neg (by decide), if_neg (by decide), if_pos (by decide), h2 0 (by decide)]
    · rw [gm N, h1, w_5, w_6, w_7, w_8, w_9, w_10, w_11, if_neg (show lN (wC (6 + 5)) ≠ lN (wC (0 + 5)) by decide), if_neg (show lN (wC (6 + 5)) ≠ lN (wC (1 + 5)) by decide), if_neg (show lN (wC (6 + 5)) ≠ lN (wC (2 + 5)) by decide), if_neg (show lN (wC (6 + 5)) ≠ lN (wC (3 + 5)) by decide), if_neg (show lN (wC (6 + 5)) ≠ lN (wC (4 + 5)) by decide), if_neg (show lN (wC (6 + 5)) ≠ lN (wC (5 + 5)) by decide), if_pos rfl, h2 0 (by decide)]
  · refine ST_of (ok := okN) (op_relight hn (nu (4 * s + 0))) (F := fun z20 => if z20.1 < (0 : Int32) then some (false, z20.2) else some (true, z20.2)) (fun r M' => okN_e) (fun C h1 h2 => ?_) (fun N h1 h2 => ?_)
    · rw [gc 7 C (by omega) h1]
      dsimp only
      rw [if_neg (by decide), if_neg (by decide), if_neg (by decide), if_neg (by decide), if_neg (by decide), if_neg (by decide), if_neg (by decide), if_pos (by decide), h2 0 (by decide)]
    · rw [gm N, h1, w_5, w_6, w_7, w_8, w_9, w_10, w_11, w_12, if_neg (show lN (wC (7 + 5)) ≠ lN (wC (0 + 5)) by decide), if_neg (show lN (wC (7 + 5)) ≠ lN (wC (1 + 5)) by decide), if_neg (show lN (wC (7 + 5)) ≠ lN (wC (2 + 5)) by decide), if_neg (show lN (wC (7 + 5)) ≠ lN (wC (3 + 5)) by decide), if_neg (show lN (wC (7 + 5)) ≠ lN (wC (4 + 5)) by decide), if_neg (show lN (wC (7 + 5)) ≠ lN (wC (5 + 5)) by decide), if_neg (show lN (wC (7 + 5)) ≠ lN (wC (6 + 5)) by decide), if_pos rfl, h2 0 (by decide)]
  · refine ST_of (ok := okN) (op_plan hn (nu (4 * s + 0))) (F := fun z20 => if z20.1 < (0 : Int32) then some (false, z20.2) else some (true, z20.2)) (fun r M' => okN_e) (fun C h1 h2 => ?_) (fun N h1 h2 => ?_)
    · rw [gc 8 C (by omega) h1]
      dsimp only
      rw [if_neg (by decide), if_neg (by decide), if_neg (by decide), if_neg (by decide), if_neg (by decide), if_neg (by decide), if_neg (by decide), if_neg (by decide), if_pos (by decide), h2 0 (by decide)]
    · rw [gm N, h1, w_5, w_6, w_7, w_8, w_9, w_10, w_11, w_12, w_13, if_neg (show lN (wC (8 + 5)) ≠ lN (wC (0 + 5)) by decide), if_neg (show lN (wC (8 + 5)) ≠ lN (wC (1 + 5)) by decide), if_neg (show lN (wC (8 + 5)) ≠ lN (wC (2 + 5)) by decide), if_neg (show lN (wC (8 + 5)) ≠ lN (wC (3 + 5)) by decide), if_neg (show lN (wC (8 + 5)) ≠ lN (wC (4 + 5)) by decide), if_neg (show lN (wC (8 + 5)) ≠ lN (wC (5 + 5)) by decide), if_neg (show lN (wC (8 + 5)) ≠ lN (wC (6 + 5)) by decide), if_neg (show lN (wC (8 + 5)) ≠ lN (wC (7 + 5)) by decide), if_pos rfl, h2 0 (by decide)]
  · refine ST_of (ok := okN) (op_lasts (nu (4 * s + 0)) (nu (4 * s + 1))) (F := fun z20 => if z20.1 < (0 : Int32) then some (false, z20.2) else some (true, z20.2)) (fun r M' => okN_e) (fun C h1 h2 => ?_) (fun N h1 h2 => ?_)
    · rw [gc 9 C (by omega) h1]
      dsimp only
      rw [if_neg (by decide), if_neg (by decide), if_neg (by decide), if_neg (by decide), if_neg (by decide), if_neg (by decide), if_neg (by decide), if_neg (by decide), if_neg (by decide), if_pos (by decide), h2 0 (by decide), h2 1 (by decide)]
    · rw [gm N, h1, w_5, w_6, w_7, w_8, w_9, w_10, w_11, w_12, w_13, w_14, if_neg (show lN (wC (9 + 5)) ≠ lN (wC (0 + 5)) by decide), if_neg (show lN (wC (9 + 5)) ≠ lN (wC (1 + 5)) by decide), if_neg (show lN (wC (9 + 5)) ≠ lN (wC (2 + 5)) by decide), if_neg (show lN (wC (9 + 5)) ≠ lN (wC (3 + 5)) by decide), if_neg (show lN (wC (9 + 5)) ≠ lN (wC (4 + 5)) by decide), if_neg (show lN (wC (9 + 5)) ≠ lN (wC (5 + 5)) by decide), if_neg (show lN (wC (9 + 5)) ≠ lN (wC (6 + 5)) by decide), if_neg (show lN (wC (9 + 5)) ≠ lN (wC (7 + 5)) by decide), if_neg (show lN (wC (9 + 5)) ≠ lN (wC (8 + 5)) by decide), if_pos rfl, h2 0 (by decide), h2 1 (by decide)]
  · refine ST_of (ok := okN) (op_ticks (n := n) (by omega) (nu (4 * s + 0))) (F := fun z20 => if z20.1 < (0 : Int32) then some (false, z20.2) else some (true, z20.2)) (fun r M' => okN_e) (fun C h1 h2 => ?_) (fun N h1 h2 => ?_)
    · rw [gc 10 C (by omega) h1]
      dsimp only
      rw [if_neg (by decide), if_neg (by decide), if_neg (by decide), if_neg (by decide), if_neg (by decide), if_neg (by decide), if_neg (by decide), if_neg (by decide), if_neg (by decide), if_neg (by decide), if_pos (by decide), h2 0 (by decide)]
    · rw [gm N, h1, w_5, w_6, w_7, w_8, w_9, w_10, w_11, w_12, w_13, w_14, if_neg (show lN (wC (10 + 5)) ≠ lN (wC (0 + 5)) by decide), if_neg (show lN (wC (10 + 5)) ≠ lN (wC (1 + 5)) by decide), if_neg (show lN (wC (10 + 5)) ≠ lN (wC (2 + 5)) by decide), if_neg (show lN (wC (10 + 5)) ≠ lN (wC (3 + 5)) by decide), if_neg (show lN (wC (10 + 5)) ≠ lN (wC (4 + 5)) by decide), if_neg (show lN (wC (10 + 5)) ≠ lN (wC (5 + 5)) by decide), if_neg (show lN (wC (10 + 5)) ≠ lN (wC (6 + 5)) by decide), if_neg (show lN (wC (10 + 5)) ≠ lN (wC (7 + 5)) by decide), if_neg (show lN (wC (10 + 5)) ≠ lN (wC (8 + 5)) by decide), if_neg (show lN (wC (10 + 5)) ≠ lN (wC (9 + 5)) by decide), h2 0 (by decide)]
end
