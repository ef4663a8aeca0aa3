/-! the law's loop -/
def GLw (v : Int32) (o : Option ((Int32 × Mm) ⊕ ((Mm) ⊕ (Bool × Mm)))) : Prop := ∃ M' A', o = some (.inl (v + (6 : Int32), M')) ∧ VA A' ∧ KC M' A' ∧ KM M' A'
theorem ite_ok {α : Type} {p : Prop} [Decidable p] {a b : α} {Q : α → Prop} (h1 : p → Q a) (h2 : ¬ p → Q b) : Q (if p then a else b) := by
  by_cases h : p
  · rw [if_pos h]; exact h1 h
  · rw [if_neg h]; exact h2 h
theorem grd_ok {α : Type} {b : Bool} {x : Option α} {Q : Option α → Prop} (h : b = true) (hq : Q x) : Q (grd b x) := by
  rw [grd_t h]; exact hq
section
variable {v : Int32} {M : Mm} {A : Ab}
theorem br_i {fc fm : Mm → Option (Int32 × Mm)} {F : Int32 × Mm → Option ((Int32 × Mm) ⊕ ((Mm) ⊕ (Bool × Mm)))} (hv : VA A) (hc : KC M A) (hm : KM M A) (h : OK2 fc fm) (hF : ∀ z : Int32 × Mm, F z = bnd (fm z.2) (fun y => if z.1 = y.1 then La_law_j1400 v y.2 else some (.inr (.inr (false, y.2))))) : GLw v (bnd (fc M) F) := by
  obtain ⟨r, M1, M2, A', a1, a2, a3, a4, a5⟩ := h A M hv hc hm
  refine ⟨M2, A', ?_, a3, a4, a5⟩
  rw [a1, bnd_some, hF, a2, bnd_some, if_pos rfl]
  rfl
theorem br_b {fc fm : Mm → Option (Bool × Mm)} {F : Bool × Mm → Option ((Int32 × Mm) ⊕ ((Mm) ⊕ (Bool × Mm)))} (hv : VA A) (hc : KC M A) (hm : KM M A) (h : OK2 fc fm) (hF : ∀ z : Bool × Mm, F z = bnd (fm z.2) (fun y => if (b2i z.1) = (b2i y.1) then La_law_j1400 v y.2 else some (.inr (.inr (false, y.2))))) : GLw v (bnd (fc M) F) := by
  obtain ⟨r, M1, M2, A', a1, a2, a3, a4, a5⟩ := h A M hv hc hm
  refine ⟨M2, A', ?_, a3, a4, a5⟩
  rw [a1, bnd_some, hF, a2, bnd_some, if_pos rfl]
  rfl
theorem br_u {fc fm : Mm → Option Int32} {F : Int32 → Option ((Int32 × Mm) ⊕ ((Mm) ⊕ (Bool × Mm)))} (hv : VA A) (hc : KC M A) (hm : KM M A) (h : U2 fc fm) (hF : ∀ z : Int32, F z = bnd (fm M) (fun y => if z = y then La_law_j1400 v M else some (.inr (.inr (false, M))))) : GLw v (bnd (fc M) F) := by
  obtain ⟨r, a1, a2⟩ := h A.1 hv.1
  obtain ⟨h0, m1, _⟩ := hm.1
  refine ⟨M, A, ?_, hv, hc, hm⟩
  rw [a1 M hc.1.1, bnd_some, hF, a2 M h0 m1, bnd_some, if_pos rfl]
  rfl
theorem br_l {fc : Mm → Option Int32} {fm : Mm → Option (Int32 × Mm)} {F : Int32 → Option ((Int32 × Mm) ⊕ ((Mm) ⊕ (Bool × Mm)))} (hv : VA A) (hc : KC M A) (hm : KM M A) (h : ∀ g, GV g → ∃ r, (∀ M, SV M 18 g → fc M = some r) ∧ ∀ M h, FK M g h → TM fm M h r g) (hF : ∀ z : Int32, F z = bnd (fm M) (fun y => if z = y.1 then La_law_j1400 v y.2 else some (.inr (.inr (false, y.2))))) : GLw v (bnd (fc M) F) := by
  obtain ⟨r, a1, a2⟩ := h A.1 hv.1
  obtain ⟨⟨h0, m1, m2⟩, m3, m4⟩ := hm
  obtain ⟨M2, h', b1, b2, b3, b4⟩ := a2 M h0 m1
  refine ⟨M2, A, ?_, hv, hc.fr b4 (fun c j q => by unfold PM at q; omega), ⟨h', b2, m2.fr b4 (by unfold PM; omega) b3⟩, (b4 94 4 (by unfold PM; omega)).1.trans m3, fun i hi => ?_⟩
  · rw [a1 M hc.1.1, bnd_some, hF, b1, bnd_some, if_pos rfl]
    rfl
  · rw [(b4 97 i (by unfold PM; omega)).1]
    exact m4 i hi
theorem br_ct {x : Int32} {F : Int32 → Option ((Int32 × Mm) ⊕ ((Mm) ⊕ (Bool × Mm)))} (hv : VA A) (hc : KC M A) (hm : KM M A) (hF : ∀ z : Int32, F z = bnd (Fm_count x M) (fun y => if z = y then La_law_j1400 v M else some (.inr (.inr (false, M))))) : GLw v (bnd (Fg_count x M) F) := by
  obtain ⟨r, a1, a2⟩ := op_count (x := x) hc hm
  refine ⟨M, A, ?_, hv, hc, hm⟩
  rw [a1, bnd_some, hF, a2, bnd_some, if_pos rfl]
  rfl
theorem law_s {n L i : Nat} {xs : Nat → Int32} (hn : 1099511627776 < n) (hL : L ≤ 3072) (hi : i + 6 ≤ L) (hv : VA A) (hc : KC M A) (hm : KM M A) : GLw (nI i) (La_law_b18 n L xs (nI i) M) := by
  have g0 : inb (nI i) L = true := inb_t (by omega) (by omega)
  have g1 : inb (nI i + (1 : Int32)) L = true := by rw [l_1, nI_add]; exact inb_t (by omega) (by omega)
  have g2 : inb (nI i + (2 : Int32)) L = true := by rw [l_2, nI_add]; exact inb_t (by omega) (by omega)
  have g3 : inb (nI i + (3 : Int32)) L = true := by rw [l_3, nI_add]; exact inb_t (by omega) (by omega)
  have g4 : inb (nI i + (4 : Int32)) L = true := by rw [l_4, nI_add]; exact inb_t (by omega) (by omega)
  have g5 : inb (nI i + (5 : Int32)) L = true := by rw [l_5, nI_add]; exact inb_t (by omega) (by omega)
  have gl : ¬ ((Int32.ofNat L) - (6 : Int32) < nI i) := by
    show ¬ (nI L - (6 : Int32) < nI i)
    rw [l_6, nI_subL (by omega)]
    simp (disch := omega) only [l_0, l_1, l_2, l_3, l_4, l_5, l_6, l_7, l_8, l_9, l_10, l_11, l_12, l_13, l_14, l_16, l_20, l_21, l_23, l_24, l_30, l_32, l_40, l_41, l_44, l_48, l_57, l_59, l_60, l_63, l_64, l_80, l_84, l_96, l_97, l_99, l_120, l_122, l_127, l_200, l_240, l_255, l_840, l_999, l_1000, l_1001, l_2400, l_3064, l_9999, l_10000, l_13849, l_16383, l_25173, l_65535, l_65536, l_99999, l_1000000000, neg_nI, pk_mul, nI_add, nI_subL, tn_nI, inb_t, grd_true, bnd_some, elS_l, elS_r, nI_ltI, nI_leI, nI_inj, fa_and, fa_or, m1_eq, eq_m1, m1_lt, m1_le, lt_m1, le_m1, m1_lt0, up2_at, up2_no, ite_true, ite_false, if_true, if_false, Bool.false_eq_true, reduceIte, reduceCtorEq, not_true_eq_false, not_false_eq_true, eq_self, decide_true, decide_false, le_tt, le_ff, lt_tt, lt_ff, eq_ff, and_true, true_and, and_false, false_and, or_true, true_or, or_false, false_or, ne_eq, decide_eq_true_eq, decide_eq_false_iff_not, Bool.not_true, Bool.not_false, Bool.and_true, Bool.true_and, Bool.and_false, Bool.false_and, gs_at, gs_no, oI_n, oI_s]
  generalize ha1 : xs (tn (nI i + (1 : Int32))) = a1
  generalize ha2 : xs (tn (nI i + (2 : Int32))) = a2
  generalize ha3 : xs (tn (nI i + (3 : Int32))) = a3
  generalize ha4 : xs (tn (nI i + (4 : Int32))) = a4
  generalize ha5 : xs (tn (nI i + (5 : Int32))) = a5
  unfold La_law_b18
  rw [ha1, ha2, ha3, ha4, ha5]
  refine ite_ok (Q := GLw (nI i)) (fun q => absurd q gl) (fun _ => ?_)
  refine grd_ok (Q := GLw (nI i)) g0 ?_
  refine ite_ok (Q := GLw (nI i)) (fun _ => ?_) (fun _ => ?_)
  · exact grd_ok (Q := GLw (nI i)) g1 (grd_ok (Q := GLw (nI i)) g2 (grd_ok (Q := GLw (nI i)) g3 (grd_ok (Q := GLw (nI i)) g4 (grd_ok (Q := GLw (nI i)) g5 (br_i hv hc hm (op_feed (by omega) a1 a2 a3 a4 a5) (fun z => by rw [grd_t g1, grd_t g2, grd_t g3, grd_t g4, grd_t g5]))))))
  refine ite_ok (Q := GLw (nI i)) (fun _ => ?_) (fun _ => ?_)
  · exact grd_ok (Q := GLw (nI i)) g1 (br_i hv hc hm (op_grid (by omega) a1) (fun z => by rw [grd_t g1]))
  refine ite_ok (Q := GLw (nI i)) (fun _ => ?_) (fun _ => ?_)
  · exact grd_ok (Q := GLw (nI i)) g1 (br_i hv hc hm (op_works hn a1) (fun z => by rw [grd_t g1]))
  refine ite_ok (Q := GLw (nI i)) (fun _ => ?_) (fun _ => ?_)
  · exact grd_ok (Q := GLw (nI i)) g1 (grd_ok (Q := GLw (nI i)) g2 (grd_ok (Q := GLw (nI i)) g3 (grd_ok (Q := GLw (nI i)) g4 (br_i hv hc hm (OK2_of (op_ask hn a1 a2 a3 a4)) (fun z => by rw [grd_t g1, grd_t g2, grd_t g3, grd_t g4])))))
  refine ite_ok (Q := GLw (nI i)) (fun _ => ?_) (fun _ => ?_)
  · exact grd_ok (Q := GLw (nI i)) g1 (br_b hv hc hm (OK2_of (op_drop (by omega) a1)) (fun z => by rw [grd_t g1]))
  refine ite_ok (Q := GLw (nI i)) (fun _ => ?_) (fun _ => ?_)
  · exact grd_ok (Q := GLw (nI i)) g1 (br_i hv hc hm (OK2_of (op_slide (by omega) a1)) (fun z => by rw [grd_t g1]))
  refine ite_ok (Q := GLw (nI i)) (fun _ => ?_) (fun _ => ?_)
  · exact br_i hv hc hm (OK2_of (op_sweep (by omega) )) (fun z => rfl)
  refine ite_ok (Q := GLw (nI i)) (fun _ => ?_) (fun _ => ?_)
  · exact br_i hv hc hm (OK2_of (op_sweeps (by omega) )) (fun z => rfl)
  refine ite_ok (Q := GLw (nI i)) (fun _ => ?_) (fun _ => ?_)
  · exact grd_ok (Q := GLw (nI i)) g1 (grd_ok (Q := GLw (nI i)) g2 (br_i hv hc hm (OK2_of (op_jump (by omega) a1 a2)) (fun z => by rw [grd_t g1, grd_t g2])))
  refine ite_ok (Q := GLw (nI i)) (fun _ => ?_) (fun _ => ?_)
  · exact grd_ok (Q := GLw (nI i)) g1 (br_i hv hc hm (OK2_of (op_cut (by omega) a1)) (fun z => by rw [grd_t g1]))
  refine ite_ok (Q := GLw (nI i)) (fun _ => ?_) (fun _ => ?_)
  · exact grd_ok (Q := GLw (nI i)) g1 (br_b hv hc hm (OK2_of (op_mend a1)) (fun z => by rw [grd_t g1]))
  refine ite_ok (Q := GLw (nI i)) (fun _ => ?_) (fun _ => ?_)
  · exact grd_ok (Q := GLw (nI i)) g1 (br_i hv hc hm (OK2_of (op_relight hn a1)) (fun z => by rw [grd_t g1]))
  refine ite_ok (Q := GLw (nI i)) (fun _ => ?_) (fun _ => ?_)
  · exact grd_ok (Q := GLw (nI i)) g1 (br_i hv hc hm (OK2_of (op_plan hn a1)) (fun z => by rw [grd_t g1]))
  refine ite_ok (Q := GLw (nI i)) (fun _ => ?_) (fun _ => ?_)
  · exact grd_ok (Q := GLw (nI i)) g1 (grd_ok (Q := GLw (nI i)) g2 (br_i hv hc hm (OK2_of (op_lasts a1 a2)) (fun z => by rw [grd_t g1, grd_t g2])))
  refine ite_ok (Q := GLw (nI i)) (fun _ => ?_) (fun _ => ?_)
  · exact grd_ok (Q := GLw (nI i)) g1 (br_i hv hc hm (OK2_of (op_ticks (by omega) a1)) (fun z => by rw [grd_t g1]))
  refine ite_ok (Q := GLw (nI i)) (fun _ => ?_) (fun _ => ?_)
  · exact grd_ok (Q := GLw (nI i)) g1 (br_b hv hc hm (OK2_of (op_seed a1)) (fun z => by rw [grd_t g1]))
  refine ite_ok (Q := GLw (nI i)) (fun _ => ?_) (fun _ => ?_)
  · exact grd_ok (Q := GLw (nI i)) g1 (br_u hv hc hm (op_gridIs (by omega) a1) (fun z => by rw [grd_t g1]))
  refine ite_ok (Q := GLw (nI i)) (fun _ => ?_) (fun _ => ?_)
  · exact grd_ok (Q := GLw (nI i)) g1 (grd_ok (Q := GLw (nI i)) g2 (br_l hv hc hm (op_linkIs (by omega) a1 a2) (fun z => by rw [grd_t g1, grd_t g2])))
  refine ite_ok (Q := GLw (nI i)) (fun _ => ?_) (fun _ => ?_)
  · exact grd_ok (Q := GLw (nI i)) g1 (grd_ok (Q := GLw (nI i)) g2 (br_u hv hc hm (op_demandIs (by omega) a1 a2) (fun z => by rw [grd_t g1, grd_t g2])))
  refine ite_ok (Q := GLw (nI i)) (fun _ => ?_) (fun _ => ?_)
  · exact grd_ok (Q := GLw (nI i)) g1 (grd_ok (Q := GLw (nI i)) g2 (grd_ok (Q := GLw (nI i)) g3 (grd_ok (Q := GLw (nI i)) g4 (br_i hv hc hm (OK2_of (op_way hn a1 a2 a3 a4)) (fun z => by rw [grd_t g1, grd_t g2, grd_t g3, grd_t g4])))))
  refine ite_ok (Q := GLw (nI i)) (fun _ => ?_) (fun _ => ?_)
  · exact grd_ok (Q := GLw (nI i)) g1 (grd_ok (Q := GLw (nI i)) g2 (grd_ok (Q := GLw (nI i)) g3 (grd_ok (Q := GLw (nI i)) g4 (grd_ok (Q := GLw (nI i)) g5 (br_i hv hc hm (OK2_of (op_found hn a1 a2 a3 a4 a5)) (fun z => by rw [grd_t g1, grd_t g2, grd_t g3, grd_t g4, grd_t g5]))))))
  refine ite_ok (Q := GLw (nI i)) (fun _ => ?_) (fun _ => ?_)
  · exact grd_ok (Q := GLw (nI i)) g1 (grd_ok (Q := GLw (nI i)) g2 (grd_ok (Q := GLw (nI i)) g3 (grd_ok (Q := GLw (nI i)) g4 (grd_ok (Q := GLw (nI i)) g5 (br_i hv hc hm (OK2_of (op_witness hn a1 a2 a3 a4 a5)) (fun z => by rw [grd_t g1, grd_t g2, grd_t g3, grd_t g4, grd_t g5]))))))
  refine ite_ok (Q := GLw (nI i)) (fun _ => ?_) (fun _ => ?_)
  · exact grd_ok (Q := GLw (nI i)) g1 (grd_ok (Q := GLw (nI i)) g2 (grd_ok (Q := GLw (nI i)) g3 (grd_ok (Q := GLw (nI i)) g4 (br_i hv hc hm (OK2_of (op_blocked hn a1 a2 a3 a4)) (fun z => by rw [grd_t g1, grd_t g2, grd_t g3, grd_t g4])))))
  refine ite_ok (Q := GLw (nI i)) (fun _ => ?_) (fun _ => ?_)
  · exact grd_ok (Q := GLw (nI i)) g1 (grd_ok (Q := GLw (nI i)) g2 (br_i hv hc hm (OK2_of (op_repack hn a1 a2)) (fun z => by rw [grd_t g1, grd_t g2])))
  refine ite_ok (Q := GLw (nI i)) (fun _ => ?_) (fun _ => ?_)
  · exact grd_ok (Q := GLw (nI i)) g1 (grd_ok (Q := GLw (nI i)) g2 (grd_ok (Q := GLw (nI i)) g3 (br_i hv hc hm (OK2_of (op_planned hn a1 a2 a3)) (fun z => by rw [grd_t g1, grd_t g2, grd_t g3]))))
  refine ite_ok (Q := GLw (nI i)) (fun _ => ?_) (fun _ => ?_)
  · exact grd_ok (Q := GLw (nI i)) g1 (grd_ok (Q := GLw (nI i)) g2 (br_i hv hc hm (OK2_of (op_waits hn a1 a2)) (fun z => by rw [grd_t g1, grd_t g2])))
  refine ite_ok (Q := GLw (nI i)) (fun _ => ?_) (fun _ => ?_)
  · exact grd_ok (Q := GLw (nI i)) g1 (grd_ok (Q := GLw (nI i)) g2 (br_i hv hc hm (OK2_of (op_unravel hn a1 a2)) (fun z => by rw [grd_t g1, grd_t g2])))
  refine ite_ok (Q := GLw (nI i)) (fun _ => ?_) (fun _ => ?_)
  · exact grd_ok (Q := GLw (nI i)) g1 (grd_ok (Q := GLw (nI i)) g2 (grd_ok (Q := GLw (nI i)) g3 (grd_ok (Q := GLw (nI i)) g4 (br_i hv hc hm (OK2_of (op_trial hn a1 a2 a3 a4)) (fun z => by rw [grd_t g1, grd_t g2, grd_t g3, grd_t g4])))))
  refine ite_ok (Q := GLw (nI i)) (fun _ => ?_) (fun _ => ?_)
  · exact grd_ok (Q := GLw (nI i)) g1 (grd_ok (Q := GLw (nI i)) g2 (br_i hv hc hm (OK2_of (op_bestRule hn a1 a2)) (fun z => by rw [grd_t g1, grd_t g2])))
  refine ite_ok (Q := GLw (nI i)) (fun _ => ?_) (fun _ => ?_)
  · exact grd_ok (Q := GLw (nI i)) g1 (grd_ok (Q := GLw (nI i)) g2 (grd_ok (Q := GLw (nI i)) g3 (grd_ok (Q := GLw (nI i)) g4 (br_i hv hc hm (OK2_of (op_parts hn a1 a2 a3 a4)) (fun z => by rw [grd_t g1, grd_t g2, grd_t g3, grd_t g4])))))
  refine ite_ok (Q := GLw (nI i)) (fun _ => ?_) (fun _ => ?_)
  · exact grd_ok (Q := GLw (nI i)) g1 (grd_ok (Q := GLw (nI i)) g2 (grd_ok (Q := GLw (nI i)) g3 (grd_ok (Q := GLw (nI i)) g4 (br_i hv hc hm (OK2_of (op_more hn a1 a2 a3 a4)) (fun z => by rw [grd_t g1, grd_t g2, grd_t g3, grd_t g4])))))
  refine ite_ok (Q := GLw (nI i)) (fun _ => ?_) (fun _ => ?_)
  · exact grd_ok (Q := GLw (nI i)) g1 (grd_ok (Q := GLw (nI i)) g2 (grd_ok (Q := GLw (nI i)) g3 (br_i hv hc hm (OK2_of (op_ifCut hn a1 a2 a3)) (fun z => by rw [grd_t g1, grd_t g2, grd_t g3]))))
  refine ite_ok (Q := GLw (nI i)) (fun _ => ?_) (fun _ => ?_)
  · exact br_i hv hc hm (op_keep (by omega) ) (fun z => rfl)
  refine ite_ok (Q := GLw (nI i)) (fun _ => ?_) (fun _ => ?_)
  · exact br_b hv hc hm (op_undo (by omega) ) (fun z => rfl)
  refine ite_ok (Q := GLw (nI i)) (fun _ => ?_) (fun _ => ?_)
  · exact grd_ok (Q := GLw (nI i)) g1 (br_i hv hc hm (op_check (by omega) a1) (fun z => by rw [grd_t g1]))
  refine ite_ok (Q := GLw (nI i)) (fun _ => ?_) (fun _ => ?_)
  · exact grd_ok (Q := GLw (nI i)) g1 (br_ct hv hc hm (fun z => by rw [grd_t g1]))
  exact ⟨M, A, rfl, hv, hc, hm⟩
end
