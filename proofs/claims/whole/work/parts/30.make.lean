/-! what is made: constructors, while the shape grows -/
theorem xr_le {X : Cx} {S1 S2 : Sg} (hr : XR X S2) (h : S1.2.1 ≤ S2.2.1 ∧ S1.2.2 ≤ S2.2.2) : XR X S1 := ⟨Nat.le_trans (Nat.sub_le_sub_right h.1 _) hr.1, Nat.le_trans (Nat.sub_le_sub_right h.2 _) hr.2⟩
def fr (n : Nat) (M : Mm) (R : Nat → Nat → Option Nat) : Prop := ∀ k, n ≤ pl k → (∀ j, M.1 k j = 0) ∧ (∀ j, M.2 k j = 0) ∧ ∀ j, R k j = none
theorem fr_fresh {n : Nat} {M : Mm} {R : Nat → Nat → Option Nat} {p : Nat × Nat} (h : fr n M R) : fresh M (R, p) (vi n) := h (vi n) (by rw [pl_vi]; exact Nat.le_refl n)
theorem fr_up {n n' : Nat} {M : Mm} {R : Nat → Nat → Option Nat} (hn : n ≤ n') (h : fr n M R) : fr n' M R := fun k hk => h k (Nat.le_trans hn hk)
theorem fr_I {n a j : Nat} {x : Int32} {A : Nat → Nat → Int32} {B : Nat → Nat → Int64} {R : Nat → Nat → Option Nat} (ha : pl a < n) (h : fr n (A, B) R) : fr n (up2 A a j x, B) R := fun k hk => ⟨fun i => (up2_ne (fun e => by subst e; omega)).trans ((h k hk).1 i), (h k hk).2⟩
theorem fr_L {n a j : Nat} {x : Int64} {A : Nat → Nat → Int32} {B : Nat → Nat → Int64} {R : Nat → Nat → Option Nat} (ha : pl a < n) (h : fr n (A, B) R) : fr n (A, up2 B a j x) R := fun k hk => ⟨(h k hk).1, fun i => (up2_ne (fun e => by subst e; omega)).trans ((h k hk).2.1 i), (h k hk).2.2⟩
theorem fr_R {n a j b : Nat} {M : Mm} {R : Nat → Nat → Option Nat} (ha : pl a < n) (h : fr n M R) : fr n M (up2 R a j (some b)) := fun k hk => ⟨(h k hk).1, (h k hk).2.1, fun i => (up2_ne (fun e => by subst e; omega)).trans ((h k hk).2.2 i)⟩
theorem fr_eta {n : Nat} {M : Mm} {R : Nat → Nat → Option Nat} (h : fr n M R) : fr n (M.1, M.2) R := h
theorem loop_inv {σ ρ : Type} {body : σ → Option (σ ⊕ ρ)} {P : σ → Prop} {E : ρ → Prop} (hs : ∀ s s1, P s → body s = some (.inl s1) → P s1) (hx : ∀ s x, P s → body s = some (.inr x) → E x) : ∀ (n : Nat) (s : σ) (x : ρ), loop body n s = some x → P s → E x
  | 0, _, _, h, _ => by cases h
  | n + 1, s, x, h, hP => by
    unfold loop at h
    cases hb : body s with
    | none => rw [hb] at h; cases h
    | some o =>
      rw [hb] at h
      cases o with
      | inl s1 => exact loop_inv hs hx n s1 x h (hs s s1 hP hb)
      | inr y => cases h; exact hx s _ hP hb
def sameBut (lo hi : Nat) (M M' : Mm) : Prop := (∀ k, (k < lo ∨ hi ≤ k) → ∀ j, M'.1 k j = M.1 k j) ∧ M'.2 = M.2
theorem fr_same {lo hi n : Nat} {M M' : Mm} {R : Nat → Nat → Option Nat} (hs : sameBut lo hi M M') (hn : ∀ k, k < hi → lo ≤ k → pl k < n) (h : fr n M R) : fr n M' R := fun k hk => ⟨fun j => (hs.1 k ((Nat.lt_or_ge k lo).imp_right (fun h2 => Nat.le_of_not_lt (fun h1 => absurd (hn k h1 h2) (Nat.not_lt.mpr hk)))) j).trans ((h k hk).1 j), fun j => by rw [hs.2]; exact (h k hk).2.1 j, (h k hk).2.2⟩
theorem Nt_begin_same {n a : Nat} {M z : Mm} (h : Nt_begin n a M = some z) : sameBut a (a + 6) M z := by
  unfold Nt_begin at h
  obtain ⟨-, h⟩ := grd_s h
  obtain ⟨-, h⟩ := grd_s h
  obtain ⟨-, h⟩ := grd_s h
  obtain ⟨-, h⟩ := grd_s h
  obtain ⟨y, h1, h⟩ := bnd_s h
  cases h
  refine loop_inv (P := fun s => sameBut a (a + 6) M s.2) (E := fun y => sameBut a (a + 6) M y) (fun s s1 hP hb => ?_) (fun s x hP hb => ?_) n _ _ h1 ?_
  · unfold Nt_begin_b61 at hb
    split at hb
    · cases hb
    · obtain ⟨-, hb⟩ := grd_s hb
      cases hb
      exact ⟨fun k hk j => (up2_ne (by omega)).trans (hP.1 k hk j), hP.2⟩
  · unfold Nt_begin_b61 at hb
    split at hb
    · cases hb; exact hP
    · obtain ⟨-, hb⟩ := grd_s hb
      cases hb
  · refine ⟨fun k hk j => ?_, rfl⟩
    have e1 : k ≠ a := by omega
    have e2 : k ≠ a + 1 := by omega
    simp only [up2, e1, e2, false_and, if_false]
theorem Wy_forget_same {n : Nat} {M z : Mm} (h : Wy_forget n M = some z) : sameBut 15 16 M z := by
  unfold Wy_forget at h
  obtain ⟨y, h1, h⟩ := bnd_s h
  cases h
  refine loop_inv (P := fun s => sameBut 15 16 M s.2) (E := fun y => sameBut 15 16 M y) (fun s s1 hP hb => ?_) (fun s x hP hb => ?_) n _ _ h1 ⟨fun _ _ _ => rfl, rfl⟩
  · unfold Wy_forget_b2 at hb
    split at hb
    · cases hb
    · obtain ⟨-, hb⟩ := grd_s hb
      cases hb
      exact ⟨fun k hk j => (up2_ne (by omega)).trans (hP.1 k hk j), hP.2⟩
  · unfold Wy_forget_b2 at hb
    split at hb
    · cases hb; exact hP
    · obtain ⟨-, hb⟩ := grd_s hb
      cases hb
def shN (a : Nat) (S : Sg) : Prop := (pl a < S.2.1 ∧ pl (a + 1) < S.2.1 ∧ pl (a + 5) < S.2.1) ∧ S.1 a 5 = some (a + 1) ∧ S.1 a 6 = some (a + 2) ∧ S.1 a 7 = some (a + 3) ∧ S.1 a 8 = some (a + 4) ∧ S.1 a 9 = some (a + 5)
theorem shN_lt0 {a : Nat} {S : Sg} (h : shN a S) : pl a < S.2.1 := h.1.1
theorem shN_lt1 {a : Nat} {S : Sg} (h : shN a S) : pl (a + 1) < S.2.1 := h.1.2.1
theorem shN_lt5 {a : Nat} {S : Sg} (h : shN a S) : pl (a + 5) < S.2.1 := h.1.2.2
theorem shN_rf5 {M : Mm} {a : Nat} {S : Sg} (h : shN a S) : fv M S 1 a 5 = .ref (a + 1) := by
  show (match S.1 a 5 with | some b => Value.ref b | none => .null) = _
  rw [h.2.1]
theorem shN_rf9 {M : Mm} {a : Nat} {S : Sg} (h : shN a S) : fv M S 1 a 9 = .ref (a + 5) := by
  show (match S.1 a 9 with | some b => Value.ref b | none => .null) = _
  rw [h.2.2.2.2.2]
def shW (S : Sg) : Prop := 16 ≤ S.2.1 ∧ S.1 13 1 = some 15
theorem shW_rf {M : Mm} {S : Sg} (h : shW S) : fv M S 7 13 1 = .ref 15 := by
  show (match S.1 13 1 with | some b => Value.ref b | none => .null) = _
  rw [h.2]
set_option maxRecDepth 100000 in
theorem okS_Nt_begin_b61 (n : Nat) (a : Nat) (v1 : Int32) (M : Mm)  {z : Mm} {oo : (Int32 × Mm) ⊕ (Mm)} {G : Gm} {X : Cx} {d : Nat} (ha : isNt a) {S : Sg} (hS : shN a S) (hX : XK G X 1 cX1_begin 2 (d + 0)) (hT : XT X (none) "begin") (hr : XR X S) (hc : ∀ s1 : Int32 × Mm, oo = .inl s1 → WR G X (mQ G X (none) z S) 61 [.ref a, .int s1.1] [] s1.2 S) (hx : ∀ x1 : Mm, oo = .inr x1 → WR G X (mQ G X (none) z S) 83 [.ref a, vU] [] x1 S) (h : Nt_begin_b61 a v1 M = some oo) : WR G X (mQ G X (none) z S) 61 [.ref a, .int v1] [] M S := by
  unfold Nt_begin_b61 at h
  refine r_iload_n hX dX1_begin_61 rfl ?_
  refine r_aload_n hX dX1_begin_62 rfl ?_
  refine r_getf (v := .ref (a + 5)) hX dX1_begin_63 fl_1_24 (kdN0 ha) (by decide) (shN_lt0 hS) (shN_rf9 hS) ?_
  refine r_alen (v := (64 : Int32)) hX dX1_begin_66 (kdN5 ha) (by decide) (shN_lt5 hS) (by rw [(lnN5 ha)]; rfl) ?_
  refine r_icmp_ge (tgt := 83) hX dX1_begin_67 (by decide) (fun g5 => ?_) (fun g5 => ?_)
  · have h := (if_pos g5).symm.trans h
    refine WR.fg (L' := [.ref a, vU]) ⟨Or.inr rfl, Or.inl rfl, trivial⟩ ?_
    exact hx _ (Option.some.inj h).symm
  · have h := (if_neg g5).symm.trans h
    refine r_aload_n hX dX1_begin_70 rfl ?_
    refine r_getf (v := .ref (a + 5)) hX dX1_begin_71 fl_1_24 (kdN0 ha) (by decide) (shN_lt0 hS) (shN_rf9 hS) ?_
    refine r_iload_n hX dX1_begin_74 rfl ?_
    refine r_iconst (v := (-1 : Int32)) hX dX1_begin_75 (by decide) ?_
    obtain ⟨k6, h⟩ := grd_s h
    refine r_iast hX dX1_begin_76 (kdN5 ha) (shN_lt5 hS) (inb_at (lnN5 ha) k6) ?_
    refine r_iinc (v := v1 + (1 : Int32)) (L1 := [.ref a, .int (v1 + (1 : Int32))]) hX dX1_begin_77 rfl rfl rfl ?_
    refine r_goto (tgt := 61) hX dX1_begin_80 (by decide) ?_
    exact hc (v1 + (1 : Int32), ((up2 M.1 (a + 5) (tn v1) (-1 : Int32)), M.2)) (Option.some.inj h).symm
set_option maxRecDepth 100000 in
theorem okS_Nt_begin {G : Gm} {l : Launch} {d : Nat} (n : Nat) (a : Nat) (M : Mm) {z : Mm} (ha : isNt a) {S : Sg} (hS : shN a S) (h : Nt_begin n a M = some z) : CK G l (d + 0) md_Nt_begin [.ref a] M S (none) z S := by
  refine ck_of mk_Nt_begin (Nat.le_of_ble_eq_true rfl) ⟨Nat.le_refl _, Nat.le_refl _⟩ (fun X hX hT hSS hr hl => ?_)
  subst hl
  unfold Nt_begin at h
  show WR G X (mQ G X (none) z S) 0 [.ref a, vU] [] M S
  refine r_aload_n hX dX1_begin_0 rfl ?_
  refine r_iconst (v := (2 : Int32)) hX dX1_begin_1 (by decide) ?_
  refine r_putI hX dX1_begin_2 fl_1_30 (kdN0 ha) (by decide) (shN_lt0 hS) (okI_int _) ?_
  refine r_aload_n hX dX1_begin_5 rfl ?_
  refine r_bipush (v := (40 : Int32)) hX dX1_begin_6 (by decide) ?_
  refine r_putI' hX dX1_begin_8 fl_1_34 (kdN0 ha) (by decide) (shN_lt0 hS) (okI_int _) ?_
  refine r_aload_n hX dX1_begin_11 rfl ?_
  refine r_iconst (v := (1 : Int32)) hX dX1_begin_12 (by decide) ?_
  refine r_putI' hX dX1_begin_13 fl_1_37 (kdN0 ha) (by decide) (shN_lt0 hS) (okI_int _) ?_
  refine r_aload_n hX dX1_begin_16 rfl ?_
  refine r_iconst (v := (0 : Int32)) hX dX1_begin_17 (by decide) ?_
  refine r_putI' hX dX1_begin_18 fl_1_40 (kdN0 ha) (by decide) (shN_lt0 hS) (okI_int _) ?_
  refine r_aload_n hX dX1_begin_21 rfl ?_
  refine r_iconst (v := (0 : Int32)) hX dX1_begin_22 (by decide) ?_
  refine r_putI' hX dX1_begin_23 fl_1_43 (kdN0 ha) (by decide) (shN_lt0 hS) (okI_int _) ?_
  refine r_aload_n hX dX1_begin_26 rfl ?_
  refine r_getf (v := .ref (a + 1)) hX dX1_begin_27 fl_1_9 (kdN0 ha) (by decide) (shN_lt0 hS) (shN_rf5 hS) ?_
  refine r_iconst (v := (0 : Int32)) hX dX1_begin_30 (by decide) ?_
  refine r_sipush (v := (200 : Int32)) hX dX1_begin_31 (by decide) ?_
  obtain ⟨k1, h⟩ := grd_s h
  refine r_iast' hX dX1_begin_34 (kdN1 ha) (shN_lt1 hS) (inb_at (lnN1 ha) k1) ?_
  refine r_aload_n hX dX1_begin_35 rfl ?_
  refine r_getf (v := .ref (a + 1)) hX dX1_begin_36 fl_1_9 (kdN0 ha) (by decide) (shN_lt0 hS) (shN_rf5 hS) ?_
  refine r_iconst (v := (1 : Int32)) hX dX1_begin_39 (by decide) ?_
  refine r_bipush (v := (120 : Int32)) hX dX1_begin_40 (by decide) ?_
  obtain ⟨k2, h⟩ := grd_s h
  refine r_iast' hX dX1_begin_42 (kdN1 ha) (shN_lt1 hS) (inb_at (lnN1 ha) k2) ?_
  refine r_aload_n hX dX1_begin_43 rfl ?_
  refine r_getf (v := .ref (a + 1)) hX dX1_begin_44 fl_1_9 (kdN0 ha) (by decide) (shN_lt0 hS) (shN_rf5 hS) ?_
  refine r_iconst (v := (2 : Int32)) hX dX1_begin_47 (by decide) ?_
  refine r_bipush (v := (80 : Int32)) hX dX1_begin_48 (by decide) ?_
  obtain ⟨k3, h⟩ := grd_s h
  refine r_iast' hX dX1_begin_50 (kdN1 ha) (shN_lt1 hS) (inb_at (lnN1 ha) k3) ?_
  refine r_aload_n hX dX1_begin_51 rfl ?_
  refine r_getf (v := .ref (a + 1)) hX dX1_begin_52 fl_1_9 (kdN0 ha) (by decide) (shN_lt0 hS) (shN_rf5 hS) ?_
  refine r_iconst (v := (3 : Int32)) hX dX1_begin_55 (by decide) ?_
  refine r_bipush (v := (40 : Int32)) hX dX1_begin_56 (by decide) ?_
  obtain ⟨k4, h⟩ := grd_s h
  refine r_iast' hX dX1_begin_58 (kdN1 ha) (shN_lt1 hS) (inb_at (lnN1 ha) k4) ?_
  refine r_iconst (v := (0 : Int32)) hX dX1_begin_59 (by decide) ?_
  refine r_istore_n (L1 := [.ref a, .int (0 : Int32)]) hX dX1_begin_60 (Nat.le_of_ble_eq_true rfl) rfl ?_
  obtain ⟨y7, h1, h⟩ := bnd_s h
  refine loop_ok (P := fun s1 : Int32 × Mm => WR G X (mQ G X (none) z S) 61 [.ref a, .int s1.1] [] s1.2 S) (E := fun x1 : Mm => WR G X (mQ G X (none) z S) 83 [.ref a, vU] [] x1 S) (fun s1 o1 g1 g2 g3 => okS_Nt_begin_b61 n a s1.1 s1.2 ha hS hX hT hr g2 g3 g1) n ((0 : Int32), ((up2 (up2 (up2 (up2 (up2 (up2 (up2 (up2 (up2 M.1 a 0 (2 : Int32)) a 1 (40 : Int32)) a 2 (1 : Int32)) a 3 (0 : Int32)) a 4 (0 : Int32)) (a + 1) (tn (0 : Int32)) (200 : Int32)) (a + 1) (tn (1 : Int32)) (120 : Int32)) (a + 1) (tn (2 : Int32)) (80 : Int32)) (a + 1) (tn (3 : Int32)) (40 : Int32)), M.2)) y7 h1 ?_
  show WR G X (mQ G X (none) z S) 83 [.ref a, vU] [] y7 S
  obtain rfl := Option.some.inj h
  exact r_vret hX hT dX1_begin_83
set_option maxRecDepth 100000 in
theorem okS_Wy_forget_b2 (n : Nat) (v1 : Int32) (M : Mm)  {z : Mm} {oo : (Int32 × Mm) ⊕ (Mm)} {G : Gm} {X : Cx} {d : Nat} {S : Sg} (hS : shW S) (hX : XK G X 7 cX7_forget 2 (d + 0)) (hT : XT X (none) "forget") (hr : XR X S) (hc : ∀ s1 : Int32 × Mm, oo = .inl s1 → WR G X (mQ G X (none) z S) 2 [.ref 13, .int s1.1] [] s1.2 S) (hx : ∀ x1 : Mm, oo = .inr x1 → WR G X (mQ G X (none) z S) 24 [.ref 13, vU] [] x1 S) (h : Wy_forget_b2 v1 M = some oo) : WR G X (mQ G X (none) z S) 2 [.ref 13, .int v1] [] M S := by
  unfold Wy_forget_b2 at h
  refine r_iload_n hX dX7_forget_2 rfl ?_
  refine r_aload_n hX dX7_forget_3 rfl ?_
  refine r_getf (v := .ref 15) hX dX7_forget_4 fl_7_15 rfl (by decide) (Nat.lt_of_lt_of_le (by decide) hS.1) (shW_rf hS) ?_
  refine r_alen (v := (64 : Int32)) hX dX7_forget_7 rfl (by decide) (Nat.lt_of_lt_of_le (by decide) hS.1) rfl ?_
  refine r_icmp_ge (tgt := 24) hX dX7_forget_8 (by decide) (fun g1 => ?_) (fun g1 => ?_)
  · have h := (if_pos g1).symm.trans h
    refine WR.fg (L' := [.ref 13, vU]) ⟨Or.inr rfl, Or.inl rfl, trivial⟩ ?_
    exact hx _ (Option.some.inj h).symm
  · have h := (if_neg g1).symm.trans h
    refine r_aload_n hX dX7_forget_11 rfl ?_
    refine r_getf (v := .ref 15) hX dX7_forget_12 fl_7_15 rfl (by decide) (Nat.lt_of_lt_of_le (by decide) hS.1) (shW_rf hS) ?_
    refine r_iload_n hX dX7_forget_15 rfl ?_
    refine r_iconst (v := (-1 : Int32)) hX dX7_forget_16 (by decide) ?_
    obtain ⟨k2, h⟩ := grd_s h
    refine r_iast hX dX7_forget_17 rfl (Nat.lt_of_lt_of_le (by decide) hS.1) (inb_at rfl k2) ?_
    refine r_iinc (v := v1 + (1 : Int32)) (L1 := [.ref 13, .int (v1 + (1 : Int32))]) hX dX7_forget_18 rfl rfl rfl ?_
    refine r_goto (tgt := 2) hX dX7_forget_21 (by decide) ?_
    exact hc (v1 + (1 : Int32), ((up2 M.1 15 (tn v1) (-1 : Int32)), M.2)) (Option.some.inj h).symm
set_option maxRecDepth 100000 in
theorem okS_Wy_forget {G : Gm} {l : Launch} {d : Nat} (n : Nat) (M : Mm) {z : Mm} {S : Sg} (hS : shW S) (h : Wy_forget n M = some z) : CK G l (d + 0) md_Wy_forget [.ref 13] M S (none) z S := by
  refine ck_of mk_Wy_forget (Nat.le_of_ble_eq_true rfl) ⟨Nat.le_refl _, Nat.le_refl _⟩ (fun X hX hT hSS hr hl => ?_)
  subst hl
  unfold Wy_forget at h
  show WR G X (mQ G X (none) z S) 0 [.ref 13, vU] [] M S
  refine r_iconst (v := (0 : Int32)) hX dX7_forget_0 (by decide) ?_
  refine r_istore_n (L1 := [.ref 13, .int (0 : Int32)]) hX dX7_forget_1 (Nat.le_of_ble_eq_true rfl) rfl ?_
  obtain ⟨y3, h1, h⟩ := bnd_s h
  refine loop_ok (P := fun s1 : Int32 × Mm => WR G X (mQ G X (none) z S) 2 [.ref 13, .int s1.1] [] s1.2 S) (E := fun x1 : Mm => WR G X (mQ G X (none) z S) 24 [.ref 13, vU] [] x1 S) (fun s1 o1 g1 g2 g3 => okS_Wy_forget_b2 n s1.1 s1.2 hS hX hT hr g2 g3 g1) n ((0 : Int32), M) y3 h1 ?_
  show WR G X (mQ G X (none) z S) 24 [.ref 13, vU] [] y3 S
  obtain rfl := Option.some.inj h
  exact r_vret hX hT dX7_forget_24
def Tp_init1 (n : Nat) (M : Mm) : Option Mm :=
  some ((up2 M.1 1 1 (0 : Int32)), M.2)
set_option maxRecDepth 100000 in
theorem ok_Tp_init1 {G : Gm} {l : Launch} {d : Nat} (n : Nat) (M : Mm) {zf : Mm} {R : Nat → Nat → Option Nat} (hF : fr 2 M R) (h : Tp_init1 n M = some zf) : CK G l (d + 0) md_Tp_init [.ref 1] M (R, 2, 11) none zf ((up2 R 1 0 (some 2)), 3, 251) := by
  refine ck_of mk_Tp_init (Nat.le_of_ble_eq_true rfl) ⟨(Nat.le_of_ble_eq_true rfl), (Nat.le_of_ble_eq_true rfl)⟩ (fun X hX hT hSx hr hl => ?_)
  subst hl
  unfold Tp_init1 at h
  show WR G X (mQ G X none zf ((up2 R 1 0 (some 2)), 3, 251)) 0 [.ref 1] [] M (R, 2, 11)
  have hF := fr_eta hF
  refine r_aload_n hX dX5_init_0 rfl ?_
  refine r_objInit hX dX5_init_1 ml_5_3 rfl (Nat.le_of_ble_eq_true rfl) ?_
  refine r_aload_n hX dX5_init_4 rfl ?_
  refine r_sipush (v := (240 : Int32)) hX dX5_init_5 (by decide) ?_
  refine r_newI (ci := 10) (N := 240) hX dX5_init_8 ac_int rfl (fun _ e => by cases e) rfl rfl (by decide) rfl (by decide) (by decide) (Nat.le_of_ble_eq_true rfl) (fr_fresh hF) (Nat.le_of_ble_eq_true rfl) (xr_le hr ⟨(Nat.le_of_ble_eq_true rfl), (Nat.le_of_ble_eq_true rfl)⟩) ?_
  show WR G X (mQ G X none zf ((up2 R 1 0 (some 2)), 3, 251)) 10 [.ref 1] [.ref 2, .ref 1] M (R, 3, 251)
  have hF := fr_up (n' := 3) (by decide) hF
  refine r_putR hX hT dX5_init_10 fl_5_9 rfl (by decide) (Nat.le_of_ble_eq_true rfl) (Or.inr ⟨_, rfl⟩) ?_
  have hF := fr_R (a := 1) (j := 0) (b := 2) (by decide) hF
  show WR G X (mQ G X none zf ((up2 R 1 0 (some 2)), 3, 251)) 13 [.ref 1] [] M ((up2 R 1 0 (some 2)), 3, 251)
  refine r_aload_n hX dX5_init_13 rfl ?_
  refine r_iconst (v := (0 : Int32)) hX dX5_init_14 (by decide) ?_
  refine r_putI hX dX5_init_15 fl_5_15 rfl (by decide) (Nat.le_of_ble_eq_true rfl) (okI_int _) ?_
  have hF := fr_I (a := 1) (j := 1) (x := (0 : Int32)) (by decide) hF
  obtain rfl := Option.some.inj h
  exact r_vret hX hT dX5_init_18
theorem fr_Tp_init1 {n : Nat} {M zf : Mm} {R : Nat → Nat → Option Nat} (hF : fr 2 M R) (h : Tp_init1 n M = some zf) : fr 3 zf (up2 R 1 0 (some 2)) := by
  unfold Tp_init1 at h
  have hF := fr_eta hF
  have hF := fr_eta hF
  have hF := fr_up (n' := 3) (by decide) hF
  have hF := fr_R (a := 1) (j := 0) (b := 2) (by decide) hF
  have hF := fr_I (a := 1) (j := 1) (x := (0 : Int32)) (by decide) hF
  obtain rfl := Option.some.inj h
  exact hF
def Nt_init4 (n : Nat) (M : Mm) : Option Mm :=
  bnd (Nt_begin n 4 M) (fun z1 =>
  some z1)
set_option maxRecDepth 100000 in
theorem ok_Nt_init4 {G : Gm} {l : Launch} {d : Nat} (n : Nat) (M : Mm) {zf : Mm} {R : Nat → Nat → Option Nat} (hF : fr 5 M R) (h : Nt_init4 n M = some zf) : CK G l (d + 1) md_Nt_init [.ref 4] M (R, 5, 270) none zf ((up2 (up2 (up2 (up2 (up2 R 4 5 (some 5)) 4 6 (some 6)) 4 7 (some 7)) 4 8 (some 8)) 4 9 (some 9)), 10, 380) := by
  refine ck_of mk_Nt_init (Nat.le_of_ble_eq_true rfl) ⟨(Nat.le_of_ble_eq_true rfl), (Nat.le_of_ble_eq_true rfl)⟩ (fun X hX hT hSx hr hl => ?_)
  subst hl
  unfold Nt_init4 at h
  show WR G X (mQ G X none zf ((up2 (up2 (up2 (up2 (up2 R 4 5 (some 5)) 4 6 (some 6)) 4 7 (some 7)) 4 8 (some 8)) 4 9 (some 9)), 10, 380)) 0 [.ref 4] [] M (R, 5, 270)
  have hF := fr_eta hF
  refine r_aload_n hX dX1_init_0 rfl ?_
  refine r_objInit hX dX1_init_1 ml_1_3 rfl (Nat.le_of_ble_eq_true rfl) ?_
  refine r_aload_n hX dX1_init_4 rfl ?_
  refine r_iconst (v := (4 : Int32)) hX dX1_init_5 (by decide) ?_
  refine r_newI (ci := 10) (N := 4) hX dX1_init_6 ac_int rfl (fun _ e => by cases e) rfl rfl (by decide) rfl (by decide) (by decide) (Nat.le_of_ble_eq_true rfl) (fr_fresh hF) (Nat.le_of_ble_eq_true rfl) (xr_le hr ⟨(Nat.le_of_ble_eq_true rfl), (Nat.le_of_ble_eq_true rfl)⟩) ?_
  show WR G X (mQ G X none zf ((up2 (up2 (up2 (up2 (up2 R 4 5 (some 5)) 4 6 (some 6)) 4 7 (some 7)) 4 8 (some 8)) 4 9 (some 9)), 10, 380)) 8 [.ref 4] [.ref 5, .ref 4] M (R, 6, 274)
  have hF := fr_up (n' := 6) (by decide) hF
  refine r_putR hX hT dX1_init_8 fl_1_9 rfl (by decide) (Nat.le_of_ble_eq_true rfl) (Or.inr ⟨_, rfl⟩) ?_
  have hF := fr_R (a := 4) (j := 5) (b := 5) (by decide) hF
  show WR G X (mQ G X none zf ((up2 (up2 (up2 (up2 (up2 R 4 5 (some 5)) 4 6 (some 6)) 4 7 (some 7)) 4 8 (some 8)) 4 9 (some 9)), 10, 380)) 11 [.ref 4] [] M ((up2 R 4 5 (some 5)), 6, 274)
  refine r_aload_n hX dX1_init_11 rfl ?_
  refine r_bipush (v := (14 : Int32)) hX dX1_init_12 (by decide) ?_
  refine r_newI (ci := 10) (N := 14) hX dX1_init_14 ac_int rfl (fun _ e => by cases e) rfl rfl (by decide) rfl (by decide) (by decide) (Nat.le_of_ble_eq_true rfl) (fr_fresh hF) (Nat.le_of_ble_eq_true rfl) (xr_le hr ⟨(Nat.le_of_ble_eq_true rfl), (Nat.le_of_ble_eq_true rfl)⟩) ?_
  show WR G X (mQ G X none zf ((up2 (up2 (up2 (up2 (up2 R 4 5 (some 5)) 4 6 (some 6)) 4 7 (some 7)) 4 8 (some 8)) 4 9 (some 9)), 10, 380)) 16 [.ref 4] [.ref 6, .ref 4] M ((up2 R 4 5 (some 5)), 7, 288)
  have hF := fr_up (n' := 7) (by decide) hF
  refine r_putR hX hT dX1_init_16 fl_1_15 rfl (by decide) (Nat.le_of_ble_eq_true rfl) (Or.inr ⟨_, rfl⟩) ?_
  have hF := fr_R (a := 4) (j := 6) (b := 6) (by decide) hF
  show WR G X (mQ G X none zf ((up2 (up2 (up2 (up2 (up2 R 4 5 (some 5)) 4 6 (some 6)) 4 7 (some 7)) 4 8 (some 8)) 4 9 (some 9)), 10, 380)) 19 [.ref 4] [] M ((up2 (up2 R 4 5 (some 5)) 4 6 (some 6)), 7, 288)
  refine r_aload_n hX dX1_init_19 rfl ?_
  refine r_bipush (v := (14 : Int32)) hX dX1_init_20 (by decide) ?_
  refine r_newI (ci := 10) (N := 14) hX dX1_init_22 ac_int rfl (fun _ e => by cases e) rfl rfl (by decide) rfl (by decide) (by decide) (Nat.le_of_ble_eq_true rfl) (fr_fresh hF) (Nat.le_of_ble_eq_true rfl) (xr_le hr ⟨(Nat.le_of_ble_eq_true rfl), (Nat.le_of_ble_eq_true rfl)⟩) ?_
  show WR G X (mQ G X none zf ((up2 (up2 (up2 (up2 (up2 R 4 5 (some 5)) 4 6 (some 6)) 4 7 (some 7)) 4 8 (some 8)) 4 9 (some 9)), 10, 380)) 24 [.ref 4] [.ref 7, .ref 4] M ((up2 (up2 R 4 5 (some 5)) 4 6 (some 6)), 8, 302)
  have hF := fr_up (n' := 8) (by decide) hF
  refine r_putR hX hT dX1_init_24 fl_1_18 rfl (by decide) (Nat.le_of_ble_eq_true rfl) (Or.inr ⟨_, rfl⟩) ?_
  have hF := fr_R (a := 4) (j := 7) (b := 7) (by decide) hF
  show WR G X (mQ G X none zf ((up2 (up2 (up2 (up2 (up2 R 4 5 (some 5)) 4 6 (some 6)) 4 7 (some 7)) 4 8 (some 8)) 4 9 (some 9)), 10, 380)) 27 [.ref 4] [] M ((up2 (up2 (up2 R 4 5 (some 5)) 4 6 (some 6)) 4 7 (some 7)), 8, 302)
  refine r_aload_n hX dX1_init_27 rfl ?_
  refine r_bipush (v := (14 : Int32)) hX dX1_init_28 (by decide) ?_
  refine r_newI (ci := 10) (N := 14) hX dX1_init_30 ac_int rfl (fun _ e => by cases e) rfl rfl (by decide) rfl (by decide) (by decide) (Nat.le_of_ble_eq_true rfl) (fr_fresh hF) (Nat.le_of_ble_eq_true rfl) (xr_le hr ⟨(Nat.le_of_ble_eq_true rfl), (Nat.le_of_ble_eq_true rfl)⟩) ?_
  show WR G X (mQ G X none zf ((up2 (up2 (up2 (up2 (up2 R 4 5 (some 5)) 4 6 (some 6)) 4 7 (some 7)) 4 8 (some 8)) 4 9 (some 9)), 10, 380)) 32 [.ref 4] [.ref 8, .ref 4] M ((up2 (up2 (up2 R 4 5 (some 5)) 4 6 (some 6)) 4 7 (some 7)), 9, 316)
  have hF := fr_up (n' := 9) (by decide) hF
  refine r_putR hX hT dX1_init_32 fl_1_21 rfl (by decide) (Nat.le_of_ble_eq_true rfl) (Or.inr ⟨_, rfl⟩) ?_
  have hF := fr_R (a := 4) (j := 8) (b := 8) (by decide) hF
  show WR G X (mQ G X none zf ((up2 (up2 (up2 (up2 (up2 R 4 5 (some 5)) 4 6 (some 6)) 4 7 (some 7)) 4 8 (some 8)) 4 9 (some 9)), 10, 380)) 35 [.ref 4] [] M ((up2 (up2 (up2 (up2 R 4 5 (some 5)) 4 6 (some 6)) 4 7 (some 7)) 4 8 (some 8)), 9, 316)
  refine r_aload_n hX dX1_init_35 rfl ?_
  refine r_bipush (v := (64 : Int32)) hX dX1_init_36 (by decide) ?_
  refine r_newI (ci := 10) (N := 64) hX dX1_init_38 ac_int rfl (fun _ e => by cases e) rfl rfl (by decide) rfl (by decide) (by decide) (Nat.le_of_ble_eq_true rfl) (fr_fresh hF) (Nat.le_of_ble_eq_true rfl) (xr_le hr ⟨(Nat.le_of_ble_eq_true rfl), (Nat.le_of_ble_eq_true rfl)⟩) ?_
  show WR G X (mQ G X none zf ((up2 (up2 (up2 (up2 (up2 R 4 5 (some 5)) 4 6 (some 6)) 4 7 (some 7)) 4 8 (some 8)) 4 9 (some 9)), 10, 380)) 40 [.ref 4] [.ref 9, .ref 4] M ((up2 (up2 (up2 (up2 R 4 5 (some 5)) 4 6 (some 6)) 4 7 (some 7)) 4 8 (some 8)), 10, 380)
  have hF := fr_up (n' := 10) (by decide) hF
  refine r_putR hX hT dX1_init_40 fl_1_24 rfl (by decide) (Nat.le_of_ble_eq_true rfl) (Or.inr ⟨_, rfl⟩) ?_
  have hF := fr_R (a := 4) (j := 9) (b := 9) (by decide) hF
  show WR G X (mQ G X none zf ((up2 (up2 (up2 (up2 (up2 R 4 5 (some 5)) 4 6 (some 6)) 4 7 (some 7)) 4 8 (some 8)) 4 9 (some 9)), 10, 380)) 43 [.ref 4] [] M ((up2 (up2 (up2 (up2 (up2 R 4 5 (some 5)) 4 6 (some 6)) 4 7 (some 7)) 4 8 (some 8)) 4 9 (some 9)), 10, 380)
  refine r_aload_n hX dX1_init_43 rfl ?_
  obtain ⟨z1, p1, h⟩ := bnd_s h
  refine r_callV (As := []) (S1 := ((up2 (up2 (up2 (up2 (up2 R 4 5 (some 5)) 4 6 (some 6)) 4 7 (some 7)) 4 8 (some 8)) 4 9 (some 9)), 10, 380)) hX dX1_init_44 mk_Nt_begin mi_Nt_begin ml_1_27 rfl rfl rfl rfl (by decide) (Nat.le_of_ble_eq_true rfl) (Nat.le_of_ble_eq_true rfl) (xr_le hr ⟨(Nat.le_of_ble_eq_true rfl), (Nat.le_of_ble_eq_true rfl)⟩) (okS_Nt_begin (d := d) n 4 M nt4 ⟨⟨(Nat.le_of_ble_eq_true rfl), (Nat.le_of_ble_eq_true rfl), (Nat.le_of_ble_eq_true rfl)⟩, rfl, rfl, rfl, rfl, rfl⟩ p1) ?_
  have hF := fr_same (Nt_begin_same p1) (by decide) hF
  have hF := fr_eta hF
  show WR G X (mQ G X none zf ((up2 (up2 (up2 (up2 (up2 R 4 5 (some 5)) 4 6 (some 6)) 4 7 (some 7)) 4 8 (some 8)) 4 9 (some 9)), 10, 380)) 47 [.ref 4] [] z1 ((up2 (up2 (up2 (up2 (up2 R 4 5 (some 5)) 4 6 (some 6)) 4 7 (some 7)) 4 8 (some 8)) 4 9 (some 9)), 10, 380)
  obtain rfl := Option.some.inj h
  exact r_vret hX hT dX1_init_47
theorem fr_Nt_init4 {n : Nat} {M zf : Mm} {R : Nat → Nat → Option Nat} (hF : fr 5 M R) (h : Nt_init4 n M = some zf) : fr 10 zf (up2 (up2 (up2 (up2 (up2 R 4 5 (some 5)) 4 6 (some 6)) 4 7 (some 7)) 4 8 (some 8)) 4 9 (some 9)) := by
  unfold Nt_init4 at h
  have hF := fr_eta hF
  have hF := fr_eta hF
  have hF := fr_up (n' := 6) (by decide) hF
  have hF := fr_R (a := 4) (j := 5) (b := 5) (by decide) hF
  have hF := fr_up (n' := 7) (by decide) hF
  have hF := fr_R (a := 4) (j := 6) (b := 6) (by decide) hF
  have hF := fr_up (n' := 8) (by decide) hF
  have hF := fr_R (a := 4) (j := 7) (b := 7) (by decide) hF
  have hF := fr_up (n' := 9) (by decide) hF
  have hF := fr_R (a := 4) (j := 8) (b := 8) (by decide) hF
  have hF := fr_up (n' := 10) (by decide) hF
  have hF := fr_R (a := 4) (j := 9) (b := 9) (by decide) hF
  obtain ⟨z1, p1, h⟩ := bnd_s h
  have hF := fr_same (Nt_begin_same p1) (by decide) hF
  have hF := fr_eta hF
  obtain rfl := Option.some.inj h
  exact hF
def Rd_init3 (n : Nat) (M : Mm) : Option Mm :=
  bnd (Nt_init4 n M) (fun z1 =>
  some ((up2 (up2 (up2 (up2 (up2 z1.1 3 4 (0 : Int32)) 3 5 (0 : Int32)) 3 6 (0 : Int32)) 3 7 (0 : Int32)) 3 8 (0 : Int32)), z1.2))
set_option maxRecDepth 100000 in
theorem ok_Rd_init3 {G : Gm} {l : Launch} {d : Nat} (n : Nat) (M : Mm) {zf : Mm} {R : Nat → Nat → Option Nat} (hF : fr 4 M R) (h : Rd_init3 n M = some zf) : CK G l (d + 2) md_Rd_init [.ref 3, .ref 1] M (R, 4, 260) none zf ((up2 (up2 (up2 (up2 (up2 (up2 (up2 (up2 (up2 R 4 5 (some 5)) 4 6 (some 6)) 4 7 (some 7)) 4 8 (some 8)) 4 9 (some 9)) 3 1 (some 4)) 3 2 (some 10)) 3 3 (some 11)) 3 0 (some 1)), 12, 500) := by
  refine ck_of mk_Rd_init (Nat.le_of_ble_eq_true rfl) ⟨(Nat.le_of_ble_eq_true rfl), (Nat.le_of_ble_eq_true rfl)⟩ (fun X hX hT hSx hr hl => ?_)
  subst hl
  unfold Rd_init3 at h
  show WR G X (mQ G X none zf ((up2 (up2 (up2 (up2 (up2 (up2 (up2 (up2 (up2 R 4 5 (some 5)) 4 6 (some 6)) 4 7 (some 7)) 4 8 (some 8)) 4 9 (some 9)) 3 1 (some 4)) 3 2 (some 10)) 3 3 (some 11)) 3 0 (some 1)), 12, 500)) 0 [.ref 3, .ref 1] [] M (R, 4, 260)
  have hF := fr_eta hF
  refine r_aload_n hX dX2_init_0 rfl ?_
  refine r_objInit hX dX2_init_1 ml_2_3 rfl (Nat.le_of_ble_eq_true rfl) ?_
  refine r_aload_n hX dX2_init_4 rfl ?_
  refine r_new (ci := 1) hX dX2_init_5 cl_2_9 in1 ini1 rfl (by decide) (fr_fresh hF) (Nat.le_of_ble_eq_true rfl) (xr_le hr ⟨(Nat.le_of_ble_eq_true rfl), (Nat.le_of_ble_eq_true rfl)⟩) ?_
  show WR G X (mQ G X none zf ((up2 (up2 (up2 (up2 (up2 (up2 (up2 (up2 (up2 R 4 5 (some 5)) 4 6 (some 6)) 4 7 (some 7)) 4 8 (some 8)) 4 9 (some 9)) 3 1 (some 4)) 3 2 (some 10)) 3 3 (some 11)) 3 0 (some 1)), 12, 500)) 8 [.ref 3, .ref 1] [.ref 4, .ref 3] M (R, 5, 270)
  have hF := fr_up (n' := 5) (by decide) hF
  refine r_dup hX dX2_init_8 rfl ?_
  obtain ⟨z1, p1, h⟩ := bnd_s h
  refine r_callI (As := []) (S1 := ((up2 (up2 (up2 (up2 (up2 R 4 5 (some 5)) 4 6 (some 6)) 4 7 (some 7)) 4 8 (some 8)) 4 9 (some 9)), 10, 380)) hX dX2_init_9 mk_Nt_init mc_Nt_init ml_2_11 rfl rfl rfl (Nat.le_of_ble_eq_true rfl) (Nat.le_of_ble_eq_true rfl) (xr_le hr ⟨(Nat.le_of_ble_eq_true rfl), (Nat.le_of_ble_eq_true rfl)⟩) (ok_Nt_init4 (d := d + 0) n M hF p1) ?_
  have hF := fr_Nt_init4 hF p1
  have hF := fr_eta hF
  show WR G X (mQ G X none zf ((up2 (up2 (up2 (up2 (up2 (up2 (up2 (up2 (up2 R 4 5 (some 5)) 4 6 (some 6)) 4 7 (some 7)) 4 8 (some 8)) 4 9 (some 9)) 3 1 (some 4)) 3 2 (some 10)) 3 3 (some 11)) 3 0 (some 1)), 12, 500)) 12 [.ref 3, .ref 1] [.ref 4, .ref 3] z1 ((up2 (up2 (up2 (up2 (up2 R 4 5 (some 5)) 4 6 (some 6)) 4 7 (some 7)) 4 8 (some 8)) 4 9 (some 9)), 10, 380)
  refine r_putR hX hT dX2_init_12 fl_2_12 rfl (by decide) (Nat.le_of_ble_eq_true rfl) (Or.inl ⟨_, rfl⟩) ?_
  have hF := fr_R (a := 3) (j := 1) (b := 4) (by decide) hF
  show WR G X (mQ G X none zf ((up2 (up2 (up2 (up2 (up2 (up2 (up2 (up2 (up2 R 4 5 (some 5)) 4 6 (some 6)) 4 7 (some 7)) 4 8 (some 8)) 4 9 (some 9)) 3 1 (some 4)) 3 2 (some 10)) 3 3 (some 11)) 3 0 (some 1)), 12, 500)) 15 [.ref 3, .ref 1] [] z1 ((up2 (up2 (up2 (up2 (up2 (up2 R 4 5 (some 5)) 4 6 (some 6)) 4 7 (some 7)) 4 8 (some 8)) 4 9 (some 9)) 3 1 (some 4)), 10, 380)
  refine r_aload_n hX dX2_init_15 rfl ?_
  refine r_bipush (v := (24 : Int32)) hX dX2_init_16 (by decide) ?_
  refine r_newI (ci := 10) (N := 24) hX dX2_init_18 ac_int rfl (fun _ e => by cases e) rfl rfl (by decide) rfl (by decide) (by decide) (Nat.le_of_ble_eq_true rfl) (fr_fresh hF) (Nat.le_of_ble_eq_true rfl) (xr_le hr ⟨(Nat.le_of_ble_eq_true rfl), (Nat.le_of_ble_eq_true rfl)⟩) ?_
  show WR G X (mQ G X none zf ((up2 (up2 (up2 (up2 (up2 (up2 (up2 (up2 (up2 R 4 5 (some 5)) 4 6 (some 6)) 4 7 (some 7)) 4 8 (some 8)) 4 9 (some 9)) 3 1 (some 4)) 3 2 (some 10)) 3 3 (some 11)) 3 0 (some 1)), 12, 500)) 20 [.ref 3, .ref 1] [.ref 10, .ref 3] z1 ((up2 (up2 (up2 (up2 (up2 (up2 R 4 5 (some 5)) 4 6 (some 6)) 4 7 (some 7)) 4 8 (some 8)) 4 9 (some 9)) 3 1 (some 4)), 11, 404)
  have hF := fr_up (n' := 11) (by decide) hF
  refine r_putR hX hT dX2_init_20 fl_2_18 rfl (by decide) (Nat.le_of_ble_eq_true rfl) (Or.inr ⟨_, rfl⟩) ?_
  have hF := fr_R (a := 3) (j := 2) (b := 10) (by decide) hF
  show WR G X (mQ G X none zf ((up2 (up2 (up2 (up2 (up2 (up2 (up2 (up2 (up2 R 4 5 (some 5)) 4 6 (some 6)) 4 7 (some 7)) 4 8 (some 8)) 4 9 (some 9)) 3 1 (some 4)) 3 2 (some 10)) 3 3 (some 11)) 3 0 (some 1)), 12, 500)) 23 [.ref 3, .ref 1] [] z1 ((up2 (up2 (up2 (up2 (up2 (up2 (up2 R 4 5 (some 5)) 4 6 (some 6)) 4 7 (some 7)) 4 8 (some 8)) 4 9 (some 9)) 3 1 (some 4)) 3 2 (some 10)), 11, 404)
  refine r_aload_n hX dX2_init_23 rfl ?_
  refine r_bipush (v := (96 : Int32)) hX dX2_init_24 (by decide) ?_
  refine r_newI (ci := 10) (N := 96) hX dX2_init_26 ac_int rfl (fun _ e => by cases e) rfl rfl (by decide) rfl (by decide) (by decide) (Nat.le_of_ble_eq_true rfl) (fr_fresh hF) (Nat.le_of_ble_eq_true rfl) (xr_le hr ⟨(Nat.le_of_ble_eq_true rfl), (Nat.le_of_ble_eq_true rfl)⟩) ?_
  show WR G X (mQ G X none zf ((up2 (up2 (up2 (up2 (up2 (up2 (up2 (up2 (up2 R 4 5 (some 5)) 4 6 (some 6)) 4 7 (some 7)) 4 8 (some 8)) 4 9 (some 9)) 3 1 (some 4)) 3 2 (some 10)) 3 3 (some 11)) 3 0 (some 1)), 12, 500)) 28 [.ref 3, .ref 1] [.ref 11, .ref 3] z1 ((up2 (up2 (up2 (up2 (up2 (up2 (up2 R 4 5 (some 5)) 4 6 (some 6)) 4 7 (some 7)) 4 8 (some 8)) 4 9 (some 9)) 3 1 (some 4)) 3 2 (some 10)), 12, 500)
  have hF := fr_up (n' := 12) (by decide) hF
  refine r_putR hX hT dX2_init_28 fl_2_22 rfl (by decide) (Nat.le_of_ble_eq_true rfl) (Or.inr ⟨_, rfl⟩) ?_
  have hF := fr_R (a := 3) (j := 3) (b := 11) (by decide) hF
  show WR G X (mQ G X none zf ((up2 (up2 (up2 (up2 (up2 (up2 (up2 (up2 (up2 R 4 5 (some 5)) 4 6 (some 6)) 4 7 (some 7)) 4 8 (some 8)) 4 9 (some 9)) 3 1 (some 4)) 3 2 (some 10)) 3 3 (some 11)) 3 0 (some 1)), 12, 500)) 31 [.ref 3, .ref 1] [] z1 ((up2 (up2 (up2 (up2 (up2 (up2 (up2 (up2 R 4 5 (some 5)) 4 6 (some 6)) 4 7 (some 7)) 4 8 (some 8)) 4 9 (some 9)) 3 1 (some 4)) 3 2 (some 10)) 3 3 (some 11)), 12, 500)
  refine r_aload_n hX dX2_init_31 rfl ?_
  refine r_iconst (v := (0 : Int32)) hX dX2_init_32 (by decide) ?_
  refine r_putI hX dX2_init_33 fl_2_25 rfl (by decide) (Nat.le_of_ble_eq_true rfl) (okI_b false) ?_
  have hF := fr_I (a := 3) (j := 4) (x := (0 : Int32)) (by decide) hF
  refine r_aload_n hX dX2_init_36 rfl ?_
  refine r_iconst (v := (0 : Int32)) hX dX2_init_37 (by decide) ?_
  refine r_putI' hX dX2_init_38 fl_2_29 rfl (by decide) (Nat.le_of_ble_eq_true rfl) (okI_int _) ?_
  have hF := fr_I (a := 3) (j := 5) (x := (0 : Int32)) (by decide) hF
  refine r_aload_n hX dX2_init_41 rfl ?_
  refine r_iconst (v := (0 : Int32)) hX dX2_init_42 (by decide) ?_
  refine r_putI' hX dX2_init_43 fl_2_33 rfl (by decide) (Nat.le_of_ble_eq_true rfl) (okI_int _) ?_
  have hF := fr_I (a := 3) (j := 6) (x := (0 : Int32)) (by decide) hF
  refine r_aload_n hX dX2_init_46 rfl ?_
  refine r_iconst (v := (0 : Int32)) hX dX2_init_47 (by decide) ?_
  refine r_putI' hX dX2_init_48 fl_2_36 rfl (by decide) (Nat.le_of_ble_eq_true rfl) (okI_int _) ?_
  have hF := fr_I (a := 3) (j := 7) (x := (0 : Int32)) (by decide) hF
  refine r_aload_n hX dX2_init_51 rfl ?_
  refine r_iconst (v := (0 : Int32)) hX dX2_init_52 (by decide) ?_
  refine r_putI' hX dX2_init_53 fl_2_39 rfl (by decide) (Nat.le_of_ble_eq_true rfl) (okI_int _) ?_
  have hF := fr_I (a := 3) (j := 8) (x := (0 : Int32)) (by decide) hF
  refine r_aload_n hX dX2_init_56 rfl ?_
  refine r_aload_n hX dX2_init_57 rfl ?_
  refine r_putR hX hT dX2_init_58 fl_2_42 rfl (by decide) (Nat.le_of_ble_eq_true rfl) (Or.inl ⟨_, rfl⟩) ?_
  have hF := fr_R (a := 3) (j := 0) (b := 1) (by decide) hF
  show WR G X (mQ G X none zf ((up2 (up2 (up2 (up2 (up2 (up2 (up2 (up2 (up2 R 4 5 (some 5)) 4 6 (some 6)) 4 7 (some 7)) 4 8 (some 8)) 4 9 (some 9)) 3 1 (some 4)) 3 2 (some 10)) 3 3 (some 11)) 3 0 (some 1)), 12, 500)) 61 [.ref 3, .ref 1] [] ((up2 (up2 (up2 (up2 (up2 z1.1 3 4 (0 : Int32)) 3 5 (0 : Int32)) 3 6 (0 : Int32)) 3 7 (0 : Int32)) 3 8 (0 : Int32)), z1.2) ((up2 (up2 (up2 (up2 (up2 (up2 (up2 (up2 (up2 R 4 5 (some 5)) 4 6 (some 6)) 4 7 (some 7)) 4 8 (some 8)) 4 9 (some 9)) 3 1 (some 4)) 3 2 (some 10)) 3 3 (some 11)) 3 0 (some 1)), 12, 500)
  obtain rfl := Option.some.inj h
  exact r_vret hX hT dX2_init_61
theorem fr_Rd_init3 {n : Nat} {M zf : Mm} {R : Nat → Nat → Option Nat} (hF : fr 4 M R) (h : Rd_init3 n M = some zf) : fr 12 zf (up2 (up2 (up2 (up2 (up2 (up2 (up2 (up2 (up2 R 4 5 (some 5)) 4 6 (some 6)) 4 7 (some 7)) 4 8 (some 8)) 4 9 (some 9)) 3 1 (some 4)) 3 2 (some 10)) 3 3 (some 11)) 3 0 (some 1)) := by
  unfold Rd_init3 at h
  have hF := fr_eta hF
  have hF := fr_eta hF
  have hF := fr_up (n' := 5) (by decide) hF
  obtain ⟨z1, p1, h⟩ := bnd_s h
  have hF := fr_Nt_init4 hF p1
  have hF := fr_eta hF
  have hF := fr_R (a := 3) (j := 1) (b := 4) (by decide) hF
  have hF := fr_up (n' := 11) (by decide) hF
  have hF := fr_R (a := 3) (j := 2) (b := 10) (by decide) hF
  have hF := fr_up (n' := 12) (by decide) hF
  have hF := fr_R (a := 3) (j := 3) (b := 11) (by decide) hF
  have hF := fr_I (a := 3) (j := 4) (x := (0 : Int32)) (by decide) hF
  have hF := fr_I (a := 3) (j := 5) (x := (0 : Int32)) (by decide) hF
  have hF := fr_I (a := 3) (j := 6) (x := (0 : Int32)) (by decide) hF
  have hF := fr_I (a := 3) (j := 7) (x := (0 : Int32)) (by decide) hF
  have hF := fr_I (a := 3) (j := 8) (x := (0 : Int32)) (by decide) hF
  have hF := fr_R (a := 3) (j := 0) (b := 1) (by decide) hF
  obtain rfl := Option.some.inj h
  exact hF
def Wy_init13 (n : Nat) (M : Mm) : Option Mm :=
  bnd (Wy_forget n ((up2 (up2 (up2 M.1 13 5 (0 : Int32)) 13 6 (0 : Int32)) 13 7 (0 : Int32)), M.2)) (fun z1 =>
  some z1)
set_option maxRecDepth 100000 in
theorem ok_Wy_init13 {G : Gm} {l : Launch} {d : Nat} (n : Nat) (M : Mm) {zf : Mm} {R : Nat → Nat → Option Nat} (hF : fr 14 M R) (h : Wy_init13 n M = some zf) : CK G l (d + 1) md_Wy_init [.ref 13] M (R, 14, 514) none zf ((up2 (up2 (up2 (up2 (up2 R 13 0 (some 14)) 13 1 (some 15)) 13 2 (some 16)) 13 3 (some 17)) 13 4 (some 115)), 19, 1410) := by
  refine ck_of mk_Wy_init (Nat.le_of_ble_eq_true rfl) ⟨(Nat.le_of_ble_eq_true rfl), (Nat.le_of_ble_eq_true rfl)⟩ (fun X hX hT hSx hr hl => ?_)
  subst hl
  unfold Wy_init13 at h
  show WR G X (mQ G X none zf ((up2 (up2 (up2 (up2 (up2 R 13 0 (some 14)) 13 1 (some 15)) 13 2 (some 16)) 13 3 (some 17)) 13 4 (some 115)), 19, 1410)) 0 [.ref 13] [] M (R, 14, 514)
  have hF := fr_eta hF
  refine r_aload_n hX dX7_init_0 rfl ?_
  refine r_objInit hX dX7_init_1 ml_7_3 rfl (Nat.le_of_ble_eq_true rfl) ?_
  refine r_aload_n hX dX7_init_4 rfl ?_
  refine r_bipush (v := (64 : Int32)) hX dX7_init_5 (by decide) ?_
  refine r_newI (ci := 10) (N := 64) hX dX7_init_7 ac_int rfl (fun _ e => by cases e) rfl rfl (by decide) rfl (by decide) (by decide) (Nat.le_of_ble_eq_true rfl) (fr_fresh hF) (Nat.le_of_ble_eq_true rfl) (xr_le hr ⟨(Nat.le_of_ble_eq_true rfl), (Nat.le_of_ble_eq_true rfl)⟩) ?_
  show WR G X (mQ G X none zf ((up2 (up2 (up2 (up2 (up2 R 13 0 (some 14)) 13 1 (some 15)) 13 2 (some 16)) 13 3 (some 17)) 13 4 (some 115)), 19, 1410)) 9 [.ref 13] [.ref 14, .ref 13] M (R, 15, 578)
  have hF := fr_up (n' := 15) (by decide) hF
  refine r_putR hX hT dX7_init_9 fl_7_9 rfl (by decide) (Nat.le_of_ble_eq_true rfl) (Or.inr ⟨_, rfl⟩) ?_
  have hF := fr_R (a := 13) (j := 0) (b := 14) (by decide) hF
  show WR G X (mQ G X none zf ((up2 (up2 (up2 (up2 (up2 R 13 0 (some 14)) 13 1 (some 15)) 13 2 (some 16)) 13 3 (some 17)) 13 4 (some 115)), 19, 1410)) 12 [.ref 13] [] M ((up2 R 13 0 (some 14)), 15, 578)
  refine r_aload_n hX dX7_init_12 rfl ?_
  refine r_bipush (v := (64 : Int32)) hX dX7_init_13 (by decide) ?_
  refine r_newI (ci := 10) (N := 64) hX dX7_init_15 ac_int rfl (fun _ e => by cases e) rfl rfl (by decide) rfl (by decide) (by decide) (Nat.le_of_ble_eq_true rfl) (fr_fresh hF) (Nat.le_of_ble_eq_true rfl) (xr_le hr ⟨(Nat.le_of_ble_eq_true rfl), (Nat.le_of_ble_eq_true rfl)⟩) ?_
  show WR G X (mQ G X none zf ((up2 (up2 (up2 (up2 (up2 R 13 0 (some 14)) 13 1 (some 15)) 13 2 (some 16)) 13 3 (some 17)) 13 4 (some 115)), 19, 1410)) 17 [.ref 13] [.ref 15, .ref 13] M ((up2 R 13 0 (some 14)), 16, 642)
  have hF := fr_up (n' := 16) (by decide) hF
  refine r_putR hX hT dX7_init_17 fl_7_15 rfl (by decide) (Nat.le_of_ble_eq_true rfl) (Or.inr ⟨_, rfl⟩) ?_
  have hF := fr_R (a := 13) (j := 1) (b := 15) (by decide) hF
  show WR G X (mQ G X none zf ((up2 (up2 (up2 (up2 (up2 R 13 0 (some 14)) 13 1 (some 15)) 13 2 (some 16)) 13 3 (some 17)) 13 4 (some 115)), 19, 1410)) 20 [.ref 13] [] M ((up2 (up2 R 13 0 (some 14)) 13 1 (some 15)), 16, 642)
  refine r_aload_n hX dX7_init_20 rfl ?_
  refine r_sipush (v := (256 : Int32)) hX dX7_init_21 (by decide) ?_
  refine r_newI (ci := 10) (N := 256) hX dX7_init_24 ac_int rfl (fun _ e => by cases e) rfl rfl (by decide) rfl (by decide) (by decide) (Nat.le_of_ble_eq_true rfl) (fr_fresh hF) (Nat.le_of_ble_eq_true rfl) (xr_le hr ⟨(Nat.le_of_ble_eq_true rfl), (Nat.le_of_ble_eq_true rfl)⟩) ?_
  show WR G X (mQ G X none zf ((up2 (up2 (up2 (up2 (up2 R 13 0 (some 14)) 13 1 (some 15)) 13 2 (some 16)) 13 3 (some 17)) 13 4 (some 115)), 19, 1410)) 26 [.ref 13] [.ref 16, .ref 13] M ((up2 (up2 R 13 0 (some 14)) 13 1 (some 15)), 17, 898)
  have hF := fr_up (n' := 17) (by decide) hF
  refine r_putR hX hT dX7_init_26 fl_7_18 rfl (by decide) (Nat.le_of_ble_eq_true rfl) (Or.inr ⟨_, rfl⟩) ?_
  have hF := fr_R (a := 13) (j := 2) (b := 16) (by decide) hF
  show WR G X (mQ G X none zf ((up2 (up2 (up2 (up2 (up2 R 13 0 (some 14)) 13 1 (some 15)) 13 2 (some 16)) 13 3 (some 17)) 13 4 (some 115)), 19, 1410)) 29 [.ref 13] [] M ((up2 (up2 (up2 R 13 0 (some 14)) 13 1 (some 15)) 13 2 (some 16)), 17, 898)
  refine r_aload_n hX dX7_init_29 rfl ?_
  refine r_sipush (v := (256 : Int32)) hX dX7_init_30 (by decide) ?_
  refine r_newI (ci := 10) (N := 256) hX dX7_init_33 ac_int rfl (fun _ e => by cases e) rfl rfl (by decide) rfl (by decide) (by decide) (Nat.le_of_ble_eq_true rfl) (fr_fresh hF) (Nat.le_of_ble_eq_true rfl) (xr_le hr ⟨(Nat.le_of_ble_eq_true rfl), (Nat.le_of_ble_eq_true rfl)⟩) ?_
  show WR G X (mQ G X none zf ((up2 (up2 (up2 (up2 (up2 R 13 0 (some 14)) 13 1 (some 15)) 13 2 (some 16)) 13 3 (some 17)) 13 4 (some 115)), 19, 1410)) 35 [.ref 13] [.ref 17, .ref 13] M ((up2 (up2 (up2 R 13 0 (some 14)) 13 1 (some 15)) 13 2 (some 16)), 18, 1154)
  have hF := fr_up (n' := 18) (by decide) hF
  refine r_putR hX hT dX7_init_35 fl_7_21 rfl (by decide) (Nat.le_of_ble_eq_true rfl) (Or.inr ⟨_, rfl⟩) ?_
  have hF := fr_R (a := 13) (j := 3) (b := 17) (by decide) hF
  show WR G X (mQ G X none zf ((up2 (up2 (up2 (up2 (up2 R 13 0 (some 14)) 13 1 (some 15)) 13 2 (some 16)) 13 3 (some 17)) 13 4 (some 115)), 19, 1410)) 38 [.ref 13] [] M ((up2 (up2 (up2 (up2 R 13 0 (some 14)) 13 1 (some 15)) 13 2 (some 16)) 13 3 (some 17)), 18, 1154)
  refine r_aload_n hX dX7_init_38 rfl ?_
  refine r_sipush (v := (256 : Int32)) hX dX7_init_39 (by decide) ?_
  refine r_newI (ci := 10) (N := 256) hX dX7_init_42 ac_int rfl (fun _ e => by cases e) rfl rfl (by decide) rfl (by decide) (by decide) (Nat.le_of_ble_eq_true rfl) (fr_fresh hF) (Nat.le_of_ble_eq_true rfl) (xr_le hr ⟨(Nat.le_of_ble_eq_true rfl), (Nat.le_of_ble_eq_true rfl)⟩) ?_
  show WR G X (mQ G X none zf ((up2 (up2 (up2 (up2 (up2 R 13 0 (some 14)) 13 1 (some 15)) 13 2 (some 16)) 13 3 (some 17)) 13 4 (some 115)), 19, 1410)) 44 [.ref 13] [.ref 115, .ref 13] M ((up2 (up2 (up2 (up2 R 13 0 (some 14)) 13 1 (some 15)) 13 2 (some 16)) 13 3 (some 17)), 19, 1410)
  have hF := fr_up (n' := 19) (by decide) hF
  refine r_putR hX hT dX7_init_44 fl_7_24 rfl (by decide) (Nat.le_of_ble_eq_true rfl) (Or.inr ⟨_, rfl⟩) ?_
  have hF := fr_R (a := 13) (j := 4) (b := 115) (by decide) hF
  show WR G X (mQ G X none zf ((up2 (up2 (up2 (up2 (up2 R 13 0 (some 14)) 13 1 (some 15)) 13 2 (some 16)) 13 3 (some 17)) 13 4 (some 115)), 19, 1410)) 47 [.ref 13] [] M ((up2 (up2 (up2 (up2 (up2 R 13 0 (some 14)) 13 1 (some 15)) 13 2 (some 16)) 13 3 (some 17)) 13 4 (some 115)), 19, 1410)
  refine r_aload_n hX dX7_init_47 rfl ?_
  refine r_iconst (v := (0 : Int32)) hX dX7_init_48 (by decide) ?_
  refine r_putI hX dX7_init_49 fl_7_27 rfl (by decide) (Nat.le_of_ble_eq_true rfl) (okI_int _) ?_
  have hF := fr_I (a := 13) (j := 5) (x := (0 : Int32)) (by decide) hF
  refine r_aload_n hX dX7_init_52 rfl ?_
  refine r_iconst (v := (0 : Int32)) hX dX7_init_53 (by decide) ?_
  refine r_putI' hX dX7_init_54 fl_7_31 rfl (by decide) (Nat.le_of_ble_eq_true rfl) (okI_int _) ?_
  have hF := fr_I (a := 13) (j := 6) (x := (0 : Int32)) (by decide) hF
  refine r_aload_n hX dX7_init_57 rfl ?_
  refine r_iconst (v := (0 : Int32)) hX dX7_init_58 (by decide) ?_
  refine r_putI' hX dX7_init_59 fl_7_34 rfl (by decide) (Nat.le_of_ble_eq_true rfl) (okI_int _) ?_
  have hF := fr_I (a := 13) (j := 7) (x := (0 : Int32)) (by decide) hF
  refine r_aload_n hX dX7_init_62 rfl ?_
  obtain ⟨z1, p1, h⟩ := bnd_s h
  refine r_callV (As := []) (S1 := ((up2 (up2 (up2 (up2 (up2 R 13 0 (some 14)) 13 1 (some 15)) 13 2 (some 16)) 13 3 (some 17)) 13 4 (some 115)), 19, 1410)) hX dX7_init_63 mk_Wy_forget mi_Wy_forget ml_7_37 rfl rfl rfl rfl (by decide) (Nat.le_of_ble_eq_true rfl) (Nat.le_of_ble_eq_true rfl) (xr_le hr ⟨(Nat.le_of_ble_eq_true rfl), (Nat.le_of_ble_eq_true rfl)⟩) (okS_Wy_forget (d := d) n ((up2 (up2 (up2 M.1 13 5 (0 : Int32)) 13 6 (0 : Int32)) 13 7 (0 : Int32)), M.2)  ⟨(Nat.le_of_ble_eq_true rfl), rfl⟩ p1) ?_
  have hF := fr_same (Wy_forget_same p1) (by decide) hF
  have hF := fr_eta hF
  show WR G X (mQ G X none zf ((up2 (up2 (up2 (up2 (up2 R 13 0 (some 14)) 13 1 (some 15)) 13 2 (some 16)) 13 3 (some 17)) 13 4 (some 115)), 19, 1410)) 66 [.ref 13] [] z1 ((up2 (up2 (up2 (up2 (up2 R 13 0 (some 14)) 13 1 (some 15)) 13 2 (some 16)) 13 3 (some 17)) 13 4 (some 115)), 19, 1410)
  obtain rfl := Option.some.inj h
  exact r_vret hX hT dX7_init_66
theorem fr_Wy_init13 {n : Nat} {M zf : Mm} {R : Nat → Nat → Option Nat} (hF : fr 14 M R) (h : Wy_init13 n M = some zf) : fr 19 zf (up2 (up2 (up2 (up2 (up2 R 13 0 (some 14)) 13 1 (some 15)) 13 2 (some 16)) 13 3 (some 17)) 13 4 (some 115)) := by
  unfold Wy_init13 at h
  have hF := fr_eta hF
  have hF := fr_eta hF
  have hF := fr_up (n' := 15) (by decide) hF
  have hF := fr_R (a := 13) (j := 0) (b := 14) (by decide) hF
  have hF := fr_up (n' := 16) (by decide) hF
  have hF := fr_R (a := 13) (j := 1) (b := 15) (by decide) hF
  have hF := fr_up (n' := 17) (by decide) hF
  have hF := fr_R (a := 13) (j := 2) (b := 16) (by decide) hF
  have hF := fr_up (n' := 18) (by decide) hF
  have hF := fr_R (a := 13) (j := 3) (b := 17) (by decide) hF
  have hF := fr_up (n' := 19) (by decide) hF
  have hF := fr_R (a := 13) (j := 4) (b := 115) (by decide) hF
  have hF := fr_I (a := 13) (j := 5) (x := (0 : Int32)) (by decide) hF
  have hF := fr_I (a := 13) (j := 6) (x := (0 : Int32)) (by decide) hF
  have hF := fr_I (a := 13) (j := 7) (x := (0 : Int32)) (by decide) hF
  obtain ⟨z1, p1, h⟩ := bnd_s h
  have hF := fr_same (Wy_forget_same p1) (by decide) hF
  have hF := fr_eta hF
  obtain rfl := Option.some.inj h
  exact hF
def Fi_init12 (n : Nat) (M : Mm) : Option Mm :=
  bnd (Wy_init13 n M) (fun z1 =>
  some ((up2 (up2 (up2 (up2 (up2 z1.1 12 1 (-1 : Int32)) 12 2 (0 : Int32)) 12 3 (0 : Int32)) 12 4 (0 : Int32)) 12 5 (0 : Int32)), z1.2))
set_option maxRecDepth 100000 in
theorem ok_Fi_init12 {G : Gm} {l : Launch} {d : Nat} (n : Nat) (M : Mm) {zf : Mm} {R : Nat → Nat → Option Nat} (hF : fr 13 M R) (h : Fi_init12 n M = some zf) : CK G l (d + 2) md_Fi_init [.ref 12] M (R, 13, 506) none zf ((up2 (up2 (up2 (up2 (up2 (up2 R 13 0 (some 14)) 13 1 (some 15)) 13 2 (some 16)) 13 3 (some 17)) 13 4 (some 115)) 12 0 (some 13)), 19, 1410) := by
  refine ck_of mk_Fi_init (Nat.le_of_ble_eq_true rfl) ⟨(Nat.le_of_ble_eq_true rfl), (Nat.le_of_ble_eq_true rfl)⟩ (fun X hX hT hSx hr hl => ?_)
  subst hl
  unfold Fi_init12 at h
  show WR G X (mQ G X none zf ((up2 (up2 (up2 (up2 (up2 (up2 R 13 0 (some 14)) 13 1 (some 15)) 13 2 (some 16)) 13 3 (some 17)) 13 4 (some 115)) 12 0 (some 13)), 19, 1410)) 0 [.ref 12] [] M (R, 13, 506)
  have hF := fr_eta hF
  refine r_aload_n hX dX0_init_0 rfl ?_
  refine r_objInit hX dX0_init_1 ml_0_3 rfl (Nat.le_of_ble_eq_true rfl) ?_
  refine r_aload_n hX dX0_init_4 rfl ?_
  refine r_new (ci := 7) hX dX0_init_5 cl_0_9 in7 ini7 rfl (by decide) (fr_fresh hF) (Nat.le_of_ble_eq_true rfl) (xr_le hr ⟨(Nat.le_of_ble_eq_true rfl), (Nat.le_of_ble_eq_true rfl)⟩) ?_
  show WR G X (mQ G X none zf ((up2 (up2 (up2 (up2 (up2 (up2 R 13 0 (some 14)) 13 1 (some 15)) 13 2 (some 16)) 13 3 (some 17)) 13 4 (some 115)) 12 0 (some 13)), 19, 1410)) 8 [.ref 12] [.ref 13, .ref 12] M (R, 14, 514)
  have hF := fr_up (n' := 14) (by decide) hF
  refine r_dup hX dX0_init_8 rfl ?_
  obtain ⟨z1, p1, h⟩ := bnd_s h
  refine r_callI (As := []) (S1 := ((up2 (up2 (up2 (up2 (up2 R 13 0 (some 14)) 13 1 (some 15)) 13 2 (some 16)) 13 3 (some 17)) 13 4 (some 115)), 19, 1410)) hX dX0_init_9 mk_Wy_init mc_Wy_init ml_0_11 rfl rfl rfl (Nat.le_of_ble_eq_true rfl) (Nat.le_of_ble_eq_true rfl) (xr_le hr ⟨(Nat.le_of_ble_eq_true rfl), (Nat.le_of_ble_eq_true rfl)⟩) (ok_Wy_init13 (d := d + 0) n M hF p1) ?_
  have hF := fr_Wy_init13 hF p1
  have hF := fr_eta hF
  show WR G X (mQ G X none zf ((up2 (up2 (up2 (up2 (up2 (up2 R 13 0 (some 14)) 13 1 (some 15)) 13 2 (some 16)) 13 3 (some 17)) 13 4 (some 115)) 12 0 (some 13)), 19, 1410)) 12 [.ref 12] [.ref 13, .ref 12] z1 ((up2 (up2 (up2 (up2 (up2 R 13 0 (some 14)) 13 1 (some 15)) 13 2 (some 16)) 13 3 (some 17)) 13 4 (some 115)), 19, 1410)
  refine r_putR hX hT dX0_init_12 fl_0_12 rfl (by decide) (Nat.le_of_ble_eq_true rfl) (Or.inl ⟨_, rfl⟩) ?_
  have hF := fr_R (a := 12) (j := 0) (b := 13) (by decide) hF
  show WR G X (mQ G X none zf ((up2 (up2 (up2 (up2 (up2 (up2 R 13 0 (some 14)) 13 1 (some 15)) 13 2 (some 16)) 13 3 (some 17)) 13 4 (some 115)) 12 0 (some 13)), 19, 1410)) 15 [.ref 12] [] z1 ((up2 (up2 (up2 (up2 (up2 (up2 R 13 0 (some 14)) 13 1 (some 15)) 13 2 (some 16)) 13 3 (some 17)) 13 4 (some 115)) 12 0 (some 13)), 19, 1410)
  refine r_aload_n hX dX0_init_15 rfl ?_
  refine r_iconst (v := (-1 : Int32)) hX dX0_init_16 (by decide) ?_
  refine r_putI hX dX0_init_17 fl_0_18 rfl (by decide) (Nat.le_of_ble_eq_true rfl) (okI_int _) ?_
  have hF := fr_I (a := 12) (j := 1) (x := (-1 : Int32)) (by decide) hF
  refine r_aload_n hX dX0_init_20 rfl ?_
  refine r_iconst (v := (0 : Int32)) hX dX0_init_21 (by decide) ?_
  refine r_putI' hX dX0_init_22 fl_0_22 rfl (by decide) (Nat.le_of_ble_eq_true rfl) (okI_int _) ?_
  have hF := fr_I (a := 12) (j := 2) (x := (0 : Int32)) (by decide) hF
  refine r_aload_n hX dX0_init_25 rfl ?_
  refine r_iconst (v := (0 : Int32)) hX dX0_init_26 (by decide) ?_
  refine r_putI' hX dX0_init_27 fl_0_25 rfl (by decide) (Nat.le_of_ble_eq_true rfl) (okI_int _) ?_
  have hF := fr_I (a := 12) (j := 3) (x := (0 : Int32)) (by decide) hF
  refine r_aload_n hX dX0_init_30 rfl ?_
  refine r_iconst (v := (0 : Int32)) hX dX0_init_31 (by decide) ?_
  refine r_putI' hX dX0_init_32 fl_0_28 rfl (by decide) (Nat.le_of_ble_eq_true rfl) (okI_int _) ?_
  have hF := fr_I (a := 12) (j := 4) (x := (0 : Int32)) (by decide) hF
  refine r_aload_n hX dX0_init_35 rfl ?_
  refine r_iconst (v := (0 : Int32)) hX dX0_init_36 (by decide) ?_
  refine r_putI' hX dX0_init_37 fl_0_31 rfl (by decide) (Nat.le_of_ble_eq_true rfl) (okI_int _) ?_
  have hF := fr_I (a := 12) (j := 5) (x := (0 : Int32)) (by decide) hF
  obtain rfl := Option.some.inj h
  exact r_vret hX hT dX0_init_40
theorem fr_Fi_init12 {n : Nat} {M zf : Mm} {R : Nat → Nat → Option Nat} (hF : fr 13 M R) (h : Fi_init12 n M = some zf) : fr 19 zf (up2 (up2 (up2 (up2 (up2 (up2 R 13 0 (some 14)) 13 1 (some 15)) 13 2 (some 16)) 13 3 (some 17)) 13 4 (some 115)) 12 0 (some 13)) := by
  unfold Fi_init12 at h
  have hF := fr_eta hF
  have hF := fr_eta hF
  have hF := fr_up (n' := 14) (by decide) hF
  obtain ⟨z1, p1, h⟩ := bnd_s h
  have hF := fr_Wy_init13 hF p1
  have hF := fr_eta hF
  have hF := fr_R (a := 12) (j := 0) (b := 13) (by decide) hF
  have hF := fr_I (a := 12) (j := 1) (x := (-1 : Int32)) (by decide) hF
  have hF := fr_I (a := 12) (j := 2) (x := (0 : Int32)) (by decide) hF
  have hF := fr_I (a := 12) (j := 3) (x := (0 : Int32)) (by decide) hF
  have hF := fr_I (a := 12) (j := 4) (x := (0 : Int32)) (by decide) hF
  have hF := fr_I (a := 12) (j := 5) (x := (0 : Int32)) (by decide) hF
  obtain rfl := Option.some.inj h
  exact hF
def Nt_init19 (n : Nat) (M : Mm) : Option Mm :=
  bnd (Nt_begin n 19 M) (fun z1 =>
  some z1)
set_option maxRecDepth 100000 in
theorem ok_Nt_init19 {G : Gm} {l : Launch} {d : Nat} (n : Nat) (M : Mm) {zf : Mm} {R : Nat → Nat → Option Nat} (hF : fr 21 M R) (h : Nt_init19 n M = some zf) : CK G l (d + 1) md_Nt_init [.ref 19] M (R, 21, 1436) none zf ((up2 (up2 (up2 (up2 (up2 R 19 5 (some 20)) 19 6 (some 21)) 19 7 (some 22)) 19 8 (some 23)) 19 9 (some 24)), 26, 1546) := by
  refine ck_of mk_Nt_init (Nat.le_of_ble_eq_true rfl) ⟨(Nat.le_of_ble_eq_true rfl), (Nat.le_of_ble_eq_true rfl)⟩ (fun X hX hT hSx hr hl => ?_)
  subst hl
  unfold Nt_init19 at h
  show WR G X (mQ G X none zf ((up2 (up2 (up2 (up2 (up2 R 19 5 (some 20)) 19 6 (some 21)) 19 7 (some 22)) 19 8 (some 23)) 19 9 (some 24)), 26, 1546)) 0 [.ref 19] [] M (R, 21, 1436)
  have hF := fr_eta hF
  refine r_aload_n hX dX1_init_0 rfl ?_
  refine r_objInit hX dX1_init_1 ml_1_3 rfl (Nat.le_of_ble_eq_true rfl) ?_
  refine r_aload_n hX dX1_init_4 rfl ?_
  refine r_iconst (v := (4 : Int32)) hX dX1_init_5 (by decide) ?_
  refine r_newI (ci := 10) (N := 4) hX dX1_init_6 ac_int rfl (fun _ e => by cases e) rfl rfl (by decide) rfl (by decide) (by decide) (Nat.le_of_ble_eq_true rfl) (fr_fresh hF) (Nat.le_of_ble_eq_true rfl) (xr_le hr ⟨(Nat.le_of_ble_eq_true rfl), (Nat.le_of_ble_eq_true rfl)⟩) ?_
  show WR G X (mQ G X none zf ((up2 (up2 (up2 (up2 (up2 R 19 5 (some 20)) 19 6 (some 21)) 19 7 (some 22)) 19 8 (some 23)) 19 9 (some 24)), 26, 1546)) 8 [.ref 19] [.ref 20, .ref 19] M (R, 22, 1440)
  have hF := fr_up (n' := 22) (by decide) hF
  refine r_putR hX hT dX1_init_8 fl_1_9 rfl (by decide) (Nat.le_of_ble_eq_true rfl) (Or.inr ⟨_, rfl⟩) ?_
  have hF := fr_R (a := 19) (j := 5) (b := 20) (by decide) hF
  show WR G X (mQ G X none zf ((up2 (up2 (up2 (up2 (up2 R 19 5 (some 20)) 19 6 (some 21)) 19 7 (some 22)) 19 8 (some 23)) 19 9 (some 24)), 26, 1546)) 11 [.ref 19] [] M ((up2 R 19 5 (some 20)), 22, 1440)
  refine r_aload_n hX dX1_init_11 rfl ?_
  refine r_bipush (v := (14 : Int32)) hX dX1_init_12 (by decide) ?_
  refine r_newI (ci := 10) (N := 14) hX dX1_init_14 ac_int rfl (fun _ e => by cases e) rfl rfl (by decide) rfl (by decide) (by decide) (Nat.le_of_ble_eq_true rfl) (fr_fresh hF) (Nat.le_of_ble_eq_true rfl) (xr_le hr ⟨(Nat.le_of_ble_eq_true rfl), (Nat.le_of_ble_eq_true rfl)⟩) ?_
  show WR G X (mQ G X none zf ((up2 (up2 (up2 (up2 (up2 R 19 5 (some 20)) 19 6 (some 21)) 19 7 (some 22)) 19 8 (some 23)) 19 9 (some 24)), 26, 1546)) 16 [.ref 19] [.ref 21, .ref 19] M ((up2 R 19 5 (some 20)), 23, 1454)
  have hF := fr_up (n' := 23) (by decide) hF
  refine r_putR hX hT dX1_init_16 fl_1_15 rfl (by decide) (Nat.le_of_ble_eq_true rfl) (Or.inr ⟨_, rfl⟩) ?_
  have hF := fr_R (a := 19) (j := 6) (b := 21) (by decide) hF
  show WR G X (mQ G X none zf ((up2 (up2 (up2 (up2 (up2 R 19 5 (some 20)) 19 6 (some 21)) 19 7 (some 22)) 19 8 (some 23)) 19 9 (some 24)), 26, 1546)) 19 [.ref 19] [] M ((up2 (up2 R 19 5 (some 20)) 19 6 (some 21)), 23, 1454)
  refine r_aload_n hX dX1_init_19 rfl ?_
  refine r_bipush (v := (14 : Int32)) hX dX1_init_20 (by decide) ?_
  refine r_newI (ci := 10) (N := 14) hX dX1_init_22 ac_int rfl (fun _ e => by cases e) rfl rfl (by decide) rfl (by decide) (by decide) (Nat.le_of_ble_eq_true rfl) (fr_fresh hF) (Nat.le_of_ble_eq_true rfl) (xr_le hr ⟨(Nat.le_of_ble_eq_true rfl), (Nat.le_of_ble_eq_true rfl)⟩) ?_
  show WR G X (mQ G X none zf ((up2 (up2 (up2 (up2 (up2 R 19 5 (some 20)) 19 6 (some 21)) 19 7 (some 22)) 19 8 (some 23)) 19 9 (some 24)), 26, 1546)) 24 [.ref 19] [.ref 22, .ref 19] M ((up2 (up2 R 19 5 (some 20)) 19 6 (some 21)), 24, 1468)
  have hF := fr_up (n' := 24) (by decide) hF
  refine r_putR hX hT dX1_init_24 fl_1_18 rfl (by decide) (Nat.le_of_ble_eq_true rfl) (Or.inr ⟨_, rfl⟩) ?_
  have hF := fr_R (a := 19) (j := 7) (b := 22) (by decide) hF
  show WR G X (mQ G X none zf ((up2 (up2 (up2 (up2 (up2 R 19 5 (some 20)) 19 6 (some 21)) 19 7 (some 22)) 19 8 (some 23)) 19 9 (some 24)), 26, 1546)) 27 [.ref 19] [] M ((up2 (up2 (up2 R 19 5 (some 20)) 19 6 (some 21)) 19 7 (some 22)), 24, 1468)
  refine r_aload_n hX dX1_init_27 rfl ?_
  refine r_bipush (v := (14 : Int32)) hX dX1_init_28 (by decide) ?_
  refine r_newI (ci := 10) (N := 14) hX dX1_init_30 ac_int rfl (fun _ e => by cases e) rfl rfl (by decide) rfl (by decide) (by decide) (Nat.le_of_ble_eq_true rfl) (fr_fresh hF) (Nat.le_of_ble_eq_true rfl) (xr_le hr ⟨(Nat.le_of_ble_eq_true rfl), (Nat.le_of_ble_eq_true rfl)⟩) ?_
  show WR G X (mQ G X none zf ((up2 (up2 (up2 (up2 (up2 R 19 5 (some 20)) 19 6 (some 21)) 19 7 (some 22)) 19 8 (some 23)) 19 9 (some 24)), 26, 1546)) 32 [.ref 19] [.ref 23, .ref 19] M ((up2 (up2 (up2 R 19 5 (some 20)) 19 6 (some 21)) 19 7 (some 22)), 25, 1482)
  have hF := fr_up (n' := 25) (by decide) hF
  refine r_putR hX hT dX1_init_32 fl_1_21 rfl (by decide) (Nat.le_of_ble_eq_true rfl) (Or.inr ⟨_, rfl⟩) ?_
  have hF := fr_R (a := 19) (j := 8) (b := 23) (by decide) hF
  show WR G X (mQ G X none zf ((up2 (up2 (up2 (up2 (up2 R 19 5 (some 20)) 19 6 (some 21)) 19 7 (some 22)) 19 8 (some 23)) 19 9 (some 24)), 26, 1546)) 35 [.ref 19] [] M ((up2 (up2 (up2 (up2 R 19 5 (some 20)) 19 6 (some 21)) 19 7 (some 22)) 19 8 (some 23)), 25, 1482)
  refine r_aload_n hX dX1_init_35 rfl ?_
  refine r_bipush (v := (64 : Int32)) hX dX1_init_36 (by decide) ?_
  refine r_newI (ci := 10) (N := 64) hX dX1_init_38 ac_int rfl (fun _ e => by cases e) rfl rfl (by decide) rfl (by decide) (by decide) (Nat.le_of_ble_eq_true rfl) (fr_fresh hF) (Nat.le_of_ble_eq_true rfl) (xr_le hr ⟨(Nat.le_of_ble_eq_true rfl), (Nat.le_of_ble_eq_true rfl)⟩) ?_
  show WR G X (mQ G X none zf ((up2 (up2 (up2 (up2 (up2 R 19 5 (some 20)) 19 6 (some 21)) 19 7 (some 22)) 19 8 (some 23)) 19 9 (some 24)), 26, 1546)) 40 [.ref 19] [.ref 24, .ref 19] M ((up2 (up2 (up2 (up2 R 19 5 (some 20)) 19 6 (some 21)) 19 7 (some 22)) 19 8 (some 23)), 26, 1546)
  have hF := fr_up (n' := 26) (by decide) hF
  refine r_putR hX hT dX1_init_40 fl_1_24 rfl (by decide) (Nat.le_of_ble_eq_true rfl) (Or.inr ⟨_, rfl⟩) ?_
  have hF := fr_R (a := 19) (j := 9) (b := 24) (by decide) hF
  show WR G X (mQ G X none zf ((up2 (up2 (up2 (up2 (up2 R 19 5 (some 20)) 19 6 (some 21)) 19 7 (some 22)) 19 8 (some 23)) 19 9 (some 24)), 26, 1546)) 43 [.ref 19] [] M ((up2 (up2 (up2 (up2 (up2 R 19 5 (some 20)) 19 6 (some 21)) 19 7 (some 22)) 19 8 (some 23)) 19 9 (some 24)), 26, 1546)
  refine r_aload_n hX dX1_init_43 rfl ?_
  obtain ⟨z1, p1, h⟩ := bnd_s h
  refine r_callV (As := []) (S1 := ((up2 (up2 (up2 (up2 (up2 R 19 5 (some 20)) 19 6 (some 21)) 19 7 (some 22)) 19 8 (some 23)) 19 9 (some 24)), 26, 1546)) hX dX1_init_44 mk_Nt_begin mi_Nt_begin ml_1_27 rfl rfl rfl rfl (by decide) (Nat.le_of_ble_eq_true rfl) (Nat.le_of_ble_eq_true rfl) (xr_le hr ⟨(Nat.le_of_ble_eq_true rfl), (Nat.le_of_ble_eq_true rfl)⟩) (okS_Nt_begin (d := d) n 19 M (nt_st st18) ⟨⟨(Nat.le_of_ble_eq_true rfl), (Nat.le_of_ble_eq_true rfl), (Nat.le_of_ble_eq_true rfl)⟩, rfl, rfl, rfl, rfl, rfl⟩ p1) ?_
  have hF := fr_same (Nt_begin_same p1) (by decide) hF
  have hF := fr_eta hF
  show WR G X (mQ G X none zf ((up2 (up2 (up2 (up2 (up2 R 19 5 (some 20)) 19 6 (some 21)) 19 7 (some 22)) 19 8 (some 23)) 19 9 (some 24)), 26, 1546)) 47 [.ref 19] [] z1 ((up2 (up2 (up2 (up2 (up2 R 19 5 (some 20)) 19 6 (some 21)) 19 7 (some 22)) 19 8 (some 23)) 19 9 (some 24)), 26, 1546)
  obtain rfl := Option.some.inj h
  exact r_vret hX hT dX1_init_47
theorem fr_Nt_init19 {n : Nat} {M zf : Mm} {R : Nat → Nat → Option Nat} (hF : fr 21 M R) (h : Nt_init19 n M = some zf) : fr 26 zf (up2 (up2 (up2 (up2 (up2 R 19 5 (some 20)) 19 6 (some 21)) 19 7 (some 22)) 19 8 (some 23)) 19 9 (some 24)) := by
  unfold Nt_init19 at h
  have hF := fr_eta hF
  have hF := fr_eta hF
  have hF := fr_up (n' := 22) (by decide) hF
  have hF := fr_R (a := 19) (j := 5) (b := 20) (by decide) hF
  have hF := fr_up (n' := 23) (by decide) hF
  have hF := fr_R (a := 19) (j := 6) (b := 21) (by decide) hF
  have hF := fr_up (n' := 24) (by decide) hF
  have hF := fr_R (a := 19) (j := 7) (b := 22) (by decide) hF
  have hF := fr_up (n' := 25) (by decide) hF
  have hF := fr_R (a := 19) (j := 8) (b := 23) (by decide) hF
  have hF := fr_up (n' := 26) (by decide) hF
  have hF := fr_R (a := 19) (j := 9) (b := 24) (by decide) hF
  obtain ⟨z1, p1, h⟩ := bnd_s h
  have hF := fr_same (Nt_begin_same p1) (by decide) hF
  have hF := fr_eta hF
  obtain rfl := Option.some.inj h
  exact hF
def St_init18 (n : Nat) (M : Mm) : Option Mm :=
  bnd (Nt_init19 n M) (fun z1 =>
  some ((up2 (up2 (up2 (up2 z1.1 18 1 (0 : Int32)) 18 2 (0 : Int32)) 18 3 (1 : Int32)) 18 4 (0 : Int32)), z1.2))
set_option maxRecDepth 100000 in
theorem ok_St_init18 {G : Gm} {l : Launch} {d : Nat} (n : Nat) (M : Mm) {zf : Mm} {R : Nat → Nat → Option Nat} (hF : fr 20 M R) (h : St_init18 n M = some zf) : CK G l (d + 2) md_St_init [.ref 18] M (R, 20, 1426) none zf ((up2 (up2 (up2 (up2 (up2 (up2 (up2 (up2 (up2 (up2 (up2 (up2 (up2 (up2 (up2 (up2 (up2 R 19 5 (some 20)) 19 6 (some 21)) 19 7 (some 22)) 19 8 (some 23)) 19 9 (some 24)) 18 0 (some 19)) 18 5 (some 25)) 18 6 (some 26)) 18 7 (some 27)) 18 8 (some 28)) 18 9 (some 29)) 18 10 (some 30)) 18 11 (some 31)) 18 12 (some 32)) 18 13 (some 33)) 18 14 (some 34)) 18 15 (some 35)), 37, 1960) := by
  refine ck_of mk_St_init (Nat.le_of_ble_eq_true rfl) ⟨(Nat.le_of_ble_eq_true rfl), (Nat.le_of_ble_eq_true rfl)⟩ (fun X hX hT hSx hr hl => ?_)
  subst hl
  unfold St_init18 at h
  show WR G X (mQ G X none zf ((up2 (up2 (up2 (up2 (up2 (up2 (up2 (up2 (up2 (up2 (up2 (up2 (up2 (up2 (up2 (up2 (up2 R 19 5 (some 20)) 19 6 (some 21)) 19 7 (some 22)) 19 8 (some 23)) 19 9 (some 24)) 18 0 (some 19)) 18 5 (some 25)) 18 6 (some 26)) 18 7 (some 27)) 18 8 (some 28)) 18 9 (some 29)) 18 10 (some 30)) 18 11 (some 31)) 18 12 (some 32)) 18 13 (some 33)) 18 14 (some 34)) 18 15 (some 35)), 37, 1960)) 0 [.ref 18] [] M (R, 20, 1426)
  have hF := fr_eta hF
  refine r_aload_n hX dX4_init_0 rfl ?_
  refine r_objInit hX dX4_init_1 ml_4_3 rfl (Nat.le_of_ble_eq_true rfl) ?_
  refine r_aload_n hX dX4_init_4 rfl ?_
  refine r_new (ci := 1) hX dX4_init_5 cl_4_9 in1 ini1 rfl (by decide) (fr_fresh hF) (Nat.le_of_ble_eq_true rfl) (xr_le hr ⟨(Nat.le_of_ble_eq_true rfl), (Nat.le_of_ble_eq_true rfl)⟩) ?_
  show WR G X (mQ G X none zf ((up2 (up2 (up2 (up2 (up2 (up2 (up2 (up2 (up2 (up2 (up2 (up2 (up2 (up2 (up2 (up2 (up2 R 19 5 (some 20)) 19 6 (some 21)) 19 7 (some 22)) 19 8 (some 23)) 19 9 (some 24)) 18 0 (some 19)) 18 5 (some 25)) 18 6 (some 26)) 18 7 (some 27)) 18 8 (some 28)) 18 9 (some 29)) 18 10 (some 30)) 18 11 (some 31)) 18 12 (some 32)) 18 13 (some 33)) 18 14 (some 34)) 18 15 (some 35)), 37, 1960)) 8 [.ref 18] [.ref 19, .ref 18] M (R, 21, 1436)
  have hF := fr_up (n' := 21) (by decide) hF
  refine r_dup hX dX4_init_8 rfl ?_
  obtain ⟨z1, p1, h⟩ := bnd_s h
  refine r_callI (As := []) (S1 := ((up2 (up2 (up2 (up2 (up2 R 19 5 (some 20)) 19 6 (some 21)) 19 7 (some 22)) 19 8 (some 23)) 19 9 (some 24)), 26, 1546)) hX dX4_init_9 mk_Nt_init mc_Nt_init ml_4_11 rfl rfl rfl (Nat.le_of_ble_eq_true rfl) (Nat.le_of_ble_eq_true rfl) (xr_le hr ⟨(Nat.le_of_ble_eq_true rfl), (Nat.le_of_ble_eq_true rfl)⟩) (ok_Nt_init19 (d := d + 0) n M hF p1) ?_
  have hF := fr_Nt_init19 hF p1
  have hF := fr_eta hF
  show WR G X (mQ G X none zf ((up2 (up2 (up2 (up2 (up2 (up2 (up2 (up2 (up2 (up2 (up2 (up2 (up2 (up2 (up2 (up2 (up2 R 19 5 (some 20)) 19 6 (some 21)) 19 7 (some 22)) 19 8 (some 23)) 19 9 (some 24)) 18 0 (some 19)) 18 5 (some 25)) 18 6 (some 26)) 18 7 (some 27)) 18 8 (some 28)) 18 9 (some 29)) 18 10 (some 30)) 18 11 (some 31)) 18 12 (some 32)) 18 13 (some 33)) 18 14 (some 34)) 18 15 (some 35)), 37, 1960)) 12 [.ref 18] [.ref 19, .ref 18] z1 ((up2 (up2 (up2 (up2 (up2 R 19 5 (some 20)) 19 6 (some 21)) 19 7 (some 22)) 19 8 (some 23)) 19 9 (some 24)), 26, 1546)
  refine r_putR hX hT dX4_init_12 fl_4_12 rfl (by decide) (Nat.le_of_ble_eq_true rfl) (Or.inl ⟨_, rfl⟩) ?_
  have hF := fr_R (a := 18) (j := 0) (b := 19) (by decide) hF
  show WR G X (mQ G X none zf ((up2 (up2 (up2 (up2 (up2 (up2 (up2 (up2 (up2 (up2 (up2 (up2 (up2 (up2 (up2 (up2 (up2 R 19 5 (some 20)) 19 6 (some 21)) 19 7 (some 22)) 19 8 (some 23)) 19 9 (some 24)) 18 0 (some 19)) 18 5 (some 25)) 18 6 (some 26)) 18 7 (some 27)) 18 8 (some 28)) 18 9 (some 29)) 18 10 (some 30)) 18 11 (some 31)) 18 12 (some 32)) 18 13 (some 33)) 18 14 (some 34)) 18 15 (some 35)), 37, 1960)) 15 [.ref 18] [] z1 ((up2 (up2 (up2 (up2 (up2 (up2 R 19 5 (some 20)) 19 6 (some 21)) 19 7 (some 22)) 19 8 (some 23)) 19 9 (some 24)) 18 0 (some 19)), 26, 1546)
  refine r_aload_n hX dX4_init_15 rfl ?_
  refine r_iconst (v := (0 : Int32)) hX dX4_init_16 (by decide) ?_
  refine r_putI hX dX4_init_17 fl_4_18 rfl (by decide) (Nat.le_of_ble_eq_true rfl) (okI_int _) ?_
  have hF := fr_I (a := 18) (j := 1) (x := (0 : Int32)) (by decide) hF
  refine r_aload_n hX dX4_init_20 rfl ?_
  refine r_iconst (v := (0 : Int32)) hX dX4_init_21 (by decide) ?_
  refine r_putI' hX dX4_init_22 fl_4_22 rfl (by decide) (Nat.le_of_ble_eq_true rfl) (okI_int _) ?_
  have hF := fr_I (a := 18) (j := 2) (x := (0 : Int32)) (by decide) hF
  refine r_aload_n hX dX4_init_25 rfl ?_
  refine r_iconst (v := (1 : Int32)) hX dX4_init_26 (by decide) ?_
  refine r_putI' hX dX4_init_27 fl_4_25 rfl (by decide) (Nat.le_of_ble_eq_true rfl) (okI_int _) ?_
  have hF := fr_I (a := 18) (j := 3) (x := (1 : Int32)) (by decide) hF
  refine r_aload_n hX dX4_init_30 rfl ?_
  refine r_iconst (v := (0 : Int32)) hX dX4_init_31 (by decide) ?_
  refine r_putI' hX dX4_init_32 fl_4_28 rfl (by decide) (Nat.le_of_ble_eq_true rfl) (okI_int _) ?_
  have hF := fr_I (a := 18) (j := 4) (x := (0 : Int32)) (by decide) hF
  refine r_aload_n hX dX4_init_35 rfl ?_
  refine r_bipush (v := (40 : Int32)) hX dX4_init_36 (by decide) ?_
  refine r_newI (ci := 10) (N := 40) hX dX4_init_38 ac_int rfl (fun _ e => by cases e) rfl rfl (by decide) rfl (by decide) (by decide) (Nat.le_of_ble_eq_true rfl) (fr_fresh hF) (Nat.le_of_ble_eq_true rfl) (xr_le hr ⟨(Nat.le_of_ble_eq_true rfl), (Nat.le_of_ble_eq_true rfl)⟩) ?_
  show WR G X (mQ G X none zf ((up2 (up2 (up2 (up2 (up2 (up2 (up2 (up2 (up2 (up2 (up2 (up2 (up2 (up2 (up2 (up2 (up2 R 19 5 (some 20)) 19 6 (some 21)) 19 7 (some 22)) 19 8 (some 23)) 19 9 (some 24)) 18 0 (some 19)) 18 5 (some 25)) 18 6 (some 26)) 18 7 (some 27)) 18 8 (some 28)) 18 9 (some 29)) 18 10 (some 30)) 18 11 (some 31)) 18 12 (some 32)) 18 13 (some 33)) 18 14 (some 34)) 18 15 (some 35)), 37, 1960)) 40 [.ref 18] [.ref 25, .ref 18] ((up2 (up2 (up2 (up2 z1.1 18 1 (0 : Int32)) 18 2 (0 : Int32)) 18 3 (1 : Int32)) 18 4 (0 : Int32)), z1.2) ((up2 (up2 (up2 (up2 (up2 (up2 R 19 5 (some 20)) 19 6 (some 21)) 19 7 (some 22)) 19 8 (some 23)) 19 9 (some 24)) 18 0 (some 19)), 27, 1586)
  have hF := fr_up (n' := 27) (by decide) hF
  refine r_putR hX hT dX4_init_40 fl_4_31 rfl (by decide) (Nat.le_of_ble_eq_true rfl) (Or.inr ⟨_, rfl⟩) ?_
  have hF := fr_R (a := 18) (j := 5) (b := 25) (by decide) hF
  show WR G X (mQ G X none zf ((up2 (up2 (up2 (up2 (up2 (up2 (up2 (up2 (up2 (up2 (up2 (up2 (up2 (up2 (up2 (up2 (up2 R 19 5 (some 20)) 19 6 (some 21)) 19 7 (some 22)) 19 8 (some 23)) 19 9 (some 24)) 18 0 (some 19)) 18 5 (some 25)) 18 6 (some 26)) 18 7 (some 27)) 18 8 (some 28)) 18 9 (some 29)) 18 10 (some 30)) 18 11 (some 31)) 18 12 (some 32)) 18 13 (some 33)) 18 14 (some 34)) 18 15 (some 35)), 37, 1960)) 43 [.ref 18] [] ((up2 (up2 (up2 (up2 z1.1 18 1 (0 : Int32)) 18 2 (0 : Int32)) 18 3 (1 : Int32)) 18 4 (0 : Int32)), z1.2) ((up2 (up2 (up2 (up2 (up2 (up2 (up2 R 19 5 (some 20)) 19 6 (some 21)) 19 7 (some 22)) 19 8 (some 23)) 19 9 (some 24)) 18 0 (some 19)) 18 5 (some 25)), 27, 1586)
  refine r_aload_n hX dX4_init_43 rfl ?_
  refine r_bipush (v := (40 : Int32)) hX dX4_init_44 (by decide) ?_
  refine r_newI (ci := 10) (N := 40) hX dX4_init_46 ac_int rfl (fun _ e => by cases e) rfl rfl (by decide) rfl (by decide) (by decide) (Nat.le_of_ble_eq_true rfl) (fr_fresh hF) (Nat.le_of_ble_eq_true rfl) (xr_le hr ⟨(Nat.le_of_ble_eq_true rfl), (Nat.le_of_ble_eq_true rfl)⟩) ?_
  show WR G X (mQ G X none zf ((up2 (up2 (up2 (up2 (up2 (up2 (up2 (up2 (up2 (up2 (up2 (up2 (up2 (up2 (up2 (up2 (up2 R 19 5 (some 20)) 19 6 (some 21)) 19 7 (some 22)) 19 8 (some 23)) 19 9 (some 24)) 18 0 (some 19)) 18 5 (some 25)) 18 6 (some 26)) 18 7 (some 27)) 18 8 (some 28)) 18 9 (some 29)) 18 10 (some 30)) 18 11 (some 31)) 18 12 (some 32)) 18 13 (some 33)) 18 14 (some 34)) 18 15 (some 35)), 37, 1960)) 48 [.ref 18] [.ref 26, .ref 18] ((up2 (up2 (up2 (up2 z1.1 18 1 (0 : Int32)) 18 2 (0 : Int32)) 18 3 (1 : Int32)) 18 4 (0 : Int32)), z1.2) ((up2 (up2 (up2 (up2 (up2 (up2 (up2 R 19 5 (some 20)) 19 6 (some 21)) 19 7 (some 22)) 19 8 (some 23)) 19 9 (some 24)) 18 0 (some 19)) 18 5 (some 25)), 28, 1626)
  have hF := fr_up (n' := 28) (by decide) hF
  refine r_putR hX hT dX4_init_48 fl_4_35 rfl (by decide) (Nat.le_of_ble_eq_true rfl) (Or.inr ⟨_, rfl⟩) ?_
  have hF := fr_R (a := 18) (j := 6) (b := 26) (by decide) hF
  show WR G X (mQ G X none zf ((up2 (up2 (up2 (up2 (up2 (up2 (up2 (up2 (up2 (up2 (up2 (up2 (up2 (up2 (up2 (up2 (up2 R 19 5 (some 20)) 19 6 (some 21)) 19 7 (some 22)) 19 8 (some 23)) 19 9 (some 24)) 18 0 (some 19)) 18 5 (some 25)) 18 6 (some 26)) 18 7 (some 27)) 18 8 (some 28)) 18 9 (some 29)) 18 10 (some 30)) 18 11 (some 31)) 18 12 (some 32)) 18 13 (some 33)) 18 14 (some 34)) 18 15 (some 35)), 37, 1960)) 51 [.ref 18] [] ((up2 (up2 (up2 (up2 z1.1 18 1 (0 : Int32)) 18 2 (0 : Int32)) 18 3 (1 : Int32)) 18 4 (0 : Int32)), z1.2) ((up2 (up2 (up2 (up2 (up2 (up2 (up2 (up2 R 19 5 (some 20)) 19 6 (some 21)) 19 7 (some 22)) 19 8 (some 23)) 19 9 (some 24)) 18 0 (some 19)) 18 5 (some 25)) 18 6 (some 26)), 28, 1626)
  refine r_aload_n hX dX4_init_51 rfl ?_
  refine r_bipush (v := (40 : Int32)) hX dX4_init_52 (by decide) ?_
  refine r_newI (ci := 10) (N := 40) hX dX4_init_54 ac_int rfl (fun _ e => by cases e) rfl rfl (by decide) rfl (by decide) (by decide) (Nat.le_of_ble_eq_true rfl) (fr_fresh hF) (Nat.le_of_ble_eq_true rfl) (xr_le hr ⟨(Nat.le_of_ble_eq_true rfl), (Nat.le_of_ble_eq_true rfl)⟩) ?_
  show WR G X (mQ G X none zf ((up2 (up2 (up2 (up2 (up2 (up2 (up2 (up2 (up2 (up2 (up2 (up2 (up2 (up2 (up2 (up2 (up2 R 19 5 (some 20)) 19 6 (some 21)) 19 7 (some 22)) 19 8 (some 23)) 19 9 (some 24)) 18 0 (some 19)) 18 5 (some 25)) 18 6 (some 26)) 18 7 (some 27)) 18 8 (some 28)) 18 9 (some 29)) 18 10 (some 30)) 18 11 (some 31)) 18 12 (some 32)) 18 13 (some 33)) 18 14 (some 34)) 18 15 (some 35)), 37, 1960)) 56 [.ref 18] [.ref 27, .ref 18] ((up2 (up2 (up2 (up2 z1.1 18 1 (0 : Int32)) 18 2 (0 : Int32)) 18 3 (1 : Int32)) 18 4 (0 : Int32)), z1.2) ((up2 (up2 (up2 (up2 (up2 (up2 (up2 (up2 R 19 5 (some 20)) 19 6 (some 21)) 19 7 (some 22)) 19 8 (some 23)) 19 9 (some 24)) 18 0 (some 19)) 18 5 (some 25)) 18 6 (some 26)), 29, 1666)
  have hF := fr_up (n' := 29) (by decide) hF
  refine r_putR hX hT dX4_init_56 fl_4_38 rfl (by decide) (Nat.le_of_ble_eq_true rfl) (Or.inr ⟨_, rfl⟩) ?_
  have hF := fr_R (a := 18) (j := 7) (b := 27) (by decide) hF
  show WR G X (mQ G X none zf ((up2 (up2 (up2 (up2 (up2 (up2 (up2 (up2 (up2 (up2 (up2 (up2 (up2 (up2 (up2 (up2 (up2 R 19 5 (some 20)) 19 6 (some 21)) 19 7 (some 22)) 19 8 (some 23)) 19 9 (some 24)) 18 0 (some 19)) 18 5 (some 25)) 18 6 (some 26)) 18 7 (some 27)) 18 8 (some 28)) 18 9 (some 29)) 18 10 (some 30)) 18 11 (some 31)) 18 12 (some 32)) 18 13 (some 33)) 18 14 (some 34)) 18 15 (some 35)), 37, 1960)) 59 [.ref 18] [] ((up2 (up2 (up2 (up2 z1.1 18 1 (0 : Int32)) 18 2 (0 : Int32)) 18 3 (1 : Int32)) 18 4 (0 : Int32)), z1.2) ((up2 (up2 (up2 (up2 (up2 (up2 (up2 (up2 (up2 R 19 5 (some 20)) 19 6 (some 21)) 19 7 (some 22)) 19 8 (some 23)) 19 9 (some 24)) 18 0 (some 19)) 18 5 (some 25)) 18 6 (some 26)) 18 7 (some 27)), 29, 1666)
  refine r_aload_n hX dX4_init_59 rfl ?_
  refine r_bipush (v := (40 : Int32)) hX dX4_init_60 (by decide) ?_
  refine r_newI (ci := 10) (N := 40) hX dX4_init_62 ac_int rfl (fun _ e => by cases e) rfl rfl (by decide) rfl (by decide) (by decide) (Nat.le_of_ble_eq_true rfl) (fr_fresh hF) (Nat.le_of_ble_eq_true rfl) (xr_le hr ⟨(Nat.le_of_ble_eq_true rfl), (Nat.le_of_ble_eq_true rfl)⟩) ?_
  show WR G X (mQ G X none zf ((up2 (up2 (up2 (up2 (up2 (up2 (up2 (up2 (up2 (up2 (up2 (up2 (up2 (up2 (up2 (up2 (up2 R 19 5 (some 20)) 19 6 (some 21)) 19 7 (some 22)) 19 8 (some 23)) 19 9 (some 24)) 18 0 (some 19)) 18 5 (some 25)) 18 6 (some 26)) 18 7 (some 27)) 18 8 (some 28)) 18 9 (some 29)) 18 10 (some 30)) 18 11 (some 31)) 18 12 (some 32)) 18 13 (some 33)) 18 14 (some 34)) 18 15 (some 35)), 37, 1960)) 64 [.ref 18] [.ref 28, .ref 18] ((up2 (up2 (up2 (up2 z1.1 18 1 (0 : Int32)) 18 2 (0 : Int32)) 18 3 (1 : Int32)) 18 4 (0 : Int32)), z1.2) ((up2 (up2 (up2 (up2 (up2 (up2 (up2 (up2 (up2 R 19 5 (some 20)) 19 6 (some 21)) 19 7 (some 22)) 19 8 (some 23)) 19 9 (some 24)) 18 0 (some 19)) 18 5 (some 25)) 18 6 (some 26)) 18 7 (some 27)), 30, 1706)
  have hF := fr_up (n' := 30) (by decide) hF
  refine r_putR hX hT dX4_init_64 fl_4_41 rfl (by decide) (Nat.le_of_ble_eq_true rfl) (Or.inr ⟨_, rfl⟩) ?_
  have hF := fr_R (a := 18) (j := 8) (b := 28) (by decide) hF
  show WR G X (mQ G X none zf ((up2 (up2 (up2 (up2 (up2 (up2 (up2 (up2 (up2 (up2 (up2 (up2 (up2 (up2 (up2 (up2 (up2 R 19 5 (some 20)) 19 6 (some 21)) 19 7 (some 22)) 19 8 (some 23)) 19 9 (some 24)) 18 0 (some 19)) 18 5 (some 25)) 18 6 (some 26)) 18 7 (some 27)) 18 8 (some 28)) 18 9 (some 29)) 18 10 (some 30)) 18 11 (some 31)) 18 12 (some 32)) 18 13 (some 33)) 18 14 (some 34)) 18 15 (some 35)), 37, 1960)) 67 [.ref 18] [] ((up2 (up2 (up2 (up2 z1.1 18 1 (0 : Int32)) 18 2 (0 : Int32)) 18 3 (1 : Int32)) 18 4 (0 : Int32)), z1.2) ((up2 (up2 (up2 (up2 (up2 (up2 (up2 (up2 (up2 (up2 R 19 5 (some 20)) 19 6 (some 21)) 19 7 (some 22)) 19 8 (some 23)) 19 9 (some 24)) 18 0 (some 19)) 18 5 (some 25)) 18 6 (some 26)) 18 7 (some 27)) 18 8 (some 28)), 30, 1706)
  refine r_aload_n hX dX4_init_67 rfl ?_
  refine r_bipush (v := (40 : Int32)) hX dX4_init_68 (by decide) ?_
  refine r_newI (ci := 10) (N := 40) hX dX4_init_70 ac_int rfl (fun _ e => by cases e) rfl rfl (by decide) rfl (by decide) (by decide) (Nat.le_of_ble_eq_true rfl) (fr_fresh hF) (Nat.le_of_ble_eq_true rfl) (xr_le hr ⟨(Nat.le_of_ble_eq_true rfl), (Nat.le_of_ble_eq_true rfl)⟩) ?_
  show WR G X (mQ G X none zf ((up2 (up2 (up2 (up2 (up2 (up2 (up2 (up2 (up2 (up2 (up2 (up2 (up2 (up2 (up2 (up2 (up2 R 19 5 (some 20)) 19 6 (some 21)) 19 7 (some 22)) 19 8 (some 23)) 19 9 (some 24)) 18 0 (some 19)) 18 5 (some 25)) 18 6 (some 26)) 18 7 (some 27)) 18 8 (some 28)) 18 9 (some 29)) 18 10 (some 30)) 18 11 (some 31)) 18 12 (some 32)) 18 13 (some 33)) 18 14 (some 34)) 18 15 (some 35)), 37, 1960)) 72 [.ref 18] [.ref 29, .ref 18] ((up2 (up2 (up2 (up2 z1.1 18 1 (0 : Int32)) 18 2 (0 : Int32)) 18 3 (1 : Int32)) 18 4 (0 : Int32)), z1.2) ((up2 (up2 (up2 (up2 (up2 (up2 (up2 (up2 (up2 (up2 R 19 5 (some 20)) 19 6 (some 21)) 19 7 (some 22)) 19 8 (some 23)) 19 9 (some 24)) 18 0 (some 19)) 18 5 (some 25)) 18 6 (some 26)) 18 7 (some 27)) 18 8 (some 28)), 31, 1746)
  have hF := fr_up (n' := 31) (by decide) hF
  refine r_putR hX hT dX4_init_72 fl_4_44 rfl (by decide) (Nat.le_of_ble_eq_true rfl) (Or.inr ⟨_, rfl⟩) ?_
  have hF := fr_R (a := 18) (j := 9) (b := 29) (by decide) hF
  show WR G X (mQ G X none zf ((up2 (up2 (up2 (up2 (up2 (up2 (up2 (up2 (up2 (up2 (up2 (up2 (up2 (up2 (up2 (up2 (up2 R 19 5 (some 20)) 19 6 (some 21)) 19 7 (some 22)) 19 8 (some 23)) 19 9 (some 24)) 18 0 (some 19)) 18 5 (some 25)) 18 6 (some 26)) 18 7 (some 27)) 18 8 (some 28)) 18 9 (some 29)) 18 10 (some 30)) 18 11 (some 31)) 18 12 (some 32)) 18 13 (some 33)) 18 14 (some 34)) 18 15 (some 35)), 37, 1960)) 75 [.ref 18] [] ((up2 (up2 (up2 (up2 z1.1 18 1 (0 : Int32)) 18 2 (0 : Int32)) 18 3 (1 : Int32)) 18 4 (0 : Int32)), z1.2) ((up2 (up2 (up2 (up2 (up2 (up2 (up2 (up2 (up2 (up2 (up2 R 19 5 (some 20)) 19 6 (some 21)) 19 7 (some 22)) 19 8 (some 23)) 19 9 (some 24)) 18 0 (some 19)) 18 5 (some 25)) 18 6 (some 26)) 18 7 (some 27)) 18 8 (some 28)) 18 9 (some 29)), 31, 1746)
  refine r_aload_n hX dX4_init_75 rfl ?_
  refine r_bipush (v := (40 : Int32)) hX dX4_init_76 (by decide) ?_
  refine r_newI (ci := 10) (N := 40) hX dX4_init_78 ac_int rfl (fun _ e => by cases e) rfl rfl (by decide) rfl (by decide) (by decide) (Nat.le_of_ble_eq_true rfl) (fr_fresh hF) (Nat.le_of_ble_eq_true rfl) (xr_le hr ⟨(Nat.le_of_ble_eq_true rfl), (Nat.le_of_ble_eq_true rfl)⟩) ?_
  show WR G X (mQ G X none zf ((up2 (up2 (up2 (up2 (up2 (up2 (up2 (up2 (up2 (up2 (up2 (up2 (up2 (up2 (up2 (up2 (up2 R 19 5 (some 20)) 19 6 (some 21)) 19 7 (some 22)) 19 8 (some 23)) 19 9 (some 24)) 18 0 (some 19)) 18 5 (some 25)) 18 6 (some 26)) 18 7 (some 27)) 18 8 (some 28)) 18 9 (some 29)) 18 10 (some 30)) 18 11 (some 31)) 18 12 (some 32)) 18 13 (some 33)) 18 14 (some 34)) 18 15 (some 35)), 37, 1960)) 80 [.ref 18] [.ref 30, .ref 18] ((up2 (up2 (up2 (up2 z1.1 18 1 (0 : Int32)) 18 2 (0 : Int32)) 18 3 (1 : Int32)) 18 4 (0 : Int32)), z1.2) ((up2 (up2 (up2 (up2 (up2 (up2 (up2 (up2 (up2 (up2 (up2 R 19 5 (some 20)) 19 6 (some 21)) 19 7 (some 22)) 19 8 (some 23)) 19 9 (some 24)) 18 0 (some 19)) 18 5 (some 25)) 18 6 (some 26)) 18 7 (some 27)) 18 8 (some 28)) 18 9 (some 29)), 32, 1786)
  have hF := fr_up (n' := 32) (by decide) hF
  refine r_putR hX hT dX4_init_80 fl_4_47 rfl (by decide) (Nat.le_of_ble_eq_true rfl) (Or.inr ⟨_, rfl⟩) ?_
  have hF := fr_R (a := 18) (j := 10) (b := 30) (by decide) hF
  show WR G X (mQ G X none zf ((up2 (up2 (up2 (up2 (up2 (up2 (up2 (up2 (up2 (up2 (up2 (up2 (up2 (up2 (up2 (up2 (up2 R 19 5 (some 20)) 19 6 (some 21)) 19 7 (some 22)) 19 8 (some 23)) 19 9 (some 24)) 18 0 (some 19)) 18 5 (some 25)) 18 6 (some 26)) 18 7 (some 27)) 18 8 (some 28)) 18 9 (some 29)) 18 10 (some 30)) 18 11 (some 31)) 18 12 (some 32)) 18 13 (some 33)) 18 14 (some 34)) 18 15 (some 35)), 37, 1960)) 83 [.ref 18] [] ((up2 (up2 (up2 (up2 z1.1 18 1 (0 : Int32)) 18 2 (0 : Int32)) 18 3 (1 : Int32)) 18 4 (0 : Int32)), z1.2) ((up2 (up2 (up2 (up2 (up2 (up2 (up2 (up2 (up2 (up2 (up2 (up2 R 19 5 (some 20)) 19 6 (some 21)) 19 7 (some 22)) 19 8 (some 23)) 19 9 (some 24)) 18 0 (some 19)) 18 5 (some 25)) 18 6 (some 26)) 18 7 (some 27)) 18 8 (some 28)) 18 9 (some 29)) 18 10 (some 30)), 32, 1786)
  refine r_aload_n hX dX4_init_83 rfl ?_
  refine r_bipush (v := (40 : Int32)) hX dX4_init_84 (by decide) ?_
  refine r_newI (ci := 10) (N := 40) hX dX4_init_86 ac_int rfl (fun _ e => by cases e) rfl rfl (by decide) rfl (by decide) (by decide) (Nat.le_of_ble_eq_true rfl) (fr_fresh hF) (Nat.le_of_ble_eq_true rfl) (xr_le hr ⟨(Nat.le_of_ble_eq_true rfl), (Nat.le_of_ble_eq_true rfl)⟩) ?_
  show WR G X (mQ G X none zf ((up2 (up2 (up2 (up2 (up2 (up2 (up2 (up2 (up2 (up2 (up2 (up2 (up2 (up2 (up2 (up2 (up2 R 19 5 (some 20)) 19 6 (some 21)) 19 7 (some 22)) 19 8 (some 23)) 19 9 (some 24)) 18 0 (some 19)) 18 5 (some 25)) 18 6 (some 26)) 18 7 (some 27)) 18 8 (some 28)) 18 9 (some 29)) 18 10 (some 30)) 18 11 (some 31)) 18 12 (some 32)) 18 13 (some 33)) 18 14 (some 34)) 18 15 (some 35)), 37, 1960)) 88 [.ref 18] [.ref 31, .ref 18] ((up2 (up2 (up2 (up2 z1.1 18 1 (0 : Int32)) 18 2 (0 : Int32)) 18 3 (1 : Int32)) 18 4 (0 : Int32)), z1.2) ((up2 (up2 (up2 (up2 (up2 (up2 (up2 (up2 (up2 (up2 (up2 (up2 R 19 5 (some 20)) 19 6 (some 21)) 19 7 (some 22)) 19 8 (some 23)) 19 9 (some 24)) 18 0 (some 19)) 18 5 (some 25)) 18 6 (some 26)) 18 7 (some 27)) 18 8 (some 28)) 18 9 (some 29)) 18 10 (some 30)), 33, 1826)
  have hF := fr_up (n' := 33) (by decide) hF
  refine r_putR hX hT dX4_init_88 fl_4_50 rfl (by decide) (Nat.le_of_ble_eq_true rfl) (Or.inr ⟨_, rfl⟩) ?_
  have hF := fr_R (a := 18) (j := 11) (b := 31) (by decide) hF
  show WR G X (mQ G X none zf ((up2 (up2 (up2 (up2 (up2 (up2 (up2 (up2 (up2 (up2 (up2 (up2 (up2 (up2 (up2 (up2 (up2 R 19 5 (some 20)) 19 6 (some 21)) 19 7 (some 22)) 19 8 (some 23)) 19 9 (some 24)) 18 0 (some 19)) 18 5 (some 25)) 18 6 (some 26)) 18 7 (some 27)) 18 8 (some 28)) 18 9 (some 29)) 18 10 (some 30)) 18 11 (some 31)) 18 12 (some 32)) 18 13 (some 33)) 18 14 (some 34)) 18 15 (some 35)), 37, 1960)) 91 [.ref 18] [] ((up2 (up2 (up2 (up2 z1.1 18 1 (0 : Int32)) 18 2 (0 : Int32)) 18 3 (1 : Int32)) 18 4 (0 : Int32)), z1.2) ((up2 (up2 (up2 (up2 (up2 (up2 (up2 (up2 (up2 (up2 (up2 (up2 (up2 R 19 5 (some 20)) 19 6 (some 21)) 19 7 (some 22)) 19 8 (some 23)) 19 9 (some 24)) 18 0 (some 19)) 18 5 (some 25)) 18 6 (some 26)) 18 7 (some 27)) 18 8 (some 28)) 18 9 (some 29)) 18 10 (some 30)) 18 11 (some 31)), 33, 1826)
  refine r_aload_n hX dX4_init_91 rfl ?_
  refine r_bipush (v := (40 : Int32)) hX dX4_init_92 (by decide) ?_
  refine r_newI (ci := 10) (N := 40) hX dX4_init_94 ac_int rfl (fun _ e => by cases e) rfl rfl (by decide) rfl (by decide) (by decide) (Nat.le_of_ble_eq_true rfl) (fr_fresh hF) (Nat.le_of_ble_eq_true rfl) (xr_le hr ⟨(Nat.le_of_ble_eq_true rfl), (Nat.le_of_ble_eq_true rfl)⟩) ?_
  show WR G X (mQ G X none zf ((up2 (up2 (up2 (up2 (up2 (up2 (up2 (up2 (up2 (up2 (up2 (up2 (up2 (up2 (up2 (up2 (up2 R 19 5 (some 20)) 19 6 (some 21)) 19 7 (some 22)) 19 8 (some 23)) 19 9 (some 24)) 18 0 (some 19)) 18 5 (some 25)) 18 6 (some 26)) 18 7 (some 27)) 18 8 (some 28)) 18 9 (some 29)) 18 10 (some 30)) 18 11 (some 31)) 18 12 (some 32)) 18 13 (some 33)) 18 14 (some 34)) 18 15 (some 35)), 37, 1960)) 96 [.ref 18] [.ref 32, .ref 18] ((up2 (up2 (up2 (up2 z1.1 18 1 (0 : Int32)) 18 2 (0 : Int32)) 18 3 (1 : Int32)) 18 4 (0 : Int32)), z1.2) ((up2 (up2 (up2 (up2 (up2 (up2 (up2 (up2 (up2 (up2 (up2 (up2 (up2 R 19 5 (some 20)) 19 6 (some 21)) 19 7 (some 22)) 19 8 (some 23)) 19 9 (some 24)) 18 0 (some 19)) 18 5 (some 25)) 18 6 (some 26)) 18 7 (some 27)) 18 8 (some 28)) 18 9 (some 29)) 18 10 (some 30)) 18 11 (some 31)), 34, 1866)
  have hF := fr_up (n' := 34) (by decide) hF
  refine r_putR hX hT dX4_init_96 fl_4_53 rfl (by decide) (Nat.le_of_ble_eq_true rfl) (Or.inr ⟨_, rfl⟩) ?_
  have hF := fr_R (a := 18) (j := 12) (b := 32) (by decide) hF
  show WR G X (mQ G X none zf ((up2 (up2 (up2 (up2 (up2 (up2 (up2 (up2 (up2 (up2 (up2 (up2 (up2 (up2 (up2 (up2 (up2 R 19 5 (some 20)) 19 6 (some 21)) 19 7 (some 22)) 19 8 (some 23)) 19 9 (some 24)) 18 0 (some 19)) 18 5 (some 25)) 18 6 (some 26)) 18 7 (some 27)) 18 8 (some 28)) 18 9 (some 29)) 18 10 (some 30)) 18 11 (some 31)) 18 12 (some 32)) 18 13 (some 33)) 18 14 (some 34)) 18 15 (some 35)), 37, 1960)) 99 [.ref 18] [] ((up2 (up2 (up2 (up2 z1.1 18 1 (0 : Int32)) 18 2 (0 : Int32)) 18 3 (1 : Int32)) 18 4 (0 : Int32)), z1.2) ((up2 (up2 (up2 (up2 (up2 (up2 (up2 (up2 (up2 (up2 (up2 (up2 (up2 (up2 R 19 5 (some 20)) 19 6 (some 21)) 19 7 (some 22)) 19 8 (some 23)) 19 9 (some 24)) 18 0 (some 19)) 18 5 (some 25)) 18 6 (some 26)) 18 7 (some 27)) 18 8 (some 28)) 18 9 (some 29)) 18 10 (some 30)) 18 11 (some 31)) 18 12 (some 32)), 34, 1866)
  refine r_aload_n hX dX4_init_99 rfl ?_
  refine r_bipush (v := (40 : Int32)) hX dX4_init_100 (by decide) ?_
  refine r_newJ (N := 40) hX dX4_init_102 ac_long rfl rfl (by decide) (by decide) (Nat.le_of_ble_eq_true rfl) (fr_fresh hF) (Nat.le_of_ble_eq_true rfl) (xr_le hr ⟨(Nat.le_of_ble_eq_true rfl), (Nat.le_of_ble_eq_true rfl)⟩) ?_
  show WR G X (mQ G X none zf ((up2 (up2 (up2 (up2 (up2 (up2 (up2 (up2 (up2 (up2 (up2 (up2 (up2 (up2 (up2 (up2 (up2 R 19 5 (some 20)) 19 6 (some 21)) 19 7 (some 22)) 19 8 (some 23)) 19 9 (some 24)) 18 0 (some 19)) 18 5 (some 25)) 18 6 (some 26)) 18 7 (some 27)) 18 8 (some 28)) 18 9 (some 29)) 18 10 (some 30)) 18 11 (some 31)) 18 12 (some 32)) 18 13 (some 33)) 18 14 (some 34)) 18 15 (some 35)), 37, 1960)) 104 [.ref 18] [.ref 33, .ref 18] ((up2 (up2 (up2 (up2 z1.1 18 1 (0 : Int32)) 18 2 (0 : Int32)) 18 3 (1 : Int32)) 18 4 (0 : Int32)), z1.2) ((up2 (up2 (up2 (up2 (up2 (up2 (up2 (up2 (up2 (up2 (up2 (up2 (up2 (up2 R 19 5 (some 20)) 19 6 (some 21)) 19 7 (some 22)) 19 8 (some 23)) 19 9 (some 24)) 18 0 (some 19)) 18 5 (some 25)) 18 6 (some 26)) 18 7 (some 27)) 18 8 (some 28)) 18 9 (some 29)) 18 10 (some 30)) 18 11 (some 31)) 18 12 (some 32)), 35, 1906)
  have hF := fr_up (n' := 35) (by decide) hF
  refine r_putR hX hT dX4_init_104 fl_4_56 rfl (by decide) (Nat.le_of_ble_eq_true rfl) (Or.inr ⟨_, rfl⟩) ?_
  have hF := fr_R (a := 18) (j := 13) (b := 33) (by decide) hF
  show WR G X (mQ G X none zf ((up2 (up2 (up2 (up2 (up2 (up2 (up2 (up2 (up2 (up2 (up2 (up2 (up2 (up2 (up2 (up2 (up2 R 19 5 (some 20)) 19 6 (some 21)) 19 7 (some 22)) 19 8 (some 23)) 19 9 (some 24)) 18 0 (some 19)) 18 5 (some 25)) 18 6 (some 26)) 18 7 (some 27)) 18 8 (some 28)) 18 9 (some 29)) 18 10 (some 30)) 18 11 (some 31)) 18 12 (some 32)) 18 13 (some 33)) 18 14 (some 34)) 18 15 (some 35)), 37, 1960)) 107 [.ref 18] [] ((up2 (up2 (up2 (up2 z1.1 18 1 (0 : Int32)) 18 2 (0 : Int32)) 18 3 (1 : Int32)) 18 4 (0 : Int32)), z1.2) ((up2 (up2 (up2 (up2 (up2 (up2 (up2 (up2 (up2 (up2 (up2 (up2 (up2 (up2 (up2 R 19 5 (some 20)) 19 6 (some 21)) 19 7 (some 22)) 19 8 (some 23)) 19 9 (some 24)) 18 0 (some 19)) 18 5 (some 25)) 18 6 (some 26)) 18 7 (some 27)) 18 8 (some 28)) 18 9 (some 29)) 18 10 (some 30)) 18 11 (some 31)) 18 12 (some 32)) 18 13 (some 33)), 35, 1906)
  refine r_aload_n hX dX4_init_107 rfl ?_
  refine r_bipush (v := (14 : Int32)) hX dX4_init_108 (by decide) ?_
  refine r_newJ (N := 14) hX dX4_init_110 ac_long rfl rfl (by decide) (by decide) (Nat.le_of_ble_eq_true rfl) (fr_fresh hF) (Nat.le_of_ble_eq_true rfl) (xr_le hr ⟨(Nat.le_of_ble_eq_true rfl), (Nat.le_of_ble_eq_true rfl)⟩) ?_
  show WR G X (mQ G X none zf ((up2 (up2 (up2 (up2 (up2 (up2 (up2 (up2 (up2 (up2 (up2 (up2 (up2 (up2 (up2 (up2 (up2 R 19 5 (some 20)) 19 6 (some 21)) 19 7 (some 22)) 19 8 (some 23)) 19 9 (some 24)) 18 0 (some 19)) 18 5 (some 25)) 18 6 (some 26)) 18 7 (some 27)) 18 8 (some 28)) 18 9 (some 29)) 18 10 (some 30)) 18 11 (some 31)) 18 12 (some 32)) 18 13 (some 33)) 18 14 (some 34)) 18 15 (some 35)), 37, 1960)) 112 [.ref 18] [.ref 34, .ref 18] ((up2 (up2 (up2 (up2 z1.1 18 1 (0 : Int32)) 18 2 (0 : Int32)) 18 3 (1 : Int32)) 18 4 (0 : Int32)), z1.2) ((up2 (up2 (up2 (up2 (up2 (up2 (up2 (up2 (up2 (up2 (up2 (up2 (up2 (up2 (up2 R 19 5 (some 20)) 19 6 (some 21)) 19 7 (some 22)) 19 8 (some 23)) 19 9 (some 24)) 18 0 (some 19)) 18 5 (some 25)) 18 6 (some 26)) 18 7 (some 27)) 18 8 (some 28)) 18 9 (some 29)) 18 10 (some 30)) 18 11 (some 31)) 18 12 (some 32)) 18 13 (some 33)), 36, 1920)
  have hF := fr_up (n' := 36) (by decide) hF
  refine r_putR hX hT dX4_init_112 fl_4_60 rfl (by decide) (Nat.le_of_ble_eq_true rfl) (Or.inr ⟨_, rfl⟩) ?_
  have hF := fr_R (a := 18) (j := 14) (b := 34) (by decide) hF
  show WR G X (mQ G X none zf ((up2 (up2 (up2 (up2 (up2 (up2 (up2 (up2 (up2 (up2 (up2 (up2 (up2 (up2 (up2 (up2 (up2 R 19 5 (some 20)) 19 6 (some 21)) 19 7 (some 22)) 19 8 (some 23)) 19 9 (some 24)) 18 0 (some 19)) 18 5 (some 25)) 18 6 (some 26)) 18 7 (some 27)) 18 8 (some 28)) 18 9 (some 29)) 18 10 (some 30)) 18 11 (some 31)) 18 12 (some 32)) 18 13 (some 33)) 18 14 (some 34)) 18 15 (some 35)), 37, 1960)) 115 [.ref 18] [] ((up2 (up2 (up2 (up2 z1.1 18 1 (0 : Int32)) 18 2 (0 : Int32)) 18 3 (1 : Int32)) 18 4 (0 : Int32)), z1.2) ((up2 (up2 (up2 (up2 (up2 (up2 (up2 (up2 (up2 (up2 (up2 (up2 (up2 (up2 (up2 (up2 R 19 5 (some 20)) 19 6 (some 21)) 19 7 (some 22)) 19 8 (some 23)) 19 9 (some 24)) 18 0 (some 19)) 18 5 (some 25)) 18 6 (some 26)) 18 7 (some 27)) 18 8 (some 28)) 18 9 (some 29)) 18 10 (some 30)) 18 11 (some 31)) 18 12 (some 32)) 18 13 (some 33)) 18 14 (some 34)), 36, 1920)
  refine r_aload_n hX dX4_init_115 rfl ?_
  refine r_bipush (v := (40 : Int32)) hX dX4_init_116 (by decide) ?_
  refine r_newI (ci := 10) (N := 40) hX dX4_init_118 ac_int rfl (fun _ e => by cases e) rfl rfl (by decide) rfl (by decide) (by decide) (Nat.le_of_ble_eq_true rfl) (fr_fresh hF) (Nat.le_of_ble_eq_true rfl) (xr_le hr ⟨(Nat.le_of_ble_eq_true rfl), (Nat.le_of_ble_eq_true rfl)⟩) ?_
  show WR G X (mQ G X none zf ((up2 (up2 (up2 (up2 (up2 (up2 (up2 (up2 (up2 (up2 (up2 (up2 (up2 (up2 (up2 (up2 (up2 R 19 5 (some 20)) 19 6 (some 21)) 19 7 (some 22)) 19 8 (some 23)) 19 9 (some 24)) 18 0 (some 19)) 18 5 (some 25)) 18 6 (some 26)) 18 7 (some 27)) 18 8 (some 28)) 18 9 (some 29)) 18 10 (some 30)) 18 11 (some 31)) 18 12 (some 32)) 18 13 (some 33)) 18 14 (some 34)) 18 15 (some 35)), 37, 1960)) 120 [.ref 18] [.ref 35, .ref 18] ((up2 (up2 (up2 (up2 z1.1 18 1 (0 : Int32)) 18 2 (0 : Int32)) 18 3 (1 : Int32)) 18 4 (0 : Int32)), z1.2) ((up2 (up2 (up2 (up2 (up2 (up2 (up2 (up2 (up2 (up2 (up2 (up2 (up2 (up2 (up2 (up2 R 19 5 (some 20)) 19 6 (some 21)) 19 7 (some 22)) 19 8 (some 23)) 19 9 (some 24)) 18 0 (some 19)) 18 5 (some 25)) 18 6 (some 26)) 18 7 (some 27)) 18 8 (some 28)) 18 9 (some 29)) 18 10 (some 30)) 18 11 (some 31)) 18 12 (some 32)) 18 13 (some 33)) 18 14 (some 34)), 37, 1960)
  have hF := fr_up (n' := 37) (by decide) hF
  refine r_putR hX hT dX4_init_120 fl_4_63 rfl (by decide) (Nat.le_of_ble_eq_true rfl) (Or.inr ⟨_, rfl⟩) ?_
  have hF := fr_R (a := 18) (j := 15) (b := 35) (by decide) hF
  show WR G X (mQ G X none zf ((up2 (up2 (up2 (up2 (up2 (up2 (up2 (up2 (up2 (up2 (up2 (up2 (up2 (up2 (up2 (up2 (up2 R 19 5 (some 20)) 19 6 (some 21)) 19 7 (some 22)) 19 8 (some 23)) 19 9 (some 24)) 18 0 (some 19)) 18 5 (some 25)) 18 6 (some 26)) 18 7 (some 27)) 18 8 (some 28)) 18 9 (some 29)) 18 10 (some 30)) 18 11 (some 31)) 18 12 (some 32)) 18 13 (some 33)) 18 14 (some 34)) 18 15 (some 35)), 37, 1960)) 123 [.ref 18] [] ((up2 (up2 (up2 (up2 z1.1 18 1 (0 : Int32)) 18 2 (0 : Int32)) 18 3 (1 : Int32)) 18 4 (0 : Int32)), z1.2) ((up2 (up2 (up2 (up2 (up2 (up2 (up2 (up2 (up2 (up2 (up2 (up2 (up2 (up2 (up2 (up2 (up2 R 19 5 (some 20)) 19 6 (some 21)) 19 7 (some 22)) 19 8 (some 23)) 19 9 (some 24)) 18 0 (some 19)) 18 5 (some 25)) 18 6 (some 26)) 18 7 (some 27)) 18 8 (some 28)) 18 9 (some 29)) 18 10 (some 30)) 18 11 (some 31)) 18 12 (some 32)) 18 13 (some 33)) 18 14 (some 34)) 18 15 (some 35)), 37, 1960)
  obtain rfl := Option.some.inj h
  exact r_vret hX hT dX4_init_123
theorem fr_St_init18 {n : Nat} {M zf : Mm} {R : Nat → Nat → Option Nat} (hF : fr 20 M R) (h : St_init18 n M = some zf) : fr 37 zf (up2 (up2 (up2 (up2 (up2 (up2 (up2 (up2 (up2 (up2 (up2 (up2 (up2 (up2 (up2 (up2 (up2 R 19 5 (some 20)) 19 6 (some 21)) 19 7 (some 22)) 19 8 (some 23)) 19 9 (some 24)) 18 0 (some 19)) 18 5 (some 25)) 18 6 (some 26)) 18 7 (some 27)) 18 8 (some 28)) 18 9 (some 29)) 18 10 (some 30)) 18 11 (some 31)) 18 12 (some 32)) 18 13 (some 33)) 18 14 (some 34)) 18 15 (some 35)) := by
  unfold St_init18 at h
  have hF := fr_eta hF
  have hF := fr_eta hF
  have hF := fr_up (n' := 21) (by decide) hF
  obtain ⟨z1, p1, h⟩ := bnd_s h
  have hF := fr_Nt_init19 hF p1
  have hF := fr_eta hF
  have hF := fr_R (a := 18) (j := 0) (b := 19) (by decide) hF
  have hF := fr_I (a := 18) (j := 1) (x := (0 : Int32)) (by decide) hF
  have hF := fr_I (a := 18) (j := 2) (x := (0 : Int32)) (by decide) hF
  have hF := fr_I (a := 18) (j := 3) (x := (1 : Int32)) (by decide) hF
  have hF := fr_I (a := 18) (j := 4) (x := (0 : Int32)) (by decide) hF
  have hF := fr_up (n' := 27) (by decide) hF
  have hF := fr_R (a := 18) (j := 5) (b := 25) (by decide) hF
  have hF := fr_up (n' := 28) (by decide) hF
  have hF := fr_R (a := 18) (j := 6) (b := 26) (by decide) hF
  have hF := fr_up (n' := 29) (by decide) hF
  have hF := fr_R (a := 18) (j := 7) (b := 27) (by decide) hF
  have hF := fr_up (n' := 30) (by decide) hF
  have hF := fr_R (a := 18) (j := 8) (b := 28) (by decide) hF
  have hF := fr_up (n' := 31) (by decide) hF
  have hF := fr_R (a := 18) (j := 9) (b := 29) (by decide) hF
  have hF := fr_up (n' := 32) (by decide) hF
  have hF := fr_R (a := 18) (j := 10) (b := 30) (by decide) hF
  have hF := fr_up (n' := 33) (by decide) hF
  have hF := fr_R (a := 18) (j := 11) (b := 31) (by decide) hF
  have hF := fr_up (n' := 34) (by decide) hF
  have hF := fr_R (a := 18) (j := 12) (b := 32) (by decide) hF
  have hF := fr_up (n' := 35) (by decide) hF
  have hF := fr_R (a := 18) (j := 13) (b := 33) (by decide) hF
  have hF := fr_up (n' := 36) (by decide) hF
  have hF := fr_R (a := 18) (j := 14) (b := 34) (by decide) hF
  have hF := fr_up (n' := 37) (by decide) hF
  have hF := fr_R (a := 18) (j := 15) (b := 35) (by decide) hF
  obtain rfl := Option.some.inj h
  exact hF
def Nt_init37 (n : Nat) (M : Mm) : Option Mm :=
  bnd (Nt_begin n 37 M) (fun z1 =>
  some z1)
set_option maxRecDepth 100000 in
theorem ok_Nt_init37 {G : Gm} {l : Launch} {d : Nat} (n : Nat) (M : Mm) {zf : Mm} {R : Nat → Nat → Option Nat} (hF : fr 39 M R) (h : Nt_init37 n M = some zf) : CK G l (d + 1) md_Nt_init [.ref 37] M (R, 39, 1986) none zf ((up2 (up2 (up2 (up2 (up2 R 37 5 (some 38)) 37 6 (some 39)) 37 7 (some 40)) 37 8 (some 41)) 37 9 (some 42)), 44, 2096) := by
  refine ck_of mk_Nt_init (Nat.le_of_ble_eq_true rfl) ⟨(Nat.le_of_ble_eq_true rfl), (Nat.le_of_ble_eq_true rfl)⟩ (fun X hX hT hSx hr hl => ?_)
  subst hl
  unfold Nt_init37 at h
  show WR G X (mQ G X none zf ((up2 (up2 (up2 (up2 (up2 R 37 5 (some 38)) 37 6 (some 39)) 37 7 (some 40)) 37 8 (some 41)) 37 9 (some 42)), 44, 2096)) 0 [.ref 37] [] M (R, 39, 1986)
  have hF := fr_eta hF
  refine r_aload_n hX dX1_init_0 rfl ?_
  refine r_objInit hX dX1_init_1 ml_1_3 rfl (Nat.le_of_ble_eq_true rfl) ?_
  refine r_aload_n hX dX1_init_4 rfl ?_
  refine r_iconst (v := (4 : Int32)) hX dX1_init_5 (by decide) ?_
  refine r_newI (ci := 10) (N := 4) hX dX1_init_6 ac_int rfl (fun _ e => by cases e) rfl rfl (by decide) rfl (by decide) (by decide) (Nat.le_of_ble_eq_true rfl) (fr_fresh hF) (Nat.le_of_ble_eq_true rfl) (xr_le hr ⟨(Nat.le_of_ble_eq_true rfl), (Nat.le_of_ble_eq_true rfl)⟩) ?_
  show WR G X (mQ G X none zf ((up2 (up2 (up2 (up2 (up2 R 37 5 (some 38)) 37 6 (some 39)) 37 7 (some 40)) 37 8 (some 41)) 37 9 (some 42)), 44, 2096)) 8 [.ref 37] [.ref 38, .ref 37] M (R, 40, 1990)
  have hF := fr_up (n' := 40) (by decide) hF
  refine r_putR hX hT dX1_init_8 fl_1_9 rfl (by decide) (Nat.le_of_ble_eq_true rfl) (Or.inr ⟨_, rfl⟩) ?_
  have hF := fr_R (a := 37) (j := 5) (b := 38) (by decide) hF
  show WR G X (mQ G X none zf ((up2 (up2 (up2 (up2 (up2 R 37 5 (some 38)) 37 6 (some 39)) 37 7 (some 40)) 37 8 (some 41)) 37 9 (some 42)), 44, 2096)) 11 [.ref 37] [] M ((up2 R 37 5 (some 38)), 40, 1990)
  refine r_aload_n hX dX1_init_11 rfl ?_
  refine r_bipush (v := (14 : Int32)) hX dX1_init_12 (by decide) ?_
  refine r_newI (ci := 10) (N := 14) hX dX1_init_14 ac_int rfl (fun _ e => by cases e) rfl rfl (by decide) rfl (by decide) (by decide) (Nat.le_of_ble_eq_true rfl) (fr_fresh hF) (Nat.le_of_ble_eq_true rfl) (xr_le hr ⟨(Nat.le_of_ble_eq_true rfl), (Nat.le_of_ble_eq_true rfl)⟩) ?_
  show WR G X (mQ G X none zf ((up2 (up2 (up2 (up2 (up2 R 37 5 (some 38)) 37 6 (some 39)) 37 7 (some 40)) 37 8 (some 41)) 37 9 (some 42)), 44, 2096)) 16 [.ref 37] [.ref 39, .ref 37] M ((up2 R 37 5 (some 38)), 41, 2004)
  have hF := fr_up (n' := 41) (by decide) hF
  refine r_putR hX hT dX1_init_16 fl_1_15 rfl (by decide) (Nat.le_of_ble_eq_true rfl) (Or.inr ⟨_, rfl⟩) ?_
  have hF := fr_R (a := 37) (j := 6) (b := 39) (by decide) hF
  show WR G X (mQ G X none zf ((up2 (up2 (up2 (up2 (up2 R 37 5 (some 38)) 37 6 (some 39)) 37 7 (some 40)) 37 8 (some 41)) 37 9 (some 42)), 44, 2096)) 19 [.ref 37] [] M ((up2 (up2 R 37 5 (some 38)) 37 6 (some 39)), 41, 2004)
  refine r_aload_n hX dX1_init_19 rfl ?_
  refine r_bipush (v := (14 : Int32)) hX dX1_init_20 (by decide) ?_
  refine r_newI (ci := 10) (N := 14) hX dX1_init_22 ac_int rfl (fun _ e => by cases e) rfl rfl (by decide) rfl (by decide) (by decide) (Nat.le_of_ble_eq_true rfl) (fr_fresh hF) (Nat.le_of_ble_eq_true rfl) (xr_le hr ⟨(Nat.le_of_ble_eq_true rfl), (Nat.le_of_ble_eq_true rfl)⟩) ?_
  show WR G X (mQ G X none zf ((up2 (up2 (up2 (up2 (up2 R 37 5 (some 38)) 37 6 (some 39)) 37 7 (some 40)) 37 8 (some 41)) 37 9 (some 42)), 44, 2096)) 24 [.ref 37] [.ref 40, .ref 37] M ((up2 (up2 R 37 5 (some 38)) 37 6 (some 39)), 42, 2018)
  have hF := fr_up (n' := 42) (by decide) hF
  refine r_putR hX hT dX1_init_24 fl_1_18 rfl (by decide) (Nat.le_of_ble_eq_true rfl) (Or.inr ⟨_, rfl⟩) ?_
  have hF := fr_R (a := 37) (j := 7) (b := 40) (by decide) hF
  show WR G X (mQ G X none zf ((up2 (up2 (up2 (up2 (up2 R 37 5 (some 38)) 37 6 (some 39)) 37 7 (some 40)) 37 8 (some 41)) 37 9 (some 42)), 44, 2096)) 27 [.ref 37] [] M ((up2 (up2 (up2 R 37 5 (some 38)) 37 6 (some 39)) 37 7 (some 40)), 42, 2018)
  refine r_aload_n hX dX1_init_27 rfl ?_
  refine r_bipush (v := (14 : Int32)) hX dX1_init_28 (by decide) ?_
  refine r_newI (ci := 10) (N := 14) hX dX1_init_30 ac_int rfl (fun _ e => by cases e) rfl rfl (by decide) rfl (by decide) (by decide) (Nat.le_of_ble_eq_true rfl) (fr_fresh hF) (Nat.le_of_ble_eq_true rfl) (xr_le hr ⟨(Nat.le_of_ble_eq_true rfl), (Nat.le_of_ble_eq_true rfl)⟩) ?_
  show WR G X (mQ G X none zf ((up2 (up2 (up2 (up2 (up2 R 37 5 (some 38)) 37 6 (some 39)) 37 7 (some 40)) 37 8 (some 41)) 37 9 (some 42)), 44, 2096)) 32 [.ref 37] [.ref 41, .ref 37] M ((up2 (up2 (up2 R 37 5 (some 38)) 37 6 (some 39)) 37 7 (some 40)), 43, 2032)
  have hF := fr_up (n' := 43) (by decide) hF
  refine r_putR hX hT dX1_init_32 fl_1_21 rfl (by decide) (Nat.le_of_ble_eq_true rfl) (Or.inr ⟨_, rfl⟩) ?_
  have hF := fr_R (a := 37) (j := 8) (b := 41) (by decide) hF
  show WR G X (mQ G X none zf ((up2 (up2 (up2 (up2 (up2 R 37 5 (some 38)) 37 6 (some 39)) 37 7 (some 40)) 37 8 (some 41)) 37 9 (some 42)), 44, 2096)) 35 [.ref 37] [] M ((up2 (up2 (up2 (up2 R 37 5 (some 38)) 37 6 (some 39)) 37 7 (some 40)) 37 8 (some 41)), 43, 2032)
  refine r_aload_n hX dX1_init_35 rfl ?_
  refine r_bipush (v := (64 : Int32)) hX dX1_init_36 (by decide) ?_
  refine r_newI (ci := 10) (N := 64) hX dX1_init_38 ac_int rfl (fun _ e => by cases e) rfl rfl (by decide) rfl (by decide) (by decide) (Nat.le_of_ble_eq_true rfl) (fr_fresh hF) (Nat.le_of_ble_eq_true rfl) (xr_le hr ⟨(Nat.le_of_ble_eq_true rfl), (Nat.le_of_ble_eq_true rfl)⟩) ?_
  show WR G X (mQ G X none zf ((up2 (up2 (up2 (up2 (up2 R 37 5 (some 38)) 37 6 (some 39)) 37 7 (some 40)) 37 8 (some 41)) 37 9 (some 42)), 44, 2096)) 40 [.ref 37] [.ref 42, .ref 37] M ((up2 (up2 (up2 (up2 R 37 5 (some 38)) 37 6 (some 39)) 37 7 (some 40)) 37 8 (some 41)), 44, 2096)
  have hF := fr_up (n' := 44) (by decide) hF
  refine r_putR hX hT dX1_init_40 fl_1_24 rfl (by decide) (Nat.le_of_ble_eq_true rfl) (Or.inr ⟨_, rfl⟩) ?_
  have hF := fr_R (a := 37) (j := 9) (b := 42) (by decide) hF
  show WR G X (mQ G X none zf ((up2 (up2 (up2 (up2 (up2 R 37 5 (some 38)) 37 6 (some 39)) 37 7 (some 40)) 37 8 (some 41)) 37 9 (some 42)), 44, 2096)) 43 [.ref 37] [] M ((up2 (up2 (up2 (up2 (up2 R 37 5 (some 38)) 37 6 (some 39)) 37 7 (some 40)) 37 8 (some 41)) 37 9 (some 42)), 44, 2096)
  refine r_aload_n hX dX1_init_43 rfl ?_
  obtain ⟨z1, p1, h⟩ := bnd_s h
  refine r_callV (As := []) (S1 := ((up2 (up2 (up2 (up2 (up2 R 37 5 (some 38)) 37 6 (some 39)) 37 7 (some 40)) 37 8 (some 41)) 37 9 (some 42)), 44, 2096)) hX dX1_init_44 mk_Nt_begin mi_Nt_begin ml_1_27 rfl rfl rfl rfl (by decide) (Nat.le_of_ble_eq_true rfl) (Nat.le_of_ble_eq_true rfl) (xr_le hr ⟨(Nat.le_of_ble_eq_true rfl), (Nat.le_of_ble_eq_true rfl)⟩) (okS_Nt_begin (d := d) n 37 M (nt_st st36) ⟨⟨(Nat.le_of_ble_eq_true rfl), (Nat.le_of_ble_eq_true rfl), (Nat.le_of_ble_eq_true rfl)⟩, rfl, rfl, rfl, rfl, rfl⟩ p1) ?_
  have hF := fr_same (Nt_begin_same p1) (by decide) hF
  have hF := fr_eta hF
  show WR G X (mQ G X none zf ((up2 (up2 (up2 (up2 (up2 R 37 5 (some 38)) 37 6 (some 39)) 37 7 (some 40)) 37 8 (some 41)) 37 9 (some 42)), 44, 2096)) 47 [.ref 37] [] z1 ((up2 (up2 (up2 (up2 (up2 R 37 5 (some 38)) 37 6 (some 39)) 37 7 (some 40)) 37 8 (some 41)) 37 9 (some 42)), 44, 2096)
  obtain rfl := Option.some.inj h
  exact r_vret hX hT dX1_init_47
theorem fr_Nt_init37 {n : Nat} {M zf : Mm} {R : Nat → Nat → Option Nat} (hF : fr 39 M R) (h : Nt_init37 n M = some zf) : fr 44 zf (up2 (up2 (up2 (up2 (up2 R 37 5 (some 38)) 37 6 (some 39)) 37 7 (some 40)) 37 8 (some 41)) 37 9 (some 42)) := by
  unfold Nt_init37 at h
  have hF := fr_eta hF
  have hF := fr_eta hF
  have hF := fr_up (n' := 40) (by decide) hF
  have hF := fr_R (a := 37) (j := 5) (b := 38) (by decide) hF
  have hF := fr_up (n' := 41) (by decide) hF
  have hF := fr_R (a := 37) (j := 6) (b := 39) (by decide) hF
  have hF := fr_up (n' := 42) (by decide) hF
  have hF := fr_R (a := 37) (j := 7) (b := 40) (by decide) hF
  have hF := fr_up (n' := 43) (by decide) hF
  have hF := fr_R (a := 37) (j := 8) (b := 41) (by decide) hF
  have hF := fr_up (n' := 44) (by decide) hF
  have hF := fr_R (a := 37) (j := 9) (b := 42) (by decide) hF
  obtain ⟨z1, p1, h⟩ := bnd_s h
  have hF := fr_same (Nt_begin_same p1) (by decide) hF
  have hF := fr_eta hF
  obtain rfl := Option.some.inj h
  exact hF
def St_init36 (n : Nat) (M : Mm) : Option Mm :=
  bnd (Nt_init37 n M) (fun z1 =>
  some ((up2 (up2 (up2 (up2 z1.1 36 1 (0 : Int32)) 36 2 (0 : Int32)) 36 3 (1 : Int32)) 36 4 (0 : Int32)), z1.2))
set_option maxRecDepth 100000 in
theorem ok_St_init36 {G : Gm} {l : Launch} {d : Nat} (n : Nat) (M : Mm) {zf : Mm} {R : Nat → Nat → Option Nat} (hF : fr 38 M R) (h : St_init36 n M = some zf) : CK G l (d + 2) md_St_init [.ref 36] M (R, 38, 1976) none zf ((up2 (up2 (up2 (up2 (up2 (up2 (up2 (up2 (up2 (up2 (up2 (up2 (up2 (up2 (up2 (up2 (up2 R 37 5 (some 38)) 37 6 (some 39)) 37 7 (some 40)) 37 8 (some 41)) 37 9 (some 42)) 36 0 (some 37)) 36 5 (some 43)) 36 6 (some 44)) 36 7 (some 45)) 36 8 (some 46)) 36 9 (some 47)) 36 10 (some 48)) 36 11 (some 49)) 36 12 (some 50)) 36 13 (some 51)) 36 14 (some 52)) 36 15 (some 53)), 55, 2510) := by
  refine ck_of mk_St_init (Nat.le_of_ble_eq_true rfl) ⟨(Nat.le_of_ble_eq_true rfl), (Nat.le_of_ble_eq_true rfl)⟩ (fun X hX hT hSx hr hl => ?_)
  subst hl
  unfold St_init36 at h
  show WR G X (mQ G X none zf ((up2 (up2 (up2 (up2 (up2 (up2 (up2 (up2 (up2 (up2 (up2 (up2 (up2 (up2 (up2 (up2 (up2 R 37 5 (some 38)) 37 6 (some 39)) 37 7 (some 40)) 37 8 (some 41)) 37 9 (some 42)) 36 0 (some 37)) 36 5 (some 43)) 36 6 (some 44)) 36 7 (some 45)) 36 8 (some 46)) 36 9 (some 47)) 36 10 (some 48)) 36 11 (some 49)) 36 12 (some 50)) 36 13 (some 51)) 36 14 (some 52)) 36 15 (some 53)), 55, 2510)) 0 [.ref 36] [] M (R, 38, 1976)
  have hF := fr_eta hF
  refine r_aload_n hX dX4_init_0 rfl ?_
  refine r_objInit hX dX4_init_1 ml_4_3 rfl (Nat.le_of_ble_eq_true rfl) ?_
  refine r_aload_n hX dX4_init_4 rfl ?_
  refine r_new (ci := 1) hX dX4_init_5 cl_4_9 in1 ini1 rfl (by decide) (fr_fresh hF) (Nat.le_of_ble_eq_true rfl) (xr_le hr ⟨(Nat.le_of_ble_eq_true rfl), (Nat.le_of_ble_eq_true rfl)⟩) ?_
  show WR G X (mQ G X none zf ((up2 (up2 (up2 (up2 (up2 (up2 (up2 (up2 (up2 (up2 (up2 (up2 (up2 (up2 (up2 (up2 (up2 R 37 5 (some 38)) 37 6 (some 39)) 37 7 (some 40)) 37 8 (some 41)) 37 9 (some 42)) 36 0 (some 37)) 36 5 (some 43)) 36 6 (some 44)) 36 7 (some 45)) 36 8 (some 46)) 36 9 (some 47)) 36 10 (some 48)) 36 11 (some 49)) 36 12 (some 50)) 36 13 (some 51)) 36 14 (some 52)) 36 15 (some 53)), 55, 2510)) 8 [.ref 36] [.ref 37, .ref 36] M (R, 39, 1986)
  have hF := fr_up (n' := 39) (by decide) hF
  refine r_dup hX dX4_init_8 rfl ?_
  obtain ⟨z1, p1, h⟩ := bnd_s h
  refine r_callI (As := []) (S1 := ((up2 (up2 (up2 (up2 (up2 R 37 5 (some 38)) 37 6 (some 39)) 37 7 (some 40)) 37 8 (some 41)) 37 9 (some 42)), 44, 2096)) hX dX4_init_9 mk_Nt_init mc_Nt_init ml_4_11 rfl rfl rfl (Nat.le_of_ble_eq_true rfl) (Nat.le_of_ble_eq_true rfl) (xr_le hr ⟨(Nat.le_of_ble_eq_true rfl), (Nat.le_of_ble_eq_true rfl)⟩) (ok_Nt_init37 (d := d + 0) n M hF p1) ?_
  have hF := fr_Nt_init37 hF p1
  have hF := fr_eta hF
  show WR G X (mQ G X none zf ((up2 (up2 (up2 (up2 (up2 (up2 (up2 (up2 (up2 (up2 (up2 (up2 (up2 (up2 (up2 (up2 (up2 R 37 5 (some 38)) 37 6 (some 39)) 37 7 (some 40)) 37 8 (some 41)) 37 9 (some 42)) 36 0 (some 37)) 36 5 (some 43)) 36 6 (some 44)) 36 7 (some 45)) 36 8 (some 46)) 36 9 (some 47)) 36 10 (some 48)) 36 11 (some 49)) 36 12 (some 50)) 36 13 (some 51)) 36 14 (some 52)) 36 15 (some 53)), 55, 2510)) 12 [.ref 36] [.ref 37, .ref 36] z1 ((up2 (up2 (up2 (up2 (up2 R 37 5 (some 38)) 37 6 (some 39)) 37 7 (some 40)) 37 8 (some 41)) 37 9 (some 42)), 44, 2096)
  refine r_putR hX hT dX4_init_12 fl_4_12 rfl (by decide) (Nat.le_of_ble_eq_true rfl) (Or.inl ⟨_, rfl⟩) ?_
  have hF := fr_R (a := 36) (j := 0) (b := 37) (by decide) hF
  show WR G X (mQ G X none zf ((up2 (up2 (up2 (up2 (up2 (up2 (up2 (up2 (up2 (up2 (up2 (up2 (up2 (up2 (up2 (up2 (up2 R 37 5 (some 38)) 37 6 (some 39)) 37 7 (some 40)) 37 8 (some 41)) 37 9 (some 42)) 36 0 (some 37)) 36 5 (some 43)) 36 6 (some 44)) 36 7 (some 45)) 36 8 (some 46)) 36 9 (some 47)) 36 10 (some 48)) 36 11 (some 49)) 36 12 (some 50)) 36 13 (some 51)) 36 14 (some 52)) 36 15 (some 53)), 55, 2510)) 15 [.ref 36] [] z1 ((up2 (up2 (up2 (up2 (up2 (up2 R 37 5 (some 38)) 37 6 (some 39)) 37 7 (some 40)) 37 8 (some 41)) 37 9 (some 42)) 36 0 (some 37)), 44, 2096)
  refine r_aload_n hX dX4_init_15 rfl ?_
  refine r_iconst (v := (0 : Int32)) hX dX4_init_16 (by decide) ?_
  refine r_putI hX dX4_init_17 fl_4_18 rfl (by decide) (Nat.le_of_ble_eq_true rfl) (okI_int _) ?_
  have hF := fr_I (a := 36) (j := 1) (x := (0 : Int32)) (by decide) hF
  refine r_aload_n hX dX4_init_20 rfl ?_
  refine r_iconst (v := (0 : Int32)) hX dX4_init_21 (by decide) ?_
  refine r_putI' hX dX4_init_22 fl_4_22 rfl (by decide) (Nat.le_of_ble_eq_true rfl) (okI_int _) ?_
  have hF := fr_I (a := 36) (j := 2) (x := (0 : Int32)) (by decide) hF
  refine r_aload_n hX dX4_init_25 rfl ?_
  refine r_iconst (v := (1 : Int32)) hX dX4_init_26 (by decide) ?_
  refine r_putI' hX dX4_init_27 fl_4_25 rfl (by decide) (Nat.le_of_ble_eq_true rfl) (okI_int _) ?_
  have hF := fr_I (a := 36) (j := 3) (x := (1 : Int32)) (by decide) hF
  refine r_aload_n hX dX4_init_30 rfl ?_
  refine r_iconst (v := (0 : Int32)) hX dX4_init_31 (by decide) ?_
  refine r_putI' hX dX4_init_32 fl_4_28 rfl (by decide) (Nat.le_of_ble_eq_true rfl) (okI_int _) ?_
  have hF := fr_I (a := 36) (j := 4) (x := (0 : Int32)) (by decide) hF
  refine r_aload_n hX dX4_init_35 rfl ?_
  refine r_bipush (v := (40 : Int32)) hX dX4_init_36 (by decide) ?_
  refine r_newI (ci := 10) (N := 40) hX dX4_init_38 ac_int rfl (fun _ e => by cases e) rfl rfl (by decide) rfl (by decide) (by decide) (Nat.le_of_ble_eq_true rfl) (fr_fresh hF) (Nat.le_of_ble_eq_true rfl) (xr_le hr ⟨(Nat.le_of_ble_eq_true rfl), (Nat.le_of_ble_eq_true rfl)⟩) ?_
  show WR G X (mQ G X none zf ((up2 (up2 (up2 (up2 (up2 (up2 (up2 (up2 (up2 (up2 (up2 (up2 (up2 (up2 (up2 (up2 (up2 R 37 5 (some 38)) 37 6 (some 39)) 37 7 (some 40)) 37 8 (some 41)) 37 9 (some 42)) 36 0 (some 37)) 36 5 (some 43)) 36 6 (some 44)) 36 7 (some 45)) 36 8 (some 46)) 36 9 (some 47)) 36 10 (some 48)) 36 11 (some 49)) 36 12 (some 50)) 36 13 (some 51)) 36 14 (some 52)) 36 15 (some 53)), 55, 2510)) 40 [.ref 36] [.ref 43, .ref 36] ((up2 (up2 (up2 (up2 z1.1 36 1 (0 : Int32)) 36 2 (0 : Int32)) 36 3 (1 : Int32)) 36 4 (0 : Int32)), z1.2) ((up2 (up2 (up2 (up2 (up2 (up2 R 37 5 (some 38)) 37 6 (some 39)) 37 7 (some 40)) 37 8 (some 41)) 37 9 (some 42)) 36 0 (some 37)), 45, 2136)
  have hF := fr_up (n' := 45) (by decide) hF
  refine r_putR hX hT dX4_init_40 fl_4_31 rfl (by decide) (Nat.le_of_ble_eq_true rfl) (Or.inr ⟨_, rfl⟩) ?_
  have hF := fr_R (a := 36) (j := 5) (b := 43) (by decide) hF
  show WR G X (mQ G X none zf ((up2 (up2 (up2 (up2 (up2 (up2 (up2 (up2 (up2 (up2 (up2 (up2 (up2 (up2 (up2 (up2 (up2 R 37 5 (some 38)) 37 6 (some 39)) 37 7 (some 40)) 37 8 (some 41)) 37 9 (some 42)) 36 0 (some 37)) 36 5 (some 43)) 36 6 (some 44)) 36 7 (some 45)) 36 8 (some 46)) 36 9 (some 47)) 36 10 (some 48)) 36 11 (some 49)) 36 12 (some 50)) 36 13 (some 51)) 36 14 (some 52)) 36 15 (some 53)), 55, 2510)) 43 [.ref 36] [] ((up2 (up2 (up2 (up2 z1.1 36 1 (0 : Int32)) 36 2 (0 : Int32)) 36 3 (1 : Int32)) 36 4 (0 : Int32)), z1.2) ((up2 (up2 (up2 (up2 (up2 (up2 (up2 R 37 5 (some 38)) 37 6 (some 39)) 37 7 (some 40)) 37 8 (some 41)) 37 9 (some 42)) 36 0 (some 37)) 36 5 (some 43)), 45, 2136)
  refine r_aload_n hX dX4_init_43 rfl ?_
  refine r_bipush (v := (40 : Int32)) hX dX4_init_44 (by decide) ?_
  refine r_newI (ci := 10) (N := 40) hX dX4_init_46 ac_int rfl (fun _ e => by cases e) rfl rfl (by decide) rfl (by decide) (by decide) (Nat.le_of_ble_eq_true rfl) (fr_fresh hF) (Nat.le_of_ble_eq_true rfl) (xr_le hr ⟨(Nat.le_of_ble_eq_true rfl), (Nat.le_of_ble_eq_true rfl)⟩) ?_
  show WR G X (mQ G X none zf ((up2 (up2 (up2 (up2 (up2 (up2 (up2 (up2 (up2 (up2 (up2 (up2 (up2 (up2 (up2 (up2 (up2 R 37 5 (some 38)) 37 6 (some 39)) 37 7 (some 40)) 37 8 (some 41)) 37 9 (some 42)) 36 0 (some 37)) 36 5 (some 43)) 36 6 (some 44)) 36 7 (some 45)) 36 8 (some 46)) 36 9 (some 47)) 36 10 (some 48)) 36 11 (some 49)) 36 12 (some 50)) 36 13 (some 51)) 36 14 (some 52)) 36 15 (some 53)), 55, 2510)) 48 [.ref 36] [.ref 44, .ref 36] ((up2 (up2 (up2 (up2 z1.1 36 1 (0 : Int32)) 36 2 (0 : Int32)) 36 3 (1 : Int32)) 36 4 (0 : Int32)), z1.2) ((up2 (up2 (up2 (up2 (up2 (up2 (up2 R 37 5 (some 38)) 37 6 (some 39)) 37 7 (some 40)) 37 8 (some 41)) 37 9 (some 42)) 36 0 (some 37)) 36 5 (some 43)), 46, 2176)
  have hF := fr_up (n' := 46) (by decide) hF
  refine r_putR hX hT dX4_init_48 fl_4_35 rfl (by decide) (Nat.le_of_ble_eq_true rfl) (Or.inr ⟨_, rfl⟩) ?_
  have hF := fr_R (a := 36) (j := 6) (b := 44) (by decide) hF
  show WR G X (mQ G X none zf ((up2 (up2 (up2 (up2 (up2 (up2 (up2 (up2 (up2 (up2 (up2 (up2 (up2 (up2 (up2 (up2 (up2 R 37 5 (some 38)) 37 6 (some 39)) 37 7 (some 40)) 37 8 (some 41)) 37 9 (some 42)) 36 0 (some 37)) 36 5 (some 43)) 36 6 (some 44)) 36 7 (some 45)) 36 8 (some 46)) 36 9 (some 47)) 36 10 (some 48)) 36 11 (some 49)) 36 12 (some 50)) 36 13 (some 51)) 36 14 (some 52)) 36 15 (some 53)), 55, 2510)) 51 [.ref 36] [] ((up2 (up2 (up2 (up2 z1.1 36 1 (0 : Int32)) 36 2 (0 : Int32)) 36 3 (1 : Int32)) 36 4 (0 : Int32)), z1.2) ((up2 (up2 (up2 (up2 (up2 (up2 (up2 (up2 R 37 5 (some 38)) 37 6 (some 39)) 37 7 (some 40)) 37 8 (some 41)) 37 9 (some 42)) 36 0 (some 37)) 36 5 (some 43)) 36 6 (some 44)), 46, 2176)
  refine r_aload_n hX dX4_init_51 rfl ?_
  refine r_bipush (v := (40 : Int32)) hX dX4_init_52 (by decide) ?_
  refine r_newI (ci := 10) (N := 40) hX dX4_init_54 ac_int rfl (fun _ e => by cases e) rfl rfl (by decide) rfl (by decide) (by decide) (Nat.le_of_ble_eq_true rfl) (fr_fresh hF) (Nat.le_of_ble_eq_true rfl) (xr_le hr ⟨(Nat.le_of_ble_eq_true rfl), (Nat.le_of_ble_eq_true rfl)⟩) ?_
  show WR G X (mQ G X none zf ((up2 (up2 (up2 (up2 (up2 (up2 (up2 (up2 (up2 (up2 (up2 (up2 (up2 (up2 (up2 (up2 (up2 R 37 5 (some 38)) 37 6 (some 39)) 37 7 (some 40)) 37 8 (some 41)) 37 9 (some 42)) 36 0 (some 37)) 36 5 (some 43)) 36 6 (some 44)) 36 7 (some 45)) 36 8 (some 46)) 36 9 (some 47)) 36 10 (some 48)) 36 11 (some 49)) 36 12 (some 50)) 36 13 (some 51)) 36 14 (some 52)) 36 15 (some 53)), 55, 2510)) 56 [.ref 36] [.ref 45, .ref 36] ((up2 (up2 (up2 (up2 z1.1 36 1 (0 : Int32)) 36 2 (0 : Int32)) 36 3 (1 : Int32)) 36 4 (0 : Int32)), z1.2) ((up2 (up2 (up2 (up2 (up2 (up2 (up2 (up2 R 37 5 (some 38)) 37 6 (some 39)) 37 7 (some 40)) 37 8 (some 41)) 37 9 (some 42)) 36 0 (some 37)) 36 5 (some 43)) 36 6 (some 44)), 47, 2216)
  have hF := fr_up (n' := 47) (by decide) hF
  refine r_putR hX hT dX4_init_56 fl_4_38 rfl (by decide) (Nat.le_of_ble_eq_true rfl) (Or.inr ⟨_, rfl⟩) ?_
  have hF := fr_R (a := 36) (j := 7) (b := 45) (by decide) hF
  show WR G X (mQ G X none zf ((up2 (up2 (up2 (up2 (up2 (up2 (up2 (up2 (up2 (up2 (up2 (up2 (up2 (up2 (up2 (up2 (up2 R 37 5 (some 38)) 37 6 (some 39)) 37 7 (some 40)) 37 8 (some 41)) 37 9 (some 42)) 36 0 (some 37)) 36 5 (some 43)) 36 6 (some 44)) 36 7 (some 45)) 36 8 (some 46)) 36 9 (some 47)) 36 10 (some 48)) 36 11 (some 49)) 36 12 (some 50)) 36 13 (some 51)) 36 14 (some 52)) 36 15 (some 53)), 55, 2510)) 59 [.ref 36] [] ((up2 (up2 (up2 (up2 z1.1 36 1 (0 : Int32)) 36 2 (0 : Int32)) 36 3 (1 : Int32)) 36 4 (0 : Int32)), z1.2) ((up2 (up2 (up2 (up2 (up2 (up2 (up2 (up2 (up2 R 37 5 (some 38)) 37 6 (some 39)) 37 7 (some 40)) 37 8 (some 41)) 37 9 (some 42)) 36 0 (some 37)) 36 5 (some 43)) 36 6 (some 44)) 36 7 (some 45)), 47, 2216)
  refine r_aload_n hX dX4_init_59 rfl ?_
  refine r_bipush (v := (40 : Int32)) hX dX4_init_60 (by decide) ?_
  refine r_newI (ci := 10) (N := 40) hX dX4_init_62 ac_int rfl (fun _ e => by cases e) rfl rfl (by decide) rfl (by decide) (by decide) (Nat.le_of_ble_eq_true rfl) (fr_fresh hF) (Nat.le_of_ble_eq_true rfl) (xr_le hr ⟨(Nat.le_of_ble_eq_true rfl), (Nat.le_of_ble_eq_true rfl)⟩) ?_
  show WR G X (mQ G X none zf ((up2 (up2 (up2 (up2 (up2 (up2 (up2 (up2 (up2 (up2 (up2 (up2 (up2 (up2 (up2 (up2 (up2 R 37 5 (some 38)) 37 6 (some 39)) 37 7 (some 40)) 37 8 (some 41)) 37 9 (some 42)) 36 0 (some 37)) 36 5 (some 43)) 36 6 (some 44)) 36 7 (some 45)) 36 8 (some 46)) 36 9 (some 47)) 36 10 (some 48)) 36 11 (some 49)) 36 12 (some 50)) 36 13 (some 51)) 36 14 (some 52)) 36 15 (some 53)), 55, 2510)) 64 [.ref 36] [.ref 46, .ref 36] ((up2 (up2 (up2 (up2 z1.1 36 1 (0 : Int32)) 36 2 (0 : Int32)) 36 3 (1 : Int32)) 36 4 (0 : Int32)), z1.2) ((up2 (up2 (up2 (up2 (up2 (up2 (up2 (up2 (up2 R 37 5 (some 38)) 37 6 (some 39)) 37 7 (some 40)) 37 8 (some 41)) 37 9 (some 42)) 36 0 (some 37)) 36 5 (some 43)) 36 6 (some 44)) 36 7 (some 45)), 48, 2256)
  have hF := fr_up (n' := 48) (by decide) hF
  refine r_putR hX hT dX4_init_64 fl_4_41 rfl (by decide) (Nat.le_of_ble_eq_true rfl) (Or.inr ⟨_, rfl⟩) ?_
  have hF := fr_R (a := 36) (j := 8) (b := 46) (by decide) hF
  show WR G X (mQ G X none zf ((up2 (up2 (up2 (up2 (up2 (up2 (up2 (up2 (up2 (up2 (up2 (up2 (up2 (up2 (up2 (up2 (up2 R 37 5 (some 38)) 37 6 (some 39)) 37 7 (some 40)) 37 8 (some 41)) 37 9 (some 42)) 36 0 (some 37)) 36 5 (some 43)) 36 6 (some 44)) 36 7 (some 45)) 36 8 (some 46)) 36 9 (some 47)) 36 10 (some 48)) 36 11 (some 49)) 36 12 (some 50)) 36 13 (some 51)) 36 14 (some 52)) 36 15 (some 53)), 55, 2510)) 67 [.ref 36] [] ((up2 (up2 (up2 (up2 z1.1 36 1 (0 : Int32)) 36 2 (0 : Int32)) 36 3 (1 : Int32)) 36 4 (0 : Int32)), z1.2) ((up2 (up2 (up2 (up2 (up2 (up2 (up2 (up2 (up2 (up2 R 37 5 (some 38)) 37 6 (some 39)) 37 7 (some 40)) 37 8 (some 41)) 37 9 (some 42)) 36 0 (some 37)) 36 5 (some 43)) 36 6 (some 44)) 36 7 (some 45)) 36 8 (some 46)), 48, 2256)
  refine r_aload_n hX dX4_init_67 rfl ?_
  refine r_bipush (v := (40 : Int32)) hX dX4_init_68 (by decide) ?_
  refine r_newI (ci := 10) (N := 40) hX dX4_init_70 ac_int rfl (fun _ e => by cases e) rfl rfl (by decide) rfl (by decide) (by decide) (Nat.le_of_ble_eq_true rfl) (fr_fresh hF) (Nat.le_of_ble_eq_true rfl) (xr_le hr ⟨(Nat.le_of_ble_eq_true rfl), (Nat.le_of_ble_eq_true rfl)⟩) ?_
  show WR G X (mQ G X none zf ((up2 (up2 (up2 (up2 (up2 (up2 (up2 (up2 (up2 (up2 (up2 (up2 (up2 (up2 (up2 (up2 (up2 R 37 5 (some 38)) 37 6 (some 39)) 37 7 (some 40)) 37 8 (some 41)) 37 9 (some 42)) 36 0 (some 37)) 36 5 (some 43)) 36 6 (some 44)) 36 7 (some 45)) 36 8 (some 46)) 36 9 (some 47)) 36 10 (some 48)) 36 11 (some 49)) 36 12 (some 50)) 36 13 (some 51)) 36 14 (some 52)) 36 15 (some 53)), 55, 2510)) 72 [.ref 36] [.ref 47, .ref 36] ((up2 (up2 (up2 (up2 z1.1 36 1 (0 : Int32)) 36 2 (0 : Int32)) 36 3 (1 : Int32)) 36 4 (0 : Int32)), z1.2) ((up2 (up2 (up2 (up2 (up2 (up2 (up2 (up2 (up2 (up2 R 37 5 (some 38)) 37 6 (some 39)) 37 7 (some 40)) 37 8 (some 41)) 37 9 (some 42)) 36 0 (some 37)) 36 5 (some 43)) 36 6 (some 44)) 36 7 (some 45)) 36 8 (some 46)), 49, 2296)
  have hF := fr_up (n' := 49) (by decide) hF
  refine r_putR hX hT dX4_init_72 fl_4_44 rfl (by decide) (Nat.le_of_ble_eq_true rfl) (Or.inr ⟨_, rfl⟩) ?_
  have hF := fr_R (a := 36) (j := 9) (b := 47) (by decide) hF
  show WR G X (mQ G X none zf ((up2 (up2 (up2 (up2 (up2 (up2 (up2 (up2 (up2 (up2 (up2 (up2 (up2 (up2 (up2 (up2 (up2 R 37 5 (some 38)) 37 6 (some 39)) 37 7 (some 40)) 37 8 (some 41)) 37 9 (some 42)) 36 0 (some 37)) 36 5 (some 43)) 36 6 (some 44)) 36 7 (some 45)) 36 8 (some 46)) 36 9 (some 47)) 36 10 (some 48)) 36 11 (some 49)) 36 12 (some 50)) 36 13 (some 51)) 36 14 (some 52)) 36 15 (some 53)), 55, 2510)) 75 [.ref 36] [] ((up2 (up2 (up2 (up2 z1.1 36 1 (0 : Int32)) 36 2 (0 : Int32)) 36 3 (1 : Int32)) 36 4 (0 : Int32)), z1.2) ((up2 (up2 (up2 (up2 (up2 (up2 (up2 (up2 (up2 (up2 (up2 R 37 5 (some 38)) 37 6 (some 39)) 37 7 (some 40)) 37 8 (some 41)) 37 9 (some 42)) 36 0 (some 37)) 36 5 (some 43)) 36 6 (some 44)) 36 7 (some 45)) 36 8 (some 46)) 36 9 (some 47)), 49, 2296)
  refine r_aload_n hX dX4_init_75 rfl ?_
  refine r_bipush (v := (40 : Int32)) hX dX4_init_76 (by decide) ?_
  refine r_newI (ci := 10) (N := 40) hX dX4_init_78 ac_int rfl (fun _ e => by cases e) rfl rfl (by decide) rfl (by decide) (by decide) (Nat.le_of_ble_eq_true rfl) (fr_fresh hF) (Nat.le_of_ble_eq_true rfl) (xr_le hr ⟨(Nat.le_of_ble_eq_true rfl), (Nat.le_of_ble_eq_true rfl)⟩) ?_
  show WR G X (mQ G X none zf ((up2 (up2 (up2 (up2 (up2 (up2 (up2 (up2 (up2 (up2 (up2 (up2 (up2 (up2 (up2 (up2 (up2 R 37 5 (some 38)) 37 6 (some 39)) 37 7 (some 40)) 37 8 (some 41)) 37 9 (some 42)) 36 0 (some 37)) 36 5 (some 43)) 36 6 (some 44)) 36 7 (some 45)) 36 8 (some 46)) 36 9 (some 47)) 36 10 (some 48)) 36 11 (some 49)) 36 12 (some 50)) 36 13 (some 51)) 36 14 (some 52)) 36 15 (some 53)), 55, 2510)) 80 [.ref 36] [.ref 48, .ref 36] ((up2 (up2 (up2 (up2 z1.1 36 1 (0 : Int32)) 36 2 (0 : Int32)) 36 3 (1 : Int32)) 36 4 (0 : Int32)), z1.2) ((up2 (up2 (up2 (up2 (up2 (up2 (up2 (up2 (up2 (up2 (up2 R 37 5 (some 38)) 37 6 (some 39)) 37 7 (some 40)) 37 8 (some 41)) 37 9 (some 42)) 36 0 (some 37)) 36 5 (some 43)) 36 6 (some 44)) 36 7 (some 45)) 36 8 (some 46)) 36 9 (some 47)), 50, 2336)
  have hF := fr_up (n' := 50) (by decide) hF
  refine r_putR hX hT dX4_init_80 fl_4_47 rfl (by decide) (Nat.le_of_ble_eq_true rfl) (Or.inr ⟨_, rfl⟩) ?_
  have hF := fr_R (a := 36) (j := 10) (b := 48) (by decide) hF
  show WR G X (mQ G X none zf ((up2 (up2 (up2 (up2 (up2 (up2 (up2 (up2 (up2 (up2 (up2 (up2 (up2 (up2 (up2 (up2 (up2 R 37 5 (some 38)) 37 6 (some 39)) 37 7 (some 40)) 37 8 (some 41)) 37 9 (some 42)) 36 0 (some 37)) 36 5 (some 43)) 36 6 (some 44)) 36 7 (some 45)) 36 8 (some 46)) 36 9 (some 47)) 36 10 (some 48)) 36 11 (some 49)) 36 12 (some 50)) 36 13 (some 51)) 36 14 (some 52)) 36 15 (some 53)), 55, 2510)) 83 [.ref 36] [] ((up2 (up2 (up2 (up2 z1.1 36 1 (0 : Int32)) 36 2 (0 : Int32)) 36 3 (1 : Int32)) 36 4 (0 : Int32)), z1.2) ((up2 (up2 (up2 (up2 (up2 (up2 (up2 (up2 (up2 (up2 (up2 (up2 R 37 5 (some 38)) 37 6 (some 39)) 37 7 (some 40)) 37 8 (some 41)) 37 9 (some 42)) 36 0 (some 37)) 36 5 (some 43)) 36 6 (some 44)) 36 7 (some 45)) 36 8 (some 46)) 36 9 (some 47)) 36 10 (some 48)), 50, 2336)
  refine r_aload_n hX dX4_init_83 rfl ?_
  refine r_bipush (v := (40 : Int32)) hX dX4_init_84 (by decide) ?_
  refine r_newI (ci := 10) (N := 40) hX dX4_init_86 ac_int rfl (fun _ e => by cases e) rfl rfl (by decide) rfl (by decide) (by decide) (Nat.le_of_ble_eq_true rfl) (fr_fresh hF) (Nat.le_of_ble_eq_true rfl) (xr_le hr ⟨(Nat.le_of_ble_eq_true rfl), (Nat.le_of_ble_eq_true rfl)⟩) ?_
  show WR G X (mQ G X none zf ((up2 (up2 (up2 (up2 (up2 (up2 (up2 (up2 (up2 (up2 (up2 (up2 (up2 (up2 (up2 (up2 (up2 R 37 5 (some 38)) 37 6 (some 39)) 37 7 (some 40)) 37 8 (some 41)) 37 9 (some 42)) 36 0 (some 37)) 36 5 (some 43)) 36 6 (some 44)) 36 7 (some 45)) 36 8 (some 46)) 36 9 (some 47)) 36 10 (some 48)) 36 11 (some 49)) 36 12 (some 50)) 36 13 (some 51)) 36 14 (some 52)) 36 15 (some 53)), 55, 2510)) 88 [.ref 36] [.ref 49, .ref 36] ((up2 (up2 (up2 (up2 z1.1 36 1 (0 : Int32)) 36 2 (0 : Int32)) 36 3 (1 : Int32)) 36 4 (0 : Int32)), z1.2) ((up2 (up2 (up2 (up2 (up2 (up2 (up2 (up2 (up2 (up2 (up2 (up2 R 37 5 (some 38)) 37 6 (some 39)) 37 7 (some 40)) 37 8 (some 41)) 37 9 (some 42)) 36 0 (some 37)) 36 5 (some 43)) 36 6 (some 44)) 36 7 (some 45)) 36 8 (some 46)) 36 9 (some 47)) 36 10 (some 48)), 51, 2376)
  have hF := fr_up (n' := 51) (by decide) hF
  refine r_putR hX hT dX4_init_88 fl_4_50 rfl (by decide) (Nat.le_of_ble_eq_true rfl) (Or.inr ⟨_, rfl⟩) ?_
  have hF := fr_R (a := 36) (j := 11) (b := 49) (by decide) hF
  show WR G X (mQ G X none zf ((up2 (up2 (up2 (up2 (up2 (up2 (up2 (up2 (up2 (up2 (up2 (up2 (up2 (up2 (up2 (up2 (up2 R 37 5 (some 38)) 37 6 (some 39)) 37 7 (some 40)) 37 8 (some 41)) 37 9 (some 42)) 36 0 (some 37)) 36 5 (some 43)) 36 6 (some 44)) 36 7 (some 45)) 36 8 (some 46)) 36 9 (some 47)) 36 10 (some 48)) 36 11 (some 49)) 36 12 (some 50)) 36 13 (some 51)) 36 14 (some 52)) 36 15 (some 53)), 55, 2510)) 91 [.ref 36] [] ((up2 (up2 (up2 (up2 z1.1 36 1 (0 : Int32)) 36 2 (0 : Int32)) 36 3 (1 : Int32)) 36 4 (0 : Int32)), z1.2) ((up2 (up2 (up2 (up2 (up2 (up2 (up2 (up2 (up2 (up2 (up2 (up2 (up2 R 37 5 (some 38)) 37 6 (some 39)) 37 7 (some 40)) 37 8 (some 41)) 37 9 (some 42)) 36 0 (some 37)) 36 5 (some 43)) 36 6 (some 44)) 36 7 (some 45)) 36 8 (some 46)) 36 9 (some 47)) 36 10 (some 48)) 36 11 (some 49)), 51, 2376)
  refine r_aload_n hX dX4_init_91 rfl ?_
  refine r_bipush (v := (40 : Int32)) hX dX4_init_92 (by decide) ?_
  refine r_newI (ci := 10) (N := 40) hX dX4_init_94 ac_int rfl (fun _ e => by cases e) rfl rfl (by decide) rfl (by decide) (by decide) (Nat.le_of_ble_eq_true rfl) (fr_fresh hF) (Nat.le_of_ble_eq_true rfl) (xr_le hr ⟨(Nat.le_of_ble_eq_true rfl), (Nat.le_of_ble_eq_true rfl)⟩) ?_
  show WR G X (mQ G X none zf ((up2 (up2 (up2 (up2 (up2 (up2 (up2 (up2 (up2 (up2 (up2 (up2 (up2 (up2 (up2 (up2 (up2 R 37 5 (some 38)) 37 6 (some 39)) 37 7 (some 40)) 37 8 (some 41)) 37 9 (some 42)) 36 0 (some 37)) 36 5 (some 43)) 36 6 (some 44)) 36 7 (some 45)) 36 8 (some 46)) 36 9 (some 47)) 36 10 (some 48)) 36 11 (some 49)) 36 12 (some 50)) 36 13 (some 51)) 36 14 (some 52)) 36 15 (some 53)), 55, 2510)) 96 [.ref 36] [.ref 50, .ref 36] ((up2 (up2 (up2 (up2 z1.1 36 1 (0 : Int32)) 36 2 (0 : Int32)) 36 3 (1 : Int32)) 36 4 (0 : Int32)), z1.2) ((up2 (up2 (up2 (up2 (up2 (up2 (up2 (up2 (up2 (up2 (up2 (up2 (up2 R 37 5 (some 38)) 37 6 (some 39)) 37 7 (some 40)) 37 8 (some 41)) 37 9 (some 42)) 36 0 (some 37)) 36 5 (some 43)) 36 6 (some 44)) 36 7 (some 45)) 36 8 (some 46)) 36 9 (some 47)) 36 10 (some 48)) 36 11 (some 49)), 52, 2416)
  have hF := fr_up (n' := 52) (by decide) hF
  refine r_putR hX hT dX4_init_96 fl_4_53 rfl (by decide) (Nat.le_of_ble_eq_true rfl) (Or.inr ⟨_, rfl⟩) ?_
  have hF := fr_R (a := 36) (j := 12) (b := 50) (by decide) hF
  show WR G X (mQ G X none zf ((up2 (up2 (up2 (up2 (up2 (up2 (up2 (up2 (up2 (up2 (up2 (up2 (up2 (up2 (up2 (up2 (up2 R 37 5 (some 38)) 37 6 (some 39)) 37 7 (some 40)) 37 8 (some 41)) 37 9 (some 42)) 36 0 (some 37)) 36 5 (some 43)) 36 6 (some 44)) 36 7 (some 45)) 36 8 (some 46)) 36 9 (some 47)) 36 10 (some 48)) 36 11 (some 49)) 36 12 (some 50)) 36 13 (some 51)) 36 14 (some 52)) 36 15 (some 53)), 55, 2510)) 99 [.ref 36] [] ((up2 (up2 (up2 (up2 z1.1 36 1 (0 : Int32)) 36 2 (0 : Int32)) 36 3 (1 : Int32)) 36 4 (0 : Int32)), z1.2) ((up2 (up2 (up2 (up2 (up2 (up2 (up2 (up2 (up2 (up2 (up2 (up2 (up2 (up2 R 37 5 (some 38)) 37 6 (some 39)) 37 7 (some 40)) 37 8 (some 41)) 37 9 (some 42)) 36 0 (some 37)) 36 5 (some 43)) 36 6 (some 44)) 36 7 (some 45)) 36 8 (some 46)) 36 9 (some 47)) 36 10 (some 48)) 36 11 (some 49)) 36 12 (some 50)), 52, 2416)
  refine r_aload_n hX dX4_init_99 rfl ?_
  refine r_bipush (v := (40 : Int32)) hX dX4_init_100 (by decide) ?_
  refine r_newJ (N := 40) hX dX4_init_102 ac_long rfl rfl (by decide) (by decide) (Nat.le_of_ble_eq_true rfl) (fr_fresh hF) (Nat.le_of_ble_eq_true rfl) (xr_le hr ⟨(Nat.le_of_ble_eq_true rfl), (Nat.le_of_ble_eq_true rfl)⟩) ?_
  show WR G X (mQ G X none zf ((up2 (up2 (up2 (up2 (up2 (up2 (up2 (up2 (up2 (up2 (up2 (up2 (up2 (up2 (up2 (up2 (up2 R 37 5 (some 38)) 37 6 (some 39)) 37 7 (some 40)) 37 8 (some 41)) 37 9 (some 42)) 36 0 (some 37)) 36 5 (some 43)) 36 6 (some 44)) 36 7 (some 45)) 36 8 (some 46)) 36 9 (some 47)) 36 10 (some 48)) 36 11 (some 49)) 36 12 (some 50)) 36 13 (some 51)) 36 14 (some 52)) 36 15 (some 53)), 55, 2510)) 104 [.ref 36] [.ref 51, .ref 36] ((up2 (up2 (up2 (up2 z1.1 36 1 (0 : Int32)) 36 2 (0 : Int32)) 36 3 (1 : Int32)) 36 4 (0 : Int32)), z1.2) ((up2 (up2 (up2 (up2 (up2 (up2 (up2 (up2 (up2 (up2 (up2 (up2 (up2 (up2 R 37 5 (some 38)) 37 6 (some 39)) 37 7 (some 40)) 37 8 (some 41)) 37 9 (some 42)) 36 0 (some 37)) 36 5 (some 43)) 36 6 (some 44)) 36 7 (some 45)) 36 8 (some 46)) 36 9 (some 47)) 36 10 (some 48)) 36 11 (some 49)) 36 12 (some 50)), 53, 2456)
  have hF := fr_up (n' := 53) (by decide) hF
  refine r_putR hX hT dX4_init_104 fl_4_56 rfl (by decide) (Nat.le_of_ble_eq_true rfl) (Or.inr ⟨_, rfl⟩) ?_
  have hF := fr_R (a := 36) (j := 13) (b := 51) (by decide) hF
  show WR G X (mQ G X none zf ((up2 (up2 (up2 (up2 (up2 (up2 (up2 (up2 (up2 (up2 (up2 (up2 (up2 (up2 (up2 (up2 (up2 R 37 5 (some 38)) 37 6 (some 39)) 37 7 (some 40)) 37 8 (some 41)) 37 9 (some 42)) 36 0 (some 37)) 36 5 (some 43)) 36 6 (some 44)) 36 7 (some 45)) 36 8 (some 46)) 36 9 (some 47)) 36 10 (some 48)) 36 11 (some 49)) 36 12 (some 50)) 36 13 (some 51)) 36 14 (some 52)) 36 15 (some 53)), 55, 2510)) 107 [.ref 36] [] ((up2 (up2 (up2 (up2 z1.1 36 1 (0 : Int32)) 36 2 (0 : Int32)) 36 3 (1 : Int32)) 36 4 (0 : Int32)), z1.2) ((up2 (up2 (up2 (up2 (up2 (up2 (up2 (up2 (up2 (up2 (up2 (up2 (up2 (up2 (up2 R 37 5 (some 38)) 37 6 (some 39)) 37 7 (some 40)) 37 8 (some 41)) 37 9 (some 42)) 36 0 (some 37)) 36 5 (some 43)) 36 6 (some 44)) 36 7 (some 45)) 36 8 (some 46)) 36 9 (some 47)) 36 10 (some 48)) 36 11 (some 49)) 36 12 (some 50)) 36 13 (some 51)), 53, 2456)
  refine r_aload_n hX dX4_init_107 rfl ?_
  refine r_bipush (v := (14 : Int32)) hX dX4_init_108 (by decide) ?_
  refine r_newJ (N := 14) hX dX4_init_110 ac_long rfl rfl (by decide) (by decide) (Nat.le_of_ble_eq_true rfl) (fr_fresh hF) (Nat.le_of_ble_eq_true rfl) (xr_le hr ⟨(Nat.le_of_ble_eq_true rfl), (Nat.le_of_ble_eq_true rfl)⟩) ?_
  show WR G X (mQ G X none zf ((up2 (up2 (up2 (up2 (up2 (up2 (up2 (up2 (up2 (up2 (up2 (up2 (up2 (up2 (up2 (up2 (up2 R 37 5 (some 38)) 37 6 (some 39)) 37 7 (some 40)) 37 8 (some 41)) 37 9 (some 42)) 36 0 (some 37)) 36 5 (some 43)) 36 6 (some 44)) 36 7 (some 45)) 36 8 (some 46)) 36 9 (some 47)) 36 10 (some 48)) 36 11 (some 49)) 36 12 (some 50)) 36 13 (some 51)) 36 14 (some 52)) 36 15 (some 53)), 55, 2510)) 112 [.ref 36] [.ref 52, .ref 36] ((up2 (up2 (up2 (up2 z1.1 36 1 (0 : Int32)) 36 2 (0 : Int32)) 36 3 (1 : Int32)) 36 4 (0 : Int32)), z1.2) ((up2 (up2 (up2 (up2 (up2 (up2 (up2 (up2 (up2 (up2 (up2 (up2 (up2 (up2 (up2 R 37 5 (some 38)) 37 6 (some 39)) 37 7 (some 40)) 37 8 (some 41)) 37 9 (some 42)) 36 0 (some 37)) 36 5 (some 43)) 36 6 (some 44)) 36 7 (some 45)) 36 8 (some 46)) 36 9 (some 47)) 36 10 (some 48)) 36 11 (some 49)) 36 12 (some 50)) 36 13 (some 51)), 54, 2470)
  have hF := fr_up (n' := 54) (by decide) hF
  refine r_putR hX hT dX4_init_112 fl_4_60 rfl (by decide) (Nat.le_of_ble_eq_true rfl) (Or.inr ⟨_, rfl⟩) ?_
  have hF := fr_R (a := 36) (j := 14) (b := 52) (by decide) hF
  show WR G X (mQ G X none zf ((up2 (up2 (up2 (up2 (up2 (up2 (up2 (up2 (up2 (up2 (up2 (up2 (up2 (up2 (up2 (up2 (up2 R 37 5 (some 38)) 37 6 (some 39)) 37 7 (some 40)) 37 8 (some 41)) 37 9 (some 42)) 36 0 (some 37)) 36 5 (some 43)) 36 6 (some 44)) 36 7 (some 45)) 36 8 (some 46)) 36 9 (some 47)) 36 10 (some 48)) 36 11 (some 49)) 36 12 (some 50)) 36 13 (some 51)) 36 14 (some 52)) 36 15 (some 53)), 55, 2510)) 115 [.ref 36] [] ((up2 (up2 (up2 (up2 z1.1 36 1 (0 : Int32)) 36 2 (0 : Int32)) 36 3 (1 : Int32)) 36 4 (0 : Int32)), z1.2) ((up2 (up2 (up2 (up2 (up2 (up2 (up2 (up2 (up2 (up2 (up2 (up2 (up2 (up2 (up2 (up2 R 37 5 (some 38)) 37 6 (some 39)) 37 7 (some 40)) 37 8 (some 41)) 37 9 (some 42)) 36 0 (some 37)) 36 5 (some 43)) 36 6 (some 44)) 36 7 (some 45)) 36 8 (some 46)) 36 9 (some 47)) 36 10 (some 48)) 36 11 (some 49)) 36 12 (some 50)) 36 13 (some 51)) 36 14 (some 52)), 54, 2470)
  refine r_aload_n hX dX4_init_115 rfl ?_
  refine r_bipush (v := (40 : Int32)) hX dX4_init_116 (by decide) ?_
  refine r_newI (ci := 10) (N := 40) hX dX4_init_118 ac_int rfl (fun _ e => by cases e) rfl rfl (by decide) rfl (by decide) (by decide) (Nat.le_of_ble_eq_true rfl) (fr_fresh hF) (Nat.le_of_ble_eq_true rfl) (xr_le hr ⟨(Nat.le_of_ble_eq_true rfl), (Nat.le_of_ble_eq_true rfl)⟩) ?_
  show WR G X (mQ G X none zf ((up2 (up2 (up2 (up2 (up2 (up2 (up2 (up2 (up2 (up2 (up2 (up2 (up2 (up2 (up2 (up2 (up2 R 37 5 (some 38)) 37 6 (some 39)) 37 7 (some 40)) 37 8 (some 41)) 37 9 (some 42)) 36 0 (some 37)) 36 5 (some 43)) 36 6 (some 44)) 36 7 (some 45)) 36 8 (some 46)) 36 9 (some 47)) 36 10 (some 48)) 36 11 (some 49)) 36 12 (some 50)) 36 13 (some 51)) 36 14 (some 52)) 36 15 (some 53)), 55, 2510)) 120 [.ref 36] [.ref 53, .ref 36] ((up2 (up2 (up2 (up2 z1.1 36 1 (0 : Int32)) 36 2 (0 : Int32)) 36 3 (1 : Int32)) 36 4 (0 : Int32)), z1.2) ((up2 (up2 (up2 (up2 (up2 (up2 (up2 (up2 (up2 (up2 (up2 (up2 (up2 (up2 (up2 (up2 R 37 5 (some 38)) 37 6 (some 39)) 37 7 (some 40)) 37 8 (some 41)) 37 9 (some 42)) 36 0 (some 37)) 36 5 (some 43)) 36 6 (some 44)) 36 7 (some 45)) 36 8 (some 46)) 36 9 (some 47)) 36 10 (some 48)) 36 11 (some 49)) 36 12 (some 50)) 36 13 (some 51)) 36 14 (some 52)), 55, 2510)
  have hF := fr_up (n' := 55) (by decide) hF
  refine r_putR hX hT dX4_init_120 fl_4_63 rfl (by decide) (Nat.le_of_ble_eq_true rfl) (Or.inr ⟨_, rfl⟩) ?_
  have hF := fr_R (a := 36) (j := 15) (b := 53) (by decide) hF
  show WR G X (mQ G X none zf ((up2 (up2 (up2 (up2 (up2 (up2 (up2 (up2 (up2 (up2 (up2 (up2 (up2 (up2 (up2 (up2 (up2 R 37 5 (some 38)) 37 6 (some 39)) 37 7 (some 40)) 37 8 (some 41)) 37 9 (some 42)) 36 0 (some 37)) 36 5 (some 43)) 36 6 (some 44)) 36 7 (some 45)) 36 8 (some 46)) 36 9 (some 47)) 36 10 (some 48)) 36 11 (some 49)) 36 12 (some 50)) 36 13 (some 51)) 36 14 (some 52)) 36 15 (some 53)), 55, 2510)) 123 [.ref 36] [] ((up2 (up2 (up2 (up2 z1.1 36 1 (0 : Int32)) 36 2 (0 : Int32)) 36 3 (1 : Int32)) 36 4 (0 : Int32)), z1.2) ((up2 (up2 (up2 (up2 (up2 (up2 (up2 (up2 (up2 (up2 (up2 (up2 (up2 (up2 (up2 (up2 (up2 R 37 5 (some 38)) 37 6 (some 39)) 37 7 (some 40)) 37 8 (some 41)) 37 9 (some 42)) 36 0 (some 37)) 36 5 (some 43)) 36 6 (some 44)) 36 7 (some 45)) 36 8 (some 46)) 36 9 (some 47)) 36 10 (some 48)) 36 11 (some 49)) 36 12 (some 50)) 36 13 (some 51)) 36 14 (some 52)) 36 15 (some 53)), 55, 2510)
  obtain rfl := Option.some.inj h
  exact r_vret hX hT dX4_init_123
theorem fr_St_init36 {n : Nat} {M zf : Mm} {R : Nat → Nat → Option Nat} (hF : fr 38 M R) (h : St_init36 n M = some zf) : fr 55 zf (up2 (up2 (up2 (up2 (up2 (up2 (up2 (up2 (up2 (up2 (up2 (up2 (up2 (up2 (up2 (up2 (up2 R 37 5 (some 38)) 37 6 (some 39)) 37 7 (some 40)) 37 8 (some 41)) 37 9 (some 42)) 36 0 (some 37)) 36 5 (some 43)) 36 6 (some 44)) 36 7 (some 45)) 36 8 (some 46)) 36 9 (some 47)) 36 10 (some 48)) 36 11 (some 49)) 36 12 (some 50)) 36 13 (some 51)) 36 14 (some 52)) 36 15 (some 53)) := by
  unfold St_init36 at h
  have hF := fr_eta hF
  have hF := fr_eta hF
  have hF := fr_up (n' := 39) (by decide) hF
  obtain ⟨z1, p1, h⟩ := bnd_s h
  have hF := fr_Nt_init37 hF p1
  have hF := fr_eta hF
  have hF := fr_R (a := 36) (j := 0) (b := 37) (by decide) hF
  have hF := fr_I (a := 36) (j := 1) (x := (0 : Int32)) (by decide) hF
  have hF := fr_I (a := 36) (j := 2) (x := (0 : Int32)) (by decide) hF
  have hF := fr_I (a := 36) (j := 3) (x := (1 : Int32)) (by decide) hF
  have hF := fr_I (a := 36) (j := 4) (x := (0 : Int32)) (by decide) hF
  have hF := fr_up (n' := 45) (by decide) hF
  have hF := fr_R (a := 36) (j := 5) (b := 43) (by decide) hF
  have hF := fr_up (n' := 46) (by decide) hF
  have hF := fr_R (a := 36) (j := 6) (b := 44) (by decide) hF
  have hF := fr_up (n' := 47) (by decide) hF
  have hF := fr_R (a := 36) (j := 7) (b := 45) (by decide) hF
  have hF := fr_up (n' := 48) (by decide) hF
  have hF := fr_R (a := 36) (j := 8) (b := 46) (by decide) hF
  have hF := fr_up (n' := 49) (by decide) hF
  have hF := fr_R (a := 36) (j := 9) (b := 47) (by decide) hF
  have hF := fr_up (n' := 50) (by decide) hF
  have hF := fr_R (a := 36) (j := 10) (b := 48) (by decide) hF
  have hF := fr_up (n' := 51) (by decide) hF
  have hF := fr_R (a := 36) (j := 11) (b := 49) (by decide) hF
  have hF := fr_up (n' := 52) (by decide) hF
  have hF := fr_R (a := 36) (j := 12) (b := 50) (by decide) hF
  have hF := fr_up (n' := 53) (by decide) hF
  have hF := fr_R (a := 36) (j := 13) (b := 51) (by decide) hF
  have hF := fr_up (n' := 54) (by decide) hF
  have hF := fr_R (a := 36) (j := 14) (b := 52) (by decide) hF
  have hF := fr_up (n' := 55) (by decide) hF
  have hF := fr_R (a := 36) (j := 15) (b := 53) (by decide) hF
  obtain rfl := Option.some.inj h
  exact hF
def Nt_init55 (n : Nat) (M : Mm) : Option Mm :=
  bnd (Nt_begin n 55 M) (fun z1 =>
  some z1)
set_option maxRecDepth 100000 in
theorem ok_Nt_init55 {G : Gm} {l : Launch} {d : Nat} (n : Nat) (M : Mm) {zf : Mm} {R : Nat → Nat → Option Nat} (hF : fr 57 M R) (h : Nt_init55 n M = some zf) : CK G l (d + 1) md_Nt_init [.ref 55] M (R, 57, 2536) none zf ((up2 (up2 (up2 (up2 (up2 R 55 5 (some 56)) 55 6 (some 57)) 55 7 (some 58)) 55 8 (some 59)) 55 9 (some 60)), 62, 2646) := by
  refine ck_of mk_Nt_init (Nat.le_of_ble_eq_true rfl) ⟨(Nat.le_of_ble_eq_true rfl), (Nat.le_of_ble_eq_true rfl)⟩ (fun X hX hT hSx hr hl => ?_)
  subst hl
  unfold Nt_init55 at h
  show WR G X (mQ G X none zf ((up2 (up2 (up2 (up2 (up2 R 55 5 (some 56)) 55 6 (some 57)) 55 7 (some 58)) 55 8 (some 59)) 55 9 (some 60)), 62, 2646)) 0 [.ref 55] [] M (R, 57, 2536)
  have hF := fr_eta hF
  refine r_aload_n hX dX1_init_0 rfl ?_
  refine r_objInit hX dX1_init_1 ml_1_3 rfl (Nat.le_of_ble_eq_true rfl) ?_
  refine r_aload_n hX dX1_init_4 rfl ?_
  refine r_iconst (v := (4 : Int32)) hX dX1_init_5 (by decide) ?_
  refine r_newI (ci := 10) (N := 4) hX dX1_init_6 ac_int rfl (fun _ e => by cases e) rfl rfl (by decide) rfl (by decide) (by decide) (Nat.le_of_ble_eq_true rfl) (fr_fresh hF) (Nat.le_of_ble_eq_true rfl) (xr_le hr ⟨(Nat.le_of_ble_eq_true rfl), (Nat.le_of_ble_eq_true rfl)⟩) ?_
  show WR G X (mQ G X none zf ((up2 (up2 (up2 (up2 (up2 R 55 5 (some 56)) 55 6 (some 57)) 55 7 (some 58)) 55 8 (some 59)) 55 9 (some 60)), 62, 2646)) 8 [.ref 55] [.ref 56, .ref 55] M (R, 58, 2540)
  have hF := fr_up (n' := 58) (by decide) hF
  refine r_putR hX hT dX1_init_8 fl_1_9 rfl (by decide) (Nat.le_of_ble_eq_true rfl) (Or.inr ⟨_, rfl⟩) ?_
  have hF := fr_R (a := 55) (j := 5) (b := 56) (by decide) hF
  show WR G X (mQ G X none zf ((up2 (up2 (up2 (up2 (up2 R 55 5 (some 56)) 55 6 (some 57)) 55 7 (some 58)) 55 8 (some 59)) 55 9 (some 60)), 62, 2646)) 11 [.ref 55] [] M ((up2 R 55 5 (some 56)), 58, 2540)
  refine r_aload_n hX dX1_init_11 rfl ?_
  refine r_bipush (v := (14 : Int32)) hX dX1_init_12 (by decide) ?_
  refine r_newI (ci := 10) (N := 14) hX dX1_init_14 ac_int rfl (fun _ e => by cases e) rfl rfl (by decide) rfl (by decide) (by decide) (Nat.le_of_ble_eq_true rfl) (fr_fresh hF) (Nat.le_of_ble_eq_true rfl) (xr_le hr ⟨(Nat.le_of_ble_eq_true rfl), (Nat.le_of_ble_eq_true rfl)⟩) ?_
  show WR G X (mQ G X none zf ((up2 (up2 (up2 (up2 (up2 R 55 5 (some 56)) 55 6 (some 57)) 55 7 (some 58)) 55 8 (some 59)) 55 9 (some 60)), 62, 2646)) 16 [.ref 55] [.ref 57, .ref 55] M ((up2 R 55 5 (some 56)), 59, 2554)
  have hF := fr_up (n' := 59) (by decide) hF
  refine r_putR hX hT dX1_init_16 fl_1_15 rfl (by decide) (Nat.le_of_ble_eq_true rfl) (Or.inr ⟨_, rfl⟩) ?_
  have hF := fr_R (a := 55) (j := 6) (b := 57) (by decide) hF
  show WR G X (mQ G X none zf ((up2 (up2 (up2 (up2 (up2 R 55 5 (some 56)) 55 6 (some 57)) 55 7 (some 58)) 55 8 (some 59)) 55 9 (some 60)), 62, 2646)) 19 [.ref 55] [] M ((up2 (up2 R 55 5 (some 56)) 55 6 (some 57)), 59, 2554)
  refine r_aload_n hX dX1_init_19 rfl ?_
  refine r_bipush (v := (14 : Int32)) hX dX1_init_20 (by decide) ?_
  refine r_newI (ci := 10) (N := 14) hX dX1_init_22 ac_int rfl (fun _ e => by cases e) rfl rfl (by decide) rfl (by decide) (by decide) (Nat.le_of_ble_eq_true rfl) (fr_fresh hF) (Nat.le_of_ble_eq_true rfl) (xr_le hr ⟨(Nat.le_of_ble_eq_true rfl), (Nat.le_of_ble_eq_true rfl)⟩) ?_
  show WR G X (mQ G X none zf ((up2 (up2 (up2 (up2 (up2 R 55 5 (some 56)) 55 6 (some 57)) 55 7 (some 58)) 55 8 (some 59)) 55 9 (some 60)), 62, 2646)) 24 [.ref 55] [.ref 58, .ref 55] M ((up2 (up2 R 55 5 (some 56)) 55 6 (some 57)), 60, 2568)
  have hF := fr_up (n' := 60) (by decide) hF
  refine r_putR hX hT dX1_init_24 fl_1_18 rfl (by decide) (Nat.le_of_ble_eq_true rfl) (Or.inr ⟨_, rfl⟩) ?_
  have hF := fr_R (a := 55) (j := 7) (b := 58) (by decide) hF
  show WR G X (mQ G X none zf ((up2 (up2 (up2 (up2 (up2 R 55 5 (some 56)) 55 6 (some 57)) 55 7 (some 58)) 55 8 (some 59)) 55 9 (some 60)), 62, 2646)) 27 [.ref 55] [] M ((up2 (up2 (up2 R 55 5 (some 56)) 55 6 (some 57)) 55 7 (some 58)), 60, 2568)
  refine r_aload_n hX dX1_init_27 rfl ?_
  refine r_bipush (v := (14 : Int32)) hX dX1_init_28 (by decide) ?_
  refine r_newI (ci := 10) (N := 14) hX dX1_init_30 ac_int rfl (fun _ e => by cases e) rfl rfl (by decide) rfl (by decide) (by decide) (Nat.le_of_ble_eq_true rfl) (fr_fresh hF) (Nat.le_of_ble_eq_true rfl) (xr_le hr ⟨(Nat.le_of_ble_eq_true rfl), (Nat.le_of_ble_eq_true rfl)⟩) ?_
  show WR G X (mQ G X none zf ((up2 (up2 (up2 (up2 (up2 R 55 5 (some 56)) 55 6 (some 57)) 55 7 (some 58)) 55 8 (some 59)) 55 9 (some 60)), 62, 2646)) 32 [.ref 55] [.ref 59, .ref 55] M ((up2 (up2 (up2 R 55 5 (some 56)) 55 6 (some 57)) 55 7 (some 58)), 61, 2582)
  have hF := fr_up (n' := 61) (by decide) hF
  refine r_putR hX hT dX1_init_32 fl_1_21 rfl (by decide) (Nat.le_of_ble_eq_true rfl) (Or.inr ⟨_, rfl⟩) ?_
  have hF := fr_R (a := 55) (j := 8) (b := 59) (by decide) hF
  show WR G X (mQ G X none zf ((up2 (up2 (up2 (up2 (up2 R 55 5 (some 56)) 55 6 (some 57)) 55 7 (some 58)) 55 8 (some 59)) 55 9 (some 60)), 62, 2646)) 35 [.ref 55] [] M ((up2 (up2 (up2 (up2 R 55 5 (some 56)) 55 6 (some 57)) 55 7 (some 58)) 55 8 (some 59)), 61, 2582)
  refine r_aload_n hX dX1_init_35 rfl ?_
  refine r_bipush (v := (64 : Int32)) hX dX1_init_36 (by decide) ?_
  refine r_newI (ci := 10) (N := 64) hX dX1_init_38 ac_int rfl (fun _ e => by cases e) rfl rfl (by decide) rfl (by decide) (by decide) (Nat.le_of_ble_eq_true rfl) (fr_fresh hF) (Nat.le_of_ble_eq_true rfl) (xr_le hr ⟨(Nat.le_of_ble_eq_true rfl), (Nat.le_of_ble_eq_true rfl)⟩) ?_
  show WR G X (mQ G X none zf ((up2 (up2 (up2 (up2 (up2 R 55 5 (some 56)) 55 6 (some 57)) 55 7 (some 58)) 55 8 (some 59)) 55 9 (some 60)), 62, 2646)) 40 [.ref 55] [.ref 60, .ref 55] M ((up2 (up2 (up2 (up2 R 55 5 (some 56)) 55 6 (some 57)) 55 7 (some 58)) 55 8 (some 59)), 62, 2646)
  have hF := fr_up (n' := 62) (by decide) hF
  refine r_putR hX hT dX1_init_40 fl_1_24 rfl (by decide) (Nat.le_of_ble_eq_true rfl) (Or.inr ⟨_, rfl⟩) ?_
  have hF := fr_R (a := 55) (j := 9) (b := 60) (by decide) hF
  show WR G X (mQ G X none zf ((up2 (up2 (up2 (up2 (up2 R 55 5 (some 56)) 55 6 (some 57)) 55 7 (some 58)) 55 8 (some 59)) 55 9 (some 60)), 62, 2646)) 43 [.ref 55] [] M ((up2 (up2 (up2 (up2 (up2 R 55 5 (some 56)) 55 6 (some 57)) 55 7 (some 58)) 55 8 (some 59)) 55 9 (some 60)), 62, 2646)
  refine r_aload_n hX dX1_init_43 rfl ?_
  obtain ⟨z1, p1, h⟩ := bnd_s h
  refine r_callV (As := []) (S1 := ((up2 (up2 (up2 (up2 (up2 R 55 5 (some 56)) 55 6 (some 57)) 55 7 (some 58)) 55 8 (some 59)) 55 9 (some 60)), 62, 2646)) hX dX1_init_44 mk_Nt_begin mi_Nt_begin ml_1_27 rfl rfl rfl rfl (by decide) (Nat.le_of_ble_eq_true rfl) (Nat.le_of_ble_eq_true rfl) (xr_le hr ⟨(Nat.le_of_ble_eq_true rfl), (Nat.le_of_ble_eq_true rfl)⟩) (okS_Nt_begin (d := d) n 55 M (nt_st st54) ⟨⟨(Nat.le_of_ble_eq_true rfl), (Nat.le_of_ble_eq_true rfl), (Nat.le_of_ble_eq_true rfl)⟩, rfl, rfl, rfl, rfl, rfl⟩ p1) ?_
  have hF := fr_same (Nt_begin_same p1) (by decide) hF
  have hF := fr_eta hF
  show WR G X (mQ G X none zf ((up2 (up2 (up2 (up2 (up2 R 55 5 (some 56)) 55 6 (some 57)) 55 7 (some 58)) 55 8 (some 59)) 55 9 (some 60)), 62, 2646)) 47 [.ref 55] [] z1 ((up2 (up2 (up2 (up2 (up2 R 55 5 (some 56)) 55 6 (some 57)) 55 7 (some 58)) 55 8 (some 59)) 55 9 (some 60)), 62, 2646)
  obtain rfl := Option.some.inj h
  exact r_vret hX hT dX1_init_47
theorem fr_Nt_init55 {n : Nat} {M zf : Mm} {R : Nat → Nat → Option Nat} (hF : fr 57 M R) (h : Nt_init55 n M = some zf) : fr 62 zf (up2 (up2 (up2 (up2 (up2 R 55 5 (some 56)) 55 6 (some 57)) 55 7 (some 58)) 55 8 (some 59)) 55 9 (some 60)) := by
  unfold Nt_init55 at h
  have hF := fr_eta hF
  have hF := fr_eta hF
  have hF := fr_up (n' := 58) (by decide) hF
  have hF := fr_R (a := 55) (j := 5) (b := 56) (by decide) hF
  have hF := fr_up (n' := 59) (by decide) hF
  have hF := fr_R (a := 55) (j := 6) (b := 57) (by decide) hF
  have hF := fr_up (n' := 60) (by decide) hF
  have hF := fr_R (a := 55) (j := 7) (b := 58) (by decide) hF
  have hF := fr_up (n' := 61) (by decide) hF
  have hF := fr_R (a := 55) (j := 8) (b := 59) (by decide) hF
  have hF := fr_up (n' := 62) (by decide) hF
  have hF := fr_R (a := 55) (j := 9) (b := 60) (by decide) hF
  obtain ⟨z1, p1, h⟩ := bnd_s h
  have hF := fr_same (Nt_begin_same p1) (by decide) hF
  have hF := fr_eta hF
  obtain rfl := Option.some.inj h
  exact hF
def St_init54 (n : Nat) (M : Mm) : Option Mm :=
  bnd (Nt_init55 n M) (fun z1 =>
  some ((up2 (up2 (up2 (up2 z1.1 54 1 (0 : Int32)) 54 2 (0 : Int32)) 54 3 (1 : Int32)) 54 4 (0 : Int32)), z1.2))
set_option maxRecDepth 100000 in
theorem ok_St_init54 {G : Gm} {l : Launch} {d : Nat} (n : Nat) (M : Mm) {zf : Mm} {R : Nat → Nat → Option Nat} (hF : fr 56 M R) (h : St_init54 n M = some zf) : CK G l (d + 2) md_St_init [.ref 54] M (R, 56, 2526) none zf ((up2 (up2 (up2 (up2 (up2 (up2 (up2 (up2 (up2 (up2 (up2 (up2 (up2 (up2 (up2 (up2 (up2 R 55 5 (some 56)) 55 6 (some 57)) 55 7 (some 58)) 55 8 (some 59)) 55 9 (some 60)) 54 0 (some 55)) 54 5 (some 61)) 54 6 (some 62)) 54 7 (some 63)) 54 8 (some 64)) 54 9 (some 65)) 54 10 (some 66)) 54 11 (some 67)) 54 12 (some 68)) 54 13 (some 69)) 54 14 (some 70)) 54 15 (some 71)), 73, 3060) := by
  refine ck_of mk_St_init (Nat.le_of_ble_eq_true rfl) ⟨(Nat.le_of_ble_eq_true rfl), (Nat.le_of_ble_eq_true rfl)⟩ (fun X hX hT hSx hr hl => ?_)
  subst hl
  unfold St_init54 at h
  show WR G X (mQ G X none zf ((up2 (up2 (up2 (up2 (up2 (up2 (up2 (up2 (up2 (up2 (up2 (up2 (up2 (up2 (up2 (up2 (up2 R 55 5 (some 56)) 55 6 (some 57)) 55 7 (some 58)) 55 8 (some 59)) 55 9 (some 60)) 54 0 (some 55)) 54 5 (some 61)) 54 6 (some 62)) 54 7 (some 63)) 54 8 (some 64)) 54 9 (some 65)) 54 10 (some 66)) 54 11 (some 67)) 54 12 (some 68)) 54 13 (some 69)) 54 14 (some 70)) 54 15 (some 71)), 73, 3060)) 0 [.ref 54] [] M (R, 56, 2526)
  have hF := fr_eta hF
  refine r_aload_n hX dX4_init_0 rfl ?_
  refine r_objInit hX dX4_init_1 ml_4_3 rfl (Nat.le_of_ble_eq_true rfl) ?_
  refine r_aload_n hX dX4_init_4 rfl ?_
  refine r_new (ci := 1) hX dX4_init_5 cl_4_9 in1 ini1 rfl (by decide) (fr_fresh hF) (Nat.le_of_ble_eq_true rfl) (xr_le hr ⟨(Nat.le_of_ble_eq_true rfl), (Nat.le_of_ble_eq_true rfl)⟩) ?_
  show WR G X (mQ G X none zf ((up2 (up2 (up2 (up2 (up2 (up2 (up2 (up2 (up2 (up2 (up2 (up2 (up2 (up2 (up2 (up2 (up2 R 55 5 (some 56)) 55 6 (some 57)) 55 7 (some 58)) 55 8 (some 59)) 55 9 (some 60)) 54 0 (some 55)) 54 5 (some 61)) 54 6 (some 62)) 54 7 (some 63)) 54 8 (some 64)) 54 9 (some 65)) 54 10 (some 66)) 54 11 (some 67)) 54 12 (some 68)) 54 13 (some 69)) 54 14 (some 70)) 54 15 (some 71)), 73, 3060)) 8 [.ref 54] [.ref 55, .ref 54] M (R, 57, 2536)
  have hF := fr_up (n' := 57) (by decide) hF
  refine r_dup hX dX4_init_8 rfl ?_
  obtain ⟨z1, p1, h⟩ := bnd_s h
  refine r_callI (As := []) (S1 := ((up2 (up2 (up2 (up2 (up2 R 55 5 (some 56)) 55 6 (some 57)) 55 7 (some 58)) 55 8 (some 59)) 55 9 (some 60)), 62, 2646)) hX dX4_init_9 mk_Nt_init mc_Nt_init ml_4_11 rfl rfl rfl (Nat.le_of_ble_eq_true rfl) (Nat.le_of_ble_eq_true rfl) (xr_le hr ⟨(Nat.le_of_ble_eq_true rfl), (Nat.le_of_ble_eq_true rfl)⟩) (ok_Nt_init55 (d := d + 0) n M hF p1) ?_
  have hF := fr_Nt_init55 hF p1
  have hF := fr_eta hF
  show WR G X (mQ G X none zf ((up2 (up2 (up2 (up2 (up2 (up2 (up2 (up2 (up2 (up2 (up2 (up2 (up2 (up2 (up2 (up2 (up2 R 55 5 (some 56)) 55 6 (some 57)) 55 7 (some 58)) 55 8 (some 59)) 55 9 (some 60)) 54 0 (some 55)) 54 5 (some 61)) 54 6 (some 62)) 54 7 (some 63)) 54 8 (some 64)) 54 9 (some 65)) 54 10 (some 66)) 54 11 (some 67)) 54 12 (some 68)) 54 13 (some 69)) 54 14 (some 70)) 54 15 (some 71)), 73, 3060)) 12 [.ref 54] [.ref 55, .ref 54] z1 ((up2 (up2 (up2 (up2 (up2 R 55 5 (some 56)) 55 6 (some 57)) 55 7 (some 58)) 55 8 (some 59)) 55 9 (some 60)), 62, 2646)
  refine r_putR hX hT dX4_init_12 fl_4_12 rfl (by decide) (Nat.le_of_ble_eq_true rfl) (Or.inl ⟨_, rfl⟩) ?_
  have hF := fr_R (a := 54) (j := 0) (b := 55) (by decide) hF
  show WR G X (mQ G X none zf ((up2 (up2 (up2 (up2 (up2 (up2 (up2 (up2 (up2 (up2 (up2 (up2 (up2 (up2 (up2 (up2 (up2 R 55 5 (some 56)) 55 6 (some 57)) 55 7 (some 58)) 55 8 (some 59)) 55 9 (some 60)) 54 0 (some 55)) 54 5 (some 61)) 54 6 (some 62)) 54 7 (some 63)) 54 8 (some 64)) 54 9 (some 65)) 54 10 (some 66)) 54 11 (some 67)) 54 12 (some 68)) 54 13 (some 69)) 54 14 (some 70)) 54 15 (some 71)), 73, 3060)) 15 [.ref 54] [] z1 ((up2 (up2 (up2 (up2 (up2 (up2 R 55 5 (some 56)) 55 6 (some 57)) 55 7 (some 58)) 55 8 (some 59)) 55 9 (some 60)) 54 0 (some 55)), 62, 2646)
  refine r_aload_n hX dX4_init_15 rfl ?_
  refine r_iconst (v := (0 : Int32)) hX dX4_init_16 (by decide) ?_
  refine r_putI hX dX4_init_17 fl_4_18 rfl (by decide) (Nat.le_of_ble_eq_true rfl) (okI_int _) ?_
  have hF := fr_I (a := 54) (j := 1) (x := (0 : Int32)) (by decide) hF
  refine r_aload_n hX dX4_init_20 rfl ?_
  refine r_iconst (v := (0 : Int32)) hX dX4_init_21 (by decide) ?_
  refine r_putI' hX dX4_init_22 fl_4_22 rfl (by decide) (Nat.le_of_ble_eq_true rfl) (okI_int _) ?_
  have hF := fr_I (a := 54) (j := 2) (x := (0 : Int32)) (by decide) hF
  refine r_aload_n hX dX4_init_25 rfl ?_
  refine r_iconst (v := (1 : Int32)) hX dX4_init_26 (by decide) ?_
  refine r_putI' hX dX4_init_27 fl_4_25 rfl (by decide) (Nat.le_of_ble_eq_true rfl) (okI_int _) ?_
  have hF := fr_I (a := 54) (j := 3) (x := (1 : Int32)) (by decide) hF
  refine r_aload_n hX dX4_init_30 rfl ?_
  refine r_iconst (v := (0 : Int32)) hX dX4_init_31 (by decide) ?_
  refine r_putI' hX dX4_init_32 fl_4_28 rfl (by decide) (Nat.le_of_ble_eq_true rfl) (okI_int _) ?_
  have hF := fr_I (a := 54) (j := 4) (x := (0 : Int32)) (by decide) hF
  refine r_aload_n hX dX4_init_35 rfl ?_
  refine r_bipush (v := (40 : Int32)) hX dX4_init_36 (by decide) ?_
  refine r_newI (ci := 10) (N := 40) hX dX4_init_38 ac_int rfl (fun _ e => by cases e) rfl rfl (by decide) rfl (by decide) (by decide) (Nat.le_of_ble_eq_true rfl) (fr_fresh hF) (Nat.le_of_ble_eq_true rfl) (xr_le hr ⟨(Nat.le_of_ble_eq_true rfl), (Nat.le_of_ble_eq_true rfl)⟩) ?_
  show WR G X (mQ G X none zf ((up2 (up2 (up2 (up2 (up2 (up2 (up2 (up2 (up2 (up2 (up2 (up2 (up2 (up2 (up2 (up2 (up2 R 55 5 (some 56)) 55 6 (some 57)) 55 7 (some 58)) 55 8 (some 59)) 55 9 (some 60)) 54 0 (some 55)) 54 5 (some 61)) 54 6 (some 62)) 54 7 (some 63)) 54 8 (some 64)) 54 9 (some 65)) 54 10 (some 66)) 54 11 (some 67)) 54 12 (some 68)) 54 13 (some 69)) 54 14 (some 70)) 54 15 (some 71)), 73, 3060)) 40 [.ref 54] [.ref 61, .ref 54] ((up2 (up2 (up2 (up2 z1.1 54 1 (0 : Int32)) 54 2 (0 : Int32)) 54 3 (1 : Int32)) 54 4 (0 : Int32)), z1.2) ((up2 (up2 (up2 (up2 (up2 (up2 R 55 5 (some 56)) 55 6 (some 57)) 55 7 (some 58)) 55 8 (some 59)) 55 9 (some 60)) 54 0 (some 55)), 63, 2686)
  have hF := fr_up (n' := 63) (by decide) hF
  refine r_putR hX hT dX4_init_40 fl_4_31 rfl (by decide) (Nat.le_of_ble_eq_true rfl) (Or.inr ⟨_, rfl⟩) ?_
  have hF := fr_R (a := 54) (j := 5) (b := 61) (by decide) hF
  show WR G X (mQ G X none zf ((up2 (up2 (up2 (up2 (up2 (up2 (up2 (up2 (up2 (up2 (up2 (up2 (up2 (up2 (up2 (up2 (up2 R 55 5 (some 56)) 55 6 (some 57)) 55 7 (some 58)) 55 8 (some 59)) 55 9 (some 60)) 54 0 (some 55)) 54 5 (some 61)) 54 6 (some 62)) 54 7 (some 63)) 54 8 (some 64)) 54 9 (some 65)) 54 10 (some 66)) 54 11 (some 67)) 54 12 (some 68)) 54 13 (some 69)) 54 14 (some 70)) 54 15 (some 71)), 73, 3060)) 43 [.ref 54] [] ((up2 (up2 (up2 (up2 z1.1 54 1 (0 : Int32)) 54 2 (0 : Int32)) 54 3 (1 : Int32)) 54 4 (0 : Int32)), z1.2) ((up2 (up2 (up2 (up2 (up2 (up2 (up2 R 55 5 (some 56)) 55 6 (some 57)) 55 7 (some 58)) 55 8 (some 59)) 55 9 (some 60)) 54 0 (some 55)) 54 5 (some 61)), 63, 2686)
  refine r_aload_n hX dX4_init_43 rfl ?_
  refine r_bipush (v := (40 : Int32)) hX dX4_init_44 (by decide) ?_
  refine r_newI (ci := 10) (N := 40) hX dX4_init_46 ac_int rfl (fun _ e => by cases e) rfl rfl (by decide) rfl (by decide) (by decide) (Nat.le_of_ble_eq_true rfl) (fr_fresh hF) (Nat.le_of_ble_eq_true rfl) (xr_le hr ⟨(Nat.le_of_ble_eq_true rfl), (Nat.le_of_ble_eq_true rfl)⟩) ?_
  show WR G X (mQ G X none zf ((up2 (up2 (up2 (up2 (up2 (up2 (up2 (up2 (up2 (up2 (up2 (up2 (up2 (up2 (up2 (up2 (up2 R 55 5 (some 56)) 55 6 (some 57)) 55 7 (some 58)) 55 8 (some 59)) 55 9 (some 60)) 54 0 (some 55)) 54 5 (some 61)) 54 6 (some 62)) 54 7 (some 63)) 54 8 (some 64)) 54 9 (some 65)) 54 10 (some 66)) 54 11 (some 67)) 54 12 (some 68)) 54 13 (some 69)) 54 14 (some 70)) 54 15 (some 71)), 73, 3060)) 48 [.ref 54] [.ref 62, .ref 54] ((up2 (up2 (up2 (up2 z1.1 54 1 (0 : Int32)) 54 2 (0 : Int32)) 54 3 (1 : Int32)) 54 4 (0 : Int32)), z1.2) ((up2 (up2 (up2 (up2 (up2 (up2 (up2 R 55 5 (some 56)) 55 6 (some 57)) 55 7 (some 58)) 55 8 (some 59)) 55 9 (some 60)) 54 0 (some 55)) 54 5 (some 61)), 64, 2726)
  have hF := fr_up (n' := 64) (by decide) hF
  refine r_putR hX hT dX4_init_48 fl_4_35 rfl (by decide) (Nat.le_of_ble_eq_true rfl) (Or.inr ⟨_, rfl⟩) ?_
  have hF := fr_R (a := 54) (j := 6) (b := 62) (by decide) hF
  show WR G X (mQ G X none zf ((up2 (up2 (up2 (up2 (up2 (up2 (up2 (up2 (up2 (up2 (up2 (up2 (up2 (up2 (up2 (up2 (up2 R 55 5 (some 56)) 55 6 (some 57)) 55 7 (some 58)) 55 8 (some 59)) 55 9 (some 60)) 54 0 (some 55)) 54 5 (some 61)) 54 6 (some 62)) 54 7 (some 63)) 54 8 (some 64)) 54 9 (some 65)) 54 10 (some 66)) 54 11 (some 67)) 54 12 (some 68)) 54 13 (some 69)) 54 14 (some 70)) 54 15 (some 71)), 73, 3060)) 51 [.ref 54] [] ((up2 (up2 (up2 (up2 z1.1 54 1 (0 : Int32)) 54 2 (0 : Int32)) 54 3 (1 : Int32)) 54 4 (0 : Int32)), z1.2) ((up2 (up2 (up2 (up2 (up2 (up2 (up2 (up2 R 55 5 (some 56)) 55 6 (some 57)) 55 7 (some 58)) 55 8 (some 59)) 55 9 (some 60)) 54 0 (some 55)) 54 5 (some 61)) 54 6 (some 62)), 64, 2726)
  refine r_aload_n hX dX4_init_51 rfl ?_
  refine r_bipush (v := (40 : Int32)) hX dX4_init_52 (by decide) ?_
  refine r_newI (ci := 10) (N := 40) hX dX4_init_54 ac_int rfl (fun _ e => by cases e) rfl rfl (by decide) rfl (by decide) (by decide) (Nat.le_of_ble_eq_true rfl) (fr_fresh hF) (Nat.le_of_ble_eq_true rfl) (xr_le hr ⟨(Nat.le_of_ble_eq_true rfl), (Nat.le_of_ble_eq_true rfl)⟩) ?_
  show WR G X (mQ G X none zf ((up2 (up2 (up2 (up2 (up2 (up2 (up2 (up2 (up2 (up2 (up2 (up2 (up2 (up2 (up2 (up2 (up2 R 55 5 (some 56)) 55 6 (some 57)) 55 7 (some 58)) 55 8 (some 59)) 55 9 (some 60)) 54 0 (some 55)) 54 5 (some 61)) 54 6 (some 62)) 54 7 (some 63)) 54 8 (some 64)) 54 9 (some 65)) 54 10 (some 66)) 54 11 (some 67)) 54 12 (some 68)) 54 13 (some 69)) 54 14 (some 70)) 54 15 (some 71)), 73, 3060)) 56 [.ref 54] [.ref 63, .ref 54] ((up2 (up2 (up2 (up2 z1.1 54 1 (0 : Int32)) 54 2 (0 : Int32)) 54 3 (1 : Int32)) 54 4 (0 : Int32)), z1.2) ((up2 (up2 (up2 (up2 (up2 (up2 (up2 (up2 R 55 5 (some 56)) 55 6 (some 57)) 55 7 (some 58)) 55 8 (some 59)) 55 9 (some 60)) 54 0 (some 55)) 54 5 (some 61)) 54 6 (some 62)), 65, 2766)
  have hF := fr_up (n' := 65) (by decide) hF
  refine r_putR hX hT dX4_init_56 fl_4_38 rfl (by decide) (Nat.le_of_ble_eq_true rfl) (Or.inr ⟨_, rfl⟩) ?_
  have hF := fr_R (a := 54) (j := 7) (b := 63) (by decide) hF
  show WR G X (mQ G X none zf ((up2 (up2 (up2 (up2 (up2 (up2 (up2 (up2 (up2 (up2 (up2 (up2 (up2 (up2 (up2 (up2 (up2 R 55 5 (some 56)) 55 6 (some 57)) 55 7 (some 58)) 55 8 (some 59)) 55 9 (some 60)) 54 0 (some 55)) 54 5 (some 61)) 54 6 (some 62)) 54 7 (some 63)) 54 8 (some 64)) 54 9 (some 65)) 54 10 (some 66)) 54 11 (some 67)) 54 12 (some 68)) 54 13 (some 69)) 54 14 (some 70)) 54 15 (some 71)), 73, 3060)) 59 [.ref 54] [] ((up2 (up2 (up2 (up2 z1.1 54 1 (0 : Int32)) 54 2 (0 : Int32)) 54 3 (1 : Int32)) 54 4 (0 : Int32)), z1.2) ((up2 (up2 (up2 (up2 (up2 (up2 (up2 (up2 (up2 R 55 5 (some 56)) 55 6 (some 57)) 55 7 (some 58)) 55 8 (some 59)) 55 9 (some 60)) 54 0 (some 55)) 54 5 (some 61)) 54 6 (some 62)) 54 7 (some 63)), 65, 2766)
  refine r_aload_n hX dX4_init_59 rfl ?_
  refine r_bipush (v := (40 : Int32)) hX dX4_init_60 (by decide) ?_
  refine r_newI (ci := 10) (N := 40) hX dX4_init_62 ac_int rfl (fun _ e => by cases e) rfl rfl (by decide) rfl (by decide) (by decide) (Nat.le_of_ble_eq_true rfl) (fr_fresh hF) (Nat.le_of_ble_eq_true rfl) (xr_le hr ⟨(Nat.le_of_ble_eq_true rfl), (Nat.le_of_ble_eq_true rfl)⟩) ?_
  show WR G X (mQ G X none zf ((up2 (up2 (up2 (up2 (up2 (up2 (up2 (up2 (up2 (up2 (up2 (up2 (up2 (up2 (up2 (up2 (up2 R 55 5 (some 56)) 55 6 (some 57)) 55 7 (some 58)) 55 8 (some 59)) 55 9 (some 60)) 54 0 (some 55)) 54 5 (some 61)) 54 6 (some 62)) 54 7 (some 63)) 54 8 (some 64)) 54 9 (some 65)) 54 10 (some 66)) 54 11 (some 67)) 54 12 (some 68)) 54 13 (some 69)) 54 14 (some 70)) 54 15 (some 71)), 73, 3060)) 64 [.ref 54] [.ref 64, .ref 54] ((up2 (up2 (up2 (up2 z1.1 54 1 (0 : Int32)) 54 2 (0 : Int32)) 54 3 (1 : Int32)) 54 4 (0 : Int32)), z1.2) ((up2 (up2 (up2 (up2 (up2 (up2 (up2 (up2 (up2 R 55 5 (some 56)) 55 6 (some 57)) 55 7 (some 58)) 55 8 (some 59)) 55 9 (some 60)) 54 0 (some 55)) 54 5 (some 61)) 54 6 (some 62)) 54 7 (some 63)), 66, 2806)
  have hF := fr_up (n' := 66) (by decide) hF
  refine r_putR hX hT dX4_init_64 fl_4_41 rfl (by decide) (Nat.le_of_ble_eq_true rfl) (Or.inr ⟨_, rfl⟩) ?_
  have hF := fr_R (a := 54) (j := 8) (b := 64) (by decide) hF
  show WR G X (mQ G X none zf ((up2 (up2 (up2 (up2 (up2 (up2 (up2 (up2 (up2 (up2 (up2 (up2 (up2 (up2 (up2 (up2 (up2 R 55 5 (some 56)) 55 6 (some 57)) 55 7 (some 58)) 55 8 (some 59)) 55 9 (some 60)) 54 0 (some 55)) 54 5 (some 61)) 54 6 (some 62)) 54 7 (some 63)) 54 8 (some 64)) 54 9 (some 65)) 54 10 (some 66)) 54 11 (some 67)) 54 12 (some 68)) 54 13 (some 69)) 54 14 (some 70)) 54 15 (some 71)), 73, 3060)) 67 [.ref 54] [] ((up2 (up2 (up2 (up2 z1.1 54 1 (0 : Int32)) 54 2 (0 : Int32)) 54 3 (1 : Int32)) 54 4 (0 : Int32)), z1.2) ((up2 (up2 (up2 (up2 (up2 (up2 (up2 (up2 (up2 (up2 R 55 5 (some 56)) 55 6 (some 57)) 55 7 (some 58)) 55 8 (some 59)) 55 9 (some 60)) 54 0 (some 55)) 54 5 (some 61)) 54 6 (some 62)) 54 7 (some 63)) 54 8 (some 64)), 66, 2806)
  refine r_aload_n hX dX4_init_67 rfl ?_
  refine r_bipush (v := (40 : Int32)) hX dX4_init_68 (by decide) ?_
  refine r_newI (ci := 10) (N := 40) hX dX4_init_70 ac_int rfl (fun _ e => by cases e) rfl rfl (by decide) rfl (by decide) (by decide) (Nat.le_of_ble_eq_true rfl) (fr_fresh hF) (Nat.le_of_ble_eq_true rfl) (xr_le hr ⟨(Nat.le_of_ble_eq_true rfl), (Nat.le_of_ble_eq_true rfl)⟩) ?_
  show WR G X (mQ G X none zf ((up2 (up2 (up2 (up2 (up2 (up2 (up2 (up2 (up2 (up2 (up2 (up2 (up2 (up2 (up2 (up2 (up2 R 55 5 (some 56)) 55 6 (some 57)) 55 7 (some 58)) 55 8 (some 59)) 55 9 (some 60)) 54 0 (some 55)) 54 5 (some 61)) 54 6 (some 62)) 54 7 (some 63)) 54 8 (some 64)) 54 9 (some 65)) 54 10 (some 66)) 54 11 (some 67)) 54 12 (some 68)) 54 13 (some 69)) 54 14 (some 70)) 54 15 (some 71)), 73, 3060)) 72 [.ref 54] [.ref 65, .ref 54] ((up2 (up2 (up2 (up2 z1.1 54 1 (0 : Int32)) 54 2 (0 : Int32)) 54 3 (1 : Int32)) 54 4 (0 : Int32)), z1.2) ((up2 (up2 (up2 (up2 (up2 (up2 (up2 (up2 (up2 (up2 R 55 5 (some 56)) 55 6 (some 57)) 55 7 (some 58)) 55 8 (some 59)) 55 9 (some 60)) 54 0 (some 55)) 54 5 (some 61)) 54 6 (some 62)) 54 7 (some 63)) 54 8 (some 64)), 67, 2846)
  have hF := fr_up (n' := 67) (by decide) hF
  refine r_putR hX hT dX4_init_72 fl_4_44 rfl (by decide) (Nat.le_of_ble_eq_true rfl) (Or.inr ⟨_, rfl⟩) ?_
  have hF := fr_R (a := 54) (j := 9) (b := 65) (by decide) hF
  show WR G X (mQ G X none zf ((up2 (up2 (up2 (up2 (up2 (up2 (up2 (up2 (up2 (up2 (up2 (up2 (up2 (up2 (up2 (up2 (up2 R 55 5 (some 56)) 55 6 (some 57)) 55 7 (some 58)) 55 8 (some 59)) 55 9 (some 60)) 54 0 (some 55)) 54 5 (some 61)) 54 6 (some 62)) 54 7 (some 63)) 54 8 (some 64)) 54 9 (some 65)) 54 10 (some 66)) 54 11 (some 67)) 54 12 (some 68)) 54 13 (some 69)) 54 14 (some 70)) 54 15 (some 71)), 73, 3060)) 75 [.ref 54] [] ((up2 (up2 (up2 (up2 z1.1 54 1 (0 : Int32)) 54 2 (0 : Int32)) 54 3 (1 : Int32)) 54 4 (0 : Int32)), z1.2) ((up2 (up2 (up2 (up2 (up2 (up2 (up2 (up2 (up2 (up2 (up2 R 55 5 (some 56)) 55 6 (some 57)) 55 7 (some 58)) 55 8 (some 59)) 55 9 (some 60)) 54 0 (some 55)) 54 5 (some 61)) 54 6 (some 62)) 54 7 (some 63)) 54 8 (some 64)) 54 9 (some 65)), 67, 2846)
  refine r_aload_n hX dX4_init_75 rfl ?_
  refine r_bipush (v := (40 : Int32)) hX dX4_init_76 (by decide) ?_
  refine r_newI (ci := 10) (N := 40) hX dX4_init_78 ac_int rfl (fun _ e => by cases e) rfl rfl (by decide) rfl (by decide) (by decide) (Nat.le_of_ble_eq_true rfl) (fr_fresh hF) (Nat.le_of_ble_eq_true rfl) (xr_le hr ⟨(Nat.le_of_ble_eq_true rfl), (Nat.le_of_ble_eq_true rfl)⟩) ?_
  show WR G X (mQ G X none zf ((up2 (up2 (up2 (up2 (up2 (up2 (up2 (up2 (up2 (up2 (up2 (up2 (up2 (up2 (up2 (up2 (up2 R 55 5 (some 56)) 55 6 (some 57)) 55 7 (some 58)) 55 8 (some 59)) 55 9 (some 60)) 54 0 (some 55)) 54 5 (some 61)) 54 6 (some 62)) 54 7 (some 63)) 54 8 (some 64)) 54 9 (some 65)) 54 10 (some 66)) 54 11 (some 67)) 54 12 (some 68)) 54 13 (some 69)) 54 14 (some 70)) 54 15 (some 71)), 73, 3060)) 80 [.ref 54] [.ref 66, .ref 54] ((up2 (up2 (up2 (up2 z1.1 54 1 (0 : Int32)) 54 2 (0 : Int32)) 54 3 (1 : Int32)) 54 4 (0 : Int32)), z1.2) ((up2 (up2 (up2 (up2 (up2 (up2 (up2 (up2 (up2 (up2 (up2 R 55 5 (some 56)) 55 6 (some 57)) 55 7 (some 58)) 55 8 (some 59)) 55 9 (some 60)) 54 0 (some 55)) 54 5 (some 61)) 54 6 (some 62)) 54 7 (some 63)) 54 8 (some 64)) 54 9 (some 65)), 68, 2886)
  have hF := fr_up (n' := 68) (by decide) hF
  refine r_putR hX hT dX4_init_80 fl_4_47 rfl (by decide) (Nat.le_of_ble_eq_true rfl) (Or.inr ⟨_, rfl⟩) ?_
  have hF := fr_R (a := 54) (j := 10) (b := 66) (by decide) hF
  show WR G X (mQ G X none zf ((up2 (up2 (up2 (up2 (up2 (up2 (up2 (up2 (up2 (up2 (up2 (up2 (up2 (up2 (up2 (up2 (up2 R 55 5 (some 56)) 55 6 (some 57)) 55 7 (some 58)) 55 8 (some 59)) 55 9 (some 60)) 54 0 (some 55)) 54 5 (some 61)) 54 6 (some 62)) 54 7 (some 63)) 54 8 (some 64)) 54 9 (some 65)) 54 10 (some 66)) 54 11 (some 67)) 54 12 (some 68)) 54 13 (some 69)) 54 14 (some 70)) 54 15 (some 71)), 73, 3060)) 83 [.ref 54] [] ((up2 (up2 (up2 (up2 z1.1 54 1 (0 : Int32)) 54 2 (0 : Int32)) 54 3 (1 : Int32)) 54 4 (0 : Int32)), z1.2) ((up2 (up2 (up2 (up2 (up2 (up2 (up2 (up2 (up2 (up2 (up2 (up2 R 55 5 (some 56)) 55 6 (some 57)) 55 7 (some 58)) 55 8 (some 59)) 55 9 (some 60)) 54 0 (some 55)) 54 5 (some 61)) 54 6 (some 62)) 54 7 (some 63)) 54 8 (some 64)) 54 9 (some 65)) 54 10 (some 66)), 68, 2886)
  refine r_aload_n hX dX4_init_83 rfl ?_
  refine r_bipush (v := (40 : Int32)) hX dX4_init_84 (by decide) ?_
  refine r_newI (ci := 10) (N := 40) hX dX4_init_86 ac_int rfl (fun _ e => by cases e) rfl rfl (by decide) rfl (by decide) (by decide) (Nat.le_of_ble_eq_true rfl) (fr_fresh hF) (Nat.le_of_ble_eq_true rfl) (xr_le hr ⟨(Nat.le_of_ble_eq_true rfl), (Nat.le_of_ble_eq_true rfl)⟩) ?_
  show WR G X (mQ G X none zf ((up2 (up2 (up2 (up2 (up2 (up2 (up2 (up2 (up2 (up2 (up2 (up2 (up2 (up2 (up2 (up2 (up2 R 55 5 (some 56)) 55 6 (some 57)) 55 7 (some 58)) 55 8 (some 59)) 55 9 (some 60)) 54 0 (some 55)) 54 5 (some 61)) 54 6 (some 62)) 54 7 (some 63)) 54 8 (some 64)) 54 9 (some 65)) 54 10 (some 66)) 54 11 (some 67)) 54 12 (some 68)) 54 13 (some 69)) 54 14 (some 70)) 54 15 (some 71)), 73, 3060)) 88 [.ref 54] [.ref 67, .ref 54] ((up2 (up2 (up2 (up2 z1.1 54 1 (0 : Int32)) 54 2 (0 : Int32)) 54 3 (1 : Int32)) 54 4 (0 : Int32)), z1.2) ((up2 (up2 (up2 (up2 (up2 (up2 (up2 (up2 (up2 (up2 (up2 (up2 R 55 5 (some 56)) 55 6 (some 57)) 55 7 (some 58)) 55 8 (some 59)) 55 9 (some 60)) 54 0 (some 55)) 54 5 (some 61)) 54 6 (some 62)) 54 7 (some 63)) 54 8 (some 64)) 54 9 (some 65)) 54 10 (some 66)), 69, 2926)
  have hF := fr_up (n' := 69) (by decide) hF
  refine r_putR hX hT dX4_init_88 fl_4_50 rfl (by decide) (Nat.le_of_ble_eq_true rfl) (Or.inr ⟨_, rfl⟩) ?_
  have hF := fr_R (a := 54) (j := 11) (b := 67) (by decide) hF
  show WR G X (mQ G X none zf ((up2 (up2 (up2 (up2 (up2 (up2 (up2 (up2 (up2 (up2 (up2 (up2 (up2 (up2 (up2 (up2 (up2 R 55 5 (some 56)) 55 6 (some 57)) 55 7 (some 58)) 55 8 (some 59)) 55 9 (some 60)) 54 0 (some 55)) 54 5 (some 61)) 54 6 (some 62)) 54 7 (some 63)) 54 8 (some 64)) 54 9 (some 65)) 54 10 (some 66)) 54 11 (some 67)) 54 12 (some 68)) 54 13 (some 69)) 54 14 (some 70)) 54 15 (some 71)), 73, 3060)) 91 [.ref 54] [] ((up2 (up2 (up2 (up2 z1.1 54 1 (0 : Int32)) 54 2 (0 : Int32)) 54 3 (1 : Int32)) 54 4 (0 : Int32)), z1.2) ((up2 (up2 (up2 (up2 (up2 (up2 (up2 (up2 (up2 (up2 (up2 (up2 (up2 R 55 5 (some 56)) 55 6 (some 57)) 55 7 (some 58)) 55 8 (some 59)) 55 9 (some 60)) 54 0 (some 55)) 54 5 (some 61)) 54 6 (some 62)) 54 7 (some 63)) 54 8 (some 64)) 54 9 (some 65)) 54 10 (some 66)) 54 11 (some 67)), 69, 2926)
  refine r_aload_n hX dX4_init_91 rfl ?_
  refine r_bipush (v := (40 : Int32)) hX dX4_init_92 (by decide) ?_
  refine r_newI (ci := 10) (N := 40) hX dX4_init_94 ac_int rfl (fun _ e => by cases e) rfl rfl (by decide) rfl (by decide) (by decide) (Nat.le_of_ble_eq_true rfl) (fr_fresh hF) (Nat.le_of_ble_eq_true rfl) (xr_le hr ⟨(Nat.le_of_ble_eq_true rfl), (Nat.le_of_ble_eq_true rfl)⟩) ?_
  show WR G X (mQ G X none zf ((up2 (up2 (up2 (up2 (up2 (up2 (up2 (up2 (up2 (up2 (up2 (up2 (up2 (up2 (up2 (up2 (up2 R 55 5 (some 56)) 55 6 (some 57)) 55 7 (some 58)) 55 8 (some 59)) 55 9 (some 60)) 54 0 (some 55)) 54 5 (some 61)) 54 6 (some 62)) 54 7 (some 63)) 54 8 (some 64)) 54 9 (some 65)) 54 10 (some 66)) 54 11 (some 67)) 54 12 (some 68)) 54 13 (some 69)) 54 14 (some 70)) 54 15 (some 71)), 73, 3060)) 96 [.ref 54] [.ref 68, .ref 54] ((up2 (up2 (up2 (up2 z1.1 54 1 (0 : Int32)) 54 2 (0 : Int32)) 54 3 (1 : Int32)) 54 4 (0 : Int32)), z1.2) ((up2 (up2 (up2 (up2 (up2 (up2 (up2 (up2 (up2 (up2 (up2 (up2 (up2 R 55 5 (some 56)) 55 6 (some 57)) 55 7 (some 58)) 55 8 (some 59)) 55 9 (some 60)) 54 0 (some 55)) 54 5 (some 61)) 54 6 (some 62)) 54 7 (some 63)) 54 8 (some 64)) 54 9 (some 65)) 54 10 (some 66)) 54 11 (some 67)), 70, 2966)
  have hF := fr_up (n' := 70) (by decide) hF
  refine r_putR hX hT dX4_init_96 fl_4_53 rfl (by decide) (Nat.le_of_ble_eq_true rfl) (Or.inr ⟨_, rfl⟩) ?_
  have hF := fr_R (a := 54) (j := 12) (b := 68) (by decide) hF
  show WR G X (mQ G X none zf ((up2 (up2 (up2 (up2 (up2 (up2 (up2 (up2 (up2 (up2 (up2 (up2 (up2 (up2 (up2 (up2 (up2 R 55 5 (some 56)) 55 6 (some 57)) 55 7 (some 58)) 55 8 (some 59)) 55 9 (some 60)) 54 0 (some 55)) 54 5 (some 61)) 54 6 (some 62)) 54 7 (some 63)) 54 8 (some 64)) 54 9 (some 65)) 54 10 (some 66)) 54 11 (some 67)) 54 12 (some 68)) 54 13 (some 69)) 54 14 (some 70)) 54 15 (some 71)), 73, 3060)) 99 [.ref 54] [] ((up2 (up2 (up2 (up2 z1.1 54 1 (0 : Int32)) 54 2 (0 : Int32)) 54 3 (1 : Int32)) 54 4 (0 : Int32)), z1.2) ((up2 (up2 (up2 (up2 (up2 (up2 (up2 (up2 (up2 (up2 (up2 (up2 (up2 (up2 R 55 5 (some 56)) 55 6 (some 57)) 55 7 (some 58)) 55 8 (some 59)) 55 9 (some 60)) 54 0 (some 55)) 54 5 (some 61)) 54 6 (some 62)) 54 7 (some 63)) 54 8 (some 64)) 54 9 (some 65)) 54 10 (some 66)) 54 11 (some 67)) 54 12 (some 68)), 70, 2966)
  refine r_aload_n hX dX4_init_99 rfl ?_
  refine r_bipush (v := (40 : Int32)) hX dX4_init_100 (by decide) ?_
  refine r_newJ (N := 40) hX dX4_init_102 ac_long rfl rfl (by decide) (by decide) (Nat.le_of_ble_eq_true rfl) (fr_fresh hF) (Nat.le_of_ble_eq_true rfl) (xr_le hr ⟨(Nat.le_of_ble_eq_true rfl), (Nat.le_of_ble_eq_true rfl)⟩) ?_
  show WR G X (mQ G X none zf ((up2 (up2 (up2 (up2 (up2 (up2 (up2 (up2 (up2 (up2 (up2 (up2 (up2 (up2 (up2 (up2 (up2 R 55 5 (some 56)) 55 6 (some 57)) 55 7 (some 58)) 55 8 (some 59)) 55 9 (some 60)) 54 0 (some 55)) 54 5 (some 61)) 54 6 (some 62)) 54 7 (some 63)) 54 8 (some 64)) 54 9 (some 65)) 54 10 (some 66)) 54 11 (some 67)) 54 12 (some 68)) 54 13 (some 69)) 54 14 (some 70)) 54 15 (some 71)), 73, 3060)) 104 [.ref 54] [.ref 69, .ref 54] ((up2 (up2 (up2 (up2 z1.1 54 1 (0 : Int32)) 54 2 (0 : Int32)) 54 3 (1 : Int32)) 54 4 (0 : Int32)), z1.2) ((up2 (up2 (up2 (up2 (up2 (up2 (up2 (up2 (up2 (up2 (up2 (up2 (up2 (up2 R 55 5 (some 56)) 55 6 (some 57)) 55 7 (some 58)) 55 8 (some 59)) 55 9 (some 60)) 54 0 (some 55)) 54 5 (some 61)) 54 6 (some 62)) 54 7 (some 63)) 54 8 (some 64)) 54 9 (some 65)) 54 10 (some 66)) 54 11 (some 67)) 54 12 (some 68)), 71, 3006)
  have hF := fr_up (n' := 71) (by decide) hF
  refine r_putR hX hT dX4_init_104 fl_4_56 rfl (by decide) (Nat.le_of_ble_eq_true rfl) (Or.inr ⟨_, rfl⟩) ?_
  have hF := fr_R (a := 54) (j := 13) (b := 69) (by decide) hF
  show WR G X (mQ G X none zf ((up2 (up2 (up2 (up2 (up2 (up2 (up2 (up2 (up2 (up2 (up2 (up2 (up2 (up2 (up2 (up2 (up2 R 55 5 (some 56)) 55 6 (some 57)) 55 7 (some 58)) 55 8 (some 59)) 55 9 (some 60)) 54 0 (some 55)) 54 5 (some 61)) 54 6 (some 62)) 54 7 (some 63)) 54 8 (some 64)) 54 9 (some 65)) 54 10 (some 66)) 54 11 (some 67)) 54 12 (some 68)) 54 13 (some 69)) 54 14 (some 70)) 54 15 (some 71)), 73, 3060)) 107 [.ref 54] [] ((up2 (up2 (up2 (up2 z1.1 54 1 (0 : Int32)) 54 2 (0 : Int32)) 54 3 (1 : Int32)) 54 4 (0 : Int32)), z1.2) ((up2 (up2 (up2 (up2 (up2 (up2 (up2 (up2 (up2 (up2 (up2 (up2 (up2 (up2 (up2 R 55 5 (some 56)) 55 6 (some 57)) 55 7 (some 58)) 55 8 (some 59)) 55 9 (some 60)) 54 0 (some 55)) 54 5 (some 61)) 54 6 (some 62)) 54 7 (some 63)) 54 8 (some 64)) 54 9 (some 65)) 54 10 (some 66)) 54 11 (some 67)) 54 12 (some 68)) 54 13 (some 69)), 71, 3006)
  refine r_aload_n hX dX4_init_107 rfl ?_
  refine r_bipush (v := (14 : Int32)) hX dX4_init_108 (by decide) ?_
  refine r_newJ (N := 14) hX dX4_init_110 ac_long rfl rfl (by decide) (by decide) (Nat.le_of_ble_eq_true rfl) (fr_fresh hF) (Nat.le_of_ble_eq_true rfl) (xr_le hr ⟨(Nat.le_of_ble_eq_true rfl), (Nat.le_of_ble_eq_true rfl)⟩) ?_
  show WR G X (mQ G X none zf ((up2 (up2 (up2 (up2 (up2 (up2 (up2 (up2 (up2 (up2 (up2 (up2 (up2 (up2 (up2 (up2 (up2 R 55 5 (some 56)) 55 6 (some 57)) 55 7 (some 58)) 55 8 (some 59)) 55 9 (some 60)) 54 0 (some 55)) 54 5 (some 61)) 54 6 (some 62)) 54 7 (some 63)) 54 8 (some 64)) 54 9 (some 65)) 54 10 (some 66)) 54 11 (some 67)) 54 12 (some 68)) 54 13 (some 69)) 54 14 (some 70)) 54 15 (some 71)), 73, 3060)) 112 [.ref 54] [.ref 70, .ref 54] ((up2 (up2 (up2 (up2 z1.1 54 1 (0 : Int32)) 54 2 (0 : Int32)) 54 3 (1 : Int32)) 54 4 (0 : Int32)), z1.2) ((up2 (up2 (up2 (up2 (up2 (up2 (up2 (up2 (up2 (up2 (up2 (up2 (up2 (up2 (up2 R 55 5 (some 56)) 55 6 (some 57)) 55 7 (some 58)) 55 8 (some 59)) 55 9 (some 60)) 54 0 (some 55)) 54 5 (some 61)) 54 6 (some 62)) 54 7 (some 63)) 54 8 (some 64)) 54 9 (some 65)) 54 10 (some 66)) 54 11 (some 67)) 54 12 (some 68)) 54 13 (some 69)), 72, 3020)
  have hF := fr_up (n' := 72) (by decide) hF
  refine r_putR hX hT dX4_init_112 fl_4_60 rfl (by decide) (Nat.le_of_ble_eq_true rfl) (Or.inr ⟨_, rfl⟩) ?_
  have hF := fr_R (a := 54) (j := 14) (b := 70) (by decide) hF
  show WR G X (mQ G X none zf ((up2 (up2 (up2 (up2 (up2 (up2 (up2 (up2 (up2 (up2 (up2 (up2 (up2 (up2 (up2 (up2 (up2 R 55 5 (some 56)) 55 6 (some 57)) 55 7 (some 58)) 55 8 (some 59)) 55 9 (some 60)) 54 0 (some 55)) 54 5 (some 61)) 54 6 (some 62)) 54 7 (some 63)) 54 8 (some 64)) 54 9 (some 65)) 54 10 (some 66)) 54 11 (some 67)) 54 12 (some 68)) 54 13 (some 69)) 54 14 (some 70)) 54 15 (some 71)), 73, 3060)) 115 [.ref 54] [] ((up2 (up2 (up2 (up2 z1.1 54 1 (0 : Int32)) 54 2 (0 : Int32)) 54 3 (1 : Int32)) 54 4 (0 : Int32)), z1.2) ((up2 (up2 (up2 (up2 (up2 (up2 (up2 (up2 (up2 (up2 (up2 (up2 (up2 (up2 (up2 (up2 R 55 5 (some 56)) 55 6 (some 57)) 55 7 (some 58)) 55 8 (some 59)) 55 9 (some 60)) 54 0 (some 55)) 54 5 (some 61)) 54 6 (some 62)) 54 7 (some 63)) 54 8 (some 64)) 54 9 (some 65)) 54 10 (some 66)) 54 11 (some 67)) 54 12 (some 68)) 54 13 (some 69)) 54 14 (some 70)), 72, 3020)
  refine r_aload_n hX dX4_init_115 rfl ?_
  refine r_bipush (v := (40 : Int32)) hX dX4_init_116 (by decide) ?_
  refine r_newI (ci := 10) (N := 40) hX dX4_init_118 ac_int rfl (fun _ e => by cases e) rfl rfl (by decide) rfl (by decide) (by decide) (Nat.le_of_ble_eq_true rfl) (fr_fresh hF) (Nat.le_of_ble_eq_true rfl) (xr_le hr ⟨(Nat.le_of_ble_eq_true rfl), (Nat.le_of_ble_eq_true rfl)⟩) ?_
  show WR G X (mQ G X none zf ((up2 (up2 (up2 (up2 (up2 (up2 (up2 (up2 (up2 (up2 (up2 (up2 (up2 (up2 (up2 (up2 (up2 R 55 5 (some 56)) 55 6 (some 57)) 55 7 (some 58)) 55 8 (some 59)) 55 9 (some 60)) 54 0 (some 55)) 54 5 (some 61)) 54 6 (some 62)) 54 7 (some 63)) 54 8 (some 64)) 54 9 (some 65)) 54 10 (some 66)) 54 11 (some 67)) 54 12 (some 68)) 54 13 (some 69)) 54 14 (some 70)) 54 15 (some 71)), 73, 3060)) 120 [.ref 54] [.ref 71, .ref 54] ((up2 (up2 (up2 (up2 z1.1 54 1 (0 : Int32)) 54 2 (0 : Int32)) 54 3 (1 : Int32)) 54 4 (0 : Int32)), z1.2) ((up2 (up2 (up2 (up2 (up2 (up2 (up2 (up2 (up2 (up2 (up2 (up2 (up2 (up2 (up2 (up2 R 55 5 (some 56)) 55 6 (some 57)) 55 7 (some 58)) 55 8 (some 59)) 55 9 (some 60)) 54 0 (some 55)) 54 5 (some 61)) 54 6 (some 62)) 54 7 (some 63)) 54 8 (some 64)) 54 9 (some 65)) 54 10 (some 66)) 54 11 (some 67)) 54 12 (some 68)) 54 13 (some 69)) 54 14 (some 70)), 73, 3060)
  have hF := fr_up (n' := 73) (by decide) hF
  refine r_putR hX hT dX4_init_120 fl_4_63 rfl (by decide) (Nat.le_of_ble_eq_true rfl) (Or.inr ⟨_, rfl⟩) ?_
  have hF := fr_R (a := 54) (j := 15) (b := 71) (by decide) hF
  show WR G X (mQ G X none zf ((up2 (up2 (up2 (up2 (up2 (up2 (up2 (up2 (up2 (up2 (up2 (up2 (up2 (up2 (up2 (up2 (up2 R 55 5 (some 56)) 55 6 (some 57)) 55 7 (some 58)) 55 8 (some 59)) 55 9 (some 60)) 54 0 (some 55)) 54 5 (some 61)) 54 6 (some 62)) 54 7 (some 63)) 54 8 (some 64)) 54 9 (some 65)) 54 10 (some 66)) 54 11 (some 67)) 54 12 (some 68)) 54 13 (some 69)) 54 14 (some 70)) 54 15 (some 71)), 73, 3060)) 123 [.ref 54] [] ((up2 (up2 (up2 (up2 z1.1 54 1 (0 : Int32)) 54 2 (0 : Int32)) 54 3 (1 : Int32)) 54 4 (0 : Int32)), z1.2) ((up2 (up2 (up2 (up2 (up2 (up2 (up2 (up2 (up2 (up2 (up2 (up2 (up2 (up2 (up2 (up2 (up2 R 55 5 (some 56)) 55 6 (some 57)) 55 7 (some 58)) 55 8 (some 59)) 55 9 (some 60)) 54 0 (some 55)) 54 5 (some 61)) 54 6 (some 62)) 54 7 (some 63)) 54 8 (some 64)) 54 9 (some 65)) 54 10 (some 66)) 54 11 (some 67)) 54 12 (some 68)) 54 13 (some 69)) 54 14 (some 70)) 54 15 (some 71)), 73, 3060)
  obtain rfl := Option.some.inj h
  exact r_vret hX hT dX4_init_123
theorem fr_St_init54 {n : Nat} {M zf : Mm} {R : Nat → Nat → Option Nat} (hF : fr 56 M R) (h : St_init54 n M = some zf) : fr 73 zf (up2 (up2 (up2 (up2 (up2 (up2 (up2 (up2 (up2 (up2 (up2 (up2 (up2 (up2 (up2 (up2 (up2 R 55 5 (some 56)) 55 6 (some 57)) 55 7 (some 58)) 55 8 (some 59)) 55 9 (some 60)) 54 0 (some 55)) 54 5 (some 61)) 54 6 (some 62)) 54 7 (some 63)) 54 8 (some 64)) 54 9 (some 65)) 54 10 (some 66)) 54 11 (some 67)) 54 12 (some 68)) 54 13 (some 69)) 54 14 (some 70)) 54 15 (some 71)) := by
  unfold St_init54 at h
  have hF := fr_eta hF
  have hF := fr_eta hF
  have hF := fr_up (n' := 57) (by decide) hF
  obtain ⟨z1, p1, h⟩ := bnd_s h
  have hF := fr_Nt_init55 hF p1
  have hF := fr_eta hF
  have hF := fr_R (a := 54) (j := 0) (b := 55) (by decide) hF
  have hF := fr_I (a := 54) (j := 1) (x := (0 : Int32)) (by decide) hF
  have hF := fr_I (a := 54) (j := 2) (x := (0 : Int32)) (by decide) hF
  have hF := fr_I (a := 54) (j := 3) (x := (1 : Int32)) (by decide) hF
  have hF := fr_I (a := 54) (j := 4) (x := (0 : Int32)) (by decide) hF
  have hF := fr_up (n' := 63) (by decide) hF
  have hF := fr_R (a := 54) (j := 5) (b := 61) (by decide) hF
  have hF := fr_up (n' := 64) (by decide) hF
  have hF := fr_R (a := 54) (j := 6) (b := 62) (by decide) hF
  have hF := fr_up (n' := 65) (by decide) hF
  have hF := fr_R (a := 54) (j := 7) (b := 63) (by decide) hF
  have hF := fr_up (n' := 66) (by decide) hF
  have hF := fr_R (a := 54) (j := 8) (b := 64) (by decide) hF
  have hF := fr_up (n' := 67) (by decide) hF
  have hF := fr_R (a := 54) (j := 9) (b := 65) (by decide) hF
  have hF := fr_up (n' := 68) (by decide) hF
  have hF := fr_R (a := 54) (j := 10) (b := 66) (by decide) hF
  have hF := fr_up (n' := 69) (by decide) hF
  have hF := fr_R (a := 54) (j := 11) (b := 67) (by decide) hF
  have hF := fr_up (n' := 70) (by decide) hF
  have hF := fr_R (a := 54) (j := 12) (b := 68) (by decide) hF
  have hF := fr_up (n' := 71) (by decide) hF
  have hF := fr_R (a := 54) (j := 13) (b := 69) (by decide) hF
  have hF := fr_up (n' := 72) (by decide) hF
  have hF := fr_R (a := 54) (j := 14) (b := 70) (by decide) hF
  have hF := fr_up (n' := 73) (by decide) hF
  have hF := fr_R (a := 54) (j := 15) (b := 71) (by decide) hF
  obtain rfl := Option.some.inj h
  exact hF
def Nt_init74 (n : Nat) (M : Mm) : Option Mm :=
  bnd (Nt_begin n 74 M) (fun z1 =>
  some z1)
set_option maxRecDepth 100000 in
theorem ok_Nt_init74 {G : Gm} {l : Launch} {d : Nat} (n : Nat) (M : Mm) {zf : Mm} {R : Nat → Nat → Option Nat} (hF : fr 76 M R) (h : Nt_init74 n M = some zf) : CK G l (d + 1) md_Nt_init [.ref 74] M (R, 76, 3094) none zf ((up2 (up2 (up2 (up2 (up2 R 74 5 (some 75)) 74 6 (some 76)) 74 7 (some 77)) 74 8 (some 78)) 74 9 (some 79)), 81, 3204) := by
  refine ck_of mk_Nt_init (Nat.le_of_ble_eq_true rfl) ⟨(Nat.le_of_ble_eq_true rfl), (Nat.le_of_ble_eq_true rfl)⟩ (fun X hX hT hSx hr hl => ?_)
  subst hl
  unfold Nt_init74 at h
  show WR G X (mQ G X none zf ((up2 (up2 (up2 (up2 (up2 R 74 5 (some 75)) 74 6 (some 76)) 74 7 (some 77)) 74 8 (some 78)) 74 9 (some 79)), 81, 3204)) 0 [.ref 74] [] M (R, 76, 3094)
  have hF := fr_eta hF
  refine r_aload_n hX dX1_init_0 rfl ?_
  refine r_objInit hX dX1_init_1 ml_1_3 rfl (Nat.le_of_ble_eq_true rfl) ?_
  refine r_aload_n hX dX1_init_4 rfl ?_
  refine r_iconst (v := (4 : Int32)) hX dX1_init_5 (by decide) ?_
  refine r_newI (ci := 10) (N := 4) hX dX1_init_6 ac_int rfl (fun _ e => by cases e) rfl rfl (by decide) rfl (by decide) (by decide) (Nat.le_of_ble_eq_true rfl) (fr_fresh hF) (Nat.le_of_ble_eq_true rfl) (xr_le hr ⟨(Nat.le_of_ble_eq_true rfl), (Nat.le_of_ble_eq_true rfl)⟩) ?_
  show WR G X (mQ G X none zf ((up2 (up2 (up2 (up2 (up2 R 74 5 (some 75)) 74 6 (some 76)) 74 7 (some 77)) 74 8 (some 78)) 74 9 (some 79)), 81, 3204)) 8 [.ref 74] [.ref 75, .ref 74] M (R, 77, 3098)
  have hF := fr_up (n' := 77) (by decide) hF
  refine r_putR hX hT dX1_init_8 fl_1_9 rfl (by decide) (Nat.le_of_ble_eq_true rfl) (Or.inr ⟨_, rfl⟩) ?_
  have hF := fr_R (a := 74) (j := 5) (b := 75) (by decide) hF
  show WR G X (mQ G X none zf ((up2 (up2 (up2 (up2 (up2 R 74 5 (some 75)) 74 6 (some 76)) 74 7 (some 77)) 74 8 (some 78)) 74 9 (some 79)), 81, 3204)) 11 [.ref 74] [] M ((up2 R 74 5 (some 75)), 77, 3098)
  refine r_aload_n hX dX1_init_11 rfl ?_
  refine r_bipush (v := (14 : Int32)) hX dX1_init_12 (by decide) ?_
  refine r_newI (ci := 10) (N := 14) hX dX1_init_14 ac_int rfl (fun _ e => by cases e) rfl rfl (by decide) rfl (by decide) (by decide) (Nat.le_of_ble_eq_true rfl) (fr_fresh hF) (Nat.le_of_ble_eq_true rfl) (xr_le hr ⟨(Nat.le_of_ble_eq_true rfl), (Nat.le_of_ble_eq_true rfl)⟩) ?_
  show WR G X (mQ G X none zf ((up2 (up2 (up2 (up2 (up2 R 74 5 (some 75)) 74 6 (some 76)) 74 7 (some 77)) 74 8 (some 78)) 74 9 (some 79)), 81, 3204)) 16 [.ref 74] [.ref 76, .ref 74] M ((up2 R 74 5 (some 75)), 78, 3112)
  have hF := fr_up (n' := 78) (by decide) hF
  refine r_putR hX hT dX1_init_16 fl_1_15 rfl (by decide) (Nat.le_of_ble_eq_true rfl) (Or.inr ⟨_, rfl⟩) ?_
  have hF := fr_R (a := 74) (j := 6) (b := 76) (by decide) hF
  show WR G X (mQ G X none zf ((up2 (up2 (up2 (up2 (up2 R 74 5 (some 75)) 74 6 (some 76)) 74 7 (some 77)) 74 8 (some 78)) 74 9 (some 79)), 81, 3204)) 19 [.ref 74] [] M ((up2 (up2 R 74 5 (some 75)) 74 6 (some 76)), 78, 3112)
  refine r_aload_n hX dX1_init_19 rfl ?_
  refine r_bipush (v := (14 : Int32)) hX dX1_init_20 (by decide) ?_
  refine r_newI (ci := 10) (N := 14) hX dX1_init_22 ac_int rfl (fun _ e => by cases e) rfl rfl (by decide) rfl (by decide) (by decide) (Nat.le_of_ble_eq_true rfl) (fr_fresh hF) (Nat.le_of_ble_eq_true rfl) (xr_le hr ⟨(Nat.le_of_ble_eq_true rfl), (Nat.le_of_ble_eq_true rfl)⟩) ?_
  show WR G X (mQ G X none zf ((up2 (up2 (up2 (up2 (up2 R 74 5 (some 75)) 74 6 (some 76)) 74 7 (some 77)) 74 8 (some 78)) 74 9 (some 79)), 81, 3204)) 24 [.ref 74] [.ref 77, .ref 74] M ((up2 (up2 R 74 5 (some 75)) 74 6 (some 76)), 79, 3126)
  have hF := fr_up (n' := 79) (by decide) hF
  refine r_putR hX hT dX1_init_24 fl_1_18 rfl (by decide) (Nat.le_of_ble_eq_true rfl) (Or.inr ⟨_, rfl⟩) ?_
  have hF := fr_R (a := 74) (j := 7) (b := 77) (by decide) hF
  show WR G X (mQ G X none zf ((up2 (up2 (up2 (up2 (up2 R 74 5 (some 75)) 74 6 (some 76)) 74 7 (some 77)) 74 8 (some 78)) 74 9 (some 79)), 81, 3204)) 27 [.ref 74] [] M ((up2 (up2 (up2 R 74 5 (some 75)) 74 6 (some 76)) 74 7 (some 77)), 79, 3126)
  refine r_aload_n hX dX1_init_27 rfl ?_
  refine r_bipush (v := (14 : Int32)) hX dX1_init_28 (by decide) ?_
  refine r_newI (ci := 10) (N := 14) hX dX1_init_30 ac_int rfl (fun _ e => by cases e) rfl rfl (by decide) rfl (by decide) (by decide) (Nat.le_of_ble_eq_true rfl) (fr_fresh hF) (Nat.le_of_ble_eq_true rfl) (xr_le hr ⟨(Nat.le_of_ble_eq_true rfl), (Nat.le_of_ble_eq_true rfl)⟩) ?_
  show WR G X (mQ G X none zf ((up2 (up2 (up2 (up2 (up2 R 74 5 (some 75)) 74 6 (some 76)) 74 7 (some 77)) 74 8 (some 78)) 74 9 (some 79)), 81, 3204)) 32 [.ref 74] [.ref 78, .ref 74] M ((up2 (up2 (up2 R 74 5 (some 75)) 74 6 (some 76)) 74 7 (some 77)), 80, 3140)
  have hF := fr_up (n' := 80) (by decide) hF
  refine r_putR hX hT dX1_init_32 fl_1_21 rfl (by decide) (Nat.le_of_ble_eq_true rfl) (Or.inr ⟨_, rfl⟩) ?_
  have hF := fr_R (a := 74) (j := 8) (b := 78) (by decide) hF
  show WR G X (mQ G X none zf ((up2 (up2 (up2 (up2 (up2 R 74 5 (some 75)) 74 6 (some 76)) 74 7 (some 77)) 74 8 (some 78)) 74 9 (some 79)), 81, 3204)) 35 [.ref 74] [] M ((up2 (up2 (up2 (up2 R 74 5 (some 75)) 74 6 (some 76)) 74 7 (some 77)) 74 8 (some 78)), 80, 3140)
  refine r_aload_n hX dX1_init_35 rfl ?_
  refine r_bipush (v := (64 : Int32)) hX dX1_init_36 (by decide) ?_
  refine r_newI (ci := 10) (N := 64) hX dX1_init_38 ac_int rfl (fun _ e => by cases e) rfl rfl (by decide) rfl (by decide) (by decide) (Nat.le_of_ble_eq_true rfl) (fr_fresh hF) (Nat.le_of_ble_eq_true rfl) (xr_le hr ⟨(Nat.le_of_ble_eq_true rfl), (Nat.le_of_ble_eq_true rfl)⟩) ?_
  show WR G X (mQ G X none zf ((up2 (up2 (up2 (up2 (up2 R 74 5 (some 75)) 74 6 (some 76)) 74 7 (some 77)) 74 8 (some 78)) 74 9 (some 79)), 81, 3204)) 40 [.ref 74] [.ref 79, .ref 74] M ((up2 (up2 (up2 (up2 R 74 5 (some 75)) 74 6 (some 76)) 74 7 (some 77)) 74 8 (some 78)), 81, 3204)
  have hF := fr_up (n' := 81) (by decide) hF
  refine r_putR hX hT dX1_init_40 fl_1_24 rfl (by decide) (Nat.le_of_ble_eq_true rfl) (Or.inr ⟨_, rfl⟩) ?_
  have hF := fr_R (a := 74) (j := 9) (b := 79) (by decide) hF
  show WR G X (mQ G X none zf ((up2 (up2 (up2 (up2 (up2 R 74 5 (some 75)) 74 6 (some 76)) 74 7 (some 77)) 74 8 (some 78)) 74 9 (some 79)), 81, 3204)) 43 [.ref 74] [] M ((up2 (up2 (up2 (up2 (up2 R 74 5 (some 75)) 74 6 (some 76)) 74 7 (some 77)) 74 8 (some 78)) 74 9 (some 79)), 81, 3204)
  refine r_aload_n hX dX1_init_43 rfl ?_
  obtain ⟨z1, p1, h⟩ := bnd_s h
  refine r_callV (As := []) (S1 := ((up2 (up2 (up2 (up2 (up2 R 74 5 (some 75)) 74 6 (some 76)) 74 7 (some 77)) 74 8 (some 78)) 74 9 (some 79)), 81, 3204)) hX dX1_init_44 mk_Nt_begin mi_Nt_begin ml_1_27 rfl rfl rfl rfl (by decide) (Nat.le_of_ble_eq_true rfl) (Nat.le_of_ble_eq_true rfl) (xr_le hr ⟨(Nat.le_of_ble_eq_true rfl), (Nat.le_of_ble_eq_true rfl)⟩) (okS_Nt_begin (d := d) n 74 M (nt_st st73) ⟨⟨(Nat.le_of_ble_eq_true rfl), (Nat.le_of_ble_eq_true rfl), (Nat.le_of_ble_eq_true rfl)⟩, rfl, rfl, rfl, rfl, rfl⟩ p1) ?_
  have hF := fr_same (Nt_begin_same p1) (by decide) hF
  have hF := fr_eta hF
  show WR G X (mQ G X none zf ((up2 (up2 (up2 (up2 (up2 R 74 5 (some 75)) 74 6 (some 76)) 74 7 (some 77)) 74 8 (some 78)) 74 9 (some 79)), 81, 3204)) 47 [.ref 74] [] z1 ((up2 (up2 (up2 (up2 (up2 R 74 5 (some 75)) 74 6 (some 76)) 74 7 (some 77)) 74 8 (some 78)) 74 9 (some 79)), 81, 3204)
  obtain rfl := Option.some.inj h
  exact r_vret hX hT dX1_init_47
theorem fr_Nt_init74 {n : Nat} {M zf : Mm} {R : Nat → Nat → Option Nat} (hF : fr 76 M R) (h : Nt_init74 n M = some zf) : fr 81 zf (up2 (up2 (up2 (up2 (up2 R 74 5 (some 75)) 74 6 (some 76)) 74 7 (some 77)) 74 8 (some 78)) 74 9 (some 79)) := by
  unfold Nt_init74 at h
  have hF := fr_eta hF
  have hF := fr_eta hF
  have hF := fr_up (n' := 77) (by decide) hF
  have hF := fr_R (a := 74) (j := 5) (b := 75) (by decide) hF
  have hF := fr_up (n' := 78) (by decide) hF
  have hF := fr_R (a := 74) (j := 6) (b := 76) (by decide) hF
  have hF := fr_up (n' := 79) (by decide) hF
  have hF := fr_R (a := 74) (j := 7) (b := 77) (by decide) hF
  have hF := fr_up (n' := 80) (by decide) hF
  have hF := fr_R (a := 74) (j := 8) (b := 78) (by decide) hF
  have hF := fr_up (n' := 81) (by decide) hF
  have hF := fr_R (a := 74) (j := 9) (b := 79) (by decide) hF
  obtain ⟨z1, p1, h⟩ := bnd_s h
  have hF := fr_same (Nt_begin_same p1) (by decide) hF
  have hF := fr_eta hF
  obtain rfl := Option.some.inj h
  exact hF
def St_init73 (n : Nat) (M : Mm) : Option Mm :=
  bnd (Nt_init74 n M) (fun z1 =>
  some ((up2 (up2 (up2 (up2 z1.1 73 1 (0 : Int32)) 73 2 (0 : Int32)) 73 3 (1 : Int32)) 73 4 (0 : Int32)), z1.2))
set_option maxRecDepth 100000 in
theorem ok_St_init73 {G : Gm} {l : Launch} {d : Nat} (n : Nat) (M : Mm) {zf : Mm} {R : Nat → Nat → Option Nat} (hF : fr 75 M R) (h : St_init73 n M = some zf) : CK G l (d + 2) md_St_init [.ref 73] M (R, 75, 3084) none zf ((up2 (up2 (up2 (up2 (up2 (up2 (up2 (up2 (up2 (up2 (up2 (up2 (up2 (up2 (up2 (up2 (up2 R 74 5 (some 75)) 74 6 (some 76)) 74 7 (some 77)) 74 8 (some 78)) 74 9 (some 79)) 73 0 (some 74)) 73 5 (some 80)) 73 6 (some 81)) 73 7 (some 82)) 73 8 (some 83)) 73 9 (some 84)) 73 10 (some 85)) 73 11 (some 86)) 73 12 (some 87)) 73 13 (some 88)) 73 14 (some 89)) 73 15 (some 90)), 92, 3618) := by
  refine ck_of mk_St_init (Nat.le_of_ble_eq_true rfl) ⟨(Nat.le_of_ble_eq_true rfl), (Nat.le_of_ble_eq_true rfl)⟩ (fun X hX hT hSx hr hl => ?_)
  subst hl
  unfold St_init73 at h
  show WR G X (mQ G X none zf ((up2 (up2 (up2 (up2 (up2 (up2 (up2 (up2 (up2 (up2 (up2 (up2 (up2 (up2 (up2 (up2 (up2 R 74 5 (some 75)) 74 6 (some 76)) 74 7 (some 77)) 74 8 (some 78)) 74 9 (some 79)) 73 0 (some 74)) 73 5 (some 80)) 73 6 (some 81)) 73 7 (some 82)) 73 8 (some 83)) 73 9 (some 84)) 73 10 (some 85)) 73 11 (some 86)) 73 12 (some 87)) 73 13 (some 88)) 73 14 (some 89)) 73 15 (some 90)), 92, 3618)) 0 [.ref 73] [] M (R, 75, 3084)
  have hF := fr_eta hF
  refine r_aload_n hX dX4_init_0 rfl ?_
  refine r_objInit hX dX4_init_1 ml_4_3 rfl (Nat.le_of_ble_eq_true rfl) ?_
  refine r_aload_n hX dX4_init_4 rfl ?_
  refine r_new (ci := 1) hX dX4_init_5 cl_4_9 in1 ini1 rfl (by decide) (fr_fresh hF) (Nat.le_of_ble_eq_true rfl) (xr_le hr ⟨(Nat.le_of_ble_eq_true rfl), (Nat.le_of_ble_eq_true rfl)⟩) ?_
  show WR G X (mQ G X none zf ((up2 (up2 (up2 (up2 (up2 (up2 (up2 (up2 (up2 (up2 (up2 (up2 (up2 (up2 (up2 (up2 (up2 R 74 5 (some 75)) 74 6 (some 76)) 74 7 (some 77)) 74 8 (some 78)) 74 9 (some 79)) 73 0 (some 74)) 73 5 (some 80)) 73 6 (some 81)) 73 7 (some 82)) 73 8 (some 83)) 73 9 (some 84)) 73 10 (some 85)) 73 11 (some 86)) 73 12 (some 87)) 73 13 (some 88)) 73 14 (some 89)) 73 15 (some 90)), 92, 3618)) 8 [.ref 73] [.ref 74, .ref 73] M (R, 76, 3094)
  have hF := fr_up (n' := 76) (by decide) hF
  refine r_dup hX dX4_init_8 rfl ?_
  obtain ⟨z1, p1, h⟩ := bnd_s h
  refine r_callI (As := []) (S1 := ((up2 (up2 (up2 (up2 (up2 R 74 5 (some 75)) 74 6 (some 76)) 74 7 (some 77)) 74 8 (some 78)) 74 9 (some 79)), 81, 3204)) hX dX4_init_9 mk_Nt_init mc_Nt_init ml_4_11 rfl rfl rfl (Nat.le_of_ble_eq_true rfl) (Nat.le_of_ble_eq_true rfl) (xr_le hr ⟨(Nat.le_of_ble_eq_true rfl), (Nat.le_of_ble_eq_true rfl)⟩) (ok_Nt_init74 (d := d + 0) n M hF p1) ?_
  have hF := fr_Nt_init74 hF p1
  have hF := fr_eta hF
  show WR G X (mQ G X none zf ((up2 (up2 (up2 (up2 (up2 (up2 (up2 (up2 (up2 (up2 (up2 (up2 (up2 (up2 (up2 (up2 (up2 R 74 5 (some 75)) 74 6 (some 76)) 74 7 (some 77)) 74 8 (some 78)) 74 9 (some 79)) 73 0 (some 74)) 73 5 (some 80)) 73 6 (some 81)) 73 7 (some 82)) 73 8 (some 83)) 73 9 (some 84)) 73 10 (some 85)) 73 11 (some 86)) 73 12 (some 87)) 73 13 (some 88)) 73 14 (some 89)) 73 15 (some 90)), 92, 3618)) 12 [.ref 73] [.ref 74, .ref 73] z1 ((up2 (up2 (up2 (up2 (up2 R 74 5 (some 75)) 74 6 (some 76)) 74 7 (some 77)) 74 8 (some 78)) 74 9 (some 79)), 81, 3204)
  refine r_putR hX hT dX4_init_12 fl_4_12 rfl (by decide) (Nat.le_of_ble_eq_true rfl) (Or.inl ⟨_, rfl⟩) ?_
  have hF := fr_R (a := 73) (j := 0) (b := 74) (by decide) hF
  show WR G X (mQ G X none zf ((up2 (up2 (up2 (up2 (up2 (up2 (up2 (up2 (up2 (up2 (up2 (up2 (up2 (up2 (up2 (up2 (up2 R 74 5 (some 75)) 74 6 (some 76)) 74 7 (some 77)) 74 8 (some 78)) 74 9 (some 79)) 73 0 (some 74)) 73 5 (some 80)) 73 6 (some 81)) 73 7 (some 82)) 73 8 (some 83)) 73 9 (some 84)) 73 10 (some 85)) 73 11 (some 86)) 73 12 (some 87)) 73 13 (some 88)) 73 14 (some 89)) 73 15 (some 90)), 92, 3618)) 15 [.ref 73] [] z1 ((up2 (up2 (up2 (up2 (up2 (up2 R 74 5 (some 75)) 74 6 (some 76)) 74 7 (some 77)) 74 8 (some 78)) 74 9 (some 79)) 73 0 (some 74)), 81, 3204)
  refine r_aload_n hX dX4_init_15 rfl ?_
  refine r_iconst (v := (0 : Int32)) hX dX4_init_16 (by decide) ?_
  refine r_putI hX dX4_init_17 fl_4_18 rfl (by decide) (Nat.le_of_ble_eq_true rfl) (okI_int _) ?_
  have hF := fr_I (a := 73) (j := 1) (x := (0 : Int32)) (by decide) hF
  refine r_aload_n hX dX4_init_20 rfl ?_
  refine r_iconst (v := (0 : Int32)) hX dX4_init_21 (by decide) ?_
  refine r_putI' hX dX4_init_22 fl_4_22 rfl (by decide) (Nat.le_of_ble_eq_true rfl) (okI_int _) ?_
  have hF := fr_I (a := 73) (j := 2) (x := (0 : Int32)) (by decide) hF
  refine r_aload_n hX dX4_init_25 rfl ?_
  refine r_iconst (v := (1 : Int32)) hX dX4_init_26 (by decide) ?_
  refine r_putI' hX dX4_init_27 fl_4_25 rfl (by decide) (Nat.le_of_ble_eq_true rfl) (okI_int _) ?_
  have hF := fr_I (a := 73) (j := 3) (x := (1 : Int32)) (by decide) hF
  refine r_aload_n hX dX4_init_30 rfl ?_
  refine r_iconst (v := (0 : Int32)) hX dX4_init_31 (by decide) ?_
  refine r_putI' hX dX4_init_32 fl_4_28 rfl (by decide) (Nat.le_of_ble_eq_true rfl) (okI_int _) ?_
  have hF := fr_I (a := 73) (j := 4) (x := (0 : Int32)) (by decide) hF
  refine r_aload_n hX dX4_init_35 rfl ?_
  refine r_bipush (v := (40 : Int32)) hX dX4_init_36 (by decide) ?_
  refine r_newI (ci := 10) (N := 40) hX dX4_init_38 ac_int rfl (fun _ e => by cases e) rfl rfl (by decide) rfl (by decide) (by decide) (Nat.le_of_ble_eq_true rfl) (fr_fresh hF) (Nat.le_of_ble_eq_true rfl) (xr_le hr ⟨(Nat.le_of_ble_eq_true rfl), (Nat.le_of_ble_eq_true rfl)⟩) ?_
  show WR G X (mQ G X none zf ((up2 (up2 (up2 (up2 (up2 (up2 (up2 (up2 (up2 (up2 (up2 (up2 (up2 (up2 (up2 (up2 (up2 R 74 5 (some 75)) 74 6 (some 76)) 74 7 (some 77)) 74 8 (some 78)) 74 9 (some 79)) 73 0 (some 74)) 73 5 (some 80)) 73 6 (some 81)) 73 7 (some 82)) 73 8 (some 83)) 73 9 (some 84)) 73 10 (some 85)) 73 11 (some 86)) 73 12 (some 87)) 73 13 (some 88)) 73 14 (some 89)) 73 15 (some 90)), 92, 3618)) 40 [.ref 73] [.ref 80, .ref 73] ((up2 (up2 (up2 (up2 z1.1 73 1 (0 : Int32)) 73 2 (0 : Int32)) 73 3 (1 : Int32)) 73 4 (0 : Int32)), z1.2) ((up2 (up2 (up2 (up2 (up2 (up2 R 74 5 (some 75)) 74 6 (some 76)) 74 7 (some 77)) 74 8 (some 78)) 74 9 (some 79)) 73 0 (some 74)), 82, 3244)
  have hF := fr_up (n' := 82) (by decide) hF
  refine r_putR hX hT dX4_init_40 fl_4_31 rfl (by decide) (Nat.le_of_ble_eq_true rfl) (Or.inr ⟨_, rfl⟩) ?_
  have hF := fr_R (a := 73) (j := 5) (b := 80) (by decide) hF
  show WR G X (mQ G X none zf ((up2 (up2 (up2 (up2 (up2 (up2 (up2 (up2 (up2 (up2 (up2 (up2 (up2 (up2 (up2 (up2 (up2 R 74 5 (some 75)) 74 6 (some 76)) 74 7 (some 77)) 74 8 (some 78)) 74 9 (some 79)) 73 0 (some 74)) 73 5 (some 80)) 73 6 (some 81)) 73 7 (some 82)) 73 8 (some 83)) 73 9 (some 84)) 73 10 (some 85)) 73 11 (some 86)) 73 12 (some 87)) 73 13 (some 88)) 73 14 (some 89)) 73 15 (some 90)), 92, 3618)) 43 [.ref 73] [] ((up2 (up2 (up2 (up2 z1.1 73 1 (0 : Int32)) 73 2 (0 : Int32)) 73 3 (1 : Int32)) 73 4 (0 : Int32)), z1.2) ((up2 (up2 (up2 (up2 (up2 (up2 (up2 R 74 5 (some 75)) 74 6 (some 76)) 74 7 (some 77)) 74 8 (some 78)) 74 9 (some 79)) 73 0 (some 74)) 73 5 (some 80)), 82, 3244)
  refine r_aload_n hX dX4_init_43 rfl ?_
  refine r_bipush (v := (40 : Int32)) hX dX4_init_44 (by decide) ?_
  refine r_newI (ci := 10) (N := 40) hX dX4_init_46 ac_int rfl (fun _ e => by cases e) rfl rfl (by decide) rfl (by decide) (by decide) (Nat.le_of_ble_eq_true rfl) (fr_fresh hF) (Nat.le_of_ble_eq_true rfl) (xr_le hr ⟨(Nat.le_of_ble_eq_true rfl), (Nat.le_of_ble_eq_true rfl)⟩) ?_
  show WR G X (mQ G X none zf ((up2 (up2 (up2 (up2 (up2 (up2 (up2 (up2 (up2 (up2 (up2 (up2 (up2 (up2 (up2 (up2 (up2 R 74 5 (some 75)) 74 6 (some 76)) 74 7 (some 77)) 74 8 (some 78)) 74 9 (some 79)) 73 0 (some 74)) 73 5 (some 80)) 73 6 (some 81)) 73 7 (some 82)) 73 8 (some 83)) 73 9 (some 84)) 73 10 (some 85)) 73 11 (some 86)) 73 12 (some 87)) 73 13 (some 88)) 73 14 (some 89)) 73 15 (some 90)), 92, 3618)) 48 [.ref 73] [.ref 81, .ref 73] ((up2 (up2 (up2 (up2 z1.1 73 1 (0 : Int32)) 73 2 (0 : Int32)) 73 3 (1 : Int32)) 73 4 (0 : Int32)), z1.2) ((up2 (up2 (up2 (up2 (up2 (up2 (up2 R 74 5 (some 75)) 74 6 (some 76)) 74 7 (some 77)) 74 8 (some 78)) 74 9 (some 79)) 73 0 (some 74)) 73 5 (some 80)), 83, 3284)
  have hF := fr_up (n' := 83) (by decide) hF
  refine r_putR hX hT dX4_init_48 fl_4_35 rfl (by decide) (Nat.le_of_ble_eq_true rfl) (Or.inr ⟨_, rfl⟩) ?_
  have hF := fr_R (a := 73) (j := 6) (b := 81) (by decide) hF
  show WR G X (mQ G X none zf ((up2 (up2 (up2 (up2 (up2 (up2 (up2 (up2 (up2 (up2 (up2 (up2 (up2 (up2 (up2 (up2 (up2 R 74 5 (some 75)) 74 6 (some 76)) 74 7 (some 77)) 74 8 (some 78)) 74 9 (some 79)) 73 0 (some 74)) 73 5 (some 80)) 73 6 (some 81)) 73 7 (some 82)) 73 8 (some 83)) 73 9 (some 84)) 73 10 (some 85)) 73 11 (some 86)) 73 12 (some 87)) 73 13 (some 88)) 73 14 (some 89)) 73 15 (some 90)), 92, 3618)) 51 [.ref 73] [] ((up2 (up2 (up2 (up2 z1.1 73 1 (0 : Int32)) 73 2 (0 : Int32)) 73 3 (1 : Int32)) 73 4 (0 : Int32)), z1.2) ((up2 (up2 (up2 (up2 (up2 (up2 (up2 (up2 R 74 5 (some 75)) 74 6 (some 76)) 74 7 (some 77)) 74 8 (some 78)) 74 9 (some 79)) 73 0 (some 74)) 73 5 (some 80)) 73 6 (some 81)), 83, 3284)
  refine r_aload_n hX dX4_init_51 rfl ?_
  refine r_bipush (v := (40 : Int32)) hX dX4_init_52 (by decide) ?_
  refine r_newI (ci := 10) (N := 40) hX dX4_init_54 ac_int rfl (fun _ e => by cases e) rfl rfl (by decide) rfl (by decide) (by decide) (Nat.le_of_ble_eq_true rfl) (fr_fresh hF) (Nat.le_of_ble_eq_true rfl) (xr_le hr ⟨(Nat.le_of_ble_eq_true rfl), (Nat.le_of_ble_eq_true rfl)⟩) ?_
  show WR G X (mQ G X none zf ((up2 (up2 (up2 (up2 (up2 (up2 (up2 (up2 (up2 (up2 (up2 (up2 (up2 (up2 (up2 (up2 (up2 R 74 5 (some 75)) 74 6 (some 76)) 74 7 (some 77)) 74 8 (some 78)) 74 9 (some 79)) 73 0 (some 74)) 73 5 (some 80)) 73 6 (some 81)) 73 7 (some 82)) 73 8 (some 83)) 73 9 (some 84)) 73 10 (some 85)) 73 11 (some 86)) 73 12 (some 87)) 73 13 (some 88)) 73 14 (some 89)) 73 15 (some 90)), 92, 3618)) 56 [.ref 73] [.ref 82, .ref 73] ((up2 (up2 (up2 (up2 z1.1 73 1 (0 : Int32)) 73 2 (0 : Int32)) 73 3 (1 : Int32)) 73 4 (0 : Int32)), z1.2) ((up2 (up2 (up2 (up2 (up2 (up2 (up2 (up2 R 74 5 (some 75)) 74 6 (some 76)) 74 7 (some 77)) 74 8 (some 78)) 74 9 (some 79)) 73 0 (some 74)) 73 5 (some 80)) 73 6 (some 81)), 84, 3324)
  have hF := fr_up (n' := 84) (by decide) hF
  refine r_putR hX hT dX4_init_56 fl_4_38 rfl (by decide) (Nat.le_of_ble_eq_true rfl) (Or.inr ⟨_, rfl⟩) ?_
  have hF := fr_R (a := 73) (j := 7) (b := 82) (by decide) hF
  show WR G X (mQ G X none zf ((up2 (up2 (up2 (up2 (up2 (up2 (up2 (up2 (up2 (up2 (up2 (up2 (up2 (up2 (up2 (up2 (up2 R 74 5 (some 75)) 74 6 (some 76)) 74 7 (some 77)) 74 8 (some 78)) 74 9 (some 79)) 73 0 (some 74)) 73 5 (some 80)) 73 6 (some 81)) 73 7 (some 82)) 73 8 (some 83)) 73 9 (some 84)) 73 10 (some 85)) 73 11 (some 86)) 73 12 (some 87)) 73 13 (some 88)) 73 14 (some 89)) 73 15 (some 90)), 92, 3618)) 59 [.ref 73] [] ((up2 (up2 (up2 (up2 z1.1 73 1 (0 : Int32)) 73 2 (0 : Int32)) 73 3 (1 : Int32)) 73 4 (0 : Int32)), z1.2) ((up2 (up2 (up2 (up2 (up2 (up2 (up2 (up2 (up2 R 74 5 (some 75)) 74 6 (some 76)) 74 7 (some 77)) 74 8 (some 78)) 74 9 (some 79)) 73 0 (some 74)) 73 5 (some 80)) 73 6 (some 81)) 73 7 (some 82)), 84, 3324)
  refine r_aload_n hX dX4_init_59 rfl ?_
  refine r_bipush (v := (40 : Int32)) hX dX4_init_60 (by decide) ?_
  refine r_newI (ci := 10) (N := 40) hX dX4_init_62 ac_int rfl (fun _ e => by cases e) rfl rfl (by decide) rfl (by decide) (by decide) (Nat.le_of_ble_eq_true rfl) (fr_fresh hF) (Nat.le_of_ble_eq_true rfl) (xr_le hr ⟨(Nat.le_of_ble_eq_true rfl), (Nat.le_of_ble_eq_true rfl)⟩) ?_
  show WR G X (mQ G X none zf ((up2 (up2 (up2 (up2 (up2 (up2 (up2 (up2 (up2 (up2 (up2 (up2 (up2 (up2 (up2 (up2 (up2 R 74 5 (some 75)) 74 6 (some 76)) 74 7 (some 77)) 74 8 (some 78)) 74 9 (some 79)) 73 0 (some 74)) 73 5 (some 80)) 73 6 (some 81)) 73 7 (some 82)) 73 8 (some 83)) 73 9 (some 84)) 73 10 (some 85)) 73 11 (some 86)) 73 12 (some 87)) 73 13 (some 88)) 73 14 (some 89)) 73 15 (some 90)), 92, 3618)) 64 [.ref 73] [.ref 83, .ref 73] ((up2 (up2 (up2 (up2 z1.1 73 1 (0 : Int32)) 73 2 (0 : Int32)) 73 3 (1 : Int32)) 73 4 (0 : Int32)), z1.2) ((up2 (up2 (up2 (up2 (up2 (up2 (up2 (up2 (up2 R 74 5 (some 75)) 74 6 (some 76)) 74 7 (some 77)) 74 8 (some 78)) 74 9 (some 79)) 73 0 (some 74)) 73 5 (some 80)) 73 6 (some 81)) 73 7 (some 82)), 85, 3364)
  have hF := fr_up (n' := 85) (by decide) hF
  refine r_putR hX hT dX4_init_64 fl_4_41 rfl (by decide) (Nat.le_of_ble_eq_true rfl) (Or.inr ⟨_, rfl⟩) ?_
  have hF := fr_R (a := 73) (j := 8) (b := 83) (by decide) hF
  show WR G X (mQ G X none zf ((up2 (up2 (up2 (up2 (up2 (up2 (up2 (up2 (up2 (up2 (up2 (up2 (up2 (up2 (up2 (up2 (up2 R 74 5 (some 75)) 74 6 (some 76)) 74 7 (some 77)) 74 8 (some 78)) 74 9 (some 79)) 73 0 (some 74)) 73 5 (some 80)) 73 6 (some 81)) 73 7 (some 82)) 73 8 (some 83)) 73 9 (some 84)) 73 10 (some 85)) 73 11 (some 86)) 73 12 (some 87)) 73 13 (some 88)) 73 14 (some 89)) 73 15 (some 90)), 92, 3618)) 67 [.ref 73] [] ((up2 (up2 (up2 (up2 z1.1 73 1 (0 : Int32)) 73 2 (0 : Int32)) 73 3 (1 : Int32)) 73 4 (0 : Int32)), z1.2) ((up2 (up2 (up2 (up2 (up2 (up2 (up2 (up2 (up2 (up2 R 74 5 (some 75)) 74 6 (some 76)) 74 7 (some 77)) 74 8 (some 78)) 74 9 (some 79)) 73 0 (some 74)) 73 5 (some 80)) 73 6 (some 81)) 73 7 (some 82)) 73 8 (some 83)), 85, 3364)
  refine r_aload_n hX dX4_init_67 rfl ?_
  refine r_bipush (v := (40 : Int32)) hX dX4_init_68 (by decide) ?_
  refine r_newI (ci := 10) (N := 40) hX dX4_init_70 ac_int rfl (fun _ e => by cases e) rfl rfl (by decide) rfl (by decide) (by decide) (Nat.le_of_ble_eq_true rfl) (fr_fresh hF) (Nat.le_of_ble_eq_true rfl) (xr_le hr ⟨(Nat.le_of_ble_eq_true rfl), (Nat.le_of_ble_eq_true rfl)⟩) ?_
  show WR G X (mQ G X none zf ((up2 (up2 (up2 (up2 (up2 (up2 (up2 (up2 (up2 (up2 (up2 (up2 (up2 (up2 (up2 (up2 (up2 R 74 5 (some 75)) 74 6 (some 76)) 74 7 (some 77)) 74 8 (some 78)) 74 9 (some 79)) 73 0 (some 74)) 73 5 (some 80)) 73 6 (some 81)) 73 7 (some 82)) 73 8 (some 83)) 73 9 (some 84)) 73 10 (some 85)) 73 11 (some 86)) 73 12 (some 87)) 73 13 (some 88)) 73 14 (some 89)) 73 15 (some 90)), 92, 3618)) 72 [.ref 73] [.ref 84, .ref 73] ((up2 (up2 (up2 (up2 z1.1 73 1 (0 : Int32)) 73 2 (0 : Int32)) 73 3 (1 : Int32)) 73 4 (0 : Int32)), z1.2) ((up2 (up2 (up2 (up2 (up2 (up2 (up2 (up2 (up2 (up2 R 74 5 (some 75)) 74 6 (some 76)) 74 7 (some 77)) 74 8 (some 78)) 74 9 (some 79)) 73 0 (some 74)) 73 5 (some 80)) 73 6 (some 81)) 73 7 (some 82)) 73 8 (some 83)), 86, 3404)
  have hF := fr_up (n' := 86) (by decide) hF
  refine r_putR hX hT dX4_init_72 fl_4_44 rfl (by decide) (Nat.le_of_ble_eq_true rfl) (Or.inr ⟨_, rfl⟩) ?_
  have hF := fr_R (a := 73) (j := 9) (b := 84) (by decide) hF
  show WR G X (mQ G X none zf ((up2 (up2 (up2 (up2 (up2 (up2 (up2 (up2 (up2 (up2 (up2 (up2 (up2 (up2 (up2 (up2 (up2 R 74 5 (some 75)) 74 6 (some 76)) 74 7 (some 77)) 74 8 (some 78)) 74 9 (some 79)) 73 0 (some 74)) 73 5 (some 80)) 73 6 (some 81)) 73 7 (some 82)) 73 8 (some 83)) 73 9 (some 84)) 73 10 (some 85)) 73 11 (some 86)) 73 12 (some 87)) 73 13 (some 88)) 73 14 (some 89)) 73 15 (some 90)), 92, 3618)) 75 [.ref 73] [] ((up2 (up2 (up2 (up2 z1.1 73 1 (0 : Int32)) 73 2 (0 : Int32)) 73 3 (1 : Int32)) 73 4 (0 : Int32)), z1.2) ((up2 (up2 (up2 (up2 (up2 (up2 (up2 (up2 (up2 (up2 (up2 R 74 5 (some 75)) 74 6 (some 76)) 74 7 (some 77)) 74 8 (some 78)) 74 9 (some 79)) 73 0 (some 74)) 73 5 (some 80)) 73 6 (some 81)) 73 7 (some 82)) 73 8 (some 83)) 73 9 (some 84)), 86, 3404)
  refine r_aload_n hX dX4_init_75 rfl ?_
  refine r_bipush (v := (40 : Int32)) hX dX4_init_76 (by decide) ?_
  refine r_newI (ci := 10) (N := 40) hX dX4_init_78 ac_int rfl (fun _ e => by cases e) rfl rfl (by decide) rfl (by decide) (by decide) (Nat.le_of_ble_eq_true rfl) (fr_fresh hF) (Nat.le_of_ble_eq_true rfl) (xr_le hr ⟨(Nat.le_of_ble_eq_true rfl), (Nat.le_of_ble_eq_true rfl)⟩) ?_
  show WR G X (mQ G X none zf ((up2 (up2 (up2 (up2 (up2 (up2 (up2 (up2 (up2 (up2 (up2 (up2 (up2 (up2 (up2 (up2 (up2 R 74 5 (some 75)) 74 6 (some 76)) 74 7 (some 77)) 74 8 (some 78)) 74 9 (some 79)) 73 0 (some 74)) 73 5 (some 80)) 73 6 (some 81)) 73 7 (some 82)) 73 8 (some 83)) 73 9 (some 84)) 73 10 (some 85)) 73 11 (some 86)) 73 12 (some 87)) 73 13 (some 88)) 73 14 (some 89)) 73 15 (some 90)), 92, 3618)) 80 [.ref 73] [.ref 85, .ref 73] ((up2 (up2 (up2 (up2 z1.1 73 1 (0 : Int32)) 73 2 (0 : Int32)) 73 3 (1 : Int32)) 73 4 (0 : Int32)), z1.2) ((up2 (up2 (up2 (up2 (up2 (up2 (up2 (up2 (up2 (up2 (up2 R 74 5 (some 75)) 74 6 (some 76)) 74 7 (some 77)) 74 8 (some 78)) 74 9 (some 79)) 73 0 (some 74)) 73 5 (some 80)) 73 6 (some 81)) 73 7 (some 82)) 73 8 (some 83)) 73 9 (some 84)), 87, 3444)
  have hF := fr_up (n' := 87) (by decide) hF
  refine r_putR hX hT dX4_init_80 fl_4_47 rfl (by decide) (Nat.le_of_ble_eq_true rfl) (Or.inr ⟨_, rfl⟩) ?_
  have hF := fr_R (a := 73) (j := 10) (b := 85) (by decide) hF
  show WR G X (mQ G X none zf ((up2 (up2 (up2 (up2 (up2 (up2 (up2 (up2 (up2 (up2 (up2 (up2 (up2 (up2 (up2 (up2 (up2 R 74 5 (some 75)) 74 6 (some 76)) 74 7 (some 77)) 74 8 (some 78)) 74 9 (some 79)) 73 0 (some 74)) 73 5 (some 80)) 73 6 (some 81)) 73 7 (some 82)) 73 8 (some 83)) 73 9 (some 84)) 73 10 (some 85)) 73 11 (some 86)) 73 12 (some 87)) 73 13 (some 88)) 73 14 (some 89)) 73 15 (some 90)), 92, 3618)) 83 [.ref 73] [] ((up2 (up2 (up2 (up2 z1.1 73 1 (0 : Int32)) 73 2 (0 : Int32)) 73 3 (1 : Int32)) 73 4 (0 : Int32)), z1.2) ((up2 (up2 (up2 (up2 (up2 (up2 (up2 (up2 (up2 (up2 (up2 (up2 R 74 5 (some 75)) 74 6 (some 76)) 74 7 (some 77)) 74 8 (some 78)) 74 9 (some 79)) 73 0 (some 74)) 73 5 (some 80)) 73 6 (some 81)) 73 7 (some 82)) 73 8 (some 83)) 73 9 (some 84)) 73 10 (some 85)), 87, 3444)
  refine r_aload_n hX dX4_init_83 rfl ?_
  refine r_bipush (v := (40 : Int32)) hX dX4_init_84 (by decide) ?_
  refine r_newI (ci := 10) (N := 40) hX dX4_init_86 ac_int rfl (fun _ e => by cases e) rfl rfl (by decide) rfl (by decide) (by decide) (Nat.le_of_ble_eq_true rfl) (fr_fresh hF) (Nat.le_of_ble_eq_true rfl) (xr_le hr ⟨(Nat.le_of_ble_eq_true rfl), (Nat.le_of_ble_eq_true rfl)⟩) ?_
  show WR G X (mQ G X none zf ((up2 (up2 (up2 (up2 (up2 (up2 (up2 (up2 (up2 (up2 (up2 (up2 (up2 (up2 (up2 (up2 (up2 R 74 5 (some 75)) 74 6 (some 76)) 74 7 (some 77)) 74 8 (some 78)) 74 9 (some 79)) 73 0 (some 74)) 73 5 (some 80)) 73 6 (some 81)) 73 7 (some 82)) 73 8 (some 83)) 73 9 (some 84)) 73 10 (some 85)) 73 11 (some 86)) 73 12 (some 87)) 73 13 (some 88)) 73 14 (some 89)) 73 15 (some 90)), 92, 3618)) 88 [.ref 73] [.ref 86, .ref 73] ((up2 (up2 (up2 (up2 z1.1 73 1 (0 : Int32)) 73 2 (0 : Int32)) 73 3 (1 : Int32)) 73 4 (0 : Int32)), z1.2) ((up2 (up2 (up2 (up2 (up2 (up2 (up2 (up2 (up2 (up2 (up2 (up2 R 74 5 (some 75)) 74 6 (some 76)) 74 7 (some 77)) 74 8 (some 78)) 74 9 (some 79)) 73 0 (some 74)) 73 5 (some 80)) 73 6 (some 81)) 73 7 (some 82)) 73 8 (some 83)) 73 9 (some 84)) 73 10 (some 85)), 88, 3484)
  have hF := fr_up (n' := 88) (by decide) hF
  refine r_putR hX hT dX4_init_88 fl_4_50 rfl (by decide) (Nat.le_of_ble_eq_true rfl) (Or.inr ⟨_, rfl⟩) ?_
  have hF := fr_R (a := 73) (j := 11) (b := 86) (by decide) hF
  show WR G X (mQ G X none zf ((up2 (up2 (up2 (up2 (up2 (up2 (up2 (up2 (up2 (up2 (up2 (up2 (up2 (up2 (up2 (up2 (up2 R 74 5 (some 75)) 74 6 (some 76)) 74 7 (some 77)) 74 8 (some 78)) 74 9 (some 79)) 73 0 (some 74)) 73 5 (some 80)) 73 6 (some 81)) 73 7 (some 82)) 73 8 (some 83)) 73 9 (some 84)) 73 10 (some 85)) 73 11 (some 86)) 73 12 (some 87)) 73 13 (some 88)) 73 14 (some 89)) 73 15 (some 90)), 92, 3618)) 91 [.ref 73] [] ((up2 (up2 (up2 (up2 z1.1 73 1 (0 : Int32)) 73 2 (0 : Int32)) 73 3 (1 : Int32)) 73 4 (0 : Int32)), z1.2) ((up2 (up2 (up2 (up2 (up2 (up2 (up2 (up2 (up2 (up2 (up2 (up2 (up2 R 74 5 (some 75)) 74 6 (some 76)) 74 7 (some 77)) 74 8 (some 78)) 74 9 (some 79)) 73 0 (some 74)) 73 5 (some 80)) 73 6 (some 81)) 73 7 (some 82)) 73 8 (some 83)) 73 9 (some 84)) 73 10 (some 85)) 73 11 (some 86)), 88, 3484)
  refine r_aload_n hX dX4_init_91 rfl ?_
  refine r_bipush (v := (40 : Int32)) hX dX4_init_92 (by decide) ?_
  refine r_newI (ci := 10) (N := 40) hX dX4_init_94 ac_int rfl (fun _ e => by cases e) rfl rfl (by decide) rfl (by decide) (by decide) (Nat.le_of_ble_eq_true rfl) (fr_fresh hF) (Nat.le_of_ble_eq_true rfl) (xr_le hr ⟨(Nat.le_of_ble_eq_true rfl), (Nat.le_of_ble_eq_true rfl)⟩) ?_
  show WR G X (mQ G X none zf ((up2 (up2 (up2 (up2 (up2 (up2 (up2 (up2 (up2 (up2 (up2 (up2 (up2 (up2 (up2 (up2 (up2 R 74 5 (some 75)) 74 6 (some 76)) 74 7 (some 77)) 74 8 (some 78)) 74 9 (some 79)) 73 0 (some 74)) 73 5 (some 80)) 73 6 (some 81)) 73 7 (some 82)) 73 8 (some 83)) 73 9 (some 84)) 73 10 (some 85)) 73 11 (some 86)) 73 12 (some 87)) 73 13 (some 88)) 73 14 (some 89)) 73 15 (some 90)), 92, 3618)) 96 [.ref 73] [.ref 87, .ref 73] ((up2 (up2 (up2 (up2 z1.1 73 1 (0 : Int32)) 73 2 (0 : Int32)) 73 3 (1 : Int32)) 73 4 (0 : Int32)), z1.2) ((up2 (up2 (up2 (up2 (up2 (up2 (up2 (up2 (up2 (up2 (up2 (up2 (up2 R 74 5 (some 75)) 74 6 (some 76)) 74 7 (some 77)) 74 8 (some 78)) 74 9 (some 79)) 73 0 (some 74)) 73 5 (some 80)) 73 6 (some 81)) 73 7 (some 82)) 73 8 (some 83)) 73 9 (some 84)) 73 10 (some 85)) 73 11 (some 86)), 89, 3524)
  have hF := fr_up (n' := 89) (by decide) hF
  refine r_putR hX hT dX4_init_96 fl_4_53 rfl (by decide) (Nat.le_of_ble_eq_true rfl) (Or.inr ⟨_, rfl⟩) ?_
  have hF := fr_R (a := 73) (j := 12) (b := 87) (by decide) hF
  show WR G X (mQ G X none zf ((up2 (up2 (up2 (up2 (up2 (up2 (up2 (up2 (up2 (up2 (up2 (up2 (up2 (up2 (up2 (up2 (up2 R 74 5 (some 75)) 74 6 (some 76)) 74 7 (some 77)) 74 8 (some 78)) 74 9 (some 79)) 73 0 (some 74)) 73 5 (some 80)) 73 6 (some 81)) 73 7 (some 82)) 73 8 (some 83)) 73 9 (some 84)) 73 10 (some 85)) 73 11 (some 86)) 73 12 (some 87)) 73 13 (some 88)) 73 14 (some 89)) 73 15 (some 90)), 92, 3618)) 99 [.ref 73] [] ((up2 (up2 (up2 (up2 z1.1 73 1 (0 : Int32)) 73 2 (0 : Int32)) 73 3 (1 : Int32)) 73 4 (0 : Int32)), z1.2) ((up2 (up2 (up2 (up2 (up2 (up2 (up2 (up2 (up2 (up2 (up2 (up2 (up2 (up2 R 74 5 (some 75)) 74 6 (some 76)) 74 7 (some 77)) 74 8 (some 78)) 74 9 (some 79)) 73 0 (some 74)) 73 5 (some 80)) 73 6 (some 81)) 73 7 (some 82)) 73 8 (some 83)) 73 9 (some 84)) 73 10 (some 85)) 73 11 (some 86)) 73 12 (some 87)), 89, 3524)
  refine r_aload_n hX dX4_init_99 rfl ?_
  refine r_bipush (v := (40 : Int32)) hX dX4_init_100 (by decide) ?_
  refine r_newJ (N := 40) hX dX4_init_102 ac_long rfl rfl (by decide) (by decide) (Nat.le_of_ble_eq_true rfl) (fr_fresh hF) (Nat.le_of_ble_eq_true rfl) (xr_le hr ⟨(Nat.le_of_ble_eq_true rfl), (Nat.le_of_ble_eq_true rfl)⟩) ?_
  show WR G X (mQ G X none zf ((up2 (up2 (up2 (up2 (up2 (up2 (up2 (up2 (up2 (up2 (up2 (up2 (up2 (up2 (up2 (up2 (up2 R 74 5 (some 75)) 74 6 (some 76)) 74 7 (some 77)) 74 8 (some 78)) 74 9 (some 79)) 73 0 (some 74)) 73 5 (some 80)) 73 6 (some 81)) 73 7 (some 82)) 73 8 (some 83)) 73 9 (some 84)) 73 10 (some 85)) 73 11 (some 86)) 73 12 (some 87)) 73 13 (some 88)) 73 14 (some 89)) 73 15 (some 90)), 92, 3618)) 104 [.ref 73] [.ref 88, .ref 73] ((up2 (up2 (up2 (up2 z1.1 73 1 (0 : Int32)) 73 2 (0 : Int32)) 73 3 (1 : Int32)) 73 4 (0 : Int32)), z1.2) ((up2 (up2 (up2 (up2 (up2 (up2 (up2 (up2 (up2 (up2 (up2 (up2 (up2 (up2 R 74 5 (some 75)) 74 6 (some 76)) 74 7 (some 77)) 74 8 (some 78)) 74 9 (some 79)) 73 0 (some 74)) 73 5 (some 80)) 73 6 (some 81)) 73 7 (some 82)) 73 8 (some 83)) 73 9 (some 84)) 73 10 (some 85)) 73 11 (some 86)) 73 12 (some 87)), 90, 3564)
  have hF := fr_up (n' := 90) (by decide) hF
  refine r_putR hX hT dX4_init_104 fl_4_56 rfl (by decide) (Nat.le_of_ble_eq_true rfl) (Or.inr ⟨_, rfl⟩) ?_
  have hF := fr_R (a := 73) (j := 13) (b := 88) (by decide) hF
  show WR G X (mQ G X none zf ((up2 (up2 (up2 (up2 (up2 (up2 (up2 (up2 (up2 (up2 (up2 (up2 (up2 (up2 (up2 (up2 (up2 R 74 5 (some 75)) 74 6 (some 76)) 74 7 (some 77)) 74 8 (some 78)) 74 9 (some 79)) 73 0 (some 74)) 73 5 (some 80)) 73 6 (some 81)) 73 7 (some 82)) 73 8 (some 83)) 73 9 (some 84)) 73 10 (some 85)) 73 11 (some 86)) 73 12 (some 87)) 73 13 (some 88)) 73 14 (some 89)) 73 15 (some 90)), 92, 3618)) 107 [.ref 73] [] ((up2 (up2 (up2 (up2 z1.1 73 1 (0 : Int32)) 73 2 (0 : Int32)) 73 3 (1 : Int32)) 73 4 (0 : Int32)), z1.2) ((up2 (up2 (up2 (up2 (up2 (up2 (up2 (up2 (up2 (up2 (up2 (up2 (up2 (up2 (up2 R 74 5 (some 75)) 74 6 (some 76)) 74 7 (some 77)) 74 8 (some 78)) 74 9 (some 79)) 73 0 (some 74)) 73 5 (some 80)) 73 6 (some 81)) 73 7 (some 82)) 73 8 (some 83)) 73 9 (some 84)) 73 10 (some 85)) 73 11 (some 86)) 73 12 (some 87)) 73 13 (some 88)), 90, 3564)
  refine r_aload_n hX dX4_init_107 rfl ?_
  refine r_bipush (v := (14 : Int32)) hX dX4_init_108 (by decide) ?_
  refine r_newJ (N := 14) hX dX4_init_110 ac_long rfl rfl (by decide) (by decide) (Nat.le_of_ble_eq_true rfl) (fr_fresh hF) (Nat.le_of_ble_eq_true rfl) (xr_le hr ⟨(Nat.le_of_ble_eq_true rfl), (Nat.le_of_ble_eq_true rfl)⟩) ?_
  show WR G X (mQ G X none zf ((up2 (up2 (up2 (up2 (up2 (up2 (up2 (up2 (up2 (up2 (up2 (up2 (up2 (up2 (up2 (up2 (up2 R 74 5 (some 75)) 74 6 (some 76)) 74 7 (some 77)) 74 8 (some 78)) 74 9 (some 79)) 73 0 (some 74)) 73 5 (some 80)) 73 6 (some 81)) 73 7 (some 82)) 73 8 (some 83)) 73 9 (some 84)) 73 10 (some 85)) 73 11 (some 86)) 73 12 (some 87)) 73 13 (some 88)) 73 14 (some 89)) 73 15 (some 90)), 92, 3618)) 112 [.ref 73] [.ref 89, .ref 73] ((up2 (up2 (up2 (up2 z1.1 73 1 (0 : Int32)) 73 2 (0 : Int32)) 73 3 (1 : Int32)) 73 4 (0 : Int32)), z1.2) ((up2 (up2 (up2 (up2 (up2 (up2 (up2 (up2 (up2 (up2 (up2 (up2 (up2 (up2 (up2 R 74 5 (some 75)) 74 6 (some 76)) 74 7 (some 77)) 74 8 (some 78)) 74 9 (some 79)) 73 0 (some 74)) 73 5 (some 80)) 73 6 (some 81)) 73 7 (some 82)) 73 8 (some 83)) 73 9 (some 84)) 73 10 (some 85)) 73 11 (some 86)) 73 12 (some 87)) 73 13 (some 88)), 91, 3578)
  have hF := fr_up (n' := 91) (by decide) hF
  refine r_putR hX hT dX4_init_112 fl_4_60 rfl (by decide) (Nat.le_of_ble_eq_true rfl) (Or.inr ⟨_, rfl⟩) ?_
  have hF := fr_R (a := 73) (j := 14) (b := 89) (by decide) hF
  show WR G X (mQ G X none zf ((up2 (up2 (up2 (up2 (up2 (up2 (up2 (up2 (up2 (up2 (up2 (up2 (up2 (up2 (up2 (up2 (up2 R 74 5 (some 75)) 74 6 (some 76)) 74 7 (some 77)) 74 8 (some 78)) 74 9 (some 79)) 73 0 (some 74)) 73 5 (some 80)) 73 6 (some 81)) 73 7 (some 82)) 73 8 (some 83)) 73 9 (some 84)) 73 10 (some 85)) 73 11 (some 86)) 73 12 (some 87)) 73 13 (some 88)) 73 14 (some 89)) 73 15 (some 90)), 92, 3618)) 115 [.ref 73] [] ((up2 (up2 (up2 (up2 z1.1 73 1 (0 : Int32)) 73 2 (0 : Int32)) 73 3 (1 : Int32)) 73 4 (0 : Int32)), z1.2) ((up2 (up2 (up2 (up2 (up2 (up2 (up2 (up2 (up2 (up2 (up2 (up2 (up2 (up2 (up2 (up2 R 74 5 (some 75)) 74 6 (some 76)) 74 7 (some 77)) 74 8 (some 78)) 74 9 (some 79)) 73 0 (some 74)) 73 5 (some 80)) 73 6 (some 81)) 73 7 (some 82)) 73 8 (some 83)) 73 9 (some 84)) 73 10 (some 85)) 73 11 (some 86)) 73 12 (some 87)) 73 13 (some 88)) 73 14 (some 89)), 91, 3578)
  refine r_aload_n hX dX4_init_115 rfl ?_
  refine r_bipush (v := (40 : Int32)) hX dX4_init_116 (by decide) ?_
  refine r_newI (ci := 10) (N := 40) hX dX4_init_118 ac_int rfl (fun _ e => by cases e) rfl rfl (by decide) rfl (by decide) (by decide) (Nat.le_of_ble_eq_true rfl) (fr_fresh hF) (Nat.le_of_ble_eq_true rfl) (xr_le hr ⟨(Nat.le_of_ble_eq_true rfl), (Nat.le_of_ble_eq_true rfl)⟩) ?_
  show WR G X (mQ G X none zf ((up2 (up2 (up2 (up2 (up2 (up2 (up2 (up2 (up2 (up2 (up2 (up2 (up2 (up2 (up2 (up2 (up2 R 74 5 (some 75)) 74 6 (some 76)) 74 7 (some 77)) 74 8 (some 78)) 74 9 (some 79)) 73 0 (some 74)) 73 5 (some 80)) 73 6 (some 81)) 73 7 (some 82)) 73 8 (some 83)) 73 9 (some 84)) 73 10 (some 85)) 73 11 (some 86)) 73 12 (some 87)) 73 13 (some 88)) 73 14 (some 89)) 73 15 (some 90)), 92, 3618)) 120 [.ref 73] [.ref 90, .ref 73] ((up2 (up2 (up2 (up2 z1.1 73 1 (0 : Int32)) 73 2 (0 : Int32)) 73 3 (1 : Int32)) 73 4 (0 : Int32)), z1.2) ((up2 (up2 (up2 (up2 (up2 (up2 (up2 (up2 (up2 (up2 (up2 (up2 (up2 (up2 (up2 (up2 R 74 5 (some 75)) 74 6 (some 76)) 74 7 (some 77)) 74 8 (some 78)) 74 9 (some 79)) 73 0 (some 74)) 73 5 (some 80)) 73 6 (some 81)) 73 7 (some 82)) 73 8 (some 83)) 73 9 (some 84)) 73 10 (some 85)) 73 11 (some 86)) 73 12 (some 87)) 73 13 (some 88)) 73 14 (some 89)), 92, 3618)
  have hF := fr_up (n' := 92) (by decide) hF
  refine r_putR hX hT dX4_init_120 fl_4_63 rfl (by decide) (Nat.le_of_ble_eq_true rfl) (Or.inr ⟨_, rfl⟩) ?_
  have hF := fr_R (a := 73) (j := 15) (b := 90) (by decide) hF
  show WR G X (mQ G X none zf ((up2 (up2 (up2 (up2 (up2 (up2 (up2 (up2 (up2 (up2 (up2 (up2 (up2 (up2 (up2 (up2 (up2 R 74 5 (some 75)) 74 6 (some 76)) 74 7 (some 77)) 74 8 (some 78)) 74 9 (some 79)) 73 0 (some 74)) 73 5 (some 80)) 73 6 (some 81)) 73 7 (some 82)) 73 8 (some 83)) 73 9 (some 84)) 73 10 (some 85)) 73 11 (some 86)) 73 12 (some 87)) 73 13 (some 88)) 73 14 (some 89)) 73 15 (some 90)), 92, 3618)) 123 [.ref 73] [] ((up2 (up2 (up2 (up2 z1.1 73 1 (0 : Int32)) 73 2 (0 : Int32)) 73 3 (1 : Int32)) 73 4 (0 : Int32)), z1.2) ((up2 (up2 (up2 (up2 (up2 (up2 (up2 (up2 (up2 (up2 (up2 (up2 (up2 (up2 (up2 (up2 (up2 R 74 5 (some 75)) 74 6 (some 76)) 74 7 (some 77)) 74 8 (some 78)) 74 9 (some 79)) 73 0 (some 74)) 73 5 (some 80)) 73 6 (some 81)) 73 7 (some 82)) 73 8 (some 83)) 73 9 (some 84)) 73 10 (some 85)) 73 11 (some 86)) 73 12 (some 87)) 73 13 (some 88)) 73 14 (some 89)) 73 15 (some 90)), 92, 3618)
  obtain rfl := Option.some.inj h
  exact r_vret hX hT dX4_init_123
theorem fr_St_init73 {n : Nat} {M zf : Mm} {R : Nat → Nat → Option Nat} (hF : fr 75 M R) (h : St_init73 n M = some zf) : fr 92 zf (up2 (up2 (up2 (up2 (up2 (up2 (up2 (up2 (up2 (up2 (up2 (up2 (up2 (up2 (up2 (up2 (up2 R 74 5 (some 75)) 74 6 (some 76)) 74 7 (some 77)) 74 8 (some 78)) 74 9 (some 79)) 73 0 (some 74)) 73 5 (some 80)) 73 6 (some 81)) 73 7 (some 82)) 73 8 (some 83)) 73 9 (some 84)) 73 10 (some 85)) 73 11 (some 86)) 73 12 (some 87)) 73 13 (some 88)) 73 14 (some 89)) 73 15 (some 90)) := by
  unfold St_init73 at h
  have hF := fr_eta hF
  have hF := fr_eta hF
  have hF := fr_up (n' := 76) (by decide) hF
  obtain ⟨z1, p1, h⟩ := bnd_s h
  have hF := fr_Nt_init74 hF p1
  have hF := fr_eta hF
  have hF := fr_R (a := 73) (j := 0) (b := 74) (by decide) hF
  have hF := fr_I (a := 73) (j := 1) (x := (0 : Int32)) (by decide) hF
  have hF := fr_I (a := 73) (j := 2) (x := (0 : Int32)) (by decide) hF
  have hF := fr_I (a := 73) (j := 3) (x := (1 : Int32)) (by decide) hF
  have hF := fr_I (a := 73) (j := 4) (x := (0 : Int32)) (by decide) hF
  have hF := fr_up (n' := 82) (by decide) hF
  have hF := fr_R (a := 73) (j := 5) (b := 80) (by decide) hF
  have hF := fr_up (n' := 83) (by decide) hF
  have hF := fr_R (a := 73) (j := 6) (b := 81) (by decide) hF
  have hF := fr_up (n' := 84) (by decide) hF
  have hF := fr_R (a := 73) (j := 7) (b := 82) (by decide) hF
  have hF := fr_up (n' := 85) (by decide) hF
  have hF := fr_R (a := 73) (j := 8) (b := 83) (by decide) hF
  have hF := fr_up (n' := 86) (by decide) hF
  have hF := fr_R (a := 73) (j := 9) (b := 84) (by decide) hF
  have hF := fr_up (n' := 87) (by decide) hF
  have hF := fr_R (a := 73) (j := 10) (b := 85) (by decide) hF
  have hF := fr_up (n' := 88) (by decide) hF
  have hF := fr_R (a := 73) (j := 11) (b := 86) (by decide) hF
  have hF := fr_up (n' := 89) (by decide) hF
  have hF := fr_R (a := 73) (j := 12) (b := 87) (by decide) hF
  have hF := fr_up (n' := 90) (by decide) hF
  have hF := fr_R (a := 73) (j := 13) (b := 88) (by decide) hF
  have hF := fr_up (n' := 91) (by decide) hF
  have hF := fr_R (a := 73) (j := 14) (b := 89) (by decide) hF
  have hF := fr_up (n' := 92) (by decide) hF
  have hF := fr_R (a := 73) (j := 15) (b := 90) (by decide) hF
  obtain rfl := Option.some.inj h
  exact hF
def Rp_init72 (n : Nat) (M : Mm) : Option Mm :=
  bnd (St_init73 n M) (fun z1 =>
  some ((up2 z1.1 72 7 (0 : Int32)), (up2 (up2 z1.2 72 3 (0 : Int64)) 72 4 (0 : Int64))))
set_option maxRecDepth 100000 in
theorem ok_Rp_init72 {G : Gm} {l : Launch} {d : Nat} (n : Nat) (M : Mm) {zf : Mm} {R : Nat → Nat → Option Nat} (hF : fr 74 M R) (h : Rp_init72 n M = some zf) : CK G l (d + 3) md_Rp_init [.ref 72, .ref 54, .ref 12] M (R, 74, 3068) none zf ((up2 (up2 (up2 (up2 (up2 (up2 (up2 (up2 (up2 (up2 (up2 (up2 (up2 (up2 (up2 (up2 (up2 (up2 (up2 (up2 (up2 (up2 R 74 5 (some 75)) 74 6 (some 76)) 74 7 (some 77)) 74 8 (some 78)) 74 9 (some 79)) 73 0 (some 74)) 73 5 (some 80)) 73 6 (some 81)) 73 7 (some 82)) 73 8 (some 83)) 73 9 (some 84)) 73 10 (some 85)) 73 11 (some 86)) 73 12 (some 87)) 73 13 (some 88)) 73 14 (some 89)) 73 15 (some 90)) 72 1 (some 73)) 72 5 (some 91)) 72 6 (some 92)) 72 0 (some 54)) 72 2 (some 12)), 94, 3698) := by
  refine ck_of mk_Rp_init (Nat.le_of_ble_eq_true rfl) ⟨(Nat.le_of_ble_eq_true rfl), (Nat.le_of_ble_eq_true rfl)⟩ (fun X hX hT hSx hr hl => ?_)
  subst hl
  unfold Rp_init72 at h
  show WR G X (mQ G X none zf ((up2 (up2 (up2 (up2 (up2 (up2 (up2 (up2 (up2 (up2 (up2 (up2 (up2 (up2 (up2 (up2 (up2 (up2 (up2 (up2 (up2 (up2 R 74 5 (some 75)) 74 6 (some 76)) 74 7 (some 77)) 74 8 (some 78)) 74 9 (some 79)) 73 0 (some 74)) 73 5 (some 80)) 73 6 (some 81)) 73 7 (some 82)) 73 8 (some 83)) 73 9 (some 84)) 73 10 (some 85)) 73 11 (some 86)) 73 12 (some 87)) 73 13 (some 88)) 73 14 (some 89)) 73 15 (some 90)) 72 1 (some 73)) 72 5 (some 91)) 72 6 (some 92)) 72 0 (some 54)) 72 2 (some 12)), 94, 3698)) 0 [.ref 72, .ref 54, .ref 12] [] M (R, 74, 3068)
  have hF := fr_eta hF
  refine r_aload_n hX dX3_init_0 rfl ?_
  refine r_objInit hX dX3_init_1 ml_3_3 rfl (Nat.le_of_ble_eq_true rfl) ?_
  refine r_aload_n hX dX3_init_4 rfl ?_
  refine r_new (ci := 4) hX dX3_init_5 cl_3_9 in4 ini4 rfl (by decide) (fr_fresh hF) (Nat.le_of_ble_eq_true rfl) (xr_le hr ⟨(Nat.le_of_ble_eq_true rfl), (Nat.le_of_ble_eq_true rfl)⟩) ?_
  show WR G X (mQ G X none zf ((up2 (up2 (up2 (up2 (up2 (up2 (up2 (up2 (up2 (up2 (up2 (up2 (up2 (up2 (up2 (up2 (up2 (up2 (up2 (up2 (up2 (up2 R 74 5 (some 75)) 74 6 (some 76)) 74 7 (some 77)) 74 8 (some 78)) 74 9 (some 79)) 73 0 (some 74)) 73 5 (some 80)) 73 6 (some 81)) 73 7 (some 82)) 73 8 (some 83)) 73 9 (some 84)) 73 10 (some 85)) 73 11 (some 86)) 73 12 (some 87)) 73 13 (some 88)) 73 14 (some 89)) 73 15 (some 90)) 72 1 (some 73)) 72 5 (some 91)) 72 6 (some 92)) 72 0 (some 54)) 72 2 (some 12)), 94, 3698)) 8 [.ref 72, .ref 54, .ref 12] [.ref 73, .ref 72] M (R, 75, 3084)
  have hF := fr_up (n' := 75) (by decide) hF
  refine r_dup hX dX3_init_8 rfl ?_
  obtain ⟨z1, p1, h⟩ := bnd_s h
  refine r_callIN (As := []) (S1 := ((up2 (up2 (up2 (up2 (up2 (up2 (up2 (up2 (up2 (up2 (up2 (up2 (up2 (up2 (up2 (up2 (up2 R 74 5 (some 75)) 74 6 (some 76)) 74 7 (some 77)) 74 8 (some 78)) 74 9 (some 79)) 73 0 (some 74)) 73 5 (some 80)) 73 6 (some 81)) 73 7 (some 82)) 73 8 (some 83)) 73 9 (some 84)) 73 10 (some 85)) 73 11 (some 86)) 73 12 (some 87)) 73 13 (some 88)) 73 14 (some 89)) 73 15 (some 90)), 92, 3618)) hX dX3_init_9 mk_St_init mc_St_init mn_3_11 rfl rfl rfl (Nat.le_of_ble_eq_true rfl) (Nat.le_of_ble_eq_true rfl) (xr_le hr ⟨(Nat.le_of_ble_eq_true rfl), (Nat.le_of_ble_eq_true rfl)⟩) (ok_St_init73 (d := d + 0) n M hF p1) ?_
  have hF := fr_St_init73 hF p1
  have hF := fr_eta hF
  show WR G X (mQ G X none zf ((up2 (up2 (up2 (up2 (up2 (up2 (up2 (up2 (up2 (up2 (up2 (up2 (up2 (up2 (up2 (up2 (up2 (up2 (up2 (up2 (up2 (up2 R 74 5 (some 75)) 74 6 (some 76)) 74 7 (some 77)) 74 8 (some 78)) 74 9 (some 79)) 73 0 (some 74)) 73 5 (some 80)) 73 6 (some 81)) 73 7 (some 82)) 73 8 (some 83)) 73 9 (some 84)) 73 10 (some 85)) 73 11 (some 86)) 73 12 (some 87)) 73 13 (some 88)) 73 14 (some 89)) 73 15 (some 90)) 72 1 (some 73)) 72 5 (some 91)) 72 6 (some 92)) 72 0 (some 54)) 72 2 (some 12)), 94, 3698)) 12 [.ref 72, .ref 54, .ref 12] [.ref 73, .ref 72] z1 ((up2 (up2 (up2 (up2 (up2 (up2 (up2 (up2 (up2 (up2 (up2 (up2 (up2 (up2 (up2 (up2 (up2 R 74 5 (some 75)) 74 6 (some 76)) 74 7 (some 77)) 74 8 (some 78)) 74 9 (some 79)) 73 0 (some 74)) 73 5 (some 80)) 73 6 (some 81)) 73 7 (some 82)) 73 8 (some 83)) 73 9 (some 84)) 73 10 (some 85)) 73 11 (some 86)) 73 12 (some 87)) 73 13 (some 88)) 73 14 (some 89)) 73 15 (some 90)), 92, 3618)
  refine r_putR hX hT dX3_init_12 fl_3_12 rfl (by decide) (Nat.le_of_ble_eq_true rfl) (Or.inl ⟨_, rfl⟩) ?_
  have hF := fr_R (a := 72) (j := 1) (b := 73) (by decide) hF
  show WR G X (mQ G X none zf ((up2 (up2 (up2 (up2 (up2 (up2 (up2 (up2 (up2 (up2 (up2 (up2 (up2 (up2 (up2 (up2 (up2 (up2 (up2 (up2 (up2 (up2 R 74 5 (some 75)) 74 6 (some 76)) 74 7 (some 77)) 74 8 (some 78)) 74 9 (some 79)) 73 0 (some 74)) 73 5 (some 80)) 73 6 (some 81)) 73 7 (some 82)) 73 8 (some 83)) 73 9 (some 84)) 73 10 (some 85)) 73 11 (some 86)) 73 12 (some 87)) 73 13 (some 88)) 73 14 (some 89)) 73 15 (some 90)) 72 1 (some 73)) 72 5 (some 91)) 72 6 (some 92)) 72 0 (some 54)) 72 2 (some 12)), 94, 3698)) 15 [.ref 72, .ref 54, .ref 12] [] z1 ((up2 (up2 (up2 (up2 (up2 (up2 (up2 (up2 (up2 (up2 (up2 (up2 (up2 (up2 (up2 (up2 (up2 (up2 R 74 5 (some 75)) 74 6 (some 76)) 74 7 (some 77)) 74 8 (some 78)) 74 9 (some 79)) 73 0 (some 74)) 73 5 (some 80)) 73 6 (some 81)) 73 7 (some 82)) 73 8 (some 83)) 73 9 (some 84)) 73 10 (some 85)) 73 11 (some 86)) 73 12 (some 87)) 73 13 (some 88)) 73 14 (some 89)) 73 15 (some 90)) 72 1 (some 73)), 92, 3618)
  refine r_aload_n hX dX3_init_15 rfl ?_
  refine r_lconst (v := (0 : Int64)) hX dX3_init_16 (by decide) ?_
  refine r_putL hX dX3_init_17 fl_3_18 rfl (by decide) (Nat.le_of_ble_eq_true rfl) rfl ?_
  have hF := fr_L (a := 72) (j := 3) (x := (0 : Int64)) (by decide) hF
  refine r_aload_n hX dX3_init_20 rfl ?_
  refine r_lconst (v := (0 : Int64)) hX dX3_init_21 (by decide) ?_
  refine r_putL' hX dX3_init_22 fl_3_22 rfl (by decide) (Nat.le_of_ble_eq_true rfl) rfl ?_
  have hF := fr_L (a := 72) (j := 4) (x := (0 : Int64)) (by decide) hF
  refine r_aload_n hX dX3_init_25 rfl ?_
  refine r_bipush (v := (40 : Int32)) hX dX3_init_26 (by decide) ?_
  refine r_newJ (N := 40) hX dX3_init_28 ac_long rfl rfl (by decide) (by decide) (Nat.le_of_ble_eq_true rfl) (fr_fresh hF) (Nat.le_of_ble_eq_true rfl) (xr_le hr ⟨(Nat.le_of_ble_eq_true rfl), (Nat.le_of_ble_eq_true rfl)⟩) ?_
  show WR G X (mQ G X none zf ((up2 (up2 (up2 (up2 (up2 (up2 (up2 (up2 (up2 (up2 (up2 (up2 (up2 (up2 (up2 (up2 (up2 (up2 (up2 (up2 (up2 (up2 R 74 5 (some 75)) 74 6 (some 76)) 74 7 (some 77)) 74 8 (some 78)) 74 9 (some 79)) 73 0 (some 74)) 73 5 (some 80)) 73 6 (some 81)) 73 7 (some 82)) 73 8 (some 83)) 73 9 (some 84)) 73 10 (some 85)) 73 11 (some 86)) 73 12 (some 87)) 73 13 (some 88)) 73 14 (some 89)) 73 15 (some 90)) 72 1 (some 73)) 72 5 (some 91)) 72 6 (some 92)) 72 0 (some 54)) 72 2 (some 12)), 94, 3698)) 30 [.ref 72, .ref 54, .ref 12] [.ref 91, .ref 72] (z1.1, (up2 (up2 z1.2 72 3 (0 : Int64)) 72 4 (0 : Int64))) ((up2 (up2 (up2 (up2 (up2 (up2 (up2 (up2 (up2 (up2 (up2 (up2 (up2 (up2 (up2 (up2 (up2 (up2 R 74 5 (some 75)) 74 6 (some 76)) 74 7 (some 77)) 74 8 (some 78)) 74 9 (some 79)) 73 0 (some 74)) 73 5 (some 80)) 73 6 (some 81)) 73 7 (some 82)) 73 8 (some 83)) 73 9 (some 84)) 73 10 (some 85)) 73 11 (some 86)) 73 12 (some 87)) 73 13 (some 88)) 73 14 (some 89)) 73 15 (some 90)) 72 1 (some 73)), 93, 3658)
  have hF := fr_up (n' := 93) (by decide) hF
  refine r_putR hX hT dX3_init_30 fl_3_25 rfl (by decide) (Nat.le_of_ble_eq_true rfl) (Or.inr ⟨_, rfl⟩) ?_
  have hF := fr_R (a := 72) (j := 5) (b := 91) (by decide) hF
  show WR G X (mQ G X none zf ((up2 (up2 (up2 (up2 (up2 (up2 (up2 (up2 (up2 (up2 (up2 (up2 (up2 (up2 (up2 (up2 (up2 (up2 (up2 (up2 (up2 (up2 R 74 5 (some 75)) 74 6 (some 76)) 74 7 (some 77)) 74 8 (some 78)) 74 9 (some 79)) 73 0 (some 74)) 73 5 (some 80)) 73 6 (some 81)) 73 7 (some 82)) 73 8 (some 83)) 73 9 (some 84)) 73 10 (some 85)) 73 11 (some 86)) 73 12 (some 87)) 73 13 (some 88)) 73 14 (some 89)) 73 15 (some 90)) 72 1 (some 73)) 72 5 (some 91)) 72 6 (some 92)) 72 0 (some 54)) 72 2 (some 12)), 94, 3698)) 33 [.ref 72, .ref 54, .ref 12] [] (z1.1, (up2 (up2 z1.2 72 3 (0 : Int64)) 72 4 (0 : Int64))) ((up2 (up2 (up2 (up2 (up2 (up2 (up2 (up2 (up2 (up2 (up2 (up2 (up2 (up2 (up2 (up2 (up2 (up2 (up2 R 74 5 (some 75)) 74 6 (some 76)) 74 7 (some 77)) 74 8 (some 78)) 74 9 (some 79)) 73 0 (some 74)) 73 5 (some 80)) 73 6 (some 81)) 73 7 (some 82)) 73 8 (some 83)) 73 9 (some 84)) 73 10 (some 85)) 73 11 (some 86)) 73 12 (some 87)) 73 13 (some 88)) 73 14 (some 89)) 73 15 (some 90)) 72 1 (some 73)) 72 5 (some 91)), 93, 3658)
  refine r_aload_n hX dX3_init_33 rfl ?_
  refine r_bipush (v := (40 : Int32)) hX dX3_init_34 (by decide) ?_
  refine r_newI (ci := 10) (N := 40) hX dX3_init_36 ac_int rfl (fun _ e => by cases e) rfl rfl (by decide) rfl (by decide) (by decide) (Nat.le_of_ble_eq_true rfl) (fr_fresh hF) (Nat.le_of_ble_eq_true rfl) (xr_le hr ⟨(Nat.le_of_ble_eq_true rfl), (Nat.le_of_ble_eq_true rfl)⟩) ?_
  show WR G X (mQ G X none zf ((up2 (up2 (up2 (up2 (up2 (up2 (up2 (up2 (up2 (up2 (up2 (up2 (up2 (up2 (up2 (up2 (up2 (up2 (up2 (up2 (up2 (up2 R 74 5 (some 75)) 74 6 (some 76)) 74 7 (some 77)) 74 8 (some 78)) 74 9 (some 79)) 73 0 (some 74)) 73 5 (some 80)) 73 6 (some 81)) 73 7 (some 82)) 73 8 (some 83)) 73 9 (some 84)) 73 10 (some 85)) 73 11 (some 86)) 73 12 (some 87)) 73 13 (some 88)) 73 14 (some 89)) 73 15 (some 90)) 72 1 (some 73)) 72 5 (some 91)) 72 6 (some 92)) 72 0 (some 54)) 72 2 (some 12)), 94, 3698)) 38 [.ref 72, .ref 54, .ref 12] [.ref 92, .ref 72] (z1.1, (up2 (up2 z1.2 72 3 (0 : Int64)) 72 4 (0 : Int64))) ((up2 (up2 (up2 (up2 (up2 (up2 (up2 (up2 (up2 (up2 (up2 (up2 (up2 (up2 (up2 (up2 (up2 (up2 (up2 R 74 5 (some 75)) 74 6 (some 76)) 74 7 (some 77)) 74 8 (some 78)) 74 9 (some 79)) 73 0 (some 74)) 73 5 (some 80)) 73 6 (some 81)) 73 7 (some 82)) 73 8 (some 83)) 73 9 (some 84)) 73 10 (some 85)) 73 11 (some 86)) 73 12 (some 87)) 73 13 (some 88)) 73 14 (some 89)) 73 15 (some 90)) 72 1 (some 73)) 72 5 (some 91)), 94, 3698)
  have hF := fr_up (n' := 94) (by decide) hF
  refine r_putR hX hT dX3_init_38 fl_3_29 rfl (by decide) (Nat.le_of_ble_eq_true rfl) (Or.inr ⟨_, rfl⟩) ?_
  have hF := fr_R (a := 72) (j := 6) (b := 92) (by decide) hF
  show WR G X (mQ G X none zf ((up2 (up2 (up2 (up2 (up2 (up2 (up2 (up2 (up2 (up2 (up2 (up2 (up2 (up2 (up2 (up2 (up2 (up2 (up2 (up2 (up2 (up2 R 74 5 (some 75)) 74 6 (some 76)) 74 7 (some 77)) 74 8 (some 78)) 74 9 (some 79)) 73 0 (some 74)) 73 5 (some 80)) 73 6 (some 81)) 73 7 (some 82)) 73 8 (some 83)) 73 9 (some 84)) 73 10 (some 85)) 73 11 (some 86)) 73 12 (some 87)) 73 13 (some 88)) 73 14 (some 89)) 73 15 (some 90)) 72 1 (some 73)) 72 5 (some 91)) 72 6 (some 92)) 72 0 (some 54)) 72 2 (some 12)), 94, 3698)) 41 [.ref 72, .ref 54, .ref 12] [] (z1.1, (up2 (up2 z1.2 72 3 (0 : Int64)) 72 4 (0 : Int64))) ((up2 (up2 (up2 (up2 (up2 (up2 (up2 (up2 (up2 (up2 (up2 (up2 (up2 (up2 (up2 (up2 (up2 (up2 (up2 (up2 R 74 5 (some 75)) 74 6 (some 76)) 74 7 (some 77)) 74 8 (some 78)) 74 9 (some 79)) 73 0 (some 74)) 73 5 (some 80)) 73 6 (some 81)) 73 7 (some 82)) 73 8 (some 83)) 73 9 (some 84)) 73 10 (some 85)) 73 11 (some 86)) 73 12 (some 87)) 73 13 (some 88)) 73 14 (some 89)) 73 15 (some 90)) 72 1 (some 73)) 72 5 (some 91)) 72 6 (some 92)), 94, 3698)
  refine r_aload_n hX dX3_init_41 rfl ?_
  refine r_iconst (v := (0 : Int32)) hX dX3_init_42 (by decide) ?_
  refine r_putI' hX dX3_init_43 fl_3_33 rfl (by decide) (Nat.le_of_ble_eq_true rfl) (okI_int _) ?_
  have hF := fr_I (a := 72) (j := 7) (x := (0 : Int32)) (by decide) hF
  refine r_aload_n hX dX3_init_46 rfl ?_
  refine r_aload_n hX dX3_init_47 rfl ?_
  refine r_putR hX hT dX3_init_48 fl_3_37 rfl (by decide) (Nat.le_of_ble_eq_true rfl) (Or.inl ⟨_, rfl⟩) ?_
  have hF := fr_R (a := 72) (j := 0) (b := 54) (by decide) hF
  show WR G X (mQ G X none zf ((up2 (up2 (up2 (up2 (up2 (up2 (up2 (up2 (up2 (up2 (up2 (up2 (up2 (up2 (up2 (up2 (up2 (up2 (up2 (up2 (up2 (up2 R 74 5 (some 75)) 74 6 (some 76)) 74 7 (some 77)) 74 8 (some 78)) 74 9 (some 79)) 73 0 (some 74)) 73 5 (some 80)) 73 6 (some 81)) 73 7 (some 82)) 73 8 (some 83)) 73 9 (some 84)) 73 10 (some 85)) 73 11 (some 86)) 73 12 (some 87)) 73 13 (some 88)) 73 14 (some 89)) 73 15 (some 90)) 72 1 (some 73)) 72 5 (some 91)) 72 6 (some 92)) 72 0 (some 54)) 72 2 (some 12)), 94, 3698)) 51 [.ref 72, .ref 54, .ref 12] [] ((up2 z1.1 72 7 (0 : Int32)), (up2 (up2 z1.2 72 3 (0 : Int64)) 72 4 (0 : Int64))) ((up2 (up2 (up2 (up2 (up2 (up2 (up2 (up2 (up2 (up2 (up2 (up2 (up2 (up2 (up2 (up2 (up2 (up2 (up2 (up2 (up2 R 74 5 (some 75)) 74 6 (some 76)) 74 7 (some 77)) 74 8 (some 78)) 74 9 (some 79)) 73 0 (some 74)) 73 5 (some 80)) 73 6 (some 81)) 73 7 (some 82)) 73 8 (some 83)) 73 9 (some 84)) 73 10 (some 85)) 73 11 (some 86)) 73 12 (some 87)) 73 13 (some 88)) 73 14 (some 89)) 73 15 (some 90)) 72 1 (some 73)) 72 5 (some 91)) 72 6 (some 92)) 72 0 (some 54)), 94, 3698)
  refine r_aload_n hX dX3_init_51 rfl ?_
  refine r_aload_n hX dX3_init_52 rfl ?_
  refine r_putR hX hT dX3_init_53 fl_3_40 rfl (by decide) (Nat.le_of_ble_eq_true rfl) (Or.inl ⟨_, rfl⟩) ?_
  have hF := fr_R (a := 72) (j := 2) (b := 12) (by decide) hF
  show WR G X (mQ G X none zf ((up2 (up2 (up2 (up2 (up2 (up2 (up2 (up2 (up2 (up2 (up2 (up2 (up2 (up2 (up2 (up2 (up2 (up2 (up2 (up2 (up2 (up2 R 74 5 (some 75)) 74 6 (some 76)) 74 7 (some 77)) 74 8 (some 78)) 74 9 (some 79)) 73 0 (some 74)) 73 5 (some 80)) 73 6 (some 81)) 73 7 (some 82)) 73 8 (some 83)) 73 9 (some 84)) 73 10 (some 85)) 73 11 (some 86)) 73 12 (some 87)) 73 13 (some 88)) 73 14 (some 89)) 73 15 (some 90)) 72 1 (some 73)) 72 5 (some 91)) 72 6 (some 92)) 72 0 (some 54)) 72 2 (some 12)), 94, 3698)) 56 [.ref 72, .ref 54, .ref 12] [] ((up2 z1.1 72 7 (0 : Int32)), (up2 (up2 z1.2 72 3 (0 : Int64)) 72 4 (0 : Int64))) ((up2 (up2 (up2 (up2 (up2 (up2 (up2 (up2 (up2 (up2 (up2 (up2 (up2 (up2 (up2 (up2 (up2 (up2 (up2 (up2 (up2 (up2 R 74 5 (some 75)) 74 6 (some 76)) 74 7 (some 77)) 74 8 (some 78)) 74 9 (some 79)) 73 0 (some 74)) 73 5 (some 80)) 73 6 (some 81)) 73 7 (some 82)) 73 8 (some 83)) 73 9 (some 84)) 73 10 (some 85)) 73 11 (some 86)) 73 12 (some 87)) 73 13 (some 88)) 73 14 (some 89)) 73 15 (some 90)) 72 1 (some 73)) 72 5 (some 91)) 72 6 (some 92)) 72 0 (some 54)) 72 2 (some 12)), 94, 3698)
  obtain rfl := Option.some.inj h
  exact r_vret hX hT dX3_init_56
theorem fr_Rp_init72 {n : Nat} {M zf : Mm} {R : Nat → Nat → Option Nat} (hF : fr 74 M R) (h : Rp_init72 n M = some zf) : fr 94 zf (up2 (up2 (up2 (up2 (up2 (up2 (up2 (up2 (up2 (up2 (up2 (up2 (up2 (up2 (up2 (up2 (up2 (up2 (up2 (up2 (up2 (up2 R 74 5 (some 75)) 74 6 (some 76)) 74 7 (some 77)) 74 8 (some 78)) 74 9 (some 79)) 73 0 (some 74)) 73 5 (some 80)) 73 6 (some 81)) 73 7 (some 82)) 73 8 (some 83)) 73 9 (some 84)) 73 10 (some 85)) 73 11 (some 86)) 73 12 (some 87)) 73 13 (some 88)) 73 14 (some 89)) 73 15 (some 90)) 72 1 (some 73)) 72 5 (some 91)) 72 6 (some 92)) 72 0 (some 54)) 72 2 (some 12)) := by
  unfold Rp_init72 at h
  have hF := fr_eta hF
  have hF := fr_eta hF
  have hF := fr_up (n' := 75) (by decide) hF
  obtain ⟨z1, p1, h⟩ := bnd_s h
  have hF := fr_St_init73 hF p1
  have hF := fr_eta hF
  have hF := fr_R (a := 72) (j := 1) (b := 73) (by decide) hF
  have hF := fr_L (a := 72) (j := 3) (x := (0 : Int64)) (by decide) hF
  have hF := fr_L (a := 72) (j := 4) (x := (0 : Int64)) (by decide) hF
  have hF := fr_up (n' := 93) (by decide) hF
  have hF := fr_R (a := 72) (j := 5) (b := 91) (by decide) hF
  have hF := fr_up (n' := 94) (by decide) hF
  have hF := fr_R (a := 72) (j := 6) (b := 92) (by decide) hF
  have hF := fr_I (a := 72) (j := 7) (x := (0 : Int32)) (by decide) hF
  have hF := fr_R (a := 72) (j := 0) (b := 54) (by decide) hF
  have hF := fr_R (a := 72) (j := 2) (b := 12) (by decide) hF
  obtain rfl := Option.some.inj h
  exact hF
def Tr_init93 (n : Nat) (M : Mm) : Option Mm :=
  some ((up2 (up2 (up2 (up2 (up2 M.1 93 2 (0 : Int32)) 93 3 (0 : Int32)) 93 4 (0 : Int32)) 93 5 (-1 : Int32)) 93 6 (0 : Int32)), M.2)
set_option maxRecDepth 100000 in
theorem ok_Tr_init93 {G : Gm} {l : Launch} {d : Nat} (n : Nat) (M : Mm) {zf : Mm} {R : Nat → Nat → Option Nat} (hF : fr 95 M R) (h : Tr_init93 n M = some zf) : CK G l (d + 0) md_Tr_init [.ref 93, .ref 54, .ref 12] M (R, 95, 3705) none zf ((up2 (up2 R 93 0 (some 54)) 93 1 (some 12)), 95, 3705) := by
  refine ck_of mk_Tr_init (Nat.le_of_ble_eq_true rfl) ⟨(Nat.le_of_ble_eq_true rfl), (Nat.le_of_ble_eq_true rfl)⟩ (fun X hX hT hSx hr hl => ?_)
  subst hl
  unfold Tr_init93 at h
  show WR G X (mQ G X none zf ((up2 (up2 R 93 0 (some 54)) 93 1 (some 12)), 95, 3705)) 0 [.ref 93, .ref 54, .ref 12] [] M (R, 95, 3705)
  have hF := fr_eta hF
  refine r_aload_n hX dX6_init_0 rfl ?_
  refine r_objInit hX dX6_init_1 ml_6_3 rfl (Nat.le_of_ble_eq_true rfl) ?_
  refine r_aload_n hX dX6_init_4 rfl ?_
  refine r_iconst (v := (0 : Int32)) hX dX6_init_5 (by decide) ?_
  refine r_putI hX dX6_init_6 fl_6_9 rfl (by decide) (Nat.le_of_ble_eq_true rfl) (okI_int _) ?_
  have hF := fr_I (a := 93) (j := 2) (x := (0 : Int32)) (by decide) hF
  refine r_aload_n hX dX6_init_9 rfl ?_
  refine r_iconst (v := (0 : Int32)) hX dX6_init_10 (by decide) ?_
  refine r_putI' hX dX6_init_11 fl_6_15 rfl (by decide) (Nat.le_of_ble_eq_true rfl) (okI_int _) ?_
  have hF := fr_I (a := 93) (j := 3) (x := (0 : Int32)) (by decide) hF
  refine r_aload_n hX dX6_init_14 rfl ?_
  refine r_iconst (v := (0 : Int32)) hX dX6_init_15 (by decide) ?_
  refine r_putI' hX dX6_init_16 fl_6_18 rfl (by decide) (Nat.le_of_ble_eq_true rfl) (okI_int _) ?_
  have hF := fr_I (a := 93) (j := 4) (x := (0 : Int32)) (by decide) hF
  refine r_aload_n hX dX6_init_19 rfl ?_
  refine r_iconst (v := (-1 : Int32)) hX dX6_init_20 (by decide) ?_
  refine r_putI' hX dX6_init_21 fl_6_21 rfl (by decide) (Nat.le_of_ble_eq_true rfl) (okI_int _) ?_
  have hF := fr_I (a := 93) (j := 5) (x := (-1 : Int32)) (by decide) hF
  refine r_aload_n hX dX6_init_24 rfl ?_
  refine r_iconst (v := (0 : Int32)) hX dX6_init_25 (by decide) ?_
  refine r_putI' hX dX6_init_26 fl_6_24 rfl (by decide) (Nat.le_of_ble_eq_true rfl) (okI_int _) ?_
  have hF := fr_I (a := 93) (j := 6) (x := (0 : Int32)) (by decide) hF
  refine r_aload_n hX dX6_init_29 rfl ?_
  refine r_aload_n hX dX6_init_30 rfl ?_
  refine r_putR hX hT dX6_init_31 fl_6_27 rfl (by decide) (Nat.le_of_ble_eq_true rfl) (Or.inl ⟨_, rfl⟩) ?_
  have hF := fr_R (a := 93) (j := 0) (b := 54) (by decide) hF
  show WR G X (mQ G X none zf ((up2 (up2 R 93 0 (some 54)) 93 1 (some 12)), 95, 3705)) 34 [.ref 93, .ref 54, .ref 12] [] ((up2 (up2 (up2 (up2 (up2 M.1 93 2 (0 : Int32)) 93 3 (0 : Int32)) 93 4 (0 : Int32)) 93 5 (-1 : Int32)) 93 6 (0 : Int32)), M.2) ((up2 R 93 0 (some 54)), 95, 3705)
  refine r_aload_n hX dX6_init_34 rfl ?_
  refine r_aload_n hX dX6_init_35 rfl ?_
  refine r_putR hX hT dX6_init_36 fl_6_31 rfl (by decide) (Nat.le_of_ble_eq_true rfl) (Or.inl ⟨_, rfl⟩) ?_
  have hF := fr_R (a := 93) (j := 1) (b := 12) (by decide) hF
  show WR G X (mQ G X none zf ((up2 (up2 R 93 0 (some 54)) 93 1 (some 12)), 95, 3705)) 39 [.ref 93, .ref 54, .ref 12] [] ((up2 (up2 (up2 (up2 (up2 M.1 93 2 (0 : Int32)) 93 3 (0 : Int32)) 93 4 (0 : Int32)) 93 5 (-1 : Int32)) 93 6 (0 : Int32)), M.2) ((up2 (up2 R 93 0 (some 54)) 93 1 (some 12)), 95, 3705)
  obtain rfl := Option.some.inj h
  exact r_vret hX hT dX6_init_39
theorem fr_Tr_init93 {n : Nat} {M zf : Mm} {R : Nat → Nat → Option Nat} (hF : fr 95 M R) (h : Tr_init93 n M = some zf) : fr 95 zf (up2 (up2 R 93 0 (some 54)) 93 1 (some 12)) := by
  unfold Tr_init93 at h
  have hF := fr_eta hF
  have hF := fr_eta hF
  have hF := fr_I (a := 93) (j := 2) (x := (0 : Int32)) (by decide) hF
  have hF := fr_I (a := 93) (j := 3) (x := (0 : Int32)) (by decide) hF
  have hF := fr_I (a := 93) (j := 4) (x := (0 : Int32)) (by decide) hF
  have hF := fr_I (a := 93) (j := 5) (x := (-1 : Int32)) (by decide) hF
  have hF := fr_I (a := 93) (j := 6) (x := (0 : Int32)) (by decide) hF
  have hF := fr_R (a := 93) (j := 0) (b := 54) (by decide) hF
  have hF := fr_R (a := 93) (j := 1) (b := 12) (by decide) hF
  obtain rfl := Option.some.inj h
  exact hF
def Fg_init0 (n : Nat) (M : Mm) : Option Mm :=
  bnd (Tp_init1 n M) (fun z1 =>
  bnd (Rd_init3 n z1) (fun z2 =>
  bnd (Fi_init12 n z2) (fun z3 =>
  bnd (St_init18 n z3) (fun z4 =>
  bnd (St_init36 n z4) (fun z5 =>
  bnd (St_init54 n z5) (fun z6 =>
  bnd (Rp_init72 n z6) (fun z7 =>
  bnd (Tr_init93 n z7) (fun z8 =>
  some ((up2 z8.1 0 8 (0 : Int32)), z8.2)))))))))
set_option maxRecDepth 100000 in
theorem ok_Fg_init0 {G : Gm} {l : Launch} {d : Nat} (n : Nat) (M : Mm) {zf : Mm} {R : Nat → Nat → Option Nat} (hF : fr 1 M R) (h : Fg_init0 n M = some zf) : CK G l (d + 4) md_Fg_init [.ref 0] M (R, 1, 9) none zf ((up2 (up2 (up2 (up2 (up2 (up2 (up2 (up2 (up2 (up2 (up2 (up2 (up2 (up2 (up2 (up2 (up2 (up2 (up2 (up2 (up2 (up2 (up2 (up2 (up2 (up2 (up2 (up2 (up2 (up2 (up2 (up2 (up2 (up2 (up2 (up2 (up2 (up2 (up2 (up2 (up2 (up2 (up2 (up2 (up2 (up2 (up2 (up2 (up2 (up2 (up2 (up2 (up2 (up2 (up2 (up2 (up2 (up2 (up2 (up2 (up2 (up2 (up2 (up2 (up2 (up2 (up2 (up2 (up2 (up2 (up2 (up2 (up2 (up2 (up2 (up2 (up2 (up2 (up2 (up2 (up2 (up2 (up2 (up2 (up2 (up2 (up2 (up2 (up2 (up2 (up2 (up2 (up2 (up2 (up2 (up2 (up2 (up2 (up2 R 1 0 (some 2)) 0 0 (some 1)) 4 5 (some 5)) 4 6 (some 6)) 4 7 (some 7)) 4 8 (some 8)) 4 9 (some 9)) 3 1 (some 4)) 3 2 (some 10)) 3 3 (some 11)) 3 0 (some 1)) 0 1 (some 3)) 13 0 (some 14)) 13 1 (some 15)) 13 2 (some 16)) 13 3 (some 17)) 13 4 (some 115)) 12 0 (some 13)) 0 2 (some 12)) 19 5 (some 20)) 19 6 (some 21)) 19 7 (some 22)) 19 8 (some 23)) 19 9 (some 24)) 18 0 (some 19)) 18 5 (some 25)) 18 6 (some 26)) 18 7 (some 27)) 18 8 (some 28)) 18 9 (some 29)) 18 10 (some 30)) 18 11 (some 31)) 18 12 (some 32)) 18 13 (some 33)) 18 14 (some 34)) 18 15 (some 35)) 0 3 (some 18)) 37 5 (some 38)) 37 6 (some 39)) 37 7 (some 40)) 37 8 (some 41)) 37 9 (some 42)) 36 0 (some 37)) 36 5 (some 43)) 36 6 (some 44)) 36 7 (some 45)) 36 8 (some 46)) 36 9 (some 47)) 36 10 (some 48)) 36 11 (some 49)) 36 12 (some 50)) 36 13 (some 51)) 36 14 (some 52)) 36 15 (some 53)) 0 4 (some 36)) 55 5 (some 56)) 55 6 (some 57)) 55 7 (some 58)) 55 8 (some 59)) 55 9 (some 60)) 54 0 (some 55)) 54 5 (some 61)) 54 6 (some 62)) 54 7 (some 63)) 54 8 (some 64)) 54 9 (some 65)) 54 10 (some 66)) 54 11 (some 67)) 54 12 (some 68)) 54 13 (some 69)) 54 14 (some 70)) 54 15 (some 71)) 0 5 (some 54)) 74 5 (some 75)) 74 6 (some 76)) 74 7 (some 77)) 74 8 (some 78)) 74 9 (some 79)) 73 0 (some 74)) 73 5 (some 80)) 73 6 (some 81)) 73 7 (some 82)) 73 8 (some 83)) 73 9 (some 84)) 73 10 (some 85)) 73 11 (some 86)) 73 12 (some 87)) 73 13 (some 88)) 73 14 (some 89)) 73 15 (some 90)) 72 1 (some 73)) 72 5 (some 91)) 72 6 (some 92)) 72 0 (some 54)) 72 2 (some 12)) 0 6 (some 72)) 93 0 (some 54)) 93 1 (some 12)) 0 7 (some 93)), 95, 3705) := by
  refine ck_of mk_Fg_init (Nat.le_of_ble_eq_true rfl) ⟨(Nat.le_of_ble_eq_true rfl), (Nat.le_of_ble_eq_true rfl)⟩ (fun X hX hT hSx hr hl => ?_)
  subst hl
  unfold Fg_init0 at h
  show WR G X (mQ G X none zf ((up2 (up2 (up2 (up2 (up2 (up2 (up2 (up2 (up2 (up2 (up2 (up2 (up2 (up2 (up2 (up2 (up2 (up2 (up2 (up2 (up2 (up2 (up2 (up2 (up2 (up2 (up2 (up2 (up2 (up2 (up2 (up2 (up2 (up2 (up2 (up2 (up2 (up2 (up2 (up2 (up2 (up2 (up2 (up2 (up2 (up2 (up2 (up2 (up2 (up2 (up2 (up2 (up2 (up2 (up2 (up2 (up2 (up2 (up2 (up2 (up2 (up2 (up2 (up2 (up2 (up2 (up2 (up2 (up2 (up2 (up2 (up2 (up2 (up2 (up2 (up2 (up2 (up2 (up2 (up2 (up2 (up2 (up2 (up2 (up2 (up2 (up2 (up2 (up2 (up2 (up2 (up2 (up2 (up2 (up2 (up2 (up2 (up2 (up2 R 1 0 (some 2)) 0 0 (some 1)) 4 5 (some 5)) 4 6 (some 6)) 4 7 (some 7)) 4 8 (some 8)) 4 9 (some 9)) 3 1 (some 4)) 3 2 (some 10)) 3 3 (some 11)) 3 0 (some 1)) 0 1 (some 3)) 13 0 (some 14)) 13 1 (some 15)) 13 2 (some 16)) 13 3 (some 17)) 13 4 (some 115)) 12 0 (some 13)) 0 2 (some 12)) 19 5 (some 20)) 19 6 (some 21)) 19 7 (some 22)) 19 8 (some 23)) 19 9 (some 24)) 18 0 (some 19)) 18 5 (some 25)) 18 6 (some 26)) 18 7 (some 27)) 18 8 (some 28)) 18 9 (some 29)) 18 10 (some 30)) 18 11 (some 31)) 18 12 (some 32)) 18 13 (some 33)) 18 14 (some 34)) 18 15 (some 35)) 0 3 (some 18)) 37 5 (some 38)) 37 6 (some 39)) 37 7 (some 40)) 37 8 (some 41)) 37 9 (some 42)) 36 0 (some 37)) 36 5 (some 43)) 36 6 (some 44)) 36 7 (some 45)) 36 8 (some 46)) 36 9 (some 47)) 36 10 (some 48)) 36 11 (some 49)) 36 12 (some 50)) 36 13 (some 51)) 36 14 (some 52)) 36 15 (some 53)) 0 4 (some 36)) 55 5 (some 56)) 55 6 (some 57)) 55 7 (some 58)) 55 8 (some 59)) 55 9 (some 60)) 54 0 (some 55)) 54 5 (some 61)) 54 6 (some 62)) 54 7 (some 63)) 54 8 (some 64)) 54 9 (some 65)) 54 10 (some 66)) 54 11 (some 67)) 54 12 (some 68)) 54 13 (some 69)) 54 14 (some 70)) 54 15 (some 71)) 0 5 (some 54)) 74 5 (some 75)) 74 6 (some 76)) 74 7 (some 77)) 74 8 (some 78)) 74 9 (some 79)) 73 0 (some 74)) 73 5 (some 80)) 73 6 (some 81)) 73 7 (some 82)) 73 8 (some 83)) 73 9 (some 84)) 73 10 (some 85)) 73 11 (some 86)) 73 12 (some 87)) 73 13 (some 88)) 73 14 (some 89)) 73 15 (some 90)) 72 1 (some 73)) 72 5 (some 91)) 72 6 (some 92)) 72 0 (some 54)) 72 2 (some 12)) 0 6 (some 72)) 93 0 (some 54)) 93 1 (some 12)) 0 7 (some 93)), 95, 3705)) 0 [.ref 0] [] M (R, 1, 9)
  have hF := fr_eta hF
  refine r_aload_n hX dX8_init_0 rfl ?_
  refine r_objInit hX dX8_init_1 ml_8_1 rfl (Nat.le_of_ble_eq_true rfl) ?_
  refine r_aload_n hX dX8_init_4 rfl ?_
  refine r_new (ci := 5) hX dX8_init_5 cl_8_7 in5 ini5 rfl (by decide) (fr_fresh hF) (Nat.le_of_ble_eq_true rfl) (xr_le hr ⟨(Nat.le_of_ble_eq_true rfl), (Nat.le_of_ble_eq_true rfl)⟩) ?_
  show WR G X (mQ G X none zf ((up2 (up2 (up2 (up2 (up2 (up2 (up2 (up2 (up2 (up2 (up2 (up2 (up2 (up2 (up2 (up2 (up2 (up2 (up2 (up2 (up2 (up2 (up2 (up2 (up2 (up2 (up2 (up2 (up2 (up2 (up2 (up2 (up2 (up2 (up2 (up2 (up2 (up2 (up2 (up2 (up2 (up2 (up2 (up2 (up2 (up2 (up2 (up2 (up2 (up2 (up2 (up2 (up2 (up2 (up2 (up2 (up2 (up2 (up2 (up2 (up2 (up2 (up2 (up2 (up2 (up2 (up2 (up2 (up2 (up2 (up2 (up2 (up2 (up2 (up2 (up2 (up2 (up2 (up2 (up2 (up2 (up2 (up2 (up2 (up2 (up2 (up2 (up2 (up2 (up2 (up2 (up2 (up2 (up2 (up2 (up2 (up2 (up2 (up2 R 1 0 (some 2)) 0 0 (some 1)) 4 5 (some 5)) 4 6 (some 6)) 4 7 (some 7)) 4 8 (some 8)) 4 9 (some 9)) 3 1 (some 4)) 3 2 (some 10)) 3 3 (some 11)) 3 0 (some 1)) 0 1 (some 3)) 13 0 (some 14)) 13 1 (some 15)) 13 2 (some 16)) 13 3 (some 17)) 13 4 (some 115)) 12 0 (some 13)) 0 2 (some 12)) 19 5 (some 20)) 19 6 (some 21)) 19 7 (some 22)) 19 8 (some 23)) 19 9 (some 24)) 18 0 (some 19)) 18 5 (some 25)) 18 6 (some 26)) 18 7 (some 27)) 18 8 (some 28)) 18 9 (some 29)) 18 10 (some 30)) 18 11 (some 31)) 18 12 (some 32)) 18 13 (some 33)) 18 14 (some 34)) 18 15 (some 35)) 0 3 (some 18)) 37 5 (some 38)) 37 6 (some 39)) 37 7 (some 40)) 37 8 (some 41)) 37 9 (some 42)) 36 0 (some 37)) 36 5 (some 43)) 36 6 (some 44)) 36 7 (some 45)) 36 8 (some 46)) 36 9 (some 47)) 36 10 (some 48)) 36 11 (some 49)) 36 12 (some 50)) 36 13 (some 51)) 36 14 (some 52)) 36 15 (some 53)) 0 4 (some 36)) 55 5 (some 56)) 55 6 (some 57)) 55 7 (some 58)) 55 8 (some 59)) 55 9 (some 60)) 54 0 (some 55)) 54 5 (some 61)) 54 6 (some 62)) 54 7 (some 63)) 54 8 (some 64)) 54 9 (some 65)) 54 10 (some 66)) 54 11 (some 67)) 54 12 (some 68)) 54 13 (some 69)) 54 14 (some 70)) 54 15 (some 71)) 0 5 (some 54)) 74 5 (some 75)) 74 6 (some 76)) 74 7 (some 77)) 74 8 (some 78)) 74 9 (some 79)) 73 0 (some 74)) 73 5 (some 80)) 73 6 (some 81)) 73 7 (some 82)) 73 8 (some 83)) 73 9 (some 84)) 73 10 (some 85)) 73 11 (some 86)) 73 12 (some 87)) 73 13 (some 88)) 73 14 (some 89)) 73 15 (some 90)) 72 1 (some 73)) 72 5 (some 91)) 72 6 (some 92)) 72 0 (some 54)) 72 2 (some 12)) 0 6 (some 72)) 93 0 (some 54)) 93 1 (some 12)) 0 7 (some 93)), 95, 3705)) 8 [.ref 0] [.ref 1, .ref 0] M (R, 2, 11)
  have hF := fr_up (n' := 2) (by decide) hF
  refine r_dup hX dX8_init_8 rfl ?_
  obtain ⟨z1, p1, h⟩ := bnd_s h
  refine r_callIN (As := []) (S1 := ((up2 R 1 0 (some 2)), 3, 251)) hX dX8_init_9 mk_Tp_init mc_Tp_init mn_8_9 rfl rfl rfl (Nat.le_of_ble_eq_true rfl) (Nat.le_of_ble_eq_true rfl) (xr_le hr ⟨(Nat.le_of_ble_eq_true rfl), (Nat.le_of_ble_eq_true rfl)⟩) (ok_Tp_init1 (d := d + 3) n M hF p1) ?_
  have hF := fr_Tp_init1 hF p1
  have hF := fr_eta hF
  show WR G X (mQ G X none zf ((up2 (up2 (up2 (up2 (up2 (up2 (up2 (up2 (up2 (up2 (up2 (up2 (up2 (up2 (up2 (up2 (up2 (up2 (up2 (up2 (up2 (up2 (up2 (up2 (up2 (up2 (up2 (up2 (up2 (up2 (up2 (up2 (up2 (up2 (up2 (up2 (up2 (up2 (up2 (up2 (up2 (up2 (up2 (up2 (up2 (up2 (up2 (up2 (up2 (up2 (up2 (up2 (up2 (up2 (up2 (up2 (up2 (up2 (up2 (up2 (up2 (up2 (up2 (up2 (up2 (up2 (up2 (up2 (up2 (up2 (up2 (up2 (up2 (up2 (up2 (up2 (up2 (up2 (up2 (up2 (up2 (up2 (up2 (up2 (up2 (up2 (up2 (up2 (up2 (up2 (up2 (up2 (up2 (up2 (up2 (up2 (up2 (up2 (up2 R 1 0 (some 2)) 0 0 (some 1)) 4 5 (some 5)) 4 6 (some 6)) 4 7 (some 7)) 4 8 (some 8)) 4 9 (some 9)) 3 1 (some 4)) 3 2 (some 10)) 3 3 (some 11)) 3 0 (some 1)) 0 1 (some 3)) 13 0 (some 14)) 13 1 (some 15)) 13 2 (some 16)) 13 3 (some 17)) 13 4 (some 115)) 12 0 (some 13)) 0 2 (some 12)) 19 5 (some 20)) 19 6 (some 21)) 19 7 (some 22)) 19 8 (some 23)) 19 9 (some 24)) 18 0 (some 19)) 18 5 (some 25)) 18 6 (some 26)) 18 7 (some 27)) 18 8 (some 28)) 18 9 (some 29)) 18 10 (some 30)) 18 11 (some 31)) 18 12 (some 32)) 18 13 (some 33)) 18 14 (some 34)) 18 15 (some 35)) 0 3 (some 18)) 37 5 (some 38)) 37 6 (some 39)) 37 7 (some 40)) 37 8 (some 41)) 37 9 (some 42)) 36 0 (some 37)) 36 5 (some 43)) 36 6 (some 44)) 36 7 (some 45)) 36 8 (some 46)) 36 9 (some 47)) 36 10 (some 48)) 36 11 (some 49)) 36 12 (some 50)) 36 13 (some 51)) 36 14 (some 52)) 36 15 (some 53)) 0 4 (some 36)) 55 5 (some 56)) 55 6 (some 57)) 55 7 (some 58)) 55 8 (some 59)) 55 9 (some 60)) 54 0 (some 55)) 54 5 (some 61)) 54 6 (some 62)) 54 7 (some 63)) 54 8 (some 64)) 54 9 (some 65)) 54 10 (some 66)) 54 11 (some 67)) 54 12 (some 68)) 54 13 (some 69)) 54 14 (some 70)) 54 15 (some 71)) 0 5 (some 54)) 74 5 (some 75)) 74 6 (some 76)) 74 7 (some 77)) 74 8 (some 78)) 74 9 (some 79)) 73 0 (some 74)) 73 5 (some 80)) 73 6 (some 81)) 73 7 (some 82)) 73 8 (some 83)) 73 9 (some 84)) 73 10 (some 85)) 73 11 (some 86)) 73 12 (some 87)) 73 13 (some 88)) 73 14 (some 89)) 73 15 (some 90)) 72 1 (some 73)) 72 5 (some 91)) 72 6 (some 92)) 72 0 (some 54)) 72 2 (some 12)) 0 6 (some 72)) 93 0 (some 54)) 93 1 (some 12)) 0 7 (some 93)), 95, 3705)) 12 [.ref 0] [.ref 1, .ref 0] z1 ((up2 R 1 0 (some 2)), 3, 251)
  refine r_putR hX hT dX8_init_12 fl_8_10 rfl (by decide) (Nat.le_of_ble_eq_true rfl) (Or.inl ⟨_, rfl⟩) ?_
  have hF := fr_R (a := 0) (j := 0) (b := 1) (by decide) hF
  show WR G X (mQ G X none zf ((up2 (up2 (up2 (up2 (up2 (up2 (up2 (up2 (up2 (up2 (up2 (up2 (up2 (up2 (up2 (up2 (up2 (up2 (up2 (up2 (up2 (up2 (up2 (up2 (up2 (up2 (up2 (up2 (up2 (up2 (up2 (up2 (up2 (up2 (up2 (up2 (up2 (up2 (up2 (up2 (up2 (up2 (up2 (up2 (up2 (up2 (up2 (up2 (up2 (up2 (up2 (up2 (up2 (up2 (up2 (up2 (up2 (up2 (up2 (up2 (up2 (up2 (up2 (up2 (up2 (up2 (up2 (up2 (up2 (up2 (up2 (up2 (up2 (up2 (up2 (up2 (up2 (up2 (up2 (up2 (up2 (up2 (up2 (up2 (up2 (up2 (up2 (up2 (up2 (up2 (up2 (up2 (up2 (up2 (up2 (up2 (up2 (up2 (up2 R 1 0 (some 2)) 0 0 (some 1)) 4 5 (some 5)) 4 6 (some 6)) 4 7 (some 7)) 4 8 (some 8)) 4 9 (some 9)) 3 1 (some 4)) 3 2 (some 10)) 3 3 (some 11)) 3 0 (some 1)) 0 1 (some 3)) 13 0 (some 14)) 13 1 (some 15)) 13 2 (some 16)) 13 3 (some 17)) 13 4 (some 115)) 12 0 (some 13)) 0 2 (some 12)) 19 5 (some 20)) 19 6 (some 21)) 19 7 (some 22)) 19 8 (some 23)) 19 9 (some 24)) 18 0 (some 19)) 18 5 (some 25)) 18 6 (some 26)) 18 7 (some 27)) 18 8 (some 28)) 18 9 (some 29)) 18 10 (some 30)) 18 11 (some 31)) 18 12 (some 32)) 18 13 (some 33)) 18 14 (some 34)) 18 15 (some 35)) 0 3 (some 18)) 37 5 (some 38)) 37 6 (some 39)) 37 7 (some 40)) 37 8 (some 41)) 37 9 (some 42)) 36 0 (some 37)) 36 5 (some 43)) 36 6 (some 44)) 36 7 (some 45)) 36 8 (some 46)) 36 9 (some 47)) 36 10 (some 48)) 36 11 (some 49)) 36 12 (some 50)) 36 13 (some 51)) 36 14 (some 52)) 36 15 (some 53)) 0 4 (some 36)) 55 5 (some 56)) 55 6 (some 57)) 55 7 (some 58)) 55 8 (some 59)) 55 9 (some 60)) 54 0 (some 55)) 54 5 (some 61)) 54 6 (some 62)) 54 7 (some 63)) 54 8 (some 64)) 54 9 (some 65)) 54 10 (some 66)) 54 11 (some 67)) 54 12 (some 68)) 54 13 (some 69)) 54 14 (some 70)) 54 15 (some 71)) 0 5 (some 54)) 74 5 (some 75)) 74 6 (some 76)) 74 7 (some 77)) 74 8 (some 78)) 74 9 (some 79)) 73 0 (some 74)) 73 5 (some 80)) 73 6 (some 81)) 73 7 (some 82)) 73 8 (some 83)) 73 9 (some 84)) 73 10 (some 85)) 73 11 (some 86)) 73 12 (some 87)) 73 13 (some 88)) 73 14 (some 89)) 73 15 (some 90)) 72 1 (some 73)) 72 5 (some 91)) 72 6 (some 92)) 72 0 (some 54)) 72 2 (some 12)) 0 6 (some 72)) 93 0 (some 54)) 93 1 (some 12)) 0 7 (some 93)), 95, 3705)) 15 [.ref 0] [] z1 ((up2 (up2 R 1 0 (some 2)) 0 0 (some 1)), 3, 251)
  refine r_aload_n hX dX8_init_15 rfl ?_
  refine r_new (ci := 2) hX dX8_init_16 cl_8_16 in2 ini2 rfl (by decide) (fr_fresh hF) (Nat.le_of_ble_eq_true rfl) (xr_le hr ⟨(Nat.le_of_ble_eq_true rfl), (Nat.le_of_ble_eq_true rfl)⟩) ?_
  show WR G X (mQ G X none zf ((up2 (up2 (up2 (up2 (up2 (up2 (up2 (up2 (up2 (up2 (up2 (up2 (up2 (up2 (up2 (up2 (up2 (up2 (up2 (up2 (up2 (up2 (up2 (up2 (up2 (up2 (up2 (up2 (up2 (up2 (up2 (up2 (up2 (up2 (up2 (up2 (up2 (up2 (up2 (up2 (up2 (up2 (up2 (up2 (up2 (up2 (up2 (up2 (up2 (up2 (up2 (up2 (up2 (up2 (up2 (up2 (up2 (up2 (up2 (up2 (up2 (up2 (up2 (up2 (up2 (up2 (up2 (up2 (up2 (up2 (up2 (up2 (up2 (up2 (up2 (up2 (up2 (up2 (up2 (up2 (up2 (up2 (up2 (up2 (up2 (up2 (up2 (up2 (up2 (up2 (up2 (up2 (up2 (up2 (up2 (up2 (up2 (up2 (up2 R 1 0 (some 2)) 0 0 (some 1)) 4 5 (some 5)) 4 6 (some 6)) 4 7 (some 7)) 4 8 (some 8)) 4 9 (some 9)) 3 1 (some 4)) 3 2 (some 10)) 3 3 (some 11)) 3 0 (some 1)) 0 1 (some 3)) 13 0 (some 14)) 13 1 (some 15)) 13 2 (some 16)) 13 3 (some 17)) 13 4 (some 115)) 12 0 (some 13)) 0 2 (some 12)) 19 5 (some 20)) 19 6 (some 21)) 19 7 (some 22)) 19 8 (some 23)) 19 9 (some 24)) 18 0 (some 19)) 18 5 (some 25)) 18 6 (some 26)) 18 7 (some 27)) 18 8 (some 28)) 18 9 (some 29)) 18 10 (some 30)) 18 11 (some 31)) 18 12 (some 32)) 18 13 (some 33)) 18 14 (some 34)) 18 15 (some 35)) 0 3 (some 18)) 37 5 (some 38)) 37 6 (some 39)) 37 7 (some 40)) 37 8 (some 41)) 37 9 (some 42)) 36 0 (some 37)) 36 5 (some 43)) 36 6 (some 44)) 36 7 (some 45)) 36 8 (some 46)) 36 9 (some 47)) 36 10 (some 48)) 36 11 (some 49)) 36 12 (some 50)) 36 13 (some 51)) 36 14 (some 52)) 36 15 (some 53)) 0 4 (some 36)) 55 5 (some 56)) 55 6 (some 57)) 55 7 (some 58)) 55 8 (some 59)) 55 9 (some 60)) 54 0 (some 55)) 54 5 (some 61)) 54 6 (some 62)) 54 7 (some 63)) 54 8 (some 64)) 54 9 (some 65)) 54 10 (some 66)) 54 11 (some 67)) 54 12 (some 68)) 54 13 (some 69)) 54 14 (some 70)) 54 15 (some 71)) 0 5 (some 54)) 74 5 (some 75)) 74 6 (some 76)) 74 7 (some 77)) 74 8 (some 78)) 74 9 (some 79)) 73 0 (some 74)) 73 5 (some 80)) 73 6 (some 81)) 73 7 (some 82)) 73 8 (some 83)) 73 9 (some 84)) 73 10 (some 85)) 73 11 (some 86)) 73 12 (some 87)) 73 13 (some 88)) 73 14 (some 89)) 73 15 (some 90)) 72 1 (some 73)) 72 5 (some 91)) 72 6 (some 92)) 72 0 (some 54)) 72 2 (some 12)) 0 6 (some 72)) 93 0 (some 54)) 93 1 (some 12)) 0 7 (some 93)), 95, 3705)) 19 [.ref 0] [.ref 3, .ref 0] z1 ((up2 (up2 R 1 0 (some 2)) 0 0 (some 1)), 4, 260)
  have hF := fr_up (n' := 4) (by decide) hF
  refine r_dup hX dX8_init_19 rfl ?_
  refine r_aload_n hX dX8_init_20 rfl ?_
  refine r_getf (v := .ref 1) hX dX8_init_21 fl_8_10 rfl (by decide) (Nat.le_of_ble_eq_true rfl) rfl ?_
  obtain ⟨z2, p2, h⟩ := bnd_s h
  refine r_callI (As := [.ref 1]) (S1 := ((up2 (up2 (up2 (up2 (up2 (up2 (up2 (up2 (up2 (up2 (up2 R 1 0 (some 2)) 0 0 (some 1)) 4 5 (some 5)) 4 6 (some 6)) 4 7 (some 7)) 4 8 (some 8)) 4 9 (some 9)) 3 1 (some 4)) 3 2 (some 10)) 3 3 (some 11)) 3 0 (some 1)), 12, 500)) hX dX8_init_24 mk_Rd_init mc_Rd_init ml_8_18 rfl rfl rfl (Nat.le_of_ble_eq_true rfl) (Nat.le_of_ble_eq_true rfl) (xr_le hr ⟨(Nat.le_of_ble_eq_true rfl), (Nat.le_of_ble_eq_true rfl)⟩) (ok_Rd_init3 (d := d + 1) n z1 hF p2) ?_
  have hF := fr_Rd_init3 hF p2
  have hF := fr_eta hF
  show WR G X (mQ G X none zf ((up2 (up2 (up2 (up2 (up2 (up2 (up2 (up2 (up2 (up2 (up2 (up2 (up2 (up2 (up2 (up2 (up2 (up2 (up2 (up2 (up2 (up2 (up2 (up2 (up2 (up2 (up2 (up2 (up2 (up2 (up2 (up2 (up2 (up2 (up2 (up2 (up2 (up2 (up2 (up2 (up2 (up2 (up2 (up2 (up2 (up2 (up2 (up2 (up2 (up2 (up2 (up2 (up2 (up2 (up2 (up2 (up2 (up2 (up2 (up2 (up2 (up2 (up2 (up2 (up2 (up2 (up2 (up2 (up2 (up2 (up2 (up2 (up2 (up2 (up2 (up2 (up2 (up2 (up2 (up2 (up2 (up2 (up2 (up2 (up2 (up2 (up2 (up2 (up2 (up2 (up2 (up2 (up2 (up2 (up2 (up2 (up2 (up2 (up2 R 1 0 (some 2)) 0 0 (some 1)) 4 5 (some 5)) 4 6 (some 6)) 4 7 (some 7)) 4 8 (some 8)) 4 9 (some 9)) 3 1 (some 4)) 3 2 (some 10)) 3 3 (some 11)) 3 0 (some 1)) 0 1 (some 3)) 13 0 (some 14)) 13 1 (some 15)) 13 2 (some 16)) 13 3 (some 17)) 13 4 (some 115)) 12 0 (some 13)) 0 2 (some 12)) 19 5 (some 20)) 19 6 (some 21)) 19 7 (some 22)) 19 8 (some 23)) 19 9 (some 24)) 18 0 (some 19)) 18 5 (some 25)) 18 6 (some 26)) 18 7 (some 27)) 18 8 (some 28)) 18 9 (some 29)) 18 10 (some 30)) 18 11 (some 31)) 18 12 (some 32)) 18 13 (some 33)) 18 14 (some 34)) 18 15 (some 35)) 0 3 (some 18)) 37 5 (some 38)) 37 6 (some 39)) 37 7 (some 40)) 37 8 (some 41)) 37 9 (some 42)) 36 0 (some 37)) 36 5 (some 43)) 36 6 (some 44)) 36 7 (some 45)) 36 8 (some 46)) 36 9 (some 47)) 36 10 (some 48)) 36 11 (some 49)) 36 12 (some 50)) 36 13 (some 51)) 36 14 (some 52)) 36 15 (some 53)) 0 4 (some 36)) 55 5 (some 56)) 55 6 (some 57)) 55 7 (some 58)) 55 8 (some 59)) 55 9 (some 60)) 54 0 (some 55)) 54 5 (some 61)) 54 6 (some 62)) 54 7 (some 63)) 54 8 (some 64)) 54 9 (some 65)) 54 10 (some 66)) 54 11 (some 67)) 54 12 (some 68)) 54 13 (some 69)) 54 14 (some 70)) 54 15 (some 71)) 0 5 (some 54)) 74 5 (some 75)) 74 6 (some 76)) 74 7 (some 77)) 74 8 (some 78)) 74 9 (some 79)) 73 0 (some 74)) 73 5 (some 80)) 73 6 (some 81)) 73 7 (some 82)) 73 8 (some 83)) 73 9 (some 84)) 73 10 (some 85)) 73 11 (some 86)) 73 12 (some 87)) 73 13 (some 88)) 73 14 (some 89)) 73 15 (some 90)) 72 1 (some 73)) 72 5 (some 91)) 72 6 (some 92)) 72 0 (some 54)) 72 2 (some 12)) 0 6 (some 72)) 93 0 (some 54)) 93 1 (some 12)) 0 7 (some 93)), 95, 3705)) 27 [.ref 0] [.ref 3, .ref 0] z2 ((up2 (up2 (up2 (up2 (up2 (up2 (up2 (up2 (up2 (up2 (up2 R 1 0 (some 2)) 0 0 (some 1)) 4 5 (some 5)) 4 6 (some 6)) 4 7 (some 7)) 4 8 (some 8)) 4 9 (some 9)) 3 1 (some 4)) 3 2 (some 10)) 3 3 (some 11)) 3 0 (some 1)), 12, 500)
  refine r_putR hX hT dX8_init_27 fl_8_21 rfl (by decide) (Nat.le_of_ble_eq_true rfl) (Or.inl ⟨_, rfl⟩) ?_
  have hF := fr_R (a := 0) (j := 1) (b := 3) (by decide) hF
  show WR G X (mQ G X none zf ((up2 (up2 (up2 (up2 (up2 (up2 (up2 (up2 (up2 (up2 (up2 (up2 (up2 (up2 (up2 (up2 (up2 (up2 (up2 (up2 (up2 (up2 (up2 (up2 (up2 (up2 (up2 (up2 (up2 (up2 (up2 (up2 (up2 (up2 (up2 (up2 (up2 (up2 (up2 (up2 (up2 (up2 (up2 (up2 (up2 (up2 (up2 (up2 (up2 (up2 (up2 (up2 (up2 (up2 (up2 (up2 (up2 (up2 (up2 (up2 (up2 (up2 (up2 (up2 (up2 (up2 (up2 (up2 (up2 (up2 (up2 (up2 (up2 (up2 (up2 (up2 (up2 (up2 (up2 (up2 (up2 (up2 (up2 (up2 (up2 (up2 (up2 (up2 (up2 (up2 (up2 (up2 (up2 (up2 (up2 (up2 (up2 (up2 (up2 R 1 0 (some 2)) 0 0 (some 1)) 4 5 (some 5)) 4 6 (some 6)) 4 7 (some 7)) 4 8 (some 8)) 4 9 (some 9)) 3 1 (some 4)) 3 2 (some 10)) 3 3 (some 11)) 3 0 (some 1)) 0 1 (some 3)) 13 0 (some 14)) 13 1 (some 15)) 13 2 (some 16)) 13 3 (some 17)) 13 4 (some 115)) 12 0 (some 13)) 0 2 (some 12)) 19 5 (some 20)) 19 6 (some 21)) 19 7 (some 22)) 19 8 (some 23)) 19 9 (some 24)) 18 0 (some 19)) 18 5 (some 25)) 18 6 (some 26)) 18 7 (some 27)) 18 8 (some 28)) 18 9 (some 29)) 18 10 (some 30)) 18 11 (some 31)) 18 12 (some 32)) 18 13 (some 33)) 18 14 (some 34)) 18 15 (some 35)) 0 3 (some 18)) 37 5 (some 38)) 37 6 (some 39)) 37 7 (some 40)) 37 8 (some 41)) 37 9 (some 42)) 36 0 (some 37)) 36 5 (some 43)) 36 6 (some 44)) 36 7 (some 45)) 36 8 (some 46)) 36 9 (some 47)) 36 10 (some 48)) 36 11 (some 49)) 36 12 (some 50)) 36 13 (some 51)) 36 14 (some 52)) 36 15 (some 53)) 0 4 (some 36)) 55 5 (some 56)) 55 6 (some 57)) 55 7 (some 58)) 55 8 (some 59)) 55 9 (some 60)) 54 0 (some 55)) 54 5 (some 61)) 54 6 (some 62)) 54 7 (some 63)) 54 8 (some 64)) 54 9 (some 65)) 54 10 (some 66)) 54 11 (some 67)) 54 12 (some 68)) 54 13 (some 69)) 54 14 (some 70)) 54 15 (some 71)) 0 5 (some 54)) 74 5 (some 75)) 74 6 (some 76)) 74 7 (some 77)) 74 8 (some 78)) 74 9 (some 79)) 73 0 (some 74)) 73 5 (some 80)) 73 6 (some 81)) 73 7 (some 82)) 73 8 (some 83)) 73 9 (some 84)) 73 10 (some 85)) 73 11 (some 86)) 73 12 (some 87)) 73 13 (some 88)) 73 14 (some 89)) 73 15 (some 90)) 72 1 (some 73)) 72 5 (some 91)) 72 6 (some 92)) 72 0 (some 54)) 72 2 (some 12)) 0 6 (some 72)) 93 0 (some 54)) 93 1 (some 12)) 0 7 (some 93)), 95, 3705)) 30 [.ref 0] [] z2 ((up2 (up2 (up2 (up2 (up2 (up2 (up2 (up2 (up2 (up2 (up2 (up2 R 1 0 (some 2)) 0 0 (some 1)) 4 5 (some 5)) 4 6 (some 6)) 4 7 (some 7)) 4 8 (some 8)) 4 9 (some 9)) 3 1 (some 4)) 3 2 (some 10)) 3 3 (some 11)) 3 0 (some 1)) 0 1 (some 3)), 12, 500)
  refine r_aload_n hX dX8_init_30 rfl ?_
  refine r_new (ci := 0) hX dX8_init_31 cl_8_25 in0 ini0 rfl (by decide) (fr_fresh hF) (Nat.le_of_ble_eq_true rfl) (xr_le hr ⟨(Nat.le_of_ble_eq_true rfl), (Nat.le_of_ble_eq_true rfl)⟩) ?_
  show WR G X (mQ G X none zf ((up2 (up2 (up2 (up2 (up2 (up2 (up2 (up2 (up2 (up2 (up2 (up2 (up2 (up2 (up2 (up2 (up2 (up2 (up2 (up2 (up2 (up2 (up2 (up2 (up2 (up2 (up2 (up2 (up2 (up2 (up2 (up2 (up2 (up2 (up2 (up2 (up2 (up2 (up2 (up2 (up2 (up2 (up2 (up2 (up2 (up2 (up2 (up2 (up2 (up2 (up2 (up2 (up2 (up2 (up2 (up2 (up2 (up2 (up2 (up2 (up2 (up2 (up2 (up2 (up2 (up2 (up2 (up2 (up2 (up2 (up2 (up2 (up2 (up2 (up2 (up2 (up2 (up2 (up2 (up2 (up2 (up2 (up2 (up2 (up2 (up2 (up2 (up2 (up2 (up2 (up2 (up2 (up2 (up2 (up2 (up2 (up2 (up2 (up2 R 1 0 (some 2)) 0 0 (some 1)) 4 5 (some 5)) 4 6 (some 6)) 4 7 (some 7)) 4 8 (some 8)) 4 9 (some 9)) 3 1 (some 4)) 3 2 (some 10)) 3 3 (some 11)) 3 0 (some 1)) 0 1 (some 3)) 13 0 (some 14)) 13 1 (some 15)) 13 2 (some 16)) 13 3 (some 17)) 13 4 (some 115)) 12 0 (some 13)) 0 2 (some 12)) 19 5 (some 20)) 19 6 (some 21)) 19 7 (some 22)) 19 8 (some 23)) 19 9 (some 24)) 18 0 (some 19)) 18 5 (some 25)) 18 6 (some 26)) 18 7 (some 27)) 18 8 (some 28)) 18 9 (some 29)) 18 10 (some 30)) 18 11 (some 31)) 18 12 (some 32)) 18 13 (some 33)) 18 14 (some 34)) 18 15 (some 35)) 0 3 (some 18)) 37 5 (some 38)) 37 6 (some 39)) 37 7 (some 40)) 37 8 (some 41)) 37 9 (some 42)) 36 0 (some 37)) 36 5 (some 43)) 36 6 (some 44)) 36 7 (some 45)) 36 8 (some 46)) 36 9 (some 47)) 36 10 (some 48)) 36 11 (some 49)) 36 12 (some 50)) 36 13 (some 51)) 36 14 (some 52)) 36 15 (some 53)) 0 4 (some 36)) 55 5 (some 56)) 55 6 (some 57)) 55 7 (some 58)) 55 8 (some 59)) 55 9 (some 60)) 54 0 (some 55)) 54 5 (some 61)) 54 6 (some 62)) 54 7 (some 63)) 54 8 (some 64)) 54 9 (some 65)) 54 10 (some 66)) 54 11 (some 67)) 54 12 (some 68)) 54 13 (some 69)) 54 14 (some 70)) 54 15 (some 71)) 0 5 (some 54)) 74 5 (some 75)) 74 6 (some 76)) 74 7 (some 77)) 74 8 (some 78)) 74 9 (some 79)) 73 0 (some 74)) 73 5 (some 80)) 73 6 (some 81)) 73 7 (some 82)) 73 8 (some 83)) 73 9 (some 84)) 73 10 (some 85)) 73 11 (some 86)) 73 12 (some 87)) 73 13 (some 88)) 73 14 (some 89)) 73 15 (some 90)) 72 1 (some 73)) 72 5 (some 91)) 72 6 (some 92)) 72 0 (some 54)) 72 2 (some 12)) 0 6 (some 72)) 93 0 (some 54)) 93 1 (some 12)) 0 7 (some 93)), 95, 3705)) 34 [.ref 0] [.ref 12, .ref 0] z2 ((up2 (up2 (up2 (up2 (up2 (up2 (up2 (up2 (up2 (up2 (up2 (up2 R 1 0 (some 2)) 0 0 (some 1)) 4 5 (some 5)) 4 6 (some 6)) 4 7 (some 7)) 4 8 (some 8)) 4 9 (some 9)) 3 1 (some 4)) 3 2 (some 10)) 3 3 (some 11)) 3 0 (some 1)) 0 1 (some 3)), 13, 506)
  have hF := fr_up (n' := 13) (by decide) hF
  refine r_dup hX dX8_init_34 rfl ?_
  obtain ⟨z3, p3, h⟩ := bnd_s h
  refine r_callIN (As := []) (S1 := ((up2 (up2 (up2 (up2 (up2 (up2 (up2 (up2 (up2 (up2 (up2 (up2 (up2 (up2 (up2 (up2 (up2 (up2 R 1 0 (some 2)) 0 0 (some 1)) 4 5 (some 5)) 4 6 (some 6)) 4 7 (some 7)) 4 8 (some 8)) 4 9 (some 9)) 3 1 (some 4)) 3 2 (some 10)) 3 3 (some 11)) 3 0 (some 1)) 0 1 (some 3)) 13 0 (some 14)) 13 1 (some 15)) 13 2 (some 16)) 13 3 (some 17)) 13 4 (some 115)) 12 0 (some 13)), 19, 1410)) hX dX8_init_35 mk_Fi_init mc_Fi_init mn_8_27 rfl rfl rfl (Nat.le_of_ble_eq_true rfl) (Nat.le_of_ble_eq_true rfl) (xr_le hr ⟨(Nat.le_of_ble_eq_true rfl), (Nat.le_of_ble_eq_true rfl)⟩) (ok_Fi_init12 (d := d + 1) n z2 hF p3) ?_
  have hF := fr_Fi_init12 hF p3
  have hF := fr_eta hF
  show WR G X (mQ G X none zf ((up2 (up2 (up2 (up2 (up2 (up2 (up2 (up2 (up2 (up2 (up2 (up2 (up2 (up2 (up2 (up2 (up2 (up2 (up2 (up2 (up2 (up2 (up2 (up2 (up2 (up2 (up2 (up2 (up2 (up2 (up2 (up2 (up2 (up2 (up2 (up2 (up2 (up2 (up2 (up2 (up2 (up2 (up2 (up2 (up2 (up2 (up2 (up2 (up2 (up2 (up2 (up2 (up2 (up2 (up2 (up2 (up2 (up2 (up2 (up2 (up2 (up2 (up2 (up2 (up2 (up2 (up2 (up2 (up2 (up2 (up2 (up2 (up2 (up2 (up2 (up2 (up2 (up2 (up2 (up2 (up2 (up2 (up2 (up2 (up2 (up2 (up2 (up2 (up2 (up2 (up2 (up2 (up2 (up2 (up2 (up2 (up2 (up2 (up2 R 1 0 (some 2)) 0 0 (some 1)) 4 5 (some 5)) 4 6 (some 6)) 4 7 (some 7)) 4 8 (some 8)) 4 9 (some 9)) 3 1 (some 4)) 3 2 (some 10)) 3 3 (some 11)) 3 0 (some 1)) 0 1 (some 3)) 13 0 (some 14)) 13 1 (some 15)) 13 2 (some 16)) 13 3 (some 17)) 13 4 (some 115)) 12 0 (some 13)) 0 2 (some 12)) 19 5 (some 20)) 19 6 (some 21)) 19 7 (some 22)) 19 8 (some 23)) 19 9 (some 24)) 18 0 (some 19)) 18 5 (some 25)) 18 6 (some 26)) 18 7 (some 27)) 18 8 (some 28)) 18 9 (some 29)) 18 10 (some 30)) 18 11 (some 31)) 18 12 (some 32)) 18 13 (some 33)) 18 14 (some 34)) 18 15 (some 35)) 0 3 (some 18)) 37 5 (some 38)) 37 6 (some 39)) 37 7 (some 40)) 37 8 (some 41)) 37 9 (some 42)) 36 0 (some 37)) 36 5 (some 43)) 36 6 (some 44)) 36 7 (some 45)) 36 8 (some 46)) 36 9 (some 47)) 36 10 (some 48)) 36 11 (some 49)) 36 12 (some 50)) 36 13 (some 51)) 36 14 (some 52)) 36 15 (some 53)) 0 4 (some 36)) 55 5 (some 56)) 55 6 (some 57)) 55 7 (some 58)) 55 8 (some 59)) 55 9 (some 60)) 54 0 (some 55)) 54 5 (some 61)) 54 6 (some 62)) 54 7 (some 63)) 54 8 (some 64)) 54 9 (some 65)) 54 10 (some 66)) 54 11 (some 67)) 54 12 (some 68)) 54 13 (some 69)) 54 14 (some 70)) 54 15 (some 71)) 0 5 (some 54)) 74 5 (some 75)) 74 6 (some 76)) 74 7 (some 77)) 74 8 (some 78)) 74 9 (some 79)) 73 0 (some 74)) 73 5 (some 80)) 73 6 (some 81)) 73 7 (some 82)) 73 8 (some 83)) 73 9 (some 84)) 73 10 (some 85)) 73 11 (some 86)) 73 12 (some 87)) 73 13 (some 88)) 73 14 (some 89)) 73 15 (some 90)) 72 1 (some 73)) 72 5 (some 91)) 72 6 (some 92)) 72 0 (some 54)) 72 2 (some 12)) 0 6 (some 72)) 93 0 (some 54)) 93 1 (some 12)) 0 7 (some 93)), 95, 3705)) 38 [.ref 0] [.ref 12, .ref 0] z3 ((up2 (up2 (up2 (up2 (up2 (up2 (up2 (up2 (up2 (up2 (up2 (up2 (up2 (up2 (up2 (up2 (up2 (up2 R 1 0 (some 2)) 0 0 (some 1)) 4 5 (some 5)) 4 6 (some 6)) 4 7 (some 7)) 4 8 (some 8)) 4 9 (some 9)) 3 1 (some 4)) 3 2 (some 10)) 3 3 (some 11)) 3 0 (some 1)) 0 1 (some 3)) 13 0 (some 14)) 13 1 (some 15)) 13 2 (some 16)) 13 3 (some 17)) 13 4 (some 115)) 12 0 (some 13)), 19, 1410)
  refine r_putR hX hT dX8_init_38 fl_8_28 rfl (by decide) (Nat.le_of_ble_eq_true rfl) (Or.inl ⟨_, rfl⟩) ?_
  have hF := fr_R (a := 0) (j := 2) (b := 12) (by decide) hF
  show WR G X (mQ G X none zf ((up2 (up2 (up2 (up2 (up2 (up2 (up2 (up2 (up2 (up2 (up2 (up2 (up2 (up2 (up2 (up2 (up2 (up2 (up2 (up2 (up2 (up2 (up2 (up2 (up2 (up2 (up2 (up2 (up2 (up2 (up2 (up2 (up2 (up2 (up2 (up2 (up2 (up2 (up2 (up2 (up2 (up2 (up2 (up2 (up2 (up2 (up2 (up2 (up2 (up2 (up2 (up2 (up2 (up2 (up2 (up2 (up2 (up2 (up2 (up2 (up2 (up2 (up2 (up2 (up2 (up2 (up2 (up2 (up2 (up2 (up2 (up2 (up2 (up2 (up2 (up2 (up2 (up2 (up2 (up2 (up2 (up2 (up2 (up2 (up2 (up2 (up2 (up2 (up2 (up2 (up2 (up2 (up2 (up2 (up2 (up2 (up2 (up2 (up2 R 1 0 (some 2)) 0 0 (some 1)) 4 5 (some 5)) 4 6 (some 6)) 4 7 (some 7)) 4 8 (some 8)) 4 9 (some 9)) 3 1 (some 4)) 3 2 (some 10)) 3 3 (some 11)) 3 0 (some 1)) 0 1 (some 3)) 13 0 (some 14)) 13 1 (some 15)) 13 2 (some 16)) 13 3 (some 17)) 13 4 (some 115)) 12 0 (some 13)) 0 2 (some 12)) 19 5 (some 20)) 19 6 (some 21)) 19 7 (some 22)) 19 8 (some 23)) 19 9 (some 24)) 18 0 (some 19)) 18 5 (some 25)) 18 6 (some 26)) 18 7 (some 27)) 18 8 (some 28)) 18 9 (some 29)) 18 10 (some 30)) 18 11 (some 31)) 18 12 (some 32)) 18 13 (some 33)) 18 14 (some 34)) 18 15 (some 35)) 0 3 (some 18)) 37 5 (some 38)) 37 6 (some 39)) 37 7 (some 40)) 37 8 (some 41)) 37 9 (some 42)) 36 0 (some 37)) 36 5 (some 43)) 36 6 (some 44)) 36 7 (some 45)) 36 8 (some 46)) 36 9 (some 47)) 36 10 (some 48)) 36 11 (some 49)) 36 12 (some 50)) 36 13 (some 51)) 36 14 (some 52)) 36 15 (some 53)) 0 4 (some 36)) 55 5 (some 56)) 55 6 (some 57)) 55 7 (some 58)) 55 8 (some 59)) 55 9 (some 60)) 54 0 (some 55)) 54 5 (some 61)) 54 6 (some 62)) 54 7 (some 63)) 54 8 (some 64)) 54 9 (some 65)) 54 10 (some 66)) 54 11 (some 67)) 54 12 (some 68)) 54 13 (some 69)) 54 14 (some 70)) 54 15 (some 71)) 0 5 (some 54)) 74 5 (some 75)) 74 6 (some 76)) 74 7 (some 77)) 74 8 (some 78)) 74 9 (some 79)) 73 0 (some 74)) 73 5 (some 80)) 73 6 (some 81)) 73 7 (some 82)) 73 8 (some 83)) 73 9 (some 84)) 73 10 (some 85)) 73 11 (some 86)) 73 12 (some 87)) 73 13 (some 88)) 73 14 (some 89)) 73 15 (some 90)) 72 1 (some 73)) 72 5 (some 91)) 72 6 (some 92)) 72 0 (some 54)) 72 2 (some 12)) 0 6 (some 72)) 93 0 (some 54)) 93 1 (some 12)) 0 7 (some 93)), 95, 3705)) 41 [.ref 0] [] z3 ((up2 (up2 (up2 (up2 (up2 (up2 (up2 (up2 (up2 (up2 (up2 (up2 (up2 (up2 (up2 (up2 (up2 (up2 (up2 R 1 0 (some 2)) 0 0 (some 1)) 4 5 (some 5)) 4 6 (some 6)) 4 7 (some 7)) 4 8 (some 8)) 4 9 (some 9)) 3 1 (some 4)) 3 2 (some 10)) 3 3 (some 11)) 3 0 (some 1)) 0 1 (some 3)) 13 0 (some 14)) 13 1 (some 15)) 13 2 (some 16)) 13 3 (some 17)) 13 4 (some 115)) 12 0 (some 13)) 0 2 (some 12)), 19, 1410)
  refine r_aload_n hX dX8_init_41 rfl ?_
  refine r_new (ci := 4) hX dX8_init_42 cl_8_32 in4 ini4 rfl (by decide) (fr_fresh hF) (Nat.le_of_ble_eq_true rfl) (xr_le hr ⟨(Nat.le_of_ble_eq_true rfl), (Nat.le_of_ble_eq_true rfl)⟩) ?_
  show WR G X (mQ G X none zf ((up2 (up2 (up2 (up2 (up2 (up2 (up2 (up2 (up2 (up2 (up2 (up2 (up2 (up2 (up2 (up2 (up2 (up2 (up2 (up2 (up2 (up2 (up2 (up2 (up2 (up2 (up2 (up2 (up2 (up2 (up2 (up2 (up2 (up2 (up2 (up2 (up2 (up2 (up2 (up2 (up2 (up2 (up2 (up2 (up2 (up2 (up2 (up2 (up2 (up2 (up2 (up2 (up2 (up2 (up2 (up2 (up2 (up2 (up2 (up2 (up2 (up2 (up2 (up2 (up2 (up2 (up2 (up2 (up2 (up2 (up2 (up2 (up2 (up2 (up2 (up2 (up2 (up2 (up2 (up2 (up2 (up2 (up2 (up2 (up2 (up2 (up2 (up2 (up2 (up2 (up2 (up2 (up2 (up2 (up2 (up2 (up2 (up2 (up2 R 1 0 (some 2)) 0 0 (some 1)) 4 5 (some 5)) 4 6 (some 6)) 4 7 (some 7)) 4 8 (some 8)) 4 9 (some 9)) 3 1 (some 4)) 3 2 (some 10)) 3 3 (some 11)) 3 0 (some 1)) 0 1 (some 3)) 13 0 (some 14)) 13 1 (some 15)) 13 2 (some 16)) 13 3 (some 17)) 13 4 (some 115)) 12 0 (some 13)) 0 2 (some 12)) 19 5 (some 20)) 19 6 (some 21)) 19 7 (some 22)) 19 8 (some 23)) 19 9 (some 24)) 18 0 (some 19)) 18 5 (some 25)) 18 6 (some 26)) 18 7 (some 27)) 18 8 (some 28)) 18 9 (some 29)) 18 10 (some 30)) 18 11 (some 31)) 18 12 (some 32)) 18 13 (some 33)) 18 14 (some 34)) 18 15 (some 35)) 0 3 (some 18)) 37 5 (some 38)) 37 6 (some 39)) 37 7 (some 40)) 37 8 (some 41)) 37 9 (some 42)) 36 0 (some 37)) 36 5 (some 43)) 36 6 (some 44)) 36 7 (some 45)) 36 8 (some 46)) 36 9 (some 47)) 36 10 (some 48)) 36 11 (some 49)) 36 12 (some 50)) 36 13 (some 51)) 36 14 (some 52)) 36 15 (some 53)) 0 4 (some 36)) 55 5 (some 56)) 55 6 (some 57)) 55 7 (some 58)) 55 8 (some 59)) 55 9 (some 60)) 54 0 (some 55)) 54 5 (some 61)) 54 6 (some 62)) 54 7 (some 63)) 54 8 (some 64)) 54 9 (some 65)) 54 10 (some 66)) 54 11 (some 67)) 54 12 (some 68)) 54 13 (some 69)) 54 14 (some 70)) 54 15 (some 71)) 0 5 (some 54)) 74 5 (some 75)) 74 6 (some 76)) 74 7 (some 77)) 74 8 (some 78)) 74 9 (some 79)) 73 0 (some 74)) 73 5 (some 80)) 73 6 (some 81)) 73 7 (some 82)) 73 8 (some 83)) 73 9 (some 84)) 73 10 (some 85)) 73 11 (some 86)) 73 12 (some 87)) 73 13 (some 88)) 73 14 (some 89)) 73 15 (some 90)) 72 1 (some 73)) 72 5 (some 91)) 72 6 (some 92)) 72 0 (some 54)) 72 2 (some 12)) 0 6 (some 72)) 93 0 (some 54)) 93 1 (some 12)) 0 7 (some 93)), 95, 3705)) 45 [.ref 0] [.ref 18, .ref 0] z3 ((up2 (up2 (up2 (up2 (up2 (up2 (up2 (up2 (up2 (up2 (up2 (up2 (up2 (up2 (up2 (up2 (up2 (up2 (up2 R 1 0 (some 2)) 0 0 (some 1)) 4 5 (some 5)) 4 6 (some 6)) 4 7 (some 7)) 4 8 (some 8)) 4 9 (some 9)) 3 1 (some 4)) 3 2 (some 10)) 3 3 (some 11)) 3 0 (some 1)) 0 1 (some 3)) 13 0 (some 14)) 13 1 (some 15)) 13 2 (some 16)) 13 3 (some 17)) 13 4 (some 115)) 12 0 (some 13)) 0 2 (some 12)), 20, 1426)
  have hF := fr_up (n' := 20) (by decide) hF
  refine r_dup hX dX8_init_45 rfl ?_
  obtain ⟨z4, p4, h⟩ := bnd_s h
  refine r_callIN (As := []) (S1 := ((up2 (up2 (up2 (up2 (up2 (up2 (up2 (up2 (up2 (up2 (up2 (up2 (up2 (up2 (up2 (up2 (up2 (up2 (up2 (up2 (up2 (up2 (up2 (up2 (up2 (up2 (up2 (up2 (up2 (up2 (up2 (up2 (up2 (up2 (up2 (up2 R 1 0 (some 2)) 0 0 (some 1)) 4 5 (some 5)) 4 6 (some 6)) 4 7 (some 7)) 4 8 (some 8)) 4 9 (some 9)) 3 1 (some 4)) 3 2 (some 10)) 3 3 (some 11)) 3 0 (some 1)) 0 1 (some 3)) 13 0 (some 14)) 13 1 (some 15)) 13 2 (some 16)) 13 3 (some 17)) 13 4 (some 115)) 12 0 (some 13)) 0 2 (some 12)) 19 5 (some 20)) 19 6 (some 21)) 19 7 (some 22)) 19 8 (some 23)) 19 9 (some 24)) 18 0 (some 19)) 18 5 (some 25)) 18 6 (some 26)) 18 7 (some 27)) 18 8 (some 28)) 18 9 (some 29)) 18 10 (some 30)) 18 11 (some 31)) 18 12 (some 32)) 18 13 (some 33)) 18 14 (some 34)) 18 15 (some 35)), 37, 1960)) hX dX8_init_46 mk_St_init mc_St_init mn_8_34 rfl rfl rfl (Nat.le_of_ble_eq_true rfl) (Nat.le_of_ble_eq_true rfl) (xr_le hr ⟨(Nat.le_of_ble_eq_true rfl), (Nat.le_of_ble_eq_true rfl)⟩) (ok_St_init18 (d := d + 1) n z3 hF p4) ?_
  have hF := fr_St_init18 hF p4
  have hF := fr_eta hF
  show WR G X (mQ G X none zf ((up2 (up2 (up2 (up2 (up2 (up2 (up2 (up2 (up2 (up2 (up2 (up2 (up2 (up2 (up2 (up2 (up2 (up2 (up2 (up2 (up2 (up2 (up2 (up2 (up2 (up2 (up2 (up2 (up2 (up2 (up2 (up2 (up2 (up2 (up2 (up2 (up2 (up2 (up2 (up2 (up2 (up2 (up2 (up2 (up2 (up2 (up2 (up2 (up2 (up2 (up2 (up2 (up2 (up2 (up2 (up2 (up2 (up2 (up2 (up2 (up2 (up2 (up2 (up2 (up2 (up2 (up2 (up2 (up2 (up2 (up2 (up2 (up2 (up2 (up2 (up2 (up2 (up2 (up2 (up2 (up2 (up2 (up2 (up2 (up2 (up2 (up2 (up2 (up2 (up2 (up2 (up2 (up2 (up2 (up2 (up2 (up2 (up2 (up2 R 1 0 (some 2)) 0 0 (some 1)) 4 5 (some 5)) 4 6 (some 6)) 4 7 (some 7)) 4 8 (some 8)) 4 9 (some 9)) 3 1 (some 4)) 3 2 (some 10)) 3 3 (some 11)) 3 0 (some 1)) 0 1 (some 3)) 13 0 (some 14)) 13 1 (some 15)) 13 2 (some 16)) 13 3 (some 17)) 13 4 (some 115)) 12 0 (some 13)) 0 2 (some 12)) 19 5 (some 20)) 19 6 (some 21)) 19 7 (some 22)) 19 8 (some 23)) 19 9 (some 24)) 18 0 (some 19)) 18 5 (some 25)) 18 6 (some 26)) 18 7 (some 27)) 18 8 (some 28)) 18 9 (some 29)) 18 10 (some 30)) 18 11 (some 31)) 18 12 (some 32)) 18 13 (some 33)) 18 14 (some 34)) 18 15 (some 35)) 0 3 (some 18)) 37 5 (some 38)) 37 6 (some 39)) 37 7 (some 40)) 37 8 (some 41)) 37 9 (some 42)) 36 0 (some 37)) 36 5 (some 43)) 36 6 (some 44)) 36 7 (some 45)) 36 8 (some 46)) 36 9 (some 47)) 36 10 (some 48)) 36 11 (some 49)) 36 12 (some 50)) 36 13 (some 51)) 36 14 (some 52)) 36 15 (some 53)) 0 4 (some 36)) 55 5 (some 56)) 55 6 (some 57)) 55 7 (some 58)) 55 8 (some 59)) 55 9 (some 60)) 54 0 (some 55)) 54 5 (some 61)) 54 6 (some 62)) 54 7 (some 63)) 54 8 (some 64)) 54 9 (some 65)) 54 10 (some 66)) 54 11 (some 67)) 54 12 (some 68)) 54 13 (some 69)) 54 14 (some 70)) 54 15 (some 71)) 0 5 (some 54)) 74 5 (some 75)) 74 6 (some 76)) 74 7 (some 77)) 74 8 (some 78)) 74 9 (some 79)) 73 0 (some 74)) 73 5 (some 80)) 73 6 (some 81)) 73 7 (some 82)) 73 8 (some 83)) 73 9 (some 84)) 73 10 (some 85)) 73 11 (some 86)) 73 12 (some 87)) 73 13 (some 88)) 73 14 (some 89)) 73 15 (some 90)) 72 1 (some 73)) 72 5 (some 91)) 72 6 (some 92)) 72 0 (some 54)) 72 2 (some 12)) 0 6 (some 72)) 93 0 (some 54)) 93 1 (some 12)) 0 7 (some 93)), 95, 3705)) 49 [.ref 0] [.ref 18, .ref 0] z4 ((up2 (up2 (up2 (up2 (up2 (up2 (up2 (up2 (up2 (up2 (up2 (up2 (up2 (up2 (up2 (up2 (up2 (up2 (up2 (up2 (up2 (up2 (up2 (up2 (up2 (up2 (up2 (up2 (up2 (up2 (up2 (up2 (up2 (up2 (up2 (up2 R 1 0 (some 2)) 0 0 (some 1)) 4 5 (some 5)) 4 6 (some 6)) 4 7 (some 7)) 4 8 (some 8)) 4 9 (some 9)) 3 1 (some 4)) 3 2 (some 10)) 3 3 (some 11)) 3 0 (some 1)) 0 1 (some 3)) 13 0 (some 14)) 13 1 (some 15)) 13 2 (some 16)) 13 3 (some 17)) 13 4 (some 115)) 12 0 (some 13)) 0 2 (some 12)) 19 5 (some 20)) 19 6 (some 21)) 19 7 (some 22)) 19 8 (some 23)) 19 9 (some 24)) 18 0 (some 19)) 18 5 (some 25)) 18 6 (some 26)) 18 7 (some 27)) 18 8 (some 28)) 18 9 (some 29)) 18 10 (some 30)) 18 11 (some 31)) 18 12 (some 32)) 18 13 (some 33)) 18 14 (some 34)) 18 15 (some 35)), 37, 1960)
  refine r_putR hX hT dX8_init_49 fl_8_35 rfl (by decide) (Nat.le_of_ble_eq_true rfl) (Or.inl ⟨_, rfl⟩) ?_
  have hF := fr_R (a := 0) (j := 3) (b := 18) (by decide) hF
  show WR G X (mQ G X none zf ((up2 (up2 (up2 (up2 (up2 (up2 (up2 (up2 (up2 (up2 (up2 (up2 (up2 (up2 (up2 (up2 (up2 (up2 (up2 (up2 (up2 (up2 (up2 (up2 (up2 (up2 (up2 (up2 (up2 (up2 (up2 (up2 (up2 (up2 (up2 (up2 (up2 (up2 (up2 (up2 (up2 (up2 (up2 (up2 (up2 (up2 (up2 (up2 (up2 (up2 (up2 (up2 (up2 (up2 (up2 (up2 (up2 (up2 (up2 (up2 (up2 (up2 (up2 (up2 (up2 (up2 (up2 (up2 (up2 (up2 (up2 (up2 (up2 (up2 (up2 (up2 (up2 (up2 (up2 (up2 (up2 (up2 (up2 (up2 (up2 (up2 (up2 (up2 (up2 (up2 (up2 (up2 (up2 (up2 (up2 (up2 (up2 (up2 (up2 R 1 0 (some 2)) 0 0 (some 1)) 4 5 (some 5)) 4 6 (some 6)) 4 7 (some 7)) 4 8 (some 8)) 4 9 (some 9)) 3 1 (some 4)) 3 2 (some 10)) 3 3 (some 11)) 3 0 (some 1)) 0 1 (some 3)) 13 0 (some 14)) 13 1 (some 15)) 13 2 (some 16)) 13 3 (some 17)) 13 4 (some 115)) 12 0 (some 13)) 0 2 (some 12)) 19 5 (some 20)) 19 6 (some 21)) 19 7 (some 22)) 19 8 (some 23)) 19 9 (some 24)) 18 0 (some 19)) 18 5 (some 25)) 18 6 (some 26)) 18 7 (some 27)) 18 8 (some 28)) 18 9 (some 29)) 18 10 (some 30)) 18 11 (some 31)) 18 12 (some 32)) 18 13 (some 33)) 18 14 (some 34)) 18 15 (some 35)) 0 3 (some 18)) 37 5 (some 38)) 37 6 (some 39)) 37 7 (some 40)) 37 8 (some 41)) 37 9 (some 42)) 36 0 (some 37)) 36 5 (some 43)) 36 6 (some 44)) 36 7 (some 45)) 36 8 (some 46)) 36 9 (some 47)) 36 10 (some 48)) 36 11 (some 49)) 36 12 (some 50)) 36 13 (some 51)) 36 14 (some 52)) 36 15 (some 53)) 0 4 (some 36)) 55 5 (some 56)) 55 6 (some 57)) 55 7 (some 58)) 55 8 (some 59)) 55 9 (some 60)) 54 0 (some 55)) 54 5 (some 61)) 54 6 (some 62)) 54 7 (some 63)) 54 8 (some 64)) 54 9 (some 65)) 54 10 (some 66)) 54 11 (some 67)) 54 12 (some 68)) 54 13 (some 69)) 54 14 (some 70)) 54 15 (some 71)) 0 5 (some 54)) 74 5 (some 75)) 74 6 (some 76)) 74 7 (some 77)) 74 8 (some 78)) 74 9 (some 79)) 73 0 (some 74)) 73 5 (some 80)) 73 6 (some 81)) 73 7 (some 82)) 73 8 (some 83)) 73 9 (some 84)) 73 10 (some 85)) 73 11 (some 86)) 73 12 (some 87)) 73 13 (some 88)) 73 14 (some 89)) 73 15 (some 90)) 72 1 (some 73)) 72 5 (some 91)) 72 6 (some 92)) 72 0 (some 54)) 72 2 (some 12)) 0 6 (some 72)) 93 0 (some 54)) 93 1 (some 12)) 0 7 (some 93)), 95, 3705)) 52 [.ref 0] [] z4 ((up2 (up2 (up2 (up2 (up2 (up2 (up2 (up2 (up2 (up2 (up2 (up2 (up2 (up2 (up2 (up2 (up2 (up2 (up2 (up2 (up2 (up2 (up2 (up2 (up2 (up2 (up2 (up2 (up2 (up2 (up2 (up2 (up2 (up2 (up2 (up2 (up2 R 1 0 (some 2)) 0 0 (some 1)) 4 5 (some 5)) 4 6 (some 6)) 4 7 (some 7)) 4 8 (some 8)) 4 9 (some 9)) 3 1 (some 4)) 3 2 (some 10)) 3 3 (some 11)) 3 0 (some 1)) 0 1 (some 3)) 13 0 (some 14)) 13 1 (some 15)) 13 2 (some 16)) 13 3 (some 17)) 13 4 (some 115)) 12 0 (some 13)) 0 2 (some 12)) 19 5 (some 20)) 19 6 (some 21)) 19 7 (some 22)) 19 8 (some 23)) 19 9 (some 24)) 18 0 (some 19)) 18 5 (some 25)) 18 6 (some 26)) 18 7 (some 27)) 18 8 (some 28)) 18 9 (some 29)) 18 10 (some 30)) 18 11 (some 31)) 18 12 (some 32)) 18 13 (some 33)) 18 14 (some 34)) 18 15 (some 35)) 0 3 (some 18)), 37, 1960)
  refine r_aload_n hX dX8_init_52 rfl ?_
  refine r_new (ci := 4) hX dX8_init_53 cl_8_32 in4 ini4 rfl (by decide) (fr_fresh hF) (Nat.le_of_ble_eq_true rfl) (xr_le hr ⟨(Nat.le_of_ble_eq_true rfl), (Nat.le_of_ble_eq_true rfl)⟩) ?_
  show WR G X (mQ G X none zf ((up2 (up2 (up2 (up2 (up2 (up2 (up2 (up2 (up2 (up2 (up2 (up2 (up2 (up2 (up2 (up2 (up2 (up2 (up2 (up2 (up2 (up2 (up2 (up2 (up2 (up2 (up2 (up2 (up2 (up2 (up2 (up2 (up2 (up2 (up2 (up2 (up2 (up2 (up2 (up2 (up2 (up2 (up2 (up2 (up2 (up2 (up2 (up2 (up2 (up2 (up2 (up2 (up2 (up2 (up2 (up2 (up2 (up2 (up2 (up2 (up2 (up2 (up2 (up2 (up2 (up2 (up2 (up2 (up2 (up2 (up2 (up2 (up2 (up2 (up2 (up2 (up2 (up2 (up2 (up2 (up2 (up2 (up2 (up2 (up2 (up2 (up2 (up2 (up2 (up2 (up2 (up2 (up2 (up2 (up2 (up2 (up2 (up2 (up2 R 1 0 (some 2)) 0 0 (some 1)) 4 5 (some 5)) 4 6 (some 6)) 4 7 (some 7)) 4 8 (some 8)) 4 9 (some 9)) 3 1 (some 4)) 3 2 (some 10)) 3 3 (some 11)) 3 0 (some 1)) 0 1 (some 3)) 13 0 (some 14)) 13 1 (some 15)) 13 2 (some 16)) 13 3 (some 17)) 13 4 (some 115)) 12 0 (some 13)) 0 2 (some 12)) 19 5 (some 20)) 19 6 (some 21)) 19 7 (some 22)) 19 8 (some 23)) 19 9 (some 24)) 18 0 (some 19)) 18 5 (some 25)) 18 6 (some 26)) 18 7 (some 27)) 18 8 (some 28)) 18 9 (some 29)) 18 10 (some 30)) 18 11 (some 31)) 18 12 (some 32)) 18 13 (some 33)) 18 14 (some 34)) 18 15 (some 35)) 0 3 (some 18)) 37 5 (some 38)) 37 6 (some 39)) 37 7 (some 40)) 37 8 (some 41)) 37 9 (some 42)) 36 0 (some 37)) 36 5 (some 43)) 36 6 (some 44)) 36 7 (some 45)) 36 8 (some 46)) 36 9 (some 47)) 36 10 (some 48)) 36 11 (some 49)) 36 12 (some 50)) 36 13 (some 51)) 36 14 (some 52)) 36 15 (some 53)) 0 4 (some 36)) 55 5 (some 56)) 55 6 (some 57)) 55 7 (some 58)) 55 8 (some 59)) 55 9 (some 60)) 54 0 (some 55)) 54 5 (some 61)) 54 6 (some 62)) 54 7 (some 63)) 54 8 (some 64)) 54 9 (some 65)) 54 10 (some 66)) 54 11 (some 67)) 54 12 (some 68)) 54 13 (some 69)) 54 14 (some 70)) 54 15 (some 71)) 0 5 (some 54)) 74 5 (some 75)) 74 6 (some 76)) 74 7 (some 77)) 74 8 (some 78)) 74 9 (some 79)) 73 0 (some 74)) 73 5 (some 80)) 73 6 (some 81)) 73 7 (some 82)) 73 8 (some 83)) 73 9 (some 84)) 73 10 (some 85)) 73 11 (some 86)) 73 12 (some 87)) 73 13 (some 88)) 73 14 (some 89)) 73 15 (some 90)) 72 1 (some 73)) 72 5 (some 91)) 72 6 (some 92)) 72 0 (some 54)) 72 2 (some 12)) 0 6 (some 72)) 93 0 (some 54)) 93 1 (some 12)) 0 7 (some 93)), 95, 3705)) 56 [.ref 0] [.ref 36, .ref 0] z4 ((up2 (up2 (up2 (up2 (up2 (up2 (up2 (up2 (up2 (up2 (up2 (up2 (up2 (up2 (up2 (up2 (up2 (up2 (up2 (up2 (up2 (up2 (up2 (up2 (up2 (up2 (up2 (up2 (up2 (up2 (up2 (up2 (up2 (up2 (up2 (up2 (up2 R 1 0 (some 2)) 0 0 (some 1)) 4 5 (some 5)) 4 6 (some 6)) 4 7 (some 7)) 4 8 (some 8)) 4 9 (some 9)) 3 1 (some 4)) 3 2 (some 10)) 3 3 (some 11)) 3 0 (some 1)) 0 1 (some 3)) 13 0 (some 14)) 13 1 (some 15)) 13 2 (some 16)) 13 3 (some 17)) 13 4 (some 115)) 12 0 (some 13)) 0 2 (some 12)) 19 5 (some 20)) 19 6 (some 21)) 19 7 (some 22)) 19 8 (some 23)) 19 9 (some 24)) 18 0 (some 19)) 18 5 (some 25)) 18 6 (some 26)) 18 7 (some 27)) 18 8 (some 28)) 18 9 (some 29)) 18 10 (some 30)) 18 11 (some 31)) 18 12 (some 32)) 18 13 (some 33)) 18 14 (some 34)) 18 15 (some 35)) 0 3 (some 18)), 38, 1976)
  have hF := fr_up (n' := 38) (by decide) hF
  refine r_dup hX dX8_init_56 rfl ?_
  obtain ⟨z5, p5, h⟩ := bnd_s h
  refine r_callIN (As := []) (S1 := ((up2 (up2 (up2 (up2 (up2 (up2 (up2 (up2 (up2 (up2 (up2 (up2 (up2 (up2 (up2 (up2 (up2 (up2 (up2 (up2 (up2 (up2 (up2 (up2 (up2 (up2 (up2 (up2 (up2 (up2 (up2 (up2 (up2 (up2 (up2 (up2 (up2 (up2 (up2 (up2 (up2 (up2 (up2 (up2 (up2 (up2 (up2 (up2 (up2 (up2 (up2 (up2 (up2 (up2 R 1 0 (some 2)) 0 0 (some 1)) 4 5 (some 5)) 4 6 (some 6)) 4 7 (some 7)) 4 8 (some 8)) 4 9 (some 9)) 3 1 (some 4)) 3 2 (some 10)) 3 3 (some 11)) 3 0 (some 1)) 0 1 (some 3)) 13 0 (some 14)) 13 1 (some 15)) 13 2 (some 16)) 13 3 (some 17)) 13 4 (some 115)) 12 0 (some 13)) 0 2 (some 12)) 19 5 (some 20)) 19 6 (some 21)) 19 7 (some 22)) 19 8 (some 23)) 19 9 (some 24)) 18 0 (some 19)) 18 5 (some 25)) 18 6 (some 26)) 18 7 (some 27)) 18 8 (some 28)) 18 9 (some 29)) 18 10 (some 30)) 18 11 (some 31)) 18 12 (some 32)) 18 13 (some 33)) 18 14 (some 34)) 18 15 (some 35)) 0 3 (some 18)) 37 5 (some 38)) 37 6 (some 39)) 37 7 (some 40)) 37 8 (some 41)) 37 9 (some 42)) 36 0 (some 37)) 36 5 (some 43)) 36 6 (some 44)) 36 7 (some 45)) 36 8 (some 46)) 36 9 (some 47)) 36 10 (some 48)) 36 11 (some 49)) 36 12 (some 50)) 36 13 (some 51)) 36 14 (some 52)) 36 15 (some 53)), 55, 2510)) hX dX8_init_57 mk_St_init mc_St_init mn_8_34 rfl rfl rfl (Nat.le_of_ble_eq_true rfl) (Nat.le_of_ble_eq_true rfl) (xr_le hr ⟨(Nat.le_of_ble_eq_true rfl), (Nat.le_of_ble_eq_true rfl)⟩) (ok_St_init36 (d := d + 1) n z4 hF p5) ?_
  have hF := fr_St_init36 hF p5
  have hF := fr_eta hF
  show WR G X (mQ G X none zf ((up2 (up2 (up2 (up2 (up2 (up2 (up2 (up2 (up2 (up2 (up2 (up2 (up2 (up2 (up2 (up2 (up2 (up2 (up2 (up2 (up2 (up2 (up2 (up2 (up2 (up2 (up2 (up2 (up2 (up2 (up2 (up2 (up2 (up2 (up2 (up2 (up2 (up2 (up2 (up2 (up2 (up2 (up2 (up2 (up2 (up2 (up2 (up2 (up2 (up2 (up2 (up2 (up2 (up2 (up2 (up2 (up2 (up2 (up2 (up2 (up2 (up2 (up2 (up2 (up2 (up2 (up2 (up2 (up2 (up2 (up2 (up2 (up2 (up2 (up2 (up2 (up2 (up2 (up2 (up2 (up2 (up2 (up2 (up2 (up2 (up2 (up2 (up2 (up2 (up2 (up2 (up2 (up2 (up2 (up2 (up2 (up2 (up2 (up2 R 1 0 (some 2)) 0 0 (some 1)) 4 5 (some 5)) 4 6 (some 6)) 4 7 (some 7)) 4 8 (some 8)) 4 9 (some 9)) 3 1 (some 4)) 3 2 (some 10)) 3 3 (some 11)) 3 0 (some 1)) 0 1 (some 3)) 13 0 (some 14)) 13 1 (some 15)) 13 2 (some 16)) 13 3 (some 17)) 13 4 (some 115)) 12 0 (some 13)) 0 2 (some 12)) 19 5 (some 20)) 19 6 (some 21)) 19 7 (some 22)) 19 8 (some 23)) 19 9 (some 24)) 18 0 (some 19)) 18 5 (some 25)) 18 6 (some 26)) 18 7 (some 27)) 18 8 (some 28)) 18 9 (some 29)) 18 10 (some 30)) 18 11 (some 31)) 18 12 (some 32)) 18 13 (some 33)) 18 14 (some 34)) 18 15 (some 35)) 0 3 (some 18)) 37 5 (some 38)) 37 6 (some 39)) 37 7 (some 40)) 37 8 (some 41)) 37 9 (some 42)) 36 0 (some 37)) 36 5 (some 43)) 36 6 (some 44)) 36 7 (some 45)) 36 8 (some 46)) 36 9 (some 47)) 36 10 (some 48)) 36 11 (some 49)) 36 12 (some 50)) 36 13 (some 51)) 36 14 (some 52)) 36 15 (some 53)) 0 4 (some 36)) 55 5 (some 56)) 55 6 (some 57)) 55 7 (some 58)) 55 8 (some 59)) 55 9 (some 60)) 54 0 (some 55)) 54 5 (some 61)) 54 6 (some 62)) 54 7 (some 63)) 54 8 (some 64)) 54 9 (some 65)) 54 10 (some 66)) 54 11 (some 67)) 54 12 (some 68)) 54 13 (some 69)) 54 14 (some 70)) 54 15 (some 71)) 0 5 (some 54)) 74 5 (some 75)) 74 6 (some 76)) 74 7 (some 77)) 74 8 (some 78)) 74 9 (some 79)) 73 0 (some 74)) 73 5 (some 80)) 73 6 (some 81)) 73 7 (some 82)) 73 8 (some 83)) 73 9 (some 84)) 73 10 (some 85)) 73 11 (some 86)) 73 12 (some 87)) 73 13 (some 88)) 73 14 (some 89)) 73 15 (some 90)) 72 1 (some 73)) 72 5 (some 91)) 72 6 (some 92)) 72 0 (some 54)) 72 2 (some 12)) 0 6 (some 72)) 93 0 (some 54)) 93 1 (some 12)) 0 7 (some 93)), 95, 3705)) 60 [.ref 0] [.ref 36, .ref 0] z5 ((up2 (up2 (up2 (up2 (up2 (up2 (up2 (up2 (up2 (up2 (up2 (up2 (up2 (up2 (up2 (up2 (up2 (up2 (up2 (up2 (up2 (up2 (up2 (up2 (up2 (up2 (up2 (up2 (up2 (up2 (up2 (up2 (up2 (up2 (up2 (up2 (up2 (up2 (up2 (up2 (up2 (up2 (up2 (up2 (up2 (up2 (up2 (up2 (up2 (up2 (up2 (up2 (up2 (up2 R 1 0 (some 2)) 0 0 (some 1)) 4 5 (some 5)) 4 6 (some 6)) 4 7 (some 7)) 4 8 (some 8)) 4 9 (some 9)) 3 1 (some 4)) 3 2 (some 10)) 3 3 (some 11)) 3 0 (some 1)) 0 1 (some 3)) 13 0 (some 14)) 13 1 (some 15)) 13 2 (some 16)) 13 3 (some 17)) 13 4 (some 115)) 12 0 (some 13)) 0 2 (some 12)) 19 5 (some 20)) 19 6 (some 21)) 19 7 (some 22)) 19 8 (some 23)) 19 9 (some 24)) 18 0 (some 19)) 18 5 (some 25)) 18 6 (some 26)) 18 7 (some 27)) 18 8 (some 28)) 18 9 (some 29)) 18 10 (some 30)) 18 11 (some 31)) 18 12 (some 32)) 18 13 (some 33)) 18 14 (some 34)) 18 15 (some 35)) 0 3 (some 18)) 37 5 (some 38)) 37 6 (some 39)) 37 7 (some 40)) 37 8 (some 41)) 37 9 (some 42)) 36 0 (some 37)) 36 5 (some 43)) 36 6 (some 44)) 36 7 (some 45)) 36 8 (some 46)) 36 9 (some 47)) 36 10 (some 48)) 36 11 (some 49)) 36 12 (some 50)) 36 13 (some 51)) 36 14 (some 52)) 36 15 (some 53)), 55, 2510)
  refine r_putR hX hT dX8_init_60 fl_8_39 rfl (by decide) (Nat.le_of_ble_eq_true rfl) (Or.inl ⟨_, rfl⟩) ?_
  have hF := fr_R (a := 0) (j := 4) (b := 36) (by decide) hF
  show WR G X (mQ G X none zf ((up2 (up2 (up2 (up2 (up2 (up2 (up2 (up2 (up2 (up2 (up2 (up2 (up2 (up2 (up2 (up2 (up2 (up2 (up2 (up2 (up2 (up2 (up2 (up2 (up2 (up2 (up2 (up2 (up2 (up2 (up2 (up2 (up2 (up2 (up2 (up2 (up2 (up2 (up2 (up2 (up2 (up2 (up2 (up2 (up2 (up2 (up2 (up2 (up2 (up2 (up2 (up2 (up2 (up2 (up2 (up2 (up2 (up2 (up2 (up2 (up2 (up2 (up2 (up2 (up2 (up2 (up2 (up2 (up2 (up2 (up2 (up2 (up2 (up2 (up2 (up2 (up2 (up2 (up2 (up2 (up2 (up2 (up2 (up2 (up2 (up2 (up2 (up2 (up2 (up2 (up2 (up2 (up2 (up2 (up2 (up2 (up2 (up2 (up2 R 1 0 (some 2)) 0 0 (some 1)) 4 5 (some 5)) 4 6 (some 6)) 4 7 (some 7)) 4 8 (some 8)) 4 9 (some 9)) 3 1 (some 4)) 3 2 (some 10)) 3 3 (some 11)) 3 0 (some 1)) 0 1 (some 3)) 13 0 (some 14)) 13 1 (some 15)) 13 2 (some 16)) 13 3 (some 17)) 13 4 (some 115)) 12 0 (some 13)) 0 2 (some 12)) 19 5 (some 20)) 19 6 (some 21)) 19 7 (some 22)) 19 8 (some 23)) 19 9 (some 24)) 18 0 (some 19)) 18 5 (some 25)) 18 6 (some 26)) 18 7 (some 27)) 18 8 (some 28)) 18 9 (some 29)) 18 10 (some 30)) 18 11 (some 31)) 18 12 (some 32)) 18 13 (some 33)) 18 14 (some 34)) 18 15 (some 35)) 0 3 (some 18)) 37 5 (some 38)) 37 6 (some 39)) 37 7 (some 40)) 37 8 (some 41)) 37 9 (some 42)) 36 0 (some 37)) 36 5 (some 43)) 36 6 (some 44)) 36 7 (some 45)) 36 8 (some 46)) 36 9 (some 47)) 36 10 (some 48)) 36 11 (some 49)) 36 12 (some 50)) 36 13 (some 51)) 36 14 (some 52)) 36 15 (some 53)) 0 4 (some 36)) 55 5 (some 56)) 55 6 (some 57)) 55 7 (some 58)) 55 8 (some 59)) 55 9 (some 60)) 54 0 (some 55)) 54 5 (some 61)) 54 6 (some 62)) 54 7 (some 63)) 54 8 (some 64)) 54 9 (some 65)) 54 10 (some 66)) 54 11 (some 67)) 54 12 (some 68)) 54 13 (some 69)) 54 14 (some 70)) 54 15 (some 71)) 0 5 (some 54)) 74 5 (some 75)) 74 6 (some 76)) 74 7 (some 77)) 74 8 (some 78)) 74 9 (some 79)) 73 0 (some 74)) 73 5 (some 80)) 73 6 (some 81)) 73 7 (some 82)) 73 8 (some 83)) 73 9 (some 84)) 73 10 (some 85)) 73 11 (some 86)) 73 12 (some 87)) 73 13 (some 88)) 73 14 (some 89)) 73 15 (some 90)) 72 1 (some 73)) 72 5 (some 91)) 72 6 (some 92)) 72 0 (some 54)) 72 2 (some 12)) 0 6 (some 72)) 93 0 (some 54)) 93 1 (some 12)) 0 7 (some 93)), 95, 3705)) 63 [.ref 0] [] z5 ((up2 (up2 (up2 (up2 (up2 (up2 (up2 (up2 (up2 (up2 (up2 (up2 (up2 (up2 (up2 (up2 (up2 (up2 (up2 (up2 (up2 (up2 (up2 (up2 (up2 (up2 (up2 (up2 (up2 (up2 (up2 (up2 (up2 (up2 (up2 (up2 (up2 (up2 (up2 (up2 (up2 (up2 (up2 (up2 (up2 (up2 (up2 (up2 (up2 (up2 (up2 (up2 (up2 (up2 (up2 R 1 0 (some 2)) 0 0 (some 1)) 4 5 (some 5)) 4 6 (some 6)) 4 7 (some 7)) 4 8 (some 8)) 4 9 (some 9)) 3 1 (some 4)) 3 2 (some 10)) 3 3 (some 11)) 3 0 (some 1)) 0 1 (some 3)) 13 0 (some 14)) 13 1 (some 15)) 13 2 (some 16)) 13 3 (some 17)) 13 4 (some 115)) 12 0 (some 13)) 0 2 (some 12)) 19 5 (some 20)) 19 6 (some 21)) 19 7 (some 22)) 19 8 (some 23)) 19 9 (some 24)) 18 0 (some 19)) 18 5 (some 25)) 18 6 (some 26)) 18 7 (some 27)) 18 8 (some 28)) 18 9 (some 29)) 18 10 (some 30)) 18 11 (some 31)) 18 12 (some 32)) 18 13 (some 33)) 18 14 (some 34)) 18 15 (some 35)) 0 3 (some 18)) 37 5 (some 38)) 37 6 (some 39)) 37 7 (some 40)) 37 8 (some 41)) 37 9 (some 42)) 36 0 (some 37)) 36 5 (some 43)) 36 6 (some 44)) 36 7 (some 45)) 36 8 (some 46)) 36 9 (some 47)) 36 10 (some 48)) 36 11 (some 49)) 36 12 (some 50)) 36 13 (some 51)) 36 14 (some 52)) 36 15 (some 53)) 0 4 (some 36)), 55, 2510)
  refine r_aload_n hX dX8_init_63 rfl ?_
  refine r_new (ci := 4) hX dX8_init_64 cl_8_32 in4 ini4 rfl (by decide) (fr_fresh hF) (Nat.le_of_ble_eq_true rfl) (xr_le hr ⟨(Nat.le_of_ble_eq_true rfl), (Nat.le_of_ble_eq_true rfl)⟩) ?_
  show WR G X (mQ G X none zf ((up2 (up2 (up2 (up2 (up2 (up2 (up2 (up2 (up2 (up2 (up2 (up2 (up2 (up2 (up2 (up2 (up2 (up2 (up2 (up2 (up2 (up2 (up2 (up2 (up2 (up2 (up2 (up2 (up2 (up2 (up2 (up2 (up2 (up2 (up2 (up2 (up2 (up2 (up2 (up2 (up2 (up2 (up2 (up2 (up2 (up2 (up2 (up2 (up2 (up2 (up2 (up2 (up2 (up2 (up2 (up2 (up2 (up2 (up2 (up2 (up2 (up2 (up2 (up2 (up2 (up2 (up2 (up2 (up2 (up2 (up2 (up2 (up2 (up2 (up2 (up2 (up2 (up2 (up2 (up2 (up2 (up2 (up2 (up2 (up2 (up2 (up2 (up2 (up2 (up2 (up2 (up2 (up2 (up2 (up2 (up2 (up2 (up2 (up2 R 1 0 (some 2)) 0 0 (some 1)) 4 5 (some 5)) 4 6 (some 6)) 4 7 (some 7)) 4 8 (some 8)) 4 9 (some 9)) 3 1 (some 4)) 3 2 (some 10)) 3 3 (some 11)) 3 0 (some 1)) 0 1 (some 3)) 13 0 (some 14)) 13 1 (some 15)) 13 2 (some 16)) 13 3 (some 17)) 13 4 (some 115)) 12 0 (some 13)) 0 2 (some 12)) 19 5 (some 20)) 19 6 (some 21)) 19 7 (some 22)) 19 8 (some 23)) 19 9 (some 24)) 18 0 (some 19)) 18 5 (some 25)) 18 6 (some 26)) 18 7 (some 27)) 18 8 (some 28)) 18 9 (some 29)) 18 10 (some 30)) 18 11 (some 31)) 18 12 (some 32)) 18 13 (some 33)) 18 14 (some 34)) 18 15 (some 35)) 0 3 (some 18)) 37 5 (some 38)) 37 6 (some 39)) 37 7 (some 40)) 37 8 (some 41)) 37 9 (some 42)) 36 0 (some 37)) 36 5 (some 43)) 36 6 (some 44)) 36 7 (some 45)) 36 8 (some 46)) 36 9 (some 47)) 36 10 (some 48)) 36 11 (some 49)) 36 12 (some 50)) 36 13 (some 51)) 36 14 (some 52)) 36 15 (some 53)) 0 4 (some 36)) 55 5 (some 56)) 55 6 (some 57)) 55 7 (some 58)) 55 8 (some 59)) 55 9 (some 60)) 54 0 (some 55)) 54 5 (some 61)) 54 6 (some 62)) 54 7 (some 63)) 54 8 (some 64)) 54 9 (some 65)) 54 10 (some 66)) 54 11 (some 67)) 54 12 (some 68)) 54 13 (some 69)) 54 14 (some 70)) 54 15 (some 71)) 0 5 (some 54)) 74 5 (some 75)) 74 6 (some 76)) 74 7 (some 77)) 74 8 (some 78)) 74 9 (some 79)) 73 0 (some 74)) 73 5 (some 80)) 73 6 (some 81)) 73 7 (some 82)) 73 8 (some 83)) 73 9 (some 84)) 73 10 (some 85)) 73 11 (some 86)) 73 12 (some 87)) 73 13 (some 88)) 73 14 (some 89)) 73 15 (some 90)) 72 1 (some 73)) 72 5 (some 91)) 72 6 (some 92)) 72 0 (some 54)) 72 2 (some 12)) 0 6 (some 72)) 93 0 (some 54)) 93 1 (some 12)) 0 7 (some 93)), 95, 3705)) 67 [.ref 0] [.ref 54, .ref 0] z5 ((up2 (up2 (up2 (up2 (up2 (up2 (up2 (up2 (up2 (up2 (up2 (up2 (up2 (up2 (up2 (up2 (up2 (up2 (up2 (up2 (up2 (up2 (up2 (up2 (up2 (up2 (up2 (up2 (up2 (up2 (up2 (up2 (up2 (up2 (up2 (up2 (up2 (up2 (up2 (up2 (up2 (up2 (up2 (up2 (up2 (up2 (up2 (up2 (up2 (up2 (up2 (up2 (up2 (up2 (up2 R 1 0 (some 2)) 0 0 (some 1)) 4 5 (some 5)) 4 6 (some 6)) 4 7 (some 7)) 4 8 (some 8)) 4 9 (some 9)) 3 1 (some 4)) 3 2 (some 10)) 3 3 (some 11)) 3 0 (some 1)) 0 1 (some 3)) 13 0 (some 14)) 13 1 (some 15)) 13 2 (some 16)) 13 3 (some 17)) 13 4 (some 115)) 12 0 (some 13)) 0 2 (some 12)) 19 5 (some 20)) 19 6 (some 21)) 19 7 (some 22)) 19 8 (some 23)) 19 9 (some 24)) 18 0 (some 19)) 18 5 (some 25)) 18 6 (some 26)) 18 7 (some 27)) 18 8 (some 28)) 18 9 (some 29)) 18 10 (some 30)) 18 11 (some 31)) 18 12 (some 32)) 18 13 (some 33)) 18 14 (some 34)) 18 15 (some 35)) 0 3 (some 18)) 37 5 (some 38)) 37 6 (some 39)) 37 7 (some 40)) 37 8 (some 41)) 37 9 (some 42)) 36 0 (some 37)) 36 5 (some 43)) 36 6 (some 44)) 36 7 (some 45)) 36 8 (some 46)) 36 9 (some 47)) 36 10 (some 48)) 36 11 (some 49)) 36 12 (some 50)) 36 13 (some 51)) 36 14 (some 52)) 36 15 (some 53)) 0 4 (some 36)), 56, 2526)
  have hF := fr_up (n' := 56) (by decide) hF
  refine r_dup hX dX8_init_67 rfl ?_
  obtain ⟨z6, p6, h⟩ := bnd_s h
  refine r_callIN (As := []) (S1 := ((up2 (up2 (up2 (up2 (up2 (up2 (up2 (up2 (up2 (up2 (up2 (up2 (up2 (up2 (up2 (up2 (up2 (up2 (up2 (up2 (up2 (up2 (up2 (up2 (up2 (up2 (up2 (up2 (up2 (up2 (up2 (up2 (up2 (up2 (up2 (up2 (up2 (up2 (up2 (up2 (up2 (up2 (up2 (up2 (up2 (up2 (up2 (up2 (up2 (up2 (up2 (up2 (up2 (up2 (up2 (up2 (up2 (up2 (up2 (up2 (up2 (up2 (up2 (up2 (up2 (up2 (up2 (up2 (up2 (up2 (up2 (up2 R 1 0 (some 2)) 0 0 (some 1)) 4 5 (some 5)) 4 6 (some 6)) 4 7 (some 7)) 4 8 (some 8)) 4 9 (some 9)) 3 1 (some 4)) 3 2 (some 10)) 3 3 (some 11)) 3 0 (some 1)) 0 1 (some 3)) 13 0 (some 14)) 13 1 (some 15)) 13 2 (some 16)) 13 3 (some 17)) 13 4 (some 115)) 12 0 (some 13)) 0 2 (some 12)) 19 5 (some 20)) 19 6 (some 21)) 19 7 (some 22)) 19 8 (some 23)) 19 9 (some 24)) 18 0 (some 19)) 18 5 (some 25)) 18 6 (some 26)) 18 7 (some 27)) 18 8 (some 28)) 18 9 (some 29)) 18 10 (some 30)) 18 11 (some 31)) 18 12 (some 32)) 18 13 (some 33)) 18 14 (some 34)) 18 15 (some 35)) 0 3 (some 18)) 37 5 (some 38)) 37 6 (some 39)) 37 7 (some 40)) 37 8 (some 41)) 37 9 (some 42)) 36 0 (some 37)) 36 5 (some 43)) 36 6 (some 44)) 36 7 (some 45)) 36 8 (some 46)) 36 9 (some 47)) 36 10 (some 48)) 36 11 (some 49)) 36 12 (some 50)) 36 13 (some 51)) 36 14 (some 52)) 36 15 (some 53)) 0 4 (some 36)) 55 5 (some 56)) 55 6 (some 57)) 55 7 (some 58)) 55 8 (some 59)) 55 9 (some 60)) 54 0 (some 55)) 54 5 (some 61)) 54 6 (some 62)) 54 7 (some 63)) 54 8 (some 64)) 54 9 (some 65)) 54 10 (some 66)) 54 11 (some 67)) 54 12 (some 68)) 54 13 (some 69)) 54 14 (some 70)) 54 15 (some 71)), 73, 3060)) hX dX8_init_68 mk_St_init mc_St_init mn_8_34 rfl rfl rfl (Nat.le_of_ble_eq_true rfl) (Nat.le_of_ble_eq_true rfl) (xr_le hr ⟨(Nat.le_of_ble_eq_true rfl), (Nat.le_of_ble_eq_true rfl)⟩) (ok_St_init54 (d := d + 1) n z5 hF p6) ?_
  have hF := fr_St_init54 hF p6
  have hF := fr_eta hF
  show WR G X (mQ G X none zf ((up2 (up2 (up2 (up2 (up2 (up2 (up2 (up2 (up2 (up2 (up2 (up2 (up2 (up2 (up2 (up2 (up2 (up2 (up2 (up2 (up2 (up2 (up2 (up2 (up2 (up2 (up2 (up2 (up2 (up2 (up2 (up2 (up2 (up2 (up2 (up2 (up2 (up2 (up2 (up2 (up2 (up2 (up2 (up2 (up2 (up2 (up2 (up2 (up2 (up2 (up2 (up2 (up2 (up2 (up2 (up2 (up2 (up2 (up2 (up2 (up2 (up2 (up2 (up2 (up2 (up2 (up2 (up2 (up2 (up2 (up2 (up2 (up2 (up2 (up2 (up2 (up2 (up2 (up2 (up2 (up2 (up2 (up2 (up2 (up2 (up2 (up2 (up2 (up2 (up2 (up2 (up2 (up2 (up2 (up2 (up2 (up2 (up2 (up2 R 1 0 (some 2)) 0 0 (some 1)) 4 5 (some 5)) 4 6 (some 6)) 4 7 (some 7)) 4 8 (some 8)) 4 9 (some 9)) 3 1 (some 4)) 3 2 (some 10)) 3 3 (some 11)) 3 0 (some 1)) 0 1 (some 3)) 13 0 (some 14)) 13 1 (some 15)) 13 2 (some 16)) 13 3 (some 17)) 13 4 (some 115)) 12 0 (some 13)) 0 2 (some 12)) 19 5 (some 20)) 19 6 (some 21)) 19 7 (some 22)) 19 8 (some 23)) 19 9 (some 24)) 18 0 (some 19)) 18 5 (some 25)) 18 6 (some 26)) 18 7 (some 27)) 18 8 (some 28)) 18 9 (some 29)) 18 10 (some 30)) 18 11 (some 31)) 18 12 (some 32)) 18 13 (some 33)) 18 14 (some 34)) 18 15 (some 35)) 0 3 (some 18)) 37 5 (some 38)) 37 6 (some 39)) 37 7 (some 40)) 37 8 (some 41)) 37 9 (some 42)) 36 0 (some 37)) 36 5 (some 43)) 36 6 (some 44)) 36 7 (some 45)) 36 8 (some 46)) 36 9 (some 47)) 36 10 (some 48)) 36 11 (some 49)) 36 12 (some 50)) 36 13 (some 51)) 36 14 (some 52)) 36 15 (some 53)) 0 4 (some 36)) 55 5 (some 56)) 55 6 (some 57)) 55 7 (some 58)) 55 8 (some 59)) 55 9 (some 60)) 54 0 (some 55)) 54 5 (some 61)) 54 6 (some 62)) 54 7 (some 63)) 54 8 (some 64)) 54 9 (some 65)) 54 10 (some 66)) 54 11 (some 67)) 54 12 (some 68)) 54 13 (some 69)) 54 14 (some 70)) 54 15 (some 71)) 0 5 (some 54)) 74 5 (some 75)) 74 6 (some 76)) 74 7 (some 77)) 74 8 (some 78)) 74 9 (some 79)) 73 0 (some 74)) 73 5 (some 80)) 73 6 (some 81)) 73 7 (some 82)) 73 8 (some 83)) 73 9 (some 84)) 73 10 (some 85)) 73 11 (some 86)) 73 12 (some 87)) 73 13 (some 88)) 73 14 (some 89)) 73 15 (some 90)) 72 1 (some 73)) 72 5 (some 91)) 72 6 (some 92)) 72 0 (some 54)) 72 2 (some 12)) 0 6 (some 72)) 93 0 (some 54)) 93 1 (some 12)) 0 7 (some 93)), 95, 3705)) 71 [.ref 0] [.ref 54, .ref 0] z6 ((up2 (up2 (up2 (up2 (up2 (up2 (up2 (up2 (up2 (up2 (up2 (up2 (up2 (up2 (up2 (up2 (up2 (up2 (up2 (up2 (up2 (up2 (up2 (up2 (up2 (up2 (up2 (up2 (up2 (up2 (up2 (up2 (up2 (up2 (up2 (up2 (up2 (up2 (up2 (up2 (up2 (up2 (up2 (up2 (up2 (up2 (up2 (up2 (up2 (up2 (up2 (up2 (up2 (up2 (up2 (up2 (up2 (up2 (up2 (up2 (up2 (up2 (up2 (up2 (up2 (up2 (up2 (up2 (up2 (up2 (up2 (up2 R 1 0 (some 2)) 0 0 (some 1)) 4 5 (some 5)) 4 6 (some 6)) 4 7 (some 7)) 4 8 (some 8)) 4 9 (some 9)) 3 1 (some 4)) 3 2 (some 10)) 3 3 (some 11)) 3 0 (some 1)) 0 1 (some 3)) 13 0 (some 14)) 13 1 (some 15)) 13 2 (some 16)) 13 3 (some 17)) 13 4 (some 115)) 12 0 (some 13)) 0 2 (some 12)) 19 5 (some 20)) 19 6 (some 21)) 19 7 (some 22)) 19 8 (some 23)) 19 9 (some 24)) 18 0 (some 19)) 18 5 (some 25)) 18 6 (some 26)) 18 7 (some 27)) 18 8 (some 28)) 18 9 (some 29)) 18 10 (some 30)) 18 11 (some 31)) 18 12 (some 32)) 18 13 (some 33)) 18 14 (some 34)) 18 15 (some 35)) 0 3 (some 18)) 37 5 (some 38)) 37 6 (some 39)) 37 7 (some 40)) 37 8 (some 41)) 37 9 (some 42)) 36 0 (some 37)) 36 5 (some 43)) 36 6 (some 44)) 36 7 (some 45)) 36 8 (some 46)) 36 9 (some 47)) 36 10 (some 48)) 36 11 (some 49)) 36 12 (some 50)) 36 13 (some 51)) 36 14 (some 52)) 36 15 (some 53)) 0 4 (some 36)) 55 5 (some 56)) 55 6 (some 57)) 55 7 (some 58)) 55 8 (some 59)) 55 9 (some 60)) 54 0 (some 55)) 54 5 (some 61)) 54 6 (some 62)) 54 7 (some 63)) 54 8 (some 64)) 54 9 (some 65)) 54 10 (some 66)) 54 11 (some 67)) 54 12 (some 68)) 54 13 (some 69)) 54 14 (some 70)) 54 15 (some 71)), 73, 3060)
  refine r_putR hX hT dX8_init_71 fl_8_42 rfl (by decide) (Nat.le_of_ble_eq_true rfl) (Or.inl ⟨_, rfl⟩) ?_
  have hF := fr_R (a := 0) (j := 5) (b := 54) (by decide) hF
  show WR G X (mQ G X none zf ((up2 (up2 (up2 (up2 (up2 (up2 (up2 (up2 (up2 (up2 (up2 (up2 (up2 (up2 (up2 (up2 (up2 (up2 (up2 (up2 (up2 (up2 (up2 (up2 (up2 (up2 (up2 (up2 (up2 (up2 (up2 (up2 (up2 (up2 (up2 (up2 (up2 (up2 (up2 (up2 (up2 (up2 (up2 (up2 (up2 (up2 (up2 (up2 (up2 (up2 (up2 (up2 (up2 (up2 (up2 (up2 (up2 (up2 (up2 (up2 (up2 (up2 (up2 (up2 (up2 (up2 (up2 (up2 (up2 (up2 (up2 (up2 (up2 (up2 (up2 (up2 (up2 (up2 (up2 (up2 (up2 (up2 (up2 (up2 (up2 (up2 (up2 (up2 (up2 (up2 (up2 (up2 (up2 (up2 (up2 (up2 (up2 (up2 (up2 R 1 0 (some 2)) 0 0 (some 1)) 4 5 (some 5)) 4 6 (some 6)) 4 7 (some 7)) 4 8 (some 8)) 4 9 (some 9)) 3 1 (some 4)) 3 2 (some 10)) 3 3 (some 11)) 3 0 (some 1)) 0 1 (some 3)) 13 0 (some 14)) 13 1 (some 15)) 13 2 (some 16)) 13 3 (some 17)) 13 4 (some 115)) 12 0 (some 13)) 0 2 (some 12)) 19 5 (some 20)) 19 6 (some 21)) 19 7 (some 22)) 19 8 (some 23)) 19 9 (some 24)) 18 0 (some 19)) 18 5 (some 25)) 18 6 (some 26)) 18 7 (some 27)) 18 8 (some 28)) 18 9 (some 29)) 18 10 (some 30)) 18 11 (some 31)) 18 12 (some 32)) 18 13 (some 33)) 18 14 (some 34)) 18 15 (some 35)) 0 3 (some 18)) 37 5 (some 38)) 37 6 (some 39)) 37 7 (some 40)) 37 8 (some 41)) 37 9 (some 42)) 36 0 (some 37)) 36 5 (some 43)) 36 6 (some 44)) 36 7 (some 45)) 36 8 (some 46)) 36 9 (some 47)) 36 10 (some 48)) 36 11 (some 49)) 36 12 (some 50)) 36 13 (some 51)) 36 14 (some 52)) 36 15 (some 53)) 0 4 (some 36)) 55 5 (some 56)) 55 6 (some 57)) 55 7 (some 58)) 55 8 (some 59)) 55 9 (some 60)) 54 0 (some 55)) 54 5 (some 61)) 54 6 (some 62)) 54 7 (some 63)) 54 8 (some 64)) 54 9 (some 65)) 54 10 (some 66)) 54 11 (some 67)) 54 12 (some 68)) 54 13 (some 69)) 54 14 (some 70)) 54 15 (some 71)) 0 5 (some 54)) 74 5 (some 75)) 74 6 (some 76)) 74 7 (some 77)) 74 8 (some 78)) 74 9 (some 79)) 73 0 (some 74)) 73 5 (some 80)) 73 6 (some 81)) 73 7 (some 82)) 73 8 (some 83)) 73 9 (some 84)) 73 10 (some 85)) 73 11 (some 86)) 73 12 (some 87)) 73 13 (some 88)) 73 14 (some 89)) 73 15 (some 90)) 72 1 (some 73)) 72 5 (some 91)) 72 6 (some 92)) 72 0 (some 54)) 72 2 (some 12)) 0 6 (some 72)) 93 0 (some 54)) 93 1 (some 12)) 0 7 (some 93)), 95, 3705)) 74 [.ref 0] [] z6 ((up2 (up2 (up2 (up2 (up2 (up2 (up2 (up2 (up2 (up2 (up2 (up2 (up2 (up2 (up2 (up2 (up2 (up2 (up2 (up2 (up2 (up2 (up2 (up2 (up2 (up2 (up2 (up2 (up2 (up2 (up2 (up2 (up2 (up2 (up2 (up2 (up2 (up2 (up2 (up2 (up2 (up2 (up2 (up2 (up2 (up2 (up2 (up2 (up2 (up2 (up2 (up2 (up2 (up2 (up2 (up2 (up2 (up2 (up2 (up2 (up2 (up2 (up2 (up2 (up2 (up2 (up2 (up2 (up2 (up2 (up2 (up2 (up2 R 1 0 (some 2)) 0 0 (some 1)) 4 5 (some 5)) 4 6 (some 6)) 4 7 (some 7)) 4 8 (some 8)) 4 9 (some 9)) 3 1 (some 4)) 3 2 (some 10)) 3 3 (some 11)) 3 0 (some 1)) 0 1 (some 3)) 13 0 (some 14)) 13 1 (some 15)) 13 2 (some 16)) 13 3 (some 17)) 13 4 (some 115)) 12 0 (some 13)) 0 2 (some 12)) 19 5 (some 20)) 19 6 (some 21)) 19 7 (some 22)) 19 8 (some 23)) 19 9 (some 24)) 18 0 (some 19)) 18 5 (some 25)) 18 6 (some 26)) 18 7 (some 27)) 18 8 (some 28)) 18 9 (some 29)) 18 10 (some 30)) 18 11 (some 31)) 18 12 (some 32)) 18 13 (some 33)) 18 14 (some 34)) 18 15 (some 35)) 0 3 (some 18)) 37 5 (some 38)) 37 6 (some 39)) 37 7 (some 40)) 37 8 (some 41)) 37 9 (some 42)) 36 0 (some 37)) 36 5 (some 43)) 36 6 (some 44)) 36 7 (some 45)) 36 8 (some 46)) 36 9 (some 47)) 36 10 (some 48)) 36 11 (some 49)) 36 12 (some 50)) 36 13 (some 51)) 36 14 (some 52)) 36 15 (some 53)) 0 4 (some 36)) 55 5 (some 56)) 55 6 (some 57)) 55 7 (some 58)) 55 8 (some 59)) 55 9 (some 60)) 54 0 (some 55)) 54 5 (some 61)) 54 6 (some 62)) 54 7 (some 63)) 54 8 (some 64)) 54 9 (some 65)) 54 10 (some 66)) 54 11 (some 67)) 54 12 (some 68)) 54 13 (some 69)) 54 14 (some 70)) 54 15 (some 71)) 0 5 (some 54)), 73, 3060)
  refine r_aload_n hX dX8_init_74 rfl ?_
  refine r_new (ci := 3) hX dX8_init_75 cl_8_45 in3 ini3 rfl (by decide) (fr_fresh hF) (Nat.le_of_ble_eq_true rfl) (xr_le hr ⟨(Nat.le_of_ble_eq_true rfl), (Nat.le_of_ble_eq_true rfl)⟩) ?_
  show WR G X (mQ G X none zf ((up2 (up2 (up2 (up2 (up2 (up2 (up2 (up2 (up2 (up2 (up2 (up2 (up2 (up2 (up2 (up2 (up2 (up2 (up2 (up2 (up2 (up2 (up2 (up2 (up2 (up2 (up2 (up2 (up2 (up2 (up2 (up2 (up2 (up2 (up2 (up2 (up2 (up2 (up2 (up2 (up2 (up2 (up2 (up2 (up2 (up2 (up2 (up2 (up2 (up2 (up2 (up2 (up2 (up2 (up2 (up2 (up2 (up2 (up2 (up2 (up2 (up2 (up2 (up2 (up2 (up2 (up2 (up2 (up2 (up2 (up2 (up2 (up2 (up2 (up2 (up2 (up2 (up2 (up2 (up2 (up2 (up2 (up2 (up2 (up2 (up2 (up2 (up2 (up2 (up2 (up2 (up2 (up2 (up2 (up2 (up2 (up2 (up2 (up2 R 1 0 (some 2)) 0 0 (some 1)) 4 5 (some 5)) 4 6 (some 6)) 4 7 (some 7)) 4 8 (some 8)) 4 9 (some 9)) 3 1 (some 4)) 3 2 (some 10)) 3 3 (some 11)) 3 0 (some 1)) 0 1 (some 3)) 13 0 (some 14)) 13 1 (some 15)) 13 2 (some 16)) 13 3 (some 17)) 13 4 (some 115)) 12 0 (some 13)) 0 2 (some 12)) 19 5 (some 20)) 19 6 (some 21)) 19 7 (some 22)) 19 8 (some 23)) 19 9 (some 24)) 18 0 (some 19)) 18 5 (some 25)) 18 6 (some 26)) 18 7 (some 27)) 18 8 (some 28)) 18 9 (some 29)) 18 10 (some 30)) 18 11 (some 31)) 18 12 (some 32)) 18 13 (some 33)) 18 14 (some 34)) 18 15 (some 35)) 0 3 (some 18)) 37 5 (some 38)) 37 6 (some 39)) 37 7 (some 40)) 37 8 (some 41)) 37 9 (some 42)) 36 0 (some 37)) 36 5 (some 43)) 36 6 (some 44)) 36 7 (some 45)) 36 8 (some 46)) 36 9 (some 47)) 36 10 (some 48)) 36 11 (some 49)) 36 12 (some 50)) 36 13 (some 51)) 36 14 (some 52)) 36 15 (some 53)) 0 4 (some 36)) 55 5 (some 56)) 55 6 (some 57)) 55 7 (some 58)) 55 8 (some 59)) 55 9 (some 60)) 54 0 (some 55)) 54 5 (some 61)) 54 6 (some 62)) 54 7 (some 63)) 54 8 (some 64)) 54 9 (some 65)) 54 10 (some 66)) 54 11 (some 67)) 54 12 (some 68)) 54 13 (some 69)) 54 14 (some 70)) 54 15 (some 71)) 0 5 (some 54)) 74 5 (some 75)) 74 6 (some 76)) 74 7 (some 77)) 74 8 (some 78)) 74 9 (some 79)) 73 0 (some 74)) 73 5 (some 80)) 73 6 (some 81)) 73 7 (some 82)) 73 8 (some 83)) 73 9 (some 84)) 73 10 (some 85)) 73 11 (some 86)) 73 12 (some 87)) 73 13 (some 88)) 73 14 (some 89)) 73 15 (some 90)) 72 1 (some 73)) 72 5 (some 91)) 72 6 (some 92)) 72 0 (some 54)) 72 2 (some 12)) 0 6 (some 72)) 93 0 (some 54)) 93 1 (some 12)) 0 7 (some 93)), 95, 3705)) 78 [.ref 0] [.ref 72, .ref 0] z6 ((up2 (up2 (up2 (up2 (up2 (up2 (up2 (up2 (up2 (up2 (up2 (up2 (up2 (up2 (up2 (up2 (up2 (up2 (up2 (up2 (up2 (up2 (up2 (up2 (up2 (up2 (up2 (up2 (up2 (up2 (up2 (up2 (up2 (up2 (up2 (up2 (up2 (up2 (up2 (up2 (up2 (up2 (up2 (up2 (up2 (up2 (up2 (up2 (up2 (up2 (up2 (up2 (up2 (up2 (up2 (up2 (up2 (up2 (up2 (up2 (up2 (up2 (up2 (up2 (up2 (up2 (up2 (up2 (up2 (up2 (up2 (up2 (up2 R 1 0 (some 2)) 0 0 (some 1)) 4 5 (some 5)) 4 6 (some 6)) 4 7 (some 7)) 4 8 (some 8)) 4 9 (some 9)) 3 1 (some 4)) 3 2 (some 10)) 3 3 (some 11)) 3 0 (some 1)) 0 1 (some 3)) 13 0 (some 14)) 13 1 (some 15)) 13 2 (some 16)) 13 3 (some 17)) 13 4 (some 115)) 12 0 (some 13)) 0 2 (some 12)) 19 5 (some 20)) 19 6 (some 21)) 19 7 (some 22)) 19 8 (some 23)) 19 9 (some 24)) 18 0 (some 19)) 18 5 (some 25)) 18 6 (some 26)) 18 7 (some 27)) 18 8 (some 28)) 18 9 (some 29)) 18 10 (some 30)) 18 11 (some 31)) 18 12 (some 32)) 18 13 (some 33)) 18 14 (some 34)) 18 15 (some 35)) 0 3 (some 18)) 37 5 (some 38)) 37 6 (some 39)) 37 7 (some 40)) 37 8 (some 41)) 37 9 (some 42)) 36 0 (some 37)) 36 5 (some 43)) 36 6 (some 44)) 36 7 (some 45)) 36 8 (some 46)) 36 9 (some 47)) 36 10 (some 48)) 36 11 (some 49)) 36 12 (some 50)) 36 13 (some 51)) 36 14 (some 52)) 36 15 (some 53)) 0 4 (some 36)) 55 5 (some 56)) 55 6 (some 57)) 55 7 (some 58)) 55 8 (some 59)) 55 9 (some 60)) 54 0 (some 55)) 54 5 (some 61)) 54 6 (some 62)) 54 7 (some 63)) 54 8 (some 64)) 54 9 (some 65)) 54 10 (some 66)) 54 11 (some 67)) 54 12 (some 68)) 54 13 (some 69)) 54 14 (some 70)) 54 15 (some 71)) 0 5 (some 54)), 74, 3068)
  have hF := fr_up (n' := 74) (by decide) hF
  refine r_dup hX dX8_init_78 rfl ?_
  refine r_aload_n hX dX8_init_79 rfl ?_
  refine r_getf (v := .ref 54) hX dX8_init_80 fl_8_42 rfl (by decide) (Nat.le_of_ble_eq_true rfl) rfl ?_
  refine r_aload_n hX dX8_init_83 rfl ?_
  refine r_getf (v := .ref 12) hX dX8_init_84 fl_8_28 rfl (by decide) (Nat.le_of_ble_eq_true rfl) rfl ?_
  obtain ⟨z7, p7, h⟩ := bnd_s h
  refine r_callI (As := [.ref 54, .ref 12]) (S1 := ((up2 (up2 (up2 (up2 (up2 (up2 (up2 (up2 (up2 (up2 (up2 (up2 (up2 (up2 (up2 (up2 (up2 (up2 (up2 (up2 (up2 (up2 (up2 (up2 (up2 (up2 (up2 (up2 (up2 (up2 (up2 (up2 (up2 (up2 (up2 (up2 (up2 (up2 (up2 (up2 (up2 (up2 (up2 (up2 (up2 (up2 (up2 (up2 (up2 (up2 (up2 (up2 (up2 (up2 (up2 (up2 (up2 (up2 (up2 (up2 (up2 (up2 (up2 (up2 (up2 (up2 (up2 (up2 (up2 (up2 (up2 (up2 (up2 (up2 (up2 (up2 (up2 (up2 (up2 (up2 (up2 (up2 (up2 (up2 (up2 (up2 (up2 (up2 (up2 (up2 (up2 (up2 (up2 (up2 (up2 R 1 0 (some 2)) 0 0 (some 1)) 4 5 (some 5)) 4 6 (some 6)) 4 7 (some 7)) 4 8 (some 8)) 4 9 (some 9)) 3 1 (some 4)) 3 2 (some 10)) 3 3 (some 11)) 3 0 (some 1)) 0 1 (some 3)) 13 0 (some 14)) 13 1 (some 15)) 13 2 (some 16)) 13 3 (some 17)) 13 4 (some 115)) 12 0 (some 13)) 0 2 (some 12)) 19 5 (some 20)) 19 6 (some 21)) 19 7 (some 22)) 19 8 (some 23)) 19 9 (some 24)) 18 0 (some 19)) 18 5 (some 25)) 18 6 (some 26)) 18 7 (some 27)) 18 8 (some 28)) 18 9 (some 29)) 18 10 (some 30)) 18 11 (some 31)) 18 12 (some 32)) 18 13 (some 33)) 18 14 (some 34)) 18 15 (some 35)) 0 3 (some 18)) 37 5 (some 38)) 37 6 (some 39)) 37 7 (some 40)) 37 8 (some 41)) 37 9 (some 42)) 36 0 (some 37)) 36 5 (some 43)) 36 6 (some 44)) 36 7 (some 45)) 36 8 (some 46)) 36 9 (some 47)) 36 10 (some 48)) 36 11 (some 49)) 36 12 (some 50)) 36 13 (some 51)) 36 14 (some 52)) 36 15 (some 53)) 0 4 (some 36)) 55 5 (some 56)) 55 6 (some 57)) 55 7 (some 58)) 55 8 (some 59)) 55 9 (some 60)) 54 0 (some 55)) 54 5 (some 61)) 54 6 (some 62)) 54 7 (some 63)) 54 8 (some 64)) 54 9 (some 65)) 54 10 (some 66)) 54 11 (some 67)) 54 12 (some 68)) 54 13 (some 69)) 54 14 (some 70)) 54 15 (some 71)) 0 5 (some 54)) 74 5 (some 75)) 74 6 (some 76)) 74 7 (some 77)) 74 8 (some 78)) 74 9 (some 79)) 73 0 (some 74)) 73 5 (some 80)) 73 6 (some 81)) 73 7 (some 82)) 73 8 (some 83)) 73 9 (some 84)) 73 10 (some 85)) 73 11 (some 86)) 73 12 (some 87)) 73 13 (some 88)) 73 14 (some 89)) 73 15 (some 90)) 72 1 (some 73)) 72 5 (some 91)) 72 6 (some 92)) 72 0 (some 54)) 72 2 (some 12)), 94, 3698)) hX dX8_init_87 mk_Rp_init mc_Rp_init ml_8_47 rfl rfl rfl (Nat.le_of_ble_eq_true rfl) (Nat.le_of_ble_eq_true rfl) (xr_le hr ⟨(Nat.le_of_ble_eq_true rfl), (Nat.le_of_ble_eq_true rfl)⟩) (ok_Rp_init72 (d := d + 0) n z6 hF p7) ?_
  have hF := fr_Rp_init72 hF p7
  have hF := fr_eta hF
  show WR G X (mQ G X none zf ((up2 (up2 (up2 (up2 (up2 (up2 (up2 (up2 (up2 (up2 (up2 (up2 (up2 (up2 (up2 (up2 (up2 (up2 (up2 (up2 (up2 (up2 (up2 (up2 (up2 (up2 (up2 (up2 (up2 (up2 (up2 (up2 (up2 (up2 (up2 (up2 (up2 (up2 (up2 (up2 (up2 (up2 (up2 (up2 (up2 (up2 (up2 (up2 (up2 (up2 (up2 (up2 (up2 (up2 (up2 (up2 (up2 (up2 (up2 (up2 (up2 (up2 (up2 (up2 (up2 (up2 (up2 (up2 (up2 (up2 (up2 (up2 (up2 (up2 (up2 (up2 (up2 (up2 (up2 (up2 (up2 (up2 (up2 (up2 (up2 (up2 (up2 (up2 (up2 (up2 (up2 (up2 (up2 (up2 (up2 (up2 (up2 (up2 (up2 R 1 0 (some 2)) 0 0 (some 1)) 4 5 (some 5)) 4 6 (some 6)) 4 7 (some 7)) 4 8 (some 8)) 4 9 (some 9)) 3 1 (some 4)) 3 2 (some 10)) 3 3 (some 11)) 3 0 (some 1)) 0 1 (some 3)) 13 0 (some 14)) 13 1 (some 15)) 13 2 (some 16)) 13 3 (some 17)) 13 4 (some 115)) 12 0 (some 13)) 0 2 (some 12)) 19 5 (some 20)) 19 6 (some 21)) 19 7 (some 22)) 19 8 (some 23)) 19 9 (some 24)) 18 0 (some 19)) 18 5 (some 25)) 18 6 (some 26)) 18 7 (some 27)) 18 8 (some 28)) 18 9 (some 29)) 18 10 (some 30)) 18 11 (some 31)) 18 12 (some 32)) 18 13 (some 33)) 18 14 (some 34)) 18 15 (some 35)) 0 3 (some 18)) 37 5 (some 38)) 37 6 (some 39)) 37 7 (some 40)) 37 8 (some 41)) 37 9 (some 42)) 36 0 (some 37)) 36 5 (some 43)) 36 6 (some 44)) 36 7 (some 45)) 36 8 (some 46)) 36 9 (some 47)) 36 10 (some 48)) 36 11 (some 49)) 36 12 (some 50)) 36 13 (some 51)) 36 14 (some 52)) 36 15 (some 53)) 0 4 (some 36)) 55 5 (some 56)) 55 6 (some 57)) 55 7 (some 58)) 55 8 (some 59)) 55 9 (some 60)) 54 0 (some 55)) 54 5 (some 61)) 54 6 (some 62)) 54 7 (some 63)) 54 8 (some 64)) 54 9 (some 65)) 54 10 (some 66)) 54 11 (some 67)) 54 12 (some 68)) 54 13 (some 69)) 54 14 (some 70)) 54 15 (some 71)) 0 5 (some 54)) 74 5 (some 75)) 74 6 (some 76)) 74 7 (some 77)) 74 8 (some 78)) 74 9 (some 79)) 73 0 (some 74)) 73 5 (some 80)) 73 6 (some 81)) 73 7 (some 82)) 73 8 (some 83)) 73 9 (some 84)) 73 10 (some 85)) 73 11 (some 86)) 73 12 (some 87)) 73 13 (some 88)) 73 14 (some 89)) 73 15 (some 90)) 72 1 (some 73)) 72 5 (some 91)) 72 6 (some 92)) 72 0 (some 54)) 72 2 (some 12)) 0 6 (some 72)) 93 0 (some 54)) 93 1 (some 12)) 0 7 (some 93)), 95, 3705)) 90 [.ref 0] [.ref 72, .ref 0] z7 ((up2 (up2 (up2 (up2 (up2 (up2 (up2 (up2 (up2 (up2 (up2 (up2 (up2 (up2 (up2 (up2 (up2 (up2 (up2 (up2 (up2 (up2 (up2 (up2 (up2 (up2 (up2 (up2 (up2 (up2 (up2 (up2 (up2 (up2 (up2 (up2 (up2 (up2 (up2 (up2 (up2 (up2 (up2 (up2 (up2 (up2 (up2 (up2 (up2 (up2 (up2 (up2 (up2 (up2 (up2 (up2 (up2 (up2 (up2 (up2 (up2 (up2 (up2 (up2 (up2 (up2 (up2 (up2 (up2 (up2 (up2 (up2 (up2 (up2 (up2 (up2 (up2 (up2 (up2 (up2 (up2 (up2 (up2 (up2 (up2 (up2 (up2 (up2 (up2 (up2 (up2 (up2 (up2 (up2 (up2 R 1 0 (some 2)) 0 0 (some 1)) 4 5 (some 5)) 4 6 (some 6)) 4 7 (some 7)) 4 8 (some 8)) 4 9 (some 9)) 3 1 (some 4)) 3 2 (some 10)) 3 3 (some 11)) 3 0 (some 1)) 0 1 (some 3)) 13 0 (some 14)) 13 1 (some 15)) 13 2 (some 16)) 13 3 (some 17)) 13 4 (some 115)) 12 0 (some 13)) 0 2 (some 12)) 19 5 (some 20)) 19 6 (some 21)) 19 7 (some 22)) 19 8 (some 23)) 19 9 (some 24)) 18 0 (some 19)) 18 5 (some 25)) 18 6 (some 26)) 18 7 (some 27)) 18 8 (some 28)) 18 9 (some 29)) 18 10 (some 30)) 18 11 (some 31)) 18 12 (some 32)) 18 13 (some 33)) 18 14 (some 34)) 18 15 (some 35)) 0 3 (some 18)) 37 5 (some 38)) 37 6 (some 39)) 37 7 (some 40)) 37 8 (some 41)) 37 9 (some 42)) 36 0 (some 37)) 36 5 (some 43)) 36 6 (some 44)) 36 7 (some 45)) 36 8 (some 46)) 36 9 (some 47)) 36 10 (some 48)) 36 11 (some 49)) 36 12 (some 50)) 36 13 (some 51)) 36 14 (some 52)) 36 15 (some 53)) 0 4 (some 36)) 55 5 (some 56)) 55 6 (some 57)) 55 7 (some 58)) 55 8 (some 59)) 55 9 (some 60)) 54 0 (some 55)) 54 5 (some 61)) 54 6 (some 62)) 54 7 (some 63)) 54 8 (some 64)) 54 9 (some 65)) 54 10 (some 66)) 54 11 (some 67)) 54 12 (some 68)) 54 13 (some 69)) 54 14 (some 70)) 54 15 (some 71)) 0 5 (some 54)) 74 5 (some 75)) 74 6 (some 76)) 74 7 (some 77)) 74 8 (some 78)) 74 9 (some 79)) 73 0 (some 74)) 73 5 (some 80)) 73 6 (some 81)) 73 7 (some 82)) 73 8 (some 83)) 73 9 (some 84)) 73 10 (some 85)) 73 11 (some 86)) 73 12 (some 87)) 73 13 (some 88)) 73 14 (some 89)) 73 15 (some 90)) 72 1 (some 73)) 72 5 (some 91)) 72 6 (some 92)) 72 0 (some 54)) 72 2 (some 12)), 94, 3698)
  refine r_putR hX hT dX8_init_90 fl_8_50 rfl (by decide) (Nat.le_of_ble_eq_true rfl) (Or.inl ⟨_, rfl⟩) ?_
  have hF := fr_R (a := 0) (j := 6) (b := 72) (by decide) hF
  show WR G X (mQ G X none zf ((up2 (up2 (up2 (up2 (up2 (up2 (up2 (up2 (up2 (up2 (up2 (up2 (up2 (up2 (up2 (up2 (up2 (up2 (up2 (up2 (up2 (up2 (up2 (up2 (up2 (up2 (up2 (up2 (up2 (up2 (up2 (up2 (up2 (up2 (up2 (up2 (up2 (up2 (up2 (up2 (up2 (up2 (up2 (up2 (up2 (up2 (up2 (up2 (up2 (up2 (up2 (up2 (up2 (up2 (up2 (up2 (up2 (up2 (up2 (up2 (up2 (up2 (up2 (up2 (up2 (up2 (up2 (up2 (up2 (up2 (up2 (up2 (up2 (up2 (up2 (up2 (up2 (up2 (up2 (up2 (up2 (up2 (up2 (up2 (up2 (up2 (up2 (up2 (up2 (up2 (up2 (up2 (up2 (up2 (up2 (up2 (up2 (up2 (up2 R 1 0 (some 2)) 0 0 (some 1)) 4 5 (some 5)) 4 6 (some 6)) 4 7 (some 7)) 4 8 (some 8)) 4 9 (some 9)) 3 1 (some 4)) 3 2 (some 10)) 3 3 (some 11)) 3 0 (some 1)) 0 1 (some 3)) 13 0 (some 14)) 13 1 (some 15)) 13 2 (some 16)) 13 3 (some 17)) 13 4 (some 115)) 12 0 (some 13)) 0 2 (some 12)) 19 5 (some 20)) 19 6 (some 21)) 19 7 (some 22)) 19 8 (some 23)) 19 9 (some 24)) 18 0 (some 19)) 18 5 (some 25)) 18 6 (some 26)) 18 7 (some 27)) 18 8 (some 28)) 18 9 (some 29)) 18 10 (some 30)) 18 11 (some 31)) 18 12 (some 32)) 18 13 (some 33)) 18 14 (some 34)) 18 15 (some 35)) 0 3 (some 18)) 37 5 (some 38)) 37 6 (some 39)) 37 7 (some 40)) 37 8 (some 41)) 37 9 (some 42)) 36 0 (some 37)) 36 5 (some 43)) 36 6 (some 44)) 36 7 (some 45)) 36 8 (some 46)) 36 9 (some 47)) 36 10 (some 48)) 36 11 (some 49)) 36 12 (some 50)) 36 13 (some 51)) 36 14 (some 52)) 36 15 (some 53)) 0 4 (some 36)) 55 5 (some 56)) 55 6 (some 57)) 55 7 (some 58)) 55 8 (some 59)) 55 9 (some 60)) 54 0 (some 55)) 54 5 (some 61)) 54 6 (some 62)) 54 7 (some 63)) 54 8 (some 64)) 54 9 (some 65)) 54 10 (some 66)) 54 11 (some 67)) 54 12 (some 68)) 54 13 (some 69)) 54 14 (some 70)) 54 15 (some 71)) 0 5 (some 54)) 74 5 (some 75)) 74 6 (some 76)) 74 7 (some 77)) 74 8 (some 78)) 74 9 (some 79)) 73 0 (some 74)) 73 5 (some 80)) 73 6 (some 81)) 73 7 (some 82)) 73 8 (some 83)) 73 9 (some 84)) 73 10 (some 85)) 73 11 (some 86)) 73 12 (some 87)) 73 13 (some 88)) 73 14 (some 89)) 73 15 (some 90)) 72 1 (some 73)) 72 5 (some 91)) 72 6 (some 92)) 72 0 (some 54)) 72 2 (some 12)) 0 6 (some 72)) 93 0 (some 54)) 93 1 (some 12)) 0 7 (some 93)), 95, 3705)) 93 [.ref 0] [] z7 ((up2 (up2 (up2 (up2 (up2 (up2 (up2 (up2 (up2 (up2 (up2 (up2 (up2 (up2 (up2 (up2 (up2 (up2 (up2 (up2 (up2 (up2 (up2 (up2 (up2 (up2 (up2 (up2 (up2 (up2 (up2 (up2 (up2 (up2 (up2 (up2 (up2 (up2 (up2 (up2 (up2 (up2 (up2 (up2 (up2 (up2 (up2 (up2 (up2 (up2 (up2 (up2 (up2 (up2 (up2 (up2 (up2 (up2 (up2 (up2 (up2 (up2 (up2 (up2 (up2 (up2 (up2 (up2 (up2 (up2 (up2 (up2 (up2 (up2 (up2 (up2 (up2 (up2 (up2 (up2 (up2 (up2 (up2 (up2 (up2 (up2 (up2 (up2 (up2 (up2 (up2 (up2 (up2 (up2 (up2 (up2 R 1 0 (some 2)) 0 0 (some 1)) 4 5 (some 5)) 4 6 (some 6)) 4 7 (some 7)) 4 8 (some 8)) 4 9 (some 9)) 3 1 (some 4)) 3 2 (some 10)) 3 3 (some 11)) 3 0 (some 1)) 0 1 (some 3)) 13 0 (some 14)) 13 1 (some 15)) 13 2 (some 16)) 13 3 (some 17)) 13 4 (some 115)) 12 0 (some 13)) 0 2 (some 12)) 19 5 (some 20)) 19 6 (some 21)) 19 7 (some 22)) 19 8 (some 23)) 19 9 (some 24)) 18 0 (some 19)) 18 5 (some 25)) 18 6 (some 26)) 18 7 (some 27)) 18 8 (some 28)) 18 9 (some 29)) 18 10 (some 30)) 18 11 (some 31)) 18 12 (some 32)) 18 13 (some 33)) 18 14 (some 34)) 18 15 (some 35)) 0 3 (some 18)) 37 5 (some 38)) 37 6 (some 39)) 37 7 (some 40)) 37 8 (some 41)) 37 9 (some 42)) 36 0 (some 37)) 36 5 (some 43)) 36 6 (some 44)) 36 7 (some 45)) 36 8 (some 46)) 36 9 (some 47)) 36 10 (some 48)) 36 11 (some 49)) 36 12 (some 50)) 36 13 (some 51)) 36 14 (some 52)) 36 15 (some 53)) 0 4 (some 36)) 55 5 (some 56)) 55 6 (some 57)) 55 7 (some 58)) 55 8 (some 59)) 55 9 (some 60)) 54 0 (some 55)) 54 5 (some 61)) 54 6 (some 62)) 54 7 (some 63)) 54 8 (some 64)) 54 9 (some 65)) 54 10 (some 66)) 54 11 (some 67)) 54 12 (some 68)) 54 13 (some 69)) 54 14 (some 70)) 54 15 (some 71)) 0 5 (some 54)) 74 5 (some 75)) 74 6 (some 76)) 74 7 (some 77)) 74 8 (some 78)) 74 9 (some 79)) 73 0 (some 74)) 73 5 (some 80)) 73 6 (some 81)) 73 7 (some 82)) 73 8 (some 83)) 73 9 (some 84)) 73 10 (some 85)) 73 11 (some 86)) 73 12 (some 87)) 73 13 (some 88)) 73 14 (some 89)) 73 15 (some 90)) 72 1 (some 73)) 72 5 (some 91)) 72 6 (some 92)) 72 0 (some 54)) 72 2 (some 12)) 0 6 (some 72)), 94, 3698)
  refine r_aload_n hX dX8_init_93 rfl ?_
  refine r_new (ci := 6) hX dX8_init_94 cl_8_54 in6 ini6 rfl (by decide) (fr_fresh hF) (Nat.le_of_ble_eq_true rfl) (xr_le hr ⟨(Nat.le_of_ble_eq_true rfl), (Nat.le_of_ble_eq_true rfl)⟩) ?_
  show WR G X (mQ G X none zf ((up2 (up2 (up2 (up2 (up2 (up2 (up2 (up2 (up2 (up2 (up2 (up2 (up2 (up2 (up2 (up2 (up2 (up2 (up2 (up2 (up2 (up2 (up2 (up2 (up2 (up2 (up2 (up2 (up2 (up2 (up2 (up2 (up2 (up2 (up2 (up2 (up2 (up2 (up2 (up2 (up2 (up2 (up2 (up2 (up2 (up2 (up2 (up2 (up2 (up2 (up2 (up2 (up2 (up2 (up2 (up2 (up2 (up2 (up2 (up2 (up2 (up2 (up2 (up2 (up2 (up2 (up2 (up2 (up2 (up2 (up2 (up2 (up2 (up2 (up2 (up2 (up2 (up2 (up2 (up2 (up2 (up2 (up2 (up2 (up2 (up2 (up2 (up2 (up2 (up2 (up2 (up2 (up2 (up2 (up2 (up2 (up2 (up2 (up2 R 1 0 (some 2)) 0 0 (some 1)) 4 5 (some 5)) 4 6 (some 6)) 4 7 (some 7)) 4 8 (some 8)) 4 9 (some 9)) 3 1 (some 4)) 3 2 (some 10)) 3 3 (some 11)) 3 0 (some 1)) 0 1 (some 3)) 13 0 (some 14)) 13 1 (some 15)) 13 2 (some 16)) 13 3 (some 17)) 13 4 (some 115)) 12 0 (some 13)) 0 2 (some 12)) 19 5 (some 20)) 19 6 (some 21)) 19 7 (some 22)) 19 8 (some 23)) 19 9 (some 24)) 18 0 (some 19)) 18 5 (some 25)) 18 6 (some 26)) 18 7 (some 27)) 18 8 (some 28)) 18 9 (some 29)) 18 10 (some 30)) 18 11 (some 31)) 18 12 (some 32)) 18 13 (some 33)) 18 14 (some 34)) 18 15 (some 35)) 0 3 (some 18)) 37 5 (some 38)) 37 6 (some 39)) 37 7 (some 40)) 37 8 (some 41)) 37 9 (some 42)) 36 0 (some 37)) 36 5 (some 43)) 36 6 (some 44)) 36 7 (some 45)) 36 8 (some 46)) 36 9 (some 47)) 36 10 (some 48)) 36 11 (some 49)) 36 12 (some 50)) 36 13 (some 51)) 36 14 (some 52)) 36 15 (some 53)) 0 4 (some 36)) 55 5 (some 56)) 55 6 (some 57)) 55 7 (some 58)) 55 8 (some 59)) 55 9 (some 60)) 54 0 (some 55)) 54 5 (some 61)) 54 6 (some 62)) 54 7 (some 63)) 54 8 (some 64)) 54 9 (some 65)) 54 10 (some 66)) 54 11 (some 67)) 54 12 (some 68)) 54 13 (some 69)) 54 14 (some 70)) 54 15 (some 71)) 0 5 (some 54)) 74 5 (some 75)) 74 6 (some 76)) 74 7 (some 77)) 74 8 (some 78)) 74 9 (some 79)) 73 0 (some 74)) 73 5 (some 80)) 73 6 (some 81)) 73 7 (some 82)) 73 8 (some 83)) 73 9 (some 84)) 73 10 (some 85)) 73 11 (some 86)) 73 12 (some 87)) 73 13 (some 88)) 73 14 (some 89)) 73 15 (some 90)) 72 1 (some 73)) 72 5 (some 91)) 72 6 (some 92)) 72 0 (some 54)) 72 2 (some 12)) 0 6 (some 72)) 93 0 (some 54)) 93 1 (some 12)) 0 7 (some 93)), 95, 3705)) 97 [.ref 0] [.ref 93, .ref 0] z7 ((up2 (up2 (up2 (up2 (up2 (up2 (up2 (up2 (up2 (up2 (up2 (up2 (up2 (up2 (up2 (up2 (up2 (up2 (up2 (up2 (up2 (up2 (up2 (up2 (up2 (up2 (up2 (up2 (up2 (up2 (up2 (up2 (up2 (up2 (up2 (up2 (up2 (up2 (up2 (up2 (up2 (up2 (up2 (up2 (up2 (up2 (up2 (up2 (up2 (up2 (up2 (up2 (up2 (up2 (up2 (up2 (up2 (up2 (up2 (up2 (up2 (up2 (up2 (up2 (up2 (up2 (up2 (up2 (up2 (up2 (up2 (up2 (up2 (up2 (up2 (up2 (up2 (up2 (up2 (up2 (up2 (up2 (up2 (up2 (up2 (up2 (up2 (up2 (up2 (up2 (up2 (up2 (up2 (up2 (up2 (up2 R 1 0 (some 2)) 0 0 (some 1)) 4 5 (some 5)) 4 6 (some 6)) 4 7 (some 7)) 4 8 (some 8)) 4 9 (some 9)) 3 1 (some 4)) 3 2 (some 10)) 3 3 (some 11)) 3 0 (some 1)) 0 1 (some 3)) 13 0 (some 14)) 13 1 (some 15)) 13 2 (some 16)) 13 3 (some 17)) 13 4 (some 115)) 12 0 (some 13)) 0 2 (some 12)) 19 5 (some 20)) 19 6 (some 21)) 19 7 (some 22)) 19 8 (some 23)) 19 9 (some 24)) 18 0 (some 19)) 18 5 (some 25)) 18 6 (some 26)) 18 7 (some 27)) 18 8 (some 28)) 18 9 (some 29)) 18 10 (some 30)) 18 11 (some 31)) 18 12 (some 32)) 18 13 (some 33)) 18 14 (some 34)) 18 15 (some 35)) 0 3 (some 18)) 37 5 (some 38)) 37 6 (some 39)) 37 7 (some 40)) 37 8 (some 41)) 37 9 (some 42)) 36 0 (some 37)) 36 5 (some 43)) 36 6 (some 44)) 36 7 (some 45)) 36 8 (some 46)) 36 9 (some 47)) 36 10 (some 48)) 36 11 (some 49)) 36 12 (some 50)) 36 13 (some 51)) 36 14 (some 52)) 36 15 (some 53)) 0 4 (some 36)) 55 5 (some 56)) 55 6 (some 57)) 55 7 (some 58)) 55 8 (some 59)) 55 9 (some 60)) 54 0 (some 55)) 54 5 (some 61)) 54 6 (some 62)) 54 7 (some 63)) 54 8 (some 64)) 54 9 (some 65)) 54 10 (some 66)) 54 11 (some 67)) 54 12 (some 68)) 54 13 (some 69)) 54 14 (some 70)) 54 15 (some 71)) 0 5 (some 54)) 74 5 (some 75)) 74 6 (some 76)) 74 7 (some 77)) 74 8 (some 78)) 74 9 (some 79)) 73 0 (some 74)) 73 5 (some 80)) 73 6 (some 81)) 73 7 (some 82)) 73 8 (some 83)) 73 9 (some 84)) 73 10 (some 85)) 73 11 (some 86)) 73 12 (some 87)) 73 13 (some 88)) 73 14 (some 89)) 73 15 (some 90)) 72 1 (some 73)) 72 5 (some 91)) 72 6 (some 92)) 72 0 (some 54)) 72 2 (some 12)) 0 6 (some 72)), 95, 3705)
  have hF := fr_up (n' := 95) (by decide) hF
  refine r_dup hX dX8_init_97 rfl ?_
  refine r_aload_n hX dX8_init_98 rfl ?_
  refine r_getf (v := .ref 54) hX dX8_init_99 fl_8_42 rfl (by decide) (Nat.le_of_ble_eq_true rfl) rfl ?_
  refine r_aload_n hX dX8_init_102 rfl ?_
  refine r_getf (v := .ref 12) hX dX8_init_103 fl_8_28 rfl (by decide) (Nat.le_of_ble_eq_true rfl) rfl ?_
  obtain ⟨z8, p8, h⟩ := bnd_s h
  refine r_callI (As := [.ref 54, .ref 12]) (S1 := ((up2 (up2 (up2 (up2 (up2 (up2 (up2 (up2 (up2 (up2 (up2 (up2 (up2 (up2 (up2 (up2 (up2 (up2 (up2 (up2 (up2 (up2 (up2 (up2 (up2 (up2 (up2 (up2 (up2 (up2 (up2 (up2 (up2 (up2 (up2 (up2 (up2 (up2 (up2 (up2 (up2 (up2 (up2 (up2 (up2 (up2 (up2 (up2 (up2 (up2 (up2 (up2 (up2 (up2 (up2 (up2 (up2 (up2 (up2 (up2 (up2 (up2 (up2 (up2 (up2 (up2 (up2 (up2 (up2 (up2 (up2 (up2 (up2 (up2 (up2 (up2 (up2 (up2 (up2 (up2 (up2 (up2 (up2 (up2 (up2 (up2 (up2 (up2 (up2 (up2 (up2 (up2 (up2 (up2 (up2 (up2 (up2 (up2 R 1 0 (some 2)) 0 0 (some 1)) 4 5 (some 5)) 4 6 (some 6)) 4 7 (some 7)) 4 8 (some 8)) 4 9 (some 9)) 3 1 (some 4)) 3 2 (some 10)) 3 3 (some 11)) 3 0 (some 1)) 0 1 (some 3)) 13 0 (some 14)) 13 1 (some 15)) 13 2 (some 16)) 13 3 (some 17)) 13 4 (some 115)) 12 0 (some 13)) 0 2 (some 12)) 19 5 (some 20)) 19 6 (some 21)) 19 7 (some 22)) 19 8 (some 23)) 19 9 (some 24)) 18 0 (some 19)) 18 5 (some 25)) 18 6 (some 26)) 18 7 (some 27)) 18 8 (some 28)) 18 9 (some 29)) 18 10 (some 30)) 18 11 (some 31)) 18 12 (some 32)) 18 13 (some 33)) 18 14 (some 34)) 18 15 (some 35)) 0 3 (some 18)) 37 5 (some 38)) 37 6 (some 39)) 37 7 (some 40)) 37 8 (some 41)) 37 9 (some 42)) 36 0 (some 37)) 36 5 (some 43)) 36 6 (some 44)) 36 7 (some 45)) 36 8 (some 46)) 36 9 (some 47)) 36 10 (some 48)) 36 11 (some 49)) 36 12 (some 50)) 36 13 (some 51)) 36 14 (some 52)) 36 15 (some 53)) 0 4 (some 36)) 55 5 (some 56)) 55 6 (some 57)) 55 7 (some 58)) 55 8 (some 59)) 55 9 (some 60)) 54 0 (some 55)) 54 5 (some 61)) 54 6 (some 62)) 54 7 (some 63)) 54 8 (some 64)) 54 9 (some 65)) 54 10 (some 66)) 54 11 (some 67)) 54 12 (some 68)) 54 13 (some 69)) 54 14 (some 70)) 54 15 (some 71)) 0 5 (some 54)) 74 5 (some 75)) 74 6 (some 76)) 74 7 (some 77)) 74 8 (some 78)) 74 9 (some 79)) 73 0 (some 74)) 73 5 (some 80)) 73 6 (some 81)) 73 7 (some 82)) 73 8 (some 83)) 73 9 (some 84)) 73 10 (some 85)) 73 11 (some 86)) 73 12 (some 87)) 73 13 (some 88)) 73 14 (some 89)) 73 15 (some 90)) 72 1 (some 73)) 72 5 (some 91)) 72 6 (some 92)) 72 0 (some 54)) 72 2 (some 12)) 0 6 (some 72)) 93 0 (some 54)) 93 1 (some 12)), 95, 3705)) hX dX8_init_106 mk_Tr_init mc_Tr_init ml_8_56 rfl rfl rfl (Nat.le_of_ble_eq_true rfl) (Nat.le_of_ble_eq_true rfl) (xr_le hr ⟨(Nat.le_of_ble_eq_true rfl), (Nat.le_of_ble_eq_true rfl)⟩) (ok_Tr_init93 (d := d + 3) n z7 hF p8) ?_
  have hF := fr_Tr_init93 hF p8
  have hF := fr_eta hF
  show WR G X (mQ G X none zf ((up2 (up2 (up2 (up2 (up2 (up2 (up2 (up2 (up2 (up2 (up2 (up2 (up2 (up2 (up2 (up2 (up2 (up2 (up2 (up2 (up2 (up2 (up2 (up2 (up2 (up2 (up2 (up2 (up2 (up2 (up2 (up2 (up2 (up2 (up2 (up2 (up2 (up2 (up2 (up2 (up2 (up2 (up2 (up2 (up2 (up2 (up2 (up2 (up2 (up2 (up2 (up2 (up2 (up2 (up2 (up2 (up2 (up2 (up2 (up2 (up2 (up2 (up2 (up2 (up2 (up2 (up2 (up2 (up2 (up2 (up2 (up2 (up2 (up2 (up2 (up2 (up2 (up2 (up2 (up2 (up2 (up2 (up2 (up2 (up2 (up2 (up2 (up2 (up2 (up2 (up2 (up2 (up2 (up2 (up2 (up2 (up2 (up2 (up2 R 1 0 (some 2)) 0 0 (some 1)) 4 5 (some 5)) 4 6 (some 6)) 4 7 (some 7)) 4 8 (some 8)) 4 9 (some 9)) 3 1 (some 4)) 3 2 (some 10)) 3 3 (some 11)) 3 0 (some 1)) 0 1 (some 3)) 13 0 (some 14)) 13 1 (some 15)) 13 2 (some 16)) 13 3 (some 17)) 13 4 (some 115)) 12 0 (some 13)) 0 2 (some 12)) 19 5 (some 20)) 19 6 (some 21)) 19 7 (some 22)) 19 8 (some 23)) 19 9 (some 24)) 18 0 (some 19)) 18 5 (some 25)) 18 6 (some 26)) 18 7 (some 27)) 18 8 (some 28)) 18 9 (some 29)) 18 10 (some 30)) 18 11 (some 31)) 18 12 (some 32)) 18 13 (some 33)) 18 14 (some 34)) 18 15 (some 35)) 0 3 (some 18)) 37 5 (some 38)) 37 6 (some 39)) 37 7 (some 40)) 37 8 (some 41)) 37 9 (some 42)) 36 0 (some 37)) 36 5 (some 43)) 36 6 (some 44)) 36 7 (some 45)) 36 8 (some 46)) 36 9 (some 47)) 36 10 (some 48)) 36 11 (some 49)) 36 12 (some 50)) 36 13 (some 51)) 36 14 (some 52)) 36 15 (some 53)) 0 4 (some 36)) 55 5 (some 56)) 55 6 (some 57)) 55 7 (some 58)) 55 8 (some 59)) 55 9 (some 60)) 54 0 (some 55)) 54 5 (some 61)) 54 6 (some 62)) 54 7 (some 63)) 54 8 (some 64)) 54 9 (some 65)) 54 10 (some 66)) 54 11 (some 67)) 54 12 (some 68)) 54 13 (some 69)) 54 14 (some 70)) 54 15 (some 71)) 0 5 (some 54)) 74 5 (some 75)) 74 6 (some 76)) 74 7 (some 77)) 74 8 (some 78)) 74 9 (some 79)) 73 0 (some 74)) 73 5 (some 80)) 73 6 (some 81)) 73 7 (some 82)) 73 8 (some 83)) 73 9 (some 84)) 73 10 (some 85)) 73 11 (some 86)) 73 12 (some 87)) 73 13 (some 88)) 73 14 (some 89)) 73 15 (some 90)) 72 1 (some 73)) 72 5 (some 91)) 72 6 (some 92)) 72 0 (some 54)) 72 2 (some 12)) 0 6 (some 72)) 93 0 (some 54)) 93 1 (some 12)) 0 7 (some 93)), 95, 3705)) 109 [.ref 0] [.ref 93, .ref 0] z8 ((up2 (up2 (up2 (up2 (up2 (up2 (up2 (up2 (up2 (up2 (up2 (up2 (up2 (up2 (up2 (up2 (up2 (up2 (up2 (up2 (up2 (up2 (up2 (up2 (up2 (up2 (up2 (up2 (up2 (up2 (up2 (up2 (up2 (up2 (up2 (up2 (up2 (up2 (up2 (up2 (up2 (up2 (up2 (up2 (up2 (up2 (up2 (up2 (up2 (up2 (up2 (up2 (up2 (up2 (up2 (up2 (up2 (up2 (up2 (up2 (up2 (up2 (up2 (up2 (up2 (up2 (up2 (up2 (up2 (up2 (up2 (up2 (up2 (up2 (up2 (up2 (up2 (up2 (up2 (up2 (up2 (up2 (up2 (up2 (up2 (up2 (up2 (up2 (up2 (up2 (up2 (up2 (up2 (up2 (up2 (up2 (up2 (up2 R 1 0 (some 2)) 0 0 (some 1)) 4 5 (some 5)) 4 6 (some 6)) 4 7 (some 7)) 4 8 (some 8)) 4 9 (some 9)) 3 1 (some 4)) 3 2 (some 10)) 3 3 (some 11)) 3 0 (some 1)) 0 1 (some 3)) 13 0 (some 14)) 13 1 (some 15)) 13 2 (some 16)) 13 3 (some 17)) 13 4 (some 115)) 12 0 (some 13)) 0 2 (some 12)) 19 5 (some 20)) 19 6 (some 21)) 19 7 (some 22)) 19 8 (some 23)) 19 9 (some 24)) 18 0 (some 19)) 18 5 (some 25)) 18 6 (some 26)) 18 7 (some 27)) 18 8 (some 28)) 18 9 (some 29)) 18 10 (some 30)) 18 11 (some 31)) 18 12 (some 32)) 18 13 (some 33)) 18 14 (some 34)) 18 15 (some 35)) 0 3 (some 18)) 37 5 (some 38)) 37 6 (some 39)) 37 7 (some 40)) 37 8 (some 41)) 37 9 (some 42)) 36 0 (some 37)) 36 5 (some 43)) 36 6 (some 44)) 36 7 (some 45)) 36 8 (some 46)) 36 9 (some 47)) 36 10 (some 48)) 36 11 (some 49)) 36 12 (some 50)) 36 13 (some 51)) 36 14 (some 52)) 36 15 (some 53)) 0 4 (some 36)) 55 5 (some 56)) 55 6 (some 57)) 55 7 (some 58)) 55 8 (some 59)) 55 9 (some 60)) 54 0 (some 55)) 54 5 (some 61)) 54 6 (some 62)) 54 7 (some 63)) 54 8 (some 64)) 54 9 (some 65)) 54 10 (some 66)) 54 11 (some 67)) 54 12 (some 68)) 54 13 (some 69)) 54 14 (some 70)) 54 15 (some 71)) 0 5 (some 54)) 74 5 (some 75)) 74 6 (some 76)) 74 7 (some 77)) 74 8 (some 78)) 74 9 (some 79)) 73 0 (some 74)) 73 5 (some 80)) 73 6 (some 81)) 73 7 (some 82)) 73 8 (some 83)) 73 9 (some 84)) 73 10 (some 85)) 73 11 (some 86)) 73 12 (some 87)) 73 13 (some 88)) 73 14 (some 89)) 73 15 (some 90)) 72 1 (some 73)) 72 5 (some 91)) 72 6 (some 92)) 72 0 (some 54)) 72 2 (some 12)) 0 6 (some 72)) 93 0 (some 54)) 93 1 (some 12)), 95, 3705)
  refine r_putR hX hT dX8_init_109 fl_8_57 rfl (by decide) (Nat.le_of_ble_eq_true rfl) (Or.inl ⟨_, rfl⟩) ?_
  have hF := fr_R (a := 0) (j := 7) (b := 93) (by decide) hF
  show WR G X (mQ G X none zf ((up2 (up2 (up2 (up2 (up2 (up2 (up2 (up2 (up2 (up2 (up2 (up2 (up2 (up2 (up2 (up2 (up2 (up2 (up2 (up2 (up2 (up2 (up2 (up2 (up2 (up2 (up2 (up2 (up2 (up2 (up2 (up2 (up2 (up2 (up2 (up2 (up2 (up2 (up2 (up2 (up2 (up2 (up2 (up2 (up2 (up2 (up2 (up2 (up2 (up2 (up2 (up2 (up2 (up2 (up2 (up2 (up2 (up2 (up2 (up2 (up2 (up2 (up2 (up2 (up2 (up2 (up2 (up2 (up2 (up2 (up2 (up2 (up2 (up2 (up2 (up2 (up2 (up2 (up2 (up2 (up2 (up2 (up2 (up2 (up2 (up2 (up2 (up2 (up2 (up2 (up2 (up2 (up2 (up2 (up2 (up2 (up2 (up2 (up2 R 1 0 (some 2)) 0 0 (some 1)) 4 5 (some 5)) 4 6 (some 6)) 4 7 (some 7)) 4 8 (some 8)) 4 9 (some 9)) 3 1 (some 4)) 3 2 (some 10)) 3 3 (some 11)) 3 0 (some 1)) 0 1 (some 3)) 13 0 (some 14)) 13 1 (some 15)) 13 2 (some 16)) 13 3 (some 17)) 13 4 (some 115)) 12 0 (some 13)) 0 2 (some 12)) 19 5 (some 20)) 19 6 (some 21)) 19 7 (some 22)) 19 8 (some 23)) 19 9 (some 24)) 18 0 (some 19)) 18 5 (some 25)) 18 6 (some 26)) 18 7 (some 27)) 18 8 (some 28)) 18 9 (some 29)) 18 10 (some 30)) 18 11 (some 31)) 18 12 (some 32)) 18 13 (some 33)) 18 14 (some 34)) 18 15 (some 35)) 0 3 (some 18)) 37 5 (some 38)) 37 6 (some 39)) 37 7 (some 40)) 37 8 (some 41)) 37 9 (some 42)) 36 0 (some 37)) 36 5 (some 43)) 36 6 (some 44)) 36 7 (some 45)) 36 8 (some 46)) 36 9 (some 47)) 36 10 (some 48)) 36 11 (some 49)) 36 12 (some 50)) 36 13 (some 51)) 36 14 (some 52)) 36 15 (some 53)) 0 4 (some 36)) 55 5 (some 56)) 55 6 (some 57)) 55 7 (some 58)) 55 8 (some 59)) 55 9 (some 60)) 54 0 (some 55)) 54 5 (some 61)) 54 6 (some 62)) 54 7 (some 63)) 54 8 (some 64)) 54 9 (some 65)) 54 10 (some 66)) 54 11 (some 67)) 54 12 (some 68)) 54 13 (some 69)) 54 14 (some 70)) 54 15 (some 71)) 0 5 (some 54)) 74 5 (some 75)) 74 6 (some 76)) 74 7 (some 77)) 74 8 (some 78)) 74 9 (some 79)) 73 0 (some 74)) 73 5 (some 80)) 73 6 (some 81)) 73 7 (some 82)) 73 8 (some 83)) 73 9 (some 84)) 73 10 (some 85)) 73 11 (some 86)) 73 12 (some 87)) 73 13 (some 88)) 73 14 (some 89)) 73 15 (some 90)) 72 1 (some 73)) 72 5 (some 91)) 72 6 (some 92)) 72 0 (some 54)) 72 2 (some 12)) 0 6 (some 72)) 93 0 (some 54)) 93 1 (some 12)) 0 7 (some 93)), 95, 3705)) 112 [.ref 0] [] z8 ((up2 (up2 (up2 (up2 (up2 (up2 (up2 (up2 (up2 (up2 (up2 (up2 (up2 (up2 (up2 (up2 (up2 (up2 (up2 (up2 (up2 (up2 (up2 (up2 (up2 (up2 (up2 (up2 (up2 (up2 (up2 (up2 (up2 (up2 (up2 (up2 (up2 (up2 (up2 (up2 (up2 (up2 (up2 (up2 (up2 (up2 (up2 (up2 (up2 (up2 (up2 (up2 (up2 (up2 (up2 (up2 (up2 (up2 (up2 (up2 (up2 (up2 (up2 (up2 (up2 (up2 (up2 (up2 (up2 (up2 (up2 (up2 (up2 (up2 (up2 (up2 (up2 (up2 (up2 (up2 (up2 (up2 (up2 (up2 (up2 (up2 (up2 (up2 (up2 (up2 (up2 (up2 (up2 (up2 (up2 (up2 (up2 (up2 (up2 R 1 0 (some 2)) 0 0 (some 1)) 4 5 (some 5)) 4 6 (some 6)) 4 7 (some 7)) 4 8 (some 8)) 4 9 (some 9)) 3 1 (some 4)) 3 2 (some 10)) 3 3 (some 11)) 3 0 (some 1)) 0 1 (some 3)) 13 0 (some 14)) 13 1 (some 15)) 13 2 (some 16)) 13 3 (some 17)) 13 4 (some 115)) 12 0 (some 13)) 0 2 (some 12)) 19 5 (some 20)) 19 6 (some 21)) 19 7 (some 22)) 19 8 (some 23)) 19 9 (some 24)) 18 0 (some 19)) 18 5 (some 25)) 18 6 (some 26)) 18 7 (some 27)) 18 8 (some 28)) 18 9 (some 29)) 18 10 (some 30)) 18 11 (some 31)) 18 12 (some 32)) 18 13 (some 33)) 18 14 (some 34)) 18 15 (some 35)) 0 3 (some 18)) 37 5 (some 38)) 37 6 (some 39)) 37 7 (some 40)) 37 8 (some 41)) 37 9 (some 42)) 36 0 (some 37)) 36 5 (some 43)) 36 6 (some 44)) 36 7 (some 45)) 36 8 (some 46)) 36 9 (some 47)) 36 10 (some 48)) 36 11 (some 49)) 36 12 (some 50)) 36 13 (some 51)) 36 14 (some 52)) 36 15 (some 53)) 0 4 (some 36)) 55 5 (some 56)) 55 6 (some 57)) 55 7 (some 58)) 55 8 (some 59)) 55 9 (some 60)) 54 0 (some 55)) 54 5 (some 61)) 54 6 (some 62)) 54 7 (some 63)) 54 8 (some 64)) 54 9 (some 65)) 54 10 (some 66)) 54 11 (some 67)) 54 12 (some 68)) 54 13 (some 69)) 54 14 (some 70)) 54 15 (some 71)) 0 5 (some 54)) 74 5 (some 75)) 74 6 (some 76)) 74 7 (some 77)) 74 8 (some 78)) 74 9 (some 79)) 73 0 (some 74)) 73 5 (some 80)) 73 6 (some 81)) 73 7 (some 82)) 73 8 (some 83)) 73 9 (some 84)) 73 10 (some 85)) 73 11 (some 86)) 73 12 (some 87)) 73 13 (some 88)) 73 14 (some 89)) 73 15 (some 90)) 72 1 (some 73)) 72 5 (some 91)) 72 6 (some 92)) 72 0 (some 54)) 72 2 (some 12)) 0 6 (some 72)) 93 0 (some 54)) 93 1 (some 12)) 0 7 (some 93)), 95, 3705)
  refine r_aload_n hX dX8_init_112 rfl ?_
  refine r_iconst (v := (0 : Int32)) hX dX8_init_113 (by decide) ?_
  refine r_putI hX dX8_init_114 fl_8_61 rfl (by decide) (Nat.le_of_ble_eq_true rfl) (okI_b false) ?_
  have hF := fr_I (a := 0) (j := 8) (x := (0 : Int32)) (by decide) hF
  obtain rfl := Option.some.inj h
  exact r_vret hX hT dX8_init_117
theorem fr_Fg_init0 {n : Nat} {M zf : Mm} {R : Nat → Nat → Option Nat} (hF : fr 1 M R) (h : Fg_init0 n M = some zf) : fr 95 zf (up2 (up2 (up2 (up2 (up2 (up2 (up2 (up2 (up2 (up2 (up2 (up2 (up2 (up2 (up2 (up2 (up2 (up2 (up2 (up2 (up2 (up2 (up2 (up2 (up2 (up2 (up2 (up2 (up2 (up2 (up2 (up2 (up2 (up2 (up2 (up2 (up2 (up2 (up2 (up2 (up2 (up2 (up2 (up2 (up2 (up2 (up2 (up2 (up2 (up2 (up2 (up2 (up2 (up2 (up2 (up2 (up2 (up2 (up2 (up2 (up2 (up2 (up2 (up2 (up2 (up2 (up2 (up2 (up2 (up2 (up2 (up2 (up2 (up2 (up2 (up2 (up2 (up2 (up2 (up2 (up2 (up2 (up2 (up2 (up2 (up2 (up2 (up2 (up2 (up2 (up2 (up2 (up2 (up2 (up2 (up2 (up2 (up2 (up2 R 1 0 (some 2)) 0 0 (some 1)) 4 5 (some 5)) 4 6 (some 6)) 4 7 (some 7)) 4 8 (some 8)) 4 9 (some 9)) 3 1 (some 4)) 3 2 (some 10)) 3 3 (some 11)) 3 0 (some 1)) 0 1 (some 3)) 13 0 (some 14)) 13 1 (some 15)) 13 2 (some 16)) 13 3 (some 17)) 13 4 (some 115)) 12 0 (some 13)) 0 2 (some 12)) 19 5 (some 20)) 19 6 (some 21)) 19 7 (some 22)) 19 8 (some 23)) 19 9 (some 24)) 18 0 (some 19)) 18 5 (some 25)) 18 6 (some 26)) 18 7 (some 27)) 18 8 (some 28)) 18 9 (some 29)) 18 10 (some 30)) 18 11 (some 31)) 18 12 (some 32)) 18 13 (some 33)) 18 14 (some 34)) 18 15 (some 35)) 0 3 (some 18)) 37 5 (some 38)) 37 6 (some 39)) 37 7 (some 40)) 37 8 (some 41)) 37 9 (some 42)) 36 0 (some 37)) 36 5 (some 43)) 36 6 (some 44)) 36 7 (some 45)) 36 8 (some 46)) 36 9 (some 47)) 36 10 (some 48)) 36 11 (some 49)) 36 12 (some 50)) 36 13 (some 51)) 36 14 (some 52)) 36 15 (some 53)) 0 4 (some 36)) 55 5 (some 56)) 55 6 (some 57)) 55 7 (some 58)) 55 8 (some 59)) 55 9 (some 60)) 54 0 (some 55)) 54 5 (some 61)) 54 6 (some 62)) 54 7 (some 63)) 54 8 (some 64)) 54 9 (some 65)) 54 10 (some 66)) 54 11 (some 67)) 54 12 (some 68)) 54 13 (some 69)) 54 14 (some 70)) 54 15 (some 71)) 0 5 (some 54)) 74 5 (some 75)) 74 6 (some 76)) 74 7 (some 77)) 74 8 (some 78)) 74 9 (some 79)) 73 0 (some 74)) 73 5 (some 80)) 73 6 (some 81)) 73 7 (some 82)) 73 8 (some 83)) 73 9 (some 84)) 73 10 (some 85)) 73 11 (some 86)) 73 12 (some 87)) 73 13 (some 88)) 73 14 (some 89)) 73 15 (some 90)) 72 1 (some 73)) 72 5 (some 91)) 72 6 (some 92)) 72 0 (some 54)) 72 2 (some 12)) 0 6 (some 72)) 93 0 (some 54)) 93 1 (some 12)) 0 7 (some 93)) := by
  unfold Fg_init0 at h
  have hF := fr_eta hF
  have hF := fr_eta hF
  have hF := fr_up (n' := 2) (by decide) hF
  obtain ⟨z1, p1, h⟩ := bnd_s h
  have hF := fr_Tp_init1 hF p1
  have hF := fr_eta hF
  have hF := fr_R (a := 0) (j := 0) (b := 1) (by decide) hF
  have hF := fr_up (n' := 4) (by decide) hF
  obtain ⟨z2, p2, h⟩ := bnd_s h
  have hF := fr_Rd_init3 hF p2
  have hF := fr_eta hF
  have hF := fr_R (a := 0) (j := 1) (b := 3) (by decide) hF
  have hF := fr_up (n' := 13) (by decide) hF
  obtain ⟨z3, p3, h⟩ := bnd_s h
  have hF := fr_Fi_init12 hF p3
  have hF := fr_eta hF
  have hF := fr_R (a := 0) (j := 2) (b := 12) (by decide) hF
  have hF := fr_up (n' := 20) (by decide) hF
  obtain ⟨z4, p4, h⟩ := bnd_s h
  have hF := fr_St_init18 hF p4
  have hF := fr_eta hF
  have hF := fr_R (a := 0) (j := 3) (b := 18) (by decide) hF
  have hF := fr_up (n' := 38) (by decide) hF
  obtain ⟨z5, p5, h⟩ := bnd_s h
  have hF := fr_St_init36 hF p5
  have hF := fr_eta hF
  have hF := fr_R (a := 0) (j := 4) (b := 36) (by decide) hF
  have hF := fr_up (n' := 56) (by decide) hF
  obtain ⟨z6, p6, h⟩ := bnd_s h
  have hF := fr_St_init54 hF p6
  have hF := fr_eta hF
  have hF := fr_R (a := 0) (j := 5) (b := 54) (by decide) hF
  have hF := fr_up (n' := 74) (by decide) hF
  obtain ⟨z7, p7, h⟩ := bnd_s h
  have hF := fr_Rp_init72 hF p7
  have hF := fr_eta hF
  have hF := fr_R (a := 0) (j := 6) (b := 72) (by decide) hF
  have hF := fr_up (n' := 95) (by decide) hF
  obtain ⟨z8, p8, h⟩ := bnd_s h
  have hF := fr_Tr_init93 hF p8
  have hF := fr_eta hF
  have hF := fr_R (a := 0) (j := 7) (b := 93) (by decide) hF
  have hF := fr_I (a := 0) (j := 8) (x := (0 : Int32)) (by decide) hF
  obtain rfl := Option.some.inj h
  exact hF
def Fm_init94 (n : Nat) (M : Mm) : Option Mm :=
  bnd (Fm_begins n M) (fun z1 =>
  bnd (Fm_takesDraft n z1) (fun z2 =>
  grd (inb (6 : Int32) 12256) (
  some ((up2 z2.1 95 (tn (6 : Int32)) (1 : Int32)), z2.2))))
set_option maxRecDepth 100000 in
theorem ok_Fm_init94 {G : Gm} {l : Launch} {d : Nat} (n : Nat) (M : Mm) {zf : Mm} {R : Nat → Nat → Option Nat} (hF : fr 96 M R) (hSS : ((up2 (up2 (up2 (up2 (up2 (up2 (up2 (up2 (up2 (up2 (up2 (up2 (up2 (up2 (up2 (up2 (up2 (up2 (up2 (up2 R 94 0 (some 95)) 94 1 (some 96)) 94 3 (some 97)) 94 13 (some 98)) 94 14 (some 99)) 94 15 (some 100)) 94 16 (some 101)) 94 17 (some 102)) 94 18 (some 103)) 94 23 (some 104)) 94 24 (some 105)) 94 25 (some 106)) 94 26 (some 107)) 94 27 (some 108)) 94 28 (some 109)) 94 29 (some 110)) 94 30 (some 111)) 94 35 (some 112)) 94 40 (some 113)) 94 41 (some 114)), 116, 18388) = SS) (h : Fm_init94 n M = some zf) : CK G l (d + 1) md_Fm_init [.ref 94] M (R, 96, 3750) none zf SS := by
  refine ck_of mk_Fm_init (Nat.le_of_ble_eq_true rfl) ⟨(Nat.le_of_ble_eq_true rfl), (Nat.le_of_ble_eq_true rfl)⟩ (fun X hX hT hSx hr hl => ?_)
  subst hl
  unfold Fm_init94 at h
  show WR G X (mQ G X none zf SS) 0 [.ref 94] [] M (R, 96, 3750)
  have hF := fr_eta hF
  refine r_aload_n hX dX9_init_0 rfl ?_
  refine r_objInit hX dX9_init_1 ml_9_1 rfl (Nat.le_of_ble_eq_true rfl) ?_
  refine r_aload_n hX dX9_init_4 rfl ?_
  refine r_sipush (v := (12256 : Int32)) hX dX9_init_5 (by decide) ?_
  refine r_newI (ci := 10) (N := 12256) hX dX9_init_8 ac_int rfl (fun _ e => by cases e) rfl rfl (by decide) rfl (by decide) (by decide) (Nat.le_of_ble_eq_true rfl) (fr_fresh hF) (Nat.le_of_ble_eq_true rfl) (xr_le hr ⟨(Nat.le_of_ble_eq_true rfl), (Nat.le_of_ble_eq_true rfl)⟩) ?_
  show WR G X (mQ G X none zf SS) 10 [.ref 94] [.ref 95, .ref 94] M (R, 97, 16006)
  have hF := fr_up (n' := 97) (by decide) hF
  refine r_putR hX hT dX9_init_10 fl_9_7 rfl (by decide) (Nat.le_of_ble_eq_true rfl) (Or.inr ⟨_, rfl⟩) ?_
  have hF := fr_R (a := 94) (j := 0) (b := 95) (by decide) hF
  show WR G X (mQ G X none zf SS) 13 [.ref 94] [] M ((up2 R 94 0 (some 95)), 97, 16006)
  refine r_aload_n hX dX9_init_13 rfl ?_
  refine r_bipush (v := (64 : Int32)) hX dX9_init_14 (by decide) ?_
  refine r_newI (ci := 10) (N := 64) hX dX9_init_16 ac_int rfl (fun _ e => by cases e) rfl rfl (by decide) rfl (by decide) (by decide) (Nat.le_of_ble_eq_true rfl) (fr_fresh hF) (Nat.le_of_ble_eq_true rfl) (xr_le hr ⟨(Nat.le_of_ble_eq_true rfl), (Nat.le_of_ble_eq_true rfl)⟩) ?_
  show WR G X (mQ G X none zf SS) 18 [.ref 94] [.ref 96, .ref 94] M ((up2 R 94 0 (some 95)), 98, 16070)
  have hF := fr_up (n' := 98) (by decide) hF
  refine r_putR hX hT dX9_init_18 fl_9_13 rfl (by decide) (Nat.le_of_ble_eq_true rfl) (Or.inr ⟨_, rfl⟩) ?_
  have hF := fr_R (a := 94) (j := 1) (b := 96) (by decide) hF
  show WR G X (mQ G X none zf SS) 21 [.ref 94] [] M ((up2 (up2 R 94 0 (some 95)) 94 1 (some 96)), 98, 16070)
  refine r_aload_n hX dX9_init_21 rfl ?_
  refine r_sipush (v := (240 : Int32)) hX dX9_init_22 (by decide) ?_
  refine r_newI (ci := 12) (N := 240) hX dX9_init_25 ac_byte rfl (fun _ e => by cases e) rfl rfl (by decide) rfl (by decide) (by decide) (Nat.le_of_ble_eq_true rfl) (fr_fresh hF) (Nat.le_of_ble_eq_true rfl) (xr_le hr ⟨(Nat.le_of_ble_eq_true rfl), (Nat.le_of_ble_eq_true rfl)⟩) ?_
  show WR G X (mQ G X none zf SS) 27 [.ref 94] [.ref 97, .ref 94] M ((up2 (up2 R 94 0 (some 95)) 94 1 (some 96)), 99, 16310)
  have hF := fr_up (n' := 99) (by decide) hF
  refine r_putR hX hT dX9_init_27 fl_9_16 rfl (by decide) (Nat.le_of_ble_eq_true rfl) (Or.inr ⟨_, rfl⟩) ?_
  have hF := fr_R (a := 94) (j := 3) (b := 97) (by decide) hF
  show WR G X (mQ G X none zf SS) 30 [.ref 94] [] M ((up2 (up2 (up2 R 94 0 (some 95)) 94 1 (some 96)) 94 3 (some 97)), 99, 16310)
  refine r_aload_n hX dX9_init_30 rfl ?_
  refine r_iconst (v := (5 : Int32)) hX dX9_init_31 (by decide) ?_
  refine r_newI (ci := 10) (N := 5) hX dX9_init_32 ac_int rfl (fun _ e => by cases e) rfl rfl (by decide) rfl (by decide) (by decide) (Nat.le_of_ble_eq_true rfl) (fr_fresh hF) (Nat.le_of_ble_eq_true rfl) (xr_le hr ⟨(Nat.le_of_ble_eq_true rfl), (Nat.le_of_ble_eq_true rfl)⟩) ?_
  show WR G X (mQ G X none zf SS) 34 [.ref 94] [.ref 98, .ref 94] M ((up2 (up2 (up2 R 94 0 (some 95)) 94 1 (some 96)) 94 3 (some 97)), 100, 16315)
  have hF := fr_up (n' := 100) (by decide) hF
  refine r_putR hX hT dX9_init_34 fl_9_20 rfl (by decide) (Nat.le_of_ble_eq_true rfl) (Or.inr ⟨_, rfl⟩) ?_
  have hF := fr_R (a := 94) (j := 13) (b := 98) (by decide) hF
  show WR G X (mQ G X none zf SS) 37 [.ref 94] [] M ((up2 (up2 (up2 (up2 R 94 0 (some 95)) 94 1 (some 96)) 94 3 (some 97)) 94 13 (some 98)), 100, 16315)
  refine r_aload_n hX dX9_init_37 rfl ?_
  refine r_iconst (v := (5 : Int32)) hX dX9_init_38 (by decide) ?_
  refine r_newI (ci := 10) (N := 5) hX dX9_init_39 ac_int rfl (fun _ e => by cases e) rfl rfl (by decide) rfl (by decide) (by decide) (Nat.le_of_ble_eq_true rfl) (fr_fresh hF) (Nat.le_of_ble_eq_true rfl) (xr_le hr ⟨(Nat.le_of_ble_eq_true rfl), (Nat.le_of_ble_eq_true rfl)⟩) ?_
  show WR G X (mQ G X none zf SS) 41 [.ref 94] [.ref 99, .ref 94] M ((up2 (up2 (up2 (up2 R 94 0 (some 95)) 94 1 (some 96)) 94 3 (some 97)) 94 13 (some 98)), 101, 16320)
  have hF := fr_up (n' := 101) (by decide) hF
  refine r_putR hX hT dX9_init_41 fl_9_23 rfl (by decide) (Nat.le_of_ble_eq_true rfl) (Or.inr ⟨_, rfl⟩) ?_
  have hF := fr_R (a := 94) (j := 14) (b := 99) (by decide) hF
  show WR G X (mQ G X none zf SS) 44 [.ref 94] [] M ((up2 (up2 (up2 (up2 (up2 R 94 0 (some 95)) 94 1 (some 96)) 94 3 (some 97)) 94 13 (some 98)) 94 14 (some 99)), 101, 16320)
  refine r_aload_n hX dX9_init_44 rfl ?_
  refine r_iconst (v := (5 : Int32)) hX dX9_init_45 (by decide) ?_
  refine r_newI (ci := 10) (N := 5) hX dX9_init_46 ac_int rfl (fun _ e => by cases e) rfl rfl (by decide) rfl (by decide) (by decide) (Nat.le_of_ble_eq_true rfl) (fr_fresh hF) (Nat.le_of_ble_eq_true rfl) (xr_le hr ⟨(Nat.le_of_ble_eq_true rfl), (Nat.le_of_ble_eq_true rfl)⟩) ?_
  show WR G X (mQ G X none zf SS) 48 [.ref 94] [.ref 100, .ref 94] M ((up2 (up2 (up2 (up2 (up2 R 94 0 (some 95)) 94 1 (some 96)) 94 3 (some 97)) 94 13 (some 98)) 94 14 (some 99)), 102, 16325)
  have hF := fr_up (n' := 102) (by decide) hF
  refine r_putR hX hT dX9_init_48 fl_9_26 rfl (by decide) (Nat.le_of_ble_eq_true rfl) (Or.inr ⟨_, rfl⟩) ?_
  have hF := fr_R (a := 94) (j := 15) (b := 100) (by decide) hF
  show WR G X (mQ G X none zf SS) 51 [.ref 94] [] M ((up2 (up2 (up2 (up2 (up2 (up2 R 94 0 (some 95)) 94 1 (some 96)) 94 3 (some 97)) 94 13 (some 98)) 94 14 (some 99)) 94 15 (some 100)), 102, 16325)
  refine r_aload_n hX dX9_init_51 rfl ?_
  refine r_iconst (v := (5 : Int32)) hX dX9_init_52 (by decide) ?_
  refine r_newI (ci := 10) (N := 5) hX dX9_init_53 ac_int rfl (fun _ e => by cases e) rfl rfl (by decide) rfl (by decide) (by decide) (Nat.le_of_ble_eq_true rfl) (fr_fresh hF) (Nat.le_of_ble_eq_true rfl) (xr_le hr ⟨(Nat.le_of_ble_eq_true rfl), (Nat.le_of_ble_eq_true rfl)⟩) ?_
  show WR G X (mQ G X none zf SS) 55 [.ref 94] [.ref 101, .ref 94] M ((up2 (up2 (up2 (up2 (up2 (up2 R 94 0 (some 95)) 94 1 (some 96)) 94 3 (some 97)) 94 13 (some 98)) 94 14 (some 99)) 94 15 (some 100)), 103, 16330)
  have hF := fr_up (n' := 103) (by decide) hF
  refine r_putR hX hT dX9_init_55 fl_9_29 rfl (by decide) (Nat.le_of_ble_eq_true rfl) (Or.inr ⟨_, rfl⟩) ?_
  have hF := fr_R (a := 94) (j := 16) (b := 101) (by decide) hF
  show WR G X (mQ G X none zf SS) 58 [.ref 94] [] M ((up2 (up2 (up2 (up2 (up2 (up2 (up2 R 94 0 (some 95)) 94 1 (some 96)) 94 3 (some 97)) 94 13 (some 98)) 94 14 (some 99)) 94 15 (some 100)) 94 16 (some 101)), 103, 16330)
  refine r_aload_n hX dX9_init_58 rfl ?_
  refine r_bipush (v := (9 : Int32)) hX dX9_init_59 (by decide) ?_
  refine r_newI (ci := 10) (N := 9) hX dX9_init_61 ac_int rfl (fun _ e => by cases e) rfl rfl (by decide) rfl (by decide) (by decide) (Nat.le_of_ble_eq_true rfl) (fr_fresh hF) (Nat.le_of_ble_eq_true rfl) (xr_le hr ⟨(Nat.le_of_ble_eq_true rfl), (Nat.le_of_ble_eq_true rfl)⟩) ?_
  show WR G X (mQ G X none zf SS) 63 [.ref 94] [.ref 102, .ref 94] M ((up2 (up2 (up2 (up2 (up2 (up2 (up2 R 94 0 (some 95)) 94 1 (some 96)) 94 3 (some 97)) 94 13 (some 98)) 94 14 (some 99)) 94 15 (some 100)) 94 16 (some 101)), 104, 16339)
  have hF := fr_up (n' := 104) (by decide) hF
  refine r_putR hX hT dX9_init_63 fl_9_32 rfl (by decide) (Nat.le_of_ble_eq_true rfl) (Or.inr ⟨_, rfl⟩) ?_
  have hF := fr_R (a := 94) (j := 17) (b := 102) (by decide) hF
  show WR G X (mQ G X none zf SS) 66 [.ref 94] [] M ((up2 (up2 (up2 (up2 (up2 (up2 (up2 (up2 R 94 0 (some 95)) 94 1 (some 96)) 94 3 (some 97)) 94 13 (some 98)) 94 14 (some 99)) 94 15 (some 100)) 94 16 (some 101)) 94 17 (some 102)), 104, 16339)
  refine r_aload_n hX dX9_init_66 rfl ?_
  refine r_bipush (v := (9 : Int32)) hX dX9_init_67 (by decide) ?_
  refine r_newI (ci := 10) (N := 9) hX dX9_init_69 ac_int rfl (fun _ e => by cases e) rfl rfl (by decide) rfl (by decide) (by decide) (Nat.le_of_ble_eq_true rfl) (fr_fresh hF) (Nat.le_of_ble_eq_true rfl) (xr_le hr ⟨(Nat.le_of_ble_eq_true rfl), (Nat.le_of_ble_eq_true rfl)⟩) ?_
  show WR G X (mQ G X none zf SS) 71 [.ref 94] [.ref 103, .ref 94] M ((up2 (up2 (up2 (up2 (up2 (up2 (up2 (up2 R 94 0 (some 95)) 94 1 (some 96)) 94 3 (some 97)) 94 13 (some 98)) 94 14 (some 99)) 94 15 (some 100)) 94 16 (some 101)) 94 17 (some 102)), 105, 16348)
  have hF := fr_up (n' := 105) (by decide) hF
  refine r_putR hX hT dX9_init_71 fl_9_35 rfl (by decide) (Nat.le_of_ble_eq_true rfl) (Or.inr ⟨_, rfl⟩) ?_
  have hF := fr_R (a := 94) (j := 18) (b := 103) (by decide) hF
  show WR G X (mQ G X none zf SS) 74 [.ref 94] [] M ((up2 (up2 (up2 (up2 (up2 (up2 (up2 (up2 (up2 R 94 0 (some 95)) 94 1 (some 96)) 94 3 (some 97)) 94 13 (some 98)) 94 14 (some 99)) 94 15 (some 100)) 94 16 (some 101)) 94 17 (some 102)) 94 18 (some 103)), 105, 16348)
  refine r_aload_n hX dX9_init_74 rfl ?_
  refine r_bipush (v := (40 : Int32)) hX dX9_init_75 (by decide) ?_
  refine r_newI (ci := 10) (N := 40) hX dX9_init_77 ac_int rfl (fun _ e => by cases e) rfl rfl (by decide) rfl (by decide) (by decide) (Nat.le_of_ble_eq_true rfl) (fr_fresh hF) (Nat.le_of_ble_eq_true rfl) (xr_le hr ⟨(Nat.le_of_ble_eq_true rfl), (Nat.le_of_ble_eq_true rfl)⟩) ?_
  show WR G X (mQ G X none zf SS) 79 [.ref 94] [.ref 104, .ref 94] M ((up2 (up2 (up2 (up2 (up2 (up2 (up2 (up2 (up2 R 94 0 (some 95)) 94 1 (some 96)) 94 3 (some 97)) 94 13 (some 98)) 94 14 (some 99)) 94 15 (some 100)) 94 16 (some 101)) 94 17 (some 102)) 94 18 (some 103)), 106, 16388)
  have hF := fr_up (n' := 106) (by decide) hF
  refine r_putR hX hT dX9_init_79 fl_9_38 rfl (by decide) (Nat.le_of_ble_eq_true rfl) (Or.inr ⟨_, rfl⟩) ?_
  have hF := fr_R (a := 94) (j := 23) (b := 104) (by decide) hF
  show WR G X (mQ G X none zf SS) 82 [.ref 94] [] M ((up2 (up2 (up2 (up2 (up2 (up2 (up2 (up2 (up2 (up2 R 94 0 (some 95)) 94 1 (some 96)) 94 3 (some 97)) 94 13 (some 98)) 94 14 (some 99)) 94 15 (some 100)) 94 16 (some 101)) 94 17 (some 102)) 94 18 (some 103)) 94 23 (some 104)), 106, 16388)
  refine r_aload_n hX dX9_init_82 rfl ?_
  refine r_bipush (v := (40 : Int32)) hX dX9_init_83 (by decide) ?_
  refine r_newI (ci := 10) (N := 40) hX dX9_init_85 ac_int rfl (fun _ e => by cases e) rfl rfl (by decide) rfl (by decide) (by decide) (Nat.le_of_ble_eq_true rfl) (fr_fresh hF) (Nat.le_of_ble_eq_true rfl) (xr_le hr ⟨(Nat.le_of_ble_eq_true rfl), (Nat.le_of_ble_eq_true rfl)⟩) ?_
  show WR G X (mQ G X none zf SS) 87 [.ref 94] [.ref 105, .ref 94] M ((up2 (up2 (up2 (up2 (up2 (up2 (up2 (up2 (up2 (up2 R 94 0 (some 95)) 94 1 (some 96)) 94 3 (some 97)) 94 13 (some 98)) 94 14 (some 99)) 94 15 (some 100)) 94 16 (some 101)) 94 17 (some 102)) 94 18 (some 103)) 94 23 (some 104)), 107, 16428)
  have hF := fr_up (n' := 107) (by decide) hF
  refine r_putR hX hT dX9_init_87 fl_9_41 rfl (by decide) (Nat.le_of_ble_eq_true rfl) (Or.inr ⟨_, rfl⟩) ?_
  have hF := fr_R (a := 94) (j := 24) (b := 105) (by decide) hF
  show WR G X (mQ G X none zf SS) 90 [.ref 94] [] M ((up2 (up2 (up2 (up2 (up2 (up2 (up2 (up2 (up2 (up2 (up2 R 94 0 (some 95)) 94 1 (some 96)) 94 3 (some 97)) 94 13 (some 98)) 94 14 (some 99)) 94 15 (some 100)) 94 16 (some 101)) 94 17 (some 102)) 94 18 (some 103)) 94 23 (some 104)) 94 24 (some 105)), 107, 16428)
  refine r_aload_n hX dX9_init_90 rfl ?_
  refine r_bipush (v := (40 : Int32)) hX dX9_init_91 (by decide) ?_
  refine r_newI (ci := 10) (N := 40) hX dX9_init_93 ac_int rfl (fun _ e => by cases e) rfl rfl (by decide) rfl (by decide) (by decide) (Nat.le_of_ble_eq_true rfl) (fr_fresh hF) (Nat.le_of_ble_eq_true rfl) (xr_le hr ⟨(Nat.le_of_ble_eq_true rfl), (Nat.le_of_ble_eq_true rfl)⟩) ?_
  show WR G X (mQ G X none zf SS) 95 [.ref 94] [.ref 106, .ref 94] M ((up2 (up2 (up2 (up2 (up2 (up2 (up2 (up2 (up2 (up2 (up2 R 94 0 (some 95)) 94 1 (some 96)) 94 3 (some 97)) 94 13 (some 98)) 94 14 (some 99)) 94 15 (some 100)) 94 16 (some 101)) 94 17 (some 102)) 94 18 (some 103)) 94 23 (some 104)) 94 24 (some 105)), 108, 16468)
  have hF := fr_up (n' := 108) (by decide) hF
  refine r_putR hX hT dX9_init_95 fl_9_44 rfl (by decide) (Nat.le_of_ble_eq_true rfl) (Or.inr ⟨_, rfl⟩) ?_
  have hF := fr_R (a := 94) (j := 25) (b := 106) (by decide) hF
  show WR G X (mQ G X none zf SS) 98 [.ref 94] [] M ((up2 (up2 (up2 (up2 (up2 (up2 (up2 (up2 (up2 (up2 (up2 (up2 R 94 0 (some 95)) 94 1 (some 96)) 94 3 (some 97)) 94 13 (some 98)) 94 14 (some 99)) 94 15 (some 100)) 94 16 (some 101)) 94 17 (some 102)) 94 18 (some 103)) 94 23 (some 104)) 94 24 (some 105)) 94 25 (some 106)), 108, 16468)
  refine r_aload_n hX dX9_init_98 rfl ?_
  refine r_bipush (v := (40 : Int32)) hX dX9_init_99 (by decide) ?_
  refine r_newI (ci := 10) (N := 40) hX dX9_init_101 ac_int rfl (fun _ e => by cases e) rfl rfl (by decide) rfl (by decide) (by decide) (Nat.le_of_ble_eq_true rfl) (fr_fresh hF) (Nat.le_of_ble_eq_true rfl) (xr_le hr ⟨(Nat.le_of_ble_eq_true rfl), (Nat.le_of_ble_eq_true rfl)⟩) ?_
  show WR G X (mQ G X none zf SS) 103 [.ref 94] [.ref 107, .ref 94] M ((up2 (up2 (up2 (up2 (up2 (up2 (up2 (up2 (up2 (up2 (up2 (up2 R 94 0 (some 95)) 94 1 (some 96)) 94 3 (some 97)) 94 13 (some 98)) 94 14 (some 99)) 94 15 (some 100)) 94 16 (some 101)) 94 17 (some 102)) 94 18 (some 103)) 94 23 (some 104)) 94 24 (some 105)) 94 25 (some 106)), 109, 16508)
  have hF := fr_up (n' := 109) (by decide) hF
  refine r_putR hX hT dX9_init_103 fl_9_47 rfl (by decide) (Nat.le_of_ble_eq_true rfl) (Or.inr ⟨_, rfl⟩) ?_
  have hF := fr_R (a := 94) (j := 26) (b := 107) (by decide) hF
  show WR G X (mQ G X none zf SS) 106 [.ref 94] [] M ((up2 (up2 (up2 (up2 (up2 (up2 (up2 (up2 (up2 (up2 (up2 (up2 (up2 R 94 0 (some 95)) 94 1 (some 96)) 94 3 (some 97)) 94 13 (some 98)) 94 14 (some 99)) 94 15 (some 100)) 94 16 (some 101)) 94 17 (some 102)) 94 18 (some 103)) 94 23 (some 104)) 94 24 (some 105)) 94 25 (some 106)) 94 26 (some 107)), 109, 16508)
  refine r_aload_n hX dX9_init_106 rfl ?_
  refine r_bipush (v := (40 : Int32)) hX dX9_init_107 (by decide) ?_
  refine r_newI (ci := 10) (N := 40) hX dX9_init_109 ac_int rfl (fun _ e => by cases e) rfl rfl (by decide) rfl (by decide) (by decide) (Nat.le_of_ble_eq_true rfl) (fr_fresh hF) (Nat.le_of_ble_eq_true rfl) (xr_le hr ⟨(Nat.le_of_ble_eq_true rfl), (Nat.le_of_ble_eq_true rfl)⟩) ?_
  show WR G X (mQ G X none zf SS) 111 [.ref 94] [.ref 108, .ref 94] M ((up2 (up2 (up2 (up2 (up2 (up2 (up2 (up2 (up2 (up2 (up2 (up2 (up2 R 94 0 (some 95)) 94 1 (some 96)) 94 3 (some 97)) 94 13 (some 98)) 94 14 (some 99)) 94 15 (some 100)) 94 16 (some 101)) 94 17 (some 102)) 94 18 (some 103)) 94 23 (some 104)) 94 24 (some 105)) 94 25 (some 106)) 94 26 (some 107)), 110, 16548)
  have hF := fr_up (n' := 110) (by decide) hF
  refine r_putR hX hT dX9_init_111 fl_9_50 rfl (by decide) (Nat.le_of_ble_eq_true rfl) (Or.inr ⟨_, rfl⟩) ?_
  have hF := fr_R (a := 94) (j := 27) (b := 108) (by decide) hF
  show WR G X (mQ G X none zf SS) 114 [.ref 94] [] M ((up2 (up2 (up2 (up2 (up2 (up2 (up2 (up2 (up2 (up2 (up2 (up2 (up2 (up2 R 94 0 (some 95)) 94 1 (some 96)) 94 3 (some 97)) 94 13 (some 98)) 94 14 (some 99)) 94 15 (some 100)) 94 16 (some 101)) 94 17 (some 102)) 94 18 (some 103)) 94 23 (some 104)) 94 24 (some 105)) 94 25 (some 106)) 94 26 (some 107)) 94 27 (some 108)), 110, 16548)
  refine r_aload_n hX dX9_init_114 rfl ?_
  refine r_bipush (v := (40 : Int32)) hX dX9_init_115 (by decide) ?_
  refine r_newI (ci := 13) (N := 40) hX dX9_init_117 ac_boolean rfl (fun _ e => by cases e) rfl rfl (by decide) rfl (by decide) (by decide) (Nat.le_of_ble_eq_true rfl) (fr_fresh hF) (Nat.le_of_ble_eq_true rfl) (xr_le hr ⟨(Nat.le_of_ble_eq_true rfl), (Nat.le_of_ble_eq_true rfl)⟩) ?_
  show WR G X (mQ G X none zf SS) 119 [.ref 94] [.ref 109, .ref 94] M ((up2 (up2 (up2 (up2 (up2 (up2 (up2 (up2 (up2 (up2 (up2 (up2 (up2 (up2 R 94 0 (some 95)) 94 1 (some 96)) 94 3 (some 97)) 94 13 (some 98)) 94 14 (some 99)) 94 15 (some 100)) 94 16 (some 101)) 94 17 (some 102)) 94 18 (some 103)) 94 23 (some 104)) 94 24 (some 105)) 94 25 (some 106)) 94 26 (some 107)) 94 27 (some 108)), 111, 16588)
  have hF := fr_up (n' := 111) (by decide) hF
  refine r_putR hX hT dX9_init_119 fl_9_53 rfl (by decide) (Nat.le_of_ble_eq_true rfl) (Or.inr ⟨_, rfl⟩) ?_
  have hF := fr_R (a := 94) (j := 28) (b := 109) (by decide) hF
  show WR G X (mQ G X none zf SS) 122 [.ref 94] [] M ((up2 (up2 (up2 (up2 (up2 (up2 (up2 (up2 (up2 (up2 (up2 (up2 (up2 (up2 (up2 R 94 0 (some 95)) 94 1 (some 96)) 94 3 (some 97)) 94 13 (some 98)) 94 14 (some 99)) 94 15 (some 100)) 94 16 (some 101)) 94 17 (some 102)) 94 18 (some 103)) 94 23 (some 104)) 94 24 (some 105)) 94 25 (some 106)) 94 26 (some 107)) 94 27 (some 108)) 94 28 (some 109)), 111, 16588)
  refine r_aload_n hX dX9_init_122 rfl ?_
  refine r_bipush (v := (40 : Int32)) hX dX9_init_123 (by decide) ?_
  refine r_newI (ci := 13) (N := 40) hX dX9_init_125 ac_boolean rfl (fun _ e => by cases e) rfl rfl (by decide) rfl (by decide) (by decide) (Nat.le_of_ble_eq_true rfl) (fr_fresh hF) (Nat.le_of_ble_eq_true rfl) (xr_le hr ⟨(Nat.le_of_ble_eq_true rfl), (Nat.le_of_ble_eq_true rfl)⟩) ?_
  show WR G X (mQ G X none zf SS) 127 [.ref 94] [.ref 110, .ref 94] M ((up2 (up2 (up2 (up2 (up2 (up2 (up2 (up2 (up2 (up2 (up2 (up2 (up2 (up2 (up2 R 94 0 (some 95)) 94 1 (some 96)) 94 3 (some 97)) 94 13 (some 98)) 94 14 (some 99)) 94 15 (some 100)) 94 16 (some 101)) 94 17 (some 102)) 94 18 (some 103)) 94 23 (some 104)) 94 24 (some 105)) 94 25 (some 106)) 94 26 (some 107)) 94 27 (some 108)) 94 28 (some 109)), 112, 16628)
  have hF := fr_up (n' := 112) (by decide) hF
  refine r_putR hX hT dX9_init_127 fl_9_57 rfl (by decide) (Nat.le_of_ble_eq_true rfl) (Or.inr ⟨_, rfl⟩) ?_
  have hF := fr_R (a := 94) (j := 29) (b := 110) (by decide) hF
  show WR G X (mQ G X none zf SS) 130 [.ref 94] [] M ((up2 (up2 (up2 (up2 (up2 (up2 (up2 (up2 (up2 (up2 (up2 (up2 (up2 (up2 (up2 (up2 R 94 0 (some 95)) 94 1 (some 96)) 94 3 (some 97)) 94 13 (some 98)) 94 14 (some 99)) 94 15 (some 100)) 94 16 (some 101)) 94 17 (some 102)) 94 18 (some 103)) 94 23 (some 104)) 94 24 (some 105)) 94 25 (some 106)) 94 26 (some 107)) 94 27 (some 108)) 94 28 (some 109)) 94 29 (some 110)), 112, 16628)
  refine r_aload_n hX dX9_init_130 rfl ?_
  refine r_bipush (v := (40 : Int32)) hX dX9_init_131 (by decide) ?_
  refine r_newI (ci := 13) (N := 40) hX dX9_init_133 ac_boolean rfl (fun _ e => by cases e) rfl rfl (by decide) rfl (by decide) (by decide) (Nat.le_of_ble_eq_true rfl) (fr_fresh hF) (Nat.le_of_ble_eq_true rfl) (xr_le hr ⟨(Nat.le_of_ble_eq_true rfl), (Nat.le_of_ble_eq_true rfl)⟩) ?_
  show WR G X (mQ G X none zf SS) 135 [.ref 94] [.ref 111, .ref 94] M ((up2 (up2 (up2 (up2 (up2 (up2 (up2 (up2 (up2 (up2 (up2 (up2 (up2 (up2 (up2 (up2 R 94 0 (some 95)) 94 1 (some 96)) 94 3 (some 97)) 94 13 (some 98)) 94 14 (some 99)) 94 15 (some 100)) 94 16 (some 101)) 94 17 (some 102)) 94 18 (some 103)) 94 23 (some 104)) 94 24 (some 105)) 94 25 (some 106)) 94 26 (some 107)) 94 27 (some 108)) 94 28 (some 109)) 94 29 (some 110)), 113, 16668)
  have hF := fr_up (n' := 113) (by decide) hF
  refine r_putR hX hT dX9_init_135 fl_9_60 rfl (by decide) (Nat.le_of_ble_eq_true rfl) (Or.inr ⟨_, rfl⟩) ?_
  have hF := fr_R (a := 94) (j := 30) (b := 111) (by decide) hF
  show WR G X (mQ G X none zf SS) 138 [.ref 94] [] M ((up2 (up2 (up2 (up2 (up2 (up2 (up2 (up2 (up2 (up2 (up2 (up2 (up2 (up2 (up2 (up2 (up2 R 94 0 (some 95)) 94 1 (some 96)) 94 3 (some 97)) 94 13 (some 98)) 94 14 (some 99)) 94 15 (some 100)) 94 16 (some 101)) 94 17 (some 102)) 94 18 (some 103)) 94 23 (some 104)) 94 24 (some 105)) 94 25 (some 106)) 94 26 (some 107)) 94 27 (some 108)) 94 28 (some 109)) 94 29 (some 110)) 94 30 (some 111)), 113, 16668)
  refine r_aload_n hX dX9_init_138 rfl ?_
  refine r_sipush (v := (1600 : Int32)) hX dX9_init_139 (by decide) ?_
  refine r_newI (ci := 13) (N := 1600) hX dX9_init_142 ac_boolean rfl (fun _ e => by cases e) rfl rfl (by decide) rfl (by decide) (by decide) (Nat.le_of_ble_eq_true rfl) (fr_fresh hF) (Nat.le_of_ble_eq_true rfl) (xr_le hr ⟨(Nat.le_of_ble_eq_true rfl), (Nat.le_of_ble_eq_true rfl)⟩) ?_
  show WR G X (mQ G X none zf SS) 144 [.ref 94] [.ref 112, .ref 94] M ((up2 (up2 (up2 (up2 (up2 (up2 (up2 (up2 (up2 (up2 (up2 (up2 (up2 (up2 (up2 (up2 (up2 R 94 0 (some 95)) 94 1 (some 96)) 94 3 (some 97)) 94 13 (some 98)) 94 14 (some 99)) 94 15 (some 100)) 94 16 (some 101)) 94 17 (some 102)) 94 18 (some 103)) 94 23 (some 104)) 94 24 (some 105)) 94 25 (some 106)) 94 26 (some 107)) 94 27 (some 108)) 94 28 (some 109)) 94 29 (some 110)) 94 30 (some 111)), 114, 18268)
  have hF := fr_up (n' := 114) (by decide) hF
  refine r_putR hX hT dX9_init_144 fl_9_63 rfl (by decide) (Nat.le_of_ble_eq_true rfl) (Or.inr ⟨_, rfl⟩) ?_
  have hF := fr_R (a := 94) (j := 35) (b := 112) (by decide) hF
  show WR G X (mQ G X none zf SS) 147 [.ref 94] [] M ((up2 (up2 (up2 (up2 (up2 (up2 (up2 (up2 (up2 (up2 (up2 (up2 (up2 (up2 (up2 (up2 (up2 (up2 R 94 0 (some 95)) 94 1 (some 96)) 94 3 (some 97)) 94 13 (some 98)) 94 14 (some 99)) 94 15 (some 100)) 94 16 (some 101)) 94 17 (some 102)) 94 18 (some 103)) 94 23 (some 104)) 94 24 (some 105)) 94 25 (some 106)) 94 26 (some 107)) 94 27 (some 108)) 94 28 (some 109)) 94 29 (some 110)) 94 30 (some 111)) 94 35 (some 112)), 114, 18268)
  refine r_aload_n hX dX9_init_147 rfl ?_
  refine r_bipush (v := (24 : Int32)) hX dX9_init_148 (by decide) ?_
  refine r_newJ (N := 24) hX dX9_init_150 ac_long rfl rfl (by decide) (by decide) (Nat.le_of_ble_eq_true rfl) (fr_fresh hF) (Nat.le_of_ble_eq_true rfl) (xr_le hr ⟨(Nat.le_of_ble_eq_true rfl), (Nat.le_of_ble_eq_true rfl)⟩) ?_
  show WR G X (mQ G X none zf SS) 152 [.ref 94] [.ref 113, .ref 94] M ((up2 (up2 (up2 (up2 (up2 (up2 (up2 (up2 (up2 (up2 (up2 (up2 (up2 (up2 (up2 (up2 (up2 (up2 R 94 0 (some 95)) 94 1 (some 96)) 94 3 (some 97)) 94 13 (some 98)) 94 14 (some 99)) 94 15 (some 100)) 94 16 (some 101)) 94 17 (some 102)) 94 18 (some 103)) 94 23 (some 104)) 94 24 (some 105)) 94 25 (some 106)) 94 26 (some 107)) 94 27 (some 108)) 94 28 (some 109)) 94 29 (some 110)) 94 30 (some 111)) 94 35 (some 112)), 115, 18292)
  have hF := fr_up (n' := 115) (by decide) hF
  refine r_putR hX hT dX9_init_152 fl_9_66 rfl (by decide) (Nat.le_of_ble_eq_true rfl) (Or.inr ⟨_, rfl⟩) ?_
  have hF := fr_R (a := 94) (j := 40) (b := 113) (by decide) hF
  show WR G X (mQ G X none zf SS) 155 [.ref 94] [] M ((up2 (up2 (up2 (up2 (up2 (up2 (up2 (up2 (up2 (up2 (up2 (up2 (up2 (up2 (up2 (up2 (up2 (up2 (up2 R 94 0 (some 95)) 94 1 (some 96)) 94 3 (some 97)) 94 13 (some 98)) 94 14 (some 99)) 94 15 (some 100)) 94 16 (some 101)) 94 17 (some 102)) 94 18 (some 103)) 94 23 (some 104)) 94 24 (some 105)) 94 25 (some 106)) 94 26 (some 107)) 94 27 (some 108)) 94 28 (some 109)) 94 29 (some 110)) 94 30 (some 111)) 94 35 (some 112)) 94 40 (some 113)), 115, 18292)
  refine r_aload_n hX dX9_init_155 rfl ?_
  refine r_bipush (v := (96 : Int32)) hX dX9_init_156 (by decide) ?_
  refine r_newI (ci := 10) (N := 96) hX dX9_init_158 ac_int rfl (fun _ e => by cases e) rfl rfl (by decide) rfl (by decide) (by decide) (Nat.le_of_ble_eq_true rfl) (fr_fresh hF) (Nat.le_of_ble_eq_true rfl) (xr_le hr ⟨(Nat.le_of_ble_eq_true rfl), (Nat.le_of_ble_eq_true rfl)⟩) ?_
  show WR G X (mQ G X none zf SS) 160 [.ref 94] [.ref 114, .ref 94] M ((up2 (up2 (up2 (up2 (up2 (up2 (up2 (up2 (up2 (up2 (up2 (up2 (up2 (up2 (up2 (up2 (up2 (up2 (up2 R 94 0 (some 95)) 94 1 (some 96)) 94 3 (some 97)) 94 13 (some 98)) 94 14 (some 99)) 94 15 (some 100)) 94 16 (some 101)) 94 17 (some 102)) 94 18 (some 103)) 94 23 (some 104)) 94 24 (some 105)) 94 25 (some 106)) 94 26 (some 107)) 94 27 (some 108)) 94 28 (some 109)) 94 29 (some 110)) 94 30 (some 111)) 94 35 (some 112)) 94 40 (some 113)), 116, 18388)
  have hF := fr_up (n' := 116) (by decide) hF
  refine r_putR hX hT dX9_init_160 fl_9_70 rfl (by decide) (Nat.le_of_ble_eq_true rfl) (Or.inr ⟨_, rfl⟩) ?_
  have hF := fr_R (a := 94) (j := 41) (b := 114) (by decide) hF
  show WR G X (mQ G X none zf SS) 163 [.ref 94] [] M ((up2 (up2 (up2 (up2 (up2 (up2 (up2 (up2 (up2 (up2 (up2 (up2 (up2 (up2 (up2 (up2 (up2 (up2 (up2 (up2 R 94 0 (some 95)) 94 1 (some 96)) 94 3 (some 97)) 94 13 (some 98)) 94 14 (some 99)) 94 15 (some 100)) 94 16 (some 101)) 94 17 (some 102)) 94 18 (some 103)) 94 23 (some 104)) 94 24 (some 105)) 94 25 (some 106)) 94 26 (some 107)) 94 27 (some 108)) 94 28 (some 109)) 94 29 (some 110)) 94 30 (some 111)) 94 35 (some 112)) 94 40 (some 113)) 94 41 (some 114)), 116, 18388)
  refine r_aload_n hX dX9_init_163 rfl ?_
  obtain ⟨z1, p1, h⟩ := bnd_s h
  rw [hSS]
  refine r_callV (As := []) (S1 := SS) hX dX9_init_164 mk_Fm_begins mi_Fm_begins ml_9_73 rfl rfl rfl rfl (by decide) (by decide) (Nat.le_of_ble_eq_true rfl) (xr_le hr ⟨(Nat.le_of_ble_eq_true rfl), (Nat.le_of_ble_eq_true rfl)⟩) (ok_Fm_begins (d := d) n M p1) ?_
  refine r_aload_n hX dX9_init_167 rfl ?_
  obtain ⟨z2, p2, h⟩ := bnd_s h
  refine r_callV (As := []) (S1 := SS) hX dX9_init_168 mk_Fm_takesDraft mi_Fm_takesDraft ml_9_76 rfl rfl rfl rfl (by decide) (by decide) (Nat.le_of_ble_eq_true rfl) (xr_le hr ⟨(Nat.le_of_ble_eq_true rfl), (Nat.le_of_ble_eq_true rfl)⟩) (ok_Fm_takesDraft (d := d) n z1 p2) ?_
  refine r_aload_n hX dX9_init_171 rfl ?_
  refine r_getf (v := .ref 95) hX dX9_init_172 fl_9_7 rfl (by decide) (Nat.le_of_ble_eq_true rfl) rfl ?_
  refine r_bipush (v := (6 : Int32)) hX dX9_init_175 (by decide) ?_
  refine r_iconst (v := (1 : Int32)) hX dX9_init_177 (by decide) ?_
  obtain ⟨k1, h⟩ := grd_s h
  refine r_iast hX dX9_init_178 rfl (by decide) (inb_at rfl k1) ?_
  obtain rfl := Option.some.inj h
  exact r_vret hX hT dX9_init_179
