def Fm_works_j51 (w0 : Int32) (M : Mm) : Option ((Int32 × Mm) ⊕ (Int32 × Mm)) :=
  some (.inl (w0, M))
def Fm_works_j50 (M : Mm) : Option ((Int32 × Mm) ⊕ (Int32 × Mm)) :=
  Fm_works_j51 (0 : Int32) M
def Fm_works_b15 (n : Nat) (v2 : Int32) (M : Mm) : Option ((Int32 × Mm) ⊕ (Int32 × Mm)) :=
  if v2 = (0 : Int32) then
    some (.inr (v2, M))
  else
    if (M.1 94 6) ≤ (M.1 94 5) then
      some (.inr (v2, M))
    else
      bnd (Fm_takesSign (59 : Int32) M) (fun z8 =>
      if z8.1 = true then
        bnd (Fm_readsStep n z8.2) (fun z11 =>
        if z11.1 = true then
          Fm_works_j51 (1 : Int32) z11.2
        else
          Fm_works_j50 z11.2)
      else
        Fm_works_j50 z8.2)
def Fm_works_b66 (n : Nat) (v3 : Int32) (M : Mm) : Option ((Int32 × Mm) ⊕ (Int32 × Mm)) :=
  if (M.1 94 11) ≤ v3 then
    some (.inr (v3, M))
  else
    bnd (Fm_does n v3 M) (fun z17 =>
    if z17.1 = true then
      some (.inl (v3 + (1 : Int32), z17.2))
    else
      some (.inr (v3, z17.2)))
def Fm_works_j55 (n : Nat) (v2 : Int32) (M : Mm) : Option (Int32 × Mm) :=
  if v2 = (0 : Int32) then
    some (M.1 94 7, M)
  else
    bnd (loop (fun s1 : Int32 × Mm => Fm_works_b66 n s1.1 s1.2) n ((0 : Int32), M)) (fun y20 =>
    some (y20.1, y20.2))
def Fm_works (n : Nat) (v1 : Int32) (M : Mm) : Option (Int32 × Mm) :=
  bnd (Fm_beginsText v1 M) (fun z1 =>
  if z1.1 = true then
    bnd (Fm_readsStep n z1.2) (fun z4 =>
    bnd (loop (fun s1 : Int32 × Mm => Fm_works_b15 n s1.1 s1.2) n (b2i z4.1, z4.2)) (fun y14 =>
    Fm_works_j55 n y14.1 y14.2))
  else
    some ((-1 : Int32), z1.2))
set_option maxRecDepth 100000 in
theorem ok_Fm_works_j51 (n : Nat) (w0 : Int32) (M : Mm)  {z : Int32 × Mm} {oo : (Int32 × Mm) ⊕ (Int32 × Mm)} {G : Gm} {X : Cx} {d : Nat}  (hX : XK G X 9 cX9_works 4 (d + 9)) (hT : XT X (some .int) "works") (hr : XR X SS) (hc : ∀ s1 : Int32 × Mm, oo = .inl s1 → WR G X (mQ G X (some (.int z.1)) z.2 SS) 15 [.ref 94, vU, .int s1.1, vU] [] s1.2 SS) (hx : ∀ x1 : Int32 × Mm, oo = .inr x1 → WR G X (mQ G X (some (.int z.1)) z.2 SS) 55 [.ref 94, vU, .int x1.1, vU] [] x1.2 SS) (h : Fm_works_j51 w0 M = some oo) : WR G X (mQ G X (some (.int z.1)) z.2 SS) 51 [.ref 94, vU, vU, vU] [.int w0] M SS := by
  unfold Fm_works_j51 at h
  refine r_istore_n (L1 := [.ref 94, vU, .int w0, vU]) hX dX9_works_51 (Nat.le_of_ble_eq_true rfl) rfl ?_
  refine r_goto (tgt := 15) hX dX9_works_52 (by decide) ?_
  exact hc (w0, M) (Option.some.inj h).symm
set_option maxRecDepth 100000 in
theorem ok_Fm_works_j50 (n : Nat) (M : Mm)  {z : Int32 × Mm} {oo : (Int32 × Mm) ⊕ (Int32 × Mm)} {G : Gm} {X : Cx} {d : Nat}  (hX : XK G X 9 cX9_works 4 (d + 9)) (hT : XT X (some .int) "works") (hr : XR X SS) (hc : ∀ s1 : Int32 × Mm, oo = .inl s1 → WR G X (mQ G X (some (.int z.1)) z.2 SS) 15 [.ref 94, vU, .int s1.1, vU] [] s1.2 SS) (hx : ∀ x1 : Int32 × Mm, oo = .inr x1 → WR G X (mQ G X (some (.int z.1)) z.2 SS) 55 [.ref 94, vU, .int x1.1, vU] [] x1.2 SS) (h : Fm_works_j50 M = some oo) : WR G X (mQ G X (some (.int z.1)) z.2 SS) 50 [.ref 94, vU, vU, vU] [] M SS := by
  unfold Fm_works_j50 at h
  refine r_iconst (v := (0 : Int32)) hX dX9_works_50 (by decide) ?_
  exact ok_Fm_works_j51 n (0 : Int32) M   hX hT hr hc hx h
set_option maxRecDepth 100000 in
theorem ok_Fm_works_b15 (n : Nat) (v2 : Int32) (M : Mm)  {z : Int32 × Mm} {oo : (Int32 × Mm) ⊕ (Int32 × Mm)} {G : Gm} {X : Cx} {d : Nat}  (hX : XK G X 9 cX9_works 4 (d + 9)) (hT : XT X (some .int) "works") (hr : XR X SS) (hc : ∀ s1 : Int32 × Mm, oo = .inl s1 → WR G X (mQ G X (some (.int z.1)) z.2 SS) 15 [.ref 94, vU, .int s1.1, vU] [] s1.2 SS) (hx : ∀ x1 : Int32 × Mm, oo = .inr x1 → WR G X (mQ G X (some (.int z.1)) z.2 SS) 55 [.ref 94, vU, .int x1.1, vU] [] x1.2 SS) (h : Fm_works_b15 n v2 M = some oo) : WR G X (mQ G X (some (.int z.1)) z.2 SS) 15 [.ref 94, vU, .int v2, vU] [] M SS := by
  unfold Fm_works_b15 at h
  refine r_iload_n hX dX9_works_15 rfl ?_
  refine r_if_eq (tgt := 55) hX dX9_works_16 (by decide) (fun g6 => ?_) (fun g6 => ?_)
  · have h := (if_pos g6).symm.trans h
    exact hx _ (Option.some.inj h).symm
  · have h := (if_neg g6).symm.trans h
    refine r_aload_n hX dX9_works_19 rfl ?_
    refine r_getf (v := .int (M.1 94 5)) hX dX9_works_20 fl_9_95 rfl (by decide) (by decide) rfl ?_
    refine r_aload_n hX dX9_works_23 rfl ?_
    refine r_getf (v := .int (M.1 94 6)) hX dX9_works_24 fl_9_98 rfl (by decide) (by decide) rfl ?_
    refine r_icmp_ge (tgt := 55) hX dX9_works_27 (by decide) (fun g7 => ?_) (fun g7 => ?_)
    · have h := (if_pos g7).symm.trans h
      exact hx _ (Option.some.inj h).symm
    · have h := (if_neg g7).symm.trans h
      refine r_aload_n hX dX9_works_30 rfl ?_
      refine r_bipush (v := (59 : Int32)) hX dX9_works_31 (by decide) ?_
      obtain ⟨z8, p9, h⟩ := bnd_s h
      refine r_callV (As := [.int (59 : Int32)]) hX dX9_works_33 mk_Fm_takesSign mi_Fm_takesSign ml_9_125 rfl rfl rfl rfl (by decide) (by decide) (Nat.le_of_ble_eq_true rfl) hr (ok_Fm_takesSign (d := d + 7) (59 : Int32) M p9) ?_
      refine r_ifb_eq (tgt := 50) hX dX9_works_36 (by decide) (fun g10 => ?_) (fun g10 => ?_)
      · have h := (if_neg (show ¬ z8.1 = true from fun e => by rw [g10] at e; cases e)).symm.trans h
        refine WR.fg (L' := [.ref 94, vU, vU, vU]) ⟨Or.inr rfl, Or.inl rfl, Or.inl rfl, Or.inl rfl, trivial⟩ ?_
        exact ok_Fm_works_j50 n z8.2   hX hT hr hc hx h
      · have h := (if_pos g10).symm.trans h
        refine r_aload_n hX dX9_works_39 rfl ?_
        obtain ⟨z11, p12, h⟩ := bnd_s h
        refine r_callV (As := []) hX dX9_works_40 mk_Fm_readsStep mi_Fm_readsStep ml_9_448 rfl rfl rfl rfl (by decide) (by decide) (Nat.le_of_ble_eq_true rfl) hr (ok_Fm_readsStep (d := d + 5) n z8.2 p12) ?_
        refine r_ifb_eq (tgt := 50) hX dX9_works_43 (by decide) (fun g13 => ?_) (fun g13 => ?_)
        · have h := (if_neg (show ¬ z11.1 = true from fun e => by rw [g13] at e; cases e)).symm.trans h
          refine WR.fg (L' := [.ref 94, vU, vU, vU]) ⟨Or.inr rfl, Or.inl rfl, Or.inl rfl, Or.inl rfl, trivial⟩ ?_
          exact ok_Fm_works_j50 n z11.2   hX hT hr hc hx h
        · have h := (if_pos g13).symm.trans h
          refine r_iconst (v := (1 : Int32)) hX dX9_works_46 (by decide) ?_
          refine r_goto (tgt := 51) hX dX9_works_47 (by decide) ?_
          refine WR.fg (L' := [.ref 94, vU, vU, vU]) ⟨Or.inr rfl, Or.inl rfl, Or.inl rfl, Or.inl rfl, trivial⟩ ?_
          exact ok_Fm_works_j51 n (1 : Int32) z11.2   hX hT hr hc hx h
set_option maxRecDepth 100000 in
theorem ok_Fm_works_b66 (n : Nat) (v3 : Int32) (M : Mm)  {z : Int32 × Mm} {oo : (Int32 × Mm) ⊕ (Int32 × Mm)} {G : Gm} {X : Cx} {d : Nat}  (hX : XK G X 9 cX9_works 4 (d + 9)) (hT : XT X (some .int) "works") (hr : XR X SS) (hc : ∀ s1 : Int32 × Mm, oo = .inl s1 → WR G X (mQ G X (some (.int z.1)) z.2 SS) 66 [.ref 94, vU, vU, .int s1.1] [] s1.2 SS) (hx : ∀ x1 : Int32 × Mm, oo = .inr x1 → WR G X (mQ G X (some (.int z.1)) z.2 SS) 89 [.ref 94, vU, vU, .int x1.1] [] x1.2 SS) (h : Fm_works_b66 n v3 M = some oo) : WR G X (mQ G X (some (.int z.1)) z.2 SS) 66 [.ref 94, vU, vU, .int v3] [] M SS := by
  unfold Fm_works_b66 at h
  refine r_iload_n hX dX9_works_66 rfl ?_
  refine r_aload_n hX dX9_works_67 rfl ?_
  refine r_getf (v := .int (M.1 94 11)) hX dX9_works_68 fl_9_138 rfl (by decide) (by decide) rfl ?_
  refine r_icmp_ge (tgt := 89) hX dX9_works_71 (by decide) (fun g16 => ?_) (fun g16 => ?_)
  · have h := (if_pos g16).symm.trans h
    exact hx _ (Option.some.inj h).symm
  · have h := (if_neg g16).symm.trans h
    refine r_aload_n hX dX9_works_74 rfl ?_
    refine r_iload_n hX dX9_works_75 rfl ?_
    obtain ⟨z17, p18, h⟩ := bnd_s h
    refine r_callV (As := [.int v3]) hX dX9_works_76 mk_Fm_does mi_Fm_does ml_9_451 rfl rfl rfl rfl (by decide) (by decide) (Nat.le_of_ble_eq_true rfl) hr (ok_Fm_does (d := d + 0) n v3 M p18) ?_
    refine r_ifb_eq (tgt := 89) hX dX9_works_79 (by decide) (fun g19 => ?_) (fun g19 => ?_)
    · have h := (if_neg (show ¬ z17.1 = true from fun e => by rw [g19] at e; cases e)).symm.trans h
      exact hx _ (Option.some.inj h).symm
    · have h := (if_pos g19).symm.trans h
      refine r_iload_n hX dX9_works_82 rfl ?_
      refine r_iconst (v := (1 : Int32)) hX dX9_works_83 (by decide) ?_
      refine r_iadd hX dX9_works_84 ?_
      refine r_istore_n (L1 := [.ref 94, vU, vU, .int (v3 + (1 : Int32))]) hX dX9_works_85 (Nat.le_of_ble_eq_true rfl) rfl ?_
      refine r_goto (tgt := 66) hX dX9_works_86 (by decide) ?_
      exact hc (v3 + (1 : Int32), z17.2) (Option.some.inj h).symm
set_option maxRecDepth 100000 in
theorem ok_Fm_works_j55 (n : Nat) (v2 : Int32) (M : Mm) {z : Int32 × Mm} {G : Gm} {X : Cx} {d : Nat}  (hX : XK G X 9 cX9_works 4 (d + 9)) (hT : XT X (some .int) "works") (hr : XR X SS) (h : Fm_works_j55 n v2 M = some z) : WR G X (mQ G X (some (.int z.1)) z.2 SS) 55 [.ref 94, vU, .int v2, vU] [] M SS := by
  unfold Fm_works_j55 at h
  refine r_iload_n hX dX9_works_55 rfl ?_
  refine r_if_ne (tgt := 64) hX dX9_works_56 (by decide) (fun g15 => ?_) (fun g15 => ?_)
  · have h := (if_neg g15).symm.trans h
    refine r_iconst (v := (0 : Int32)) hX dX9_works_64 (by decide) ?_
    refine r_istore_n (L1 := [.ref 94, vU, .int v2, .int (0 : Int32)]) hX dX9_works_65 (Nat.le_of_ble_eq_true rfl) rfl ?_
    refine WR.fg (L' := [.ref 94, vU, vU, .int (0 : Int32)]) ⟨Or.inr rfl, Or.inl rfl, Or.inl rfl, Or.inr rfl, trivial⟩ ?_
    obtain ⟨y20, h1, h⟩ := bnd_s h
    refine loop_ok (P := fun s1 : Int32 × Mm => WR G X (mQ G X (some (.int z.1)) z.2 SS) 66 [.ref 94, vU, vU, .int s1.1] [] s1.2 SS) (E := fun x1 : Int32 × Mm => WR G X (mQ G X (some (.int z.1)) z.2 SS) 89 [.ref 94, vU, vU, .int x1.1] [] x1.2 SS) (fun s1 o1 g1 g2 g3 => ok_Fm_works_b66 n s1.1 s1.2  hX hT hr g2 g3 g1) n ((0 : Int32), M) y20 h1 ?_
    show WR G X (mQ G X (some (.int z.1)) z.2 SS) 89 [.ref 94, vU, vU, .int y20.1] [] y20.2 SS
    refine r_iload_n hX dX9_works_89 rfl ?_
    obtain rfl := Option.some.inj h
    exact r_iret hX hT dX9_works_90 rfl
  · have h := (if_pos g15).symm.trans h
    refine r_aload_n hX dX9_works_59 rfl ?_
    refine r_getf (v := .int (M.1 94 7)) hX dX9_works_60 fl_9_101 rfl (by decide) (by decide) rfl ?_
    obtain rfl := Option.some.inj h
    exact r_iret hX hT dX9_works_63 rfl
set_option maxRecDepth 100000 in
theorem ok_Fm_works {G : Gm} {l : Launch} {d : Nat} (n : Nat) (v1 : Int32) (M : Mm) {z : Int32 × Mm}  (h : Fm_works n v1 M = some z) : CK G l (d + 9) md_Fm_works [.ref 94, .int v1] M SS (some (.int z.1)) z.2 SS := by
  refine ck_of mk_Fm_works (Nat.le_of_ble_eq_true rfl) ⟨Nat.le_refl _, Nat.le_refl _⟩ (fun X hX hT hS hr hl => ?_)
  subst hl
  unfold Fm_works at h
  show WR G X (mQ G X (some (.int z.1)) z.2 SS) 0 [.ref 94, .int v1, vU, vU] [] M SS
  refine r_aload_n hX dX9_works_0 rfl ?_
  refine r_iload_n hX dX9_works_1 rfl ?_
  obtain ⟨z1, p2, h⟩ := bnd_s h
  refine r_callV (As := [.int v1]) hX dX9_works_2 mk_Fm_beginsText mi_Fm_beginsText ml_9_173 rfl rfl rfl rfl (by decide) (by decide) (Nat.le_of_ble_eq_true rfl) hr (ok_Fm_beginsText (d := d + 7) v1 M p2) ?_
  refine r_ifb_ne (tgt := 10) hX dX9_works_5 (by decide) (fun g3 => ?_) (fun g3 => ?_)
  · have h := (if_pos g3).symm.trans h
    refine r_aload_n hX dX9_works_10 rfl ?_
    obtain ⟨z4, p5, h⟩ := bnd_s h
    refine r_callV (As := []) hX dX9_works_11 mk_Fm_readsStep mi_Fm_readsStep ml_9_448 rfl rfl rfl rfl (by decide) (by decide) (Nat.le_of_ble_eq_true rfl) hr (ok_Fm_readsStep (d := d + 5) n z1.2 p5) ?_
    refine r_istore_n (L1 := [.ref 94, .int v1, .int (b2i z4.1), vU]) hX dX9_works_14 (Nat.le_of_ble_eq_true rfl) rfl ?_
    refine WR.fg (L' := [.ref 94, vU, .int (b2i z4.1), vU]) ⟨Or.inr rfl, Or.inl rfl, Or.inr rfl, Or.inl rfl, trivial⟩ ?_
    obtain ⟨y14, h1, h⟩ := bnd_s h
    refine loop_ok (P := fun s1 : Int32 × Mm => WR G X (mQ G X (some (.int z.1)) z.2 SS) 15 [.ref 94, vU, .int s1.1, vU] [] s1.2 SS) (E := fun x1 : Int32 × Mm => WR G X (mQ G X (some (.int z.1)) z.2 SS) 55 [.ref 94, vU, .int x1.1, vU] [] x1.2 SS) (fun s1 o1 g1 g2 g3 => ok_Fm_works_b15 n s1.1 s1.2  hX hT hr g2 g3 g1) n (b2i z4.1, z4.2) y14 h1 ?_
    show WR G X (mQ G X (some (.int z.1)) z.2 SS) 55 [.ref 94, vU, .int y14.1, vU] [] y14.2 SS
    exact ok_Fm_works_j55 n y14.1 y14.2   hX hT hr h
  · have h := (if_neg (show ¬ z1.1 = true from fun e => by rw [g3] at e; cases e)).symm.trans h
    refine r_iconst (v := (-1 : Int32)) hX dX9_works_8 (by decide) ?_
    obtain rfl := Option.some.inj h
    exact r_iret hX hT dX9_works_9 rfl
def Fm_countOf_j29 (v2 : Int32) (v3 : Int32) : Option ((Int32 × Int32) ⊕ (Int32)) :=
  some (.inl (v2, v3 + (1 : Int32)))
def Fm_countOf_b4 (c1 : Int32) (Mc : Mm) (v2 : Int32) (v3 : Int32) : Option ((Int32 × Int32) ⊕ (Int32)) :=
  grd (inb (7 : Int32) 12256) (
  if (Mc.1 95 (tn (7 : Int32))) ≤ v3 then
    some (.inr v2)
  else
    bnd (Fm_of v3 (3 : Int32) Mc) (fun z3 =>
    if z3 = c1 then
      Fm_countOf_j29 (v2 + (1 : Int32)) v3
    else
      Fm_countOf_j29 v2 v3))
def Fm_countOf (n : Nat) (v1 : Int32) (M : Mm) : Option (Int32) :=
  bnd (loop (fun s1 : Int32 × Int32 => Fm_countOf_b4 v1 M s1.1 s1.2) n ((0 : Int32), (0 : Int32))) (fun y6 =>
  some y6)
set_option maxRecDepth 100000 in
theorem ok_Fm_countOf_j29 (n : Nat) (v2 : Int32) (v3 : Int32) {c1 : Int32} {Mc : Mm} {z : Int32} {oo : (Int32 × Int32) ⊕ (Int32)} {G : Gm} {X : Cx} {d : Nat}  (hX : XK G X 9 cX9_countOf 4 (d + 1)) (hT : XT X (some .int) "countOf") (hr : XR X SS) (hc : ∀ s1 : Int32 × Int32, oo = .inl s1 → WR G X (mQ G X (some (.int z)) Mc SS) 4 [.ref 94, .int c1, .int s1.1, .int s1.2] [] Mc SS) (hx : ∀ x1 : Int32, oo = .inr x1 → WR G X (mQ G X (some (.int z)) Mc SS) 35 [.ref 94, vU, .int x1, vU] [] Mc SS) (h : Fm_countOf_j29 v2 v3 = some oo) : WR G X (mQ G X (some (.int z)) Mc SS) 29 [.ref 94, .int c1, .int v2, .int v3] [] Mc SS := by
  unfold Fm_countOf_j29 at h
  refine r_iinc (v := v3 + (1 : Int32)) (L1 := [.ref 94, .int c1, .int v2, .int (v3 + (1 : Int32))]) hX dX9_countOf_29 rfl rfl rfl ?_
  refine r_goto (tgt := 4) hX dX9_countOf_32 (by decide) ?_
  exact hc (v2, v3 + (1 : Int32)) (Option.some.inj h).symm
set_option maxRecDepth 100000 in
theorem ok_Fm_countOf_b4 (n : Nat) (v2 : Int32) (v3 : Int32) {c1 : Int32} {Mc : Mm} {z : Int32} {oo : (Int32 × Int32) ⊕ (Int32)} {G : Gm} {X : Cx} {d : Nat}  (hX : XK G X 9 cX9_countOf 4 (d + 1)) (hT : XT X (some .int) "countOf") (hr : XR X SS) (hc : ∀ s1 : Int32 × Int32, oo = .inl s1 → WR G X (mQ G X (some (.int z)) Mc SS) 4 [.ref 94, .int c1, .int s1.1, .int s1.2] [] Mc SS) (hx : ∀ x1 : Int32, oo = .inr x1 → WR G X (mQ G X (some (.int z)) Mc SS) 35 [.ref 94, vU, .int x1, vU] [] Mc SS) (h : Fm_countOf_b4 c1 Mc v2 v3 = some oo) : WR G X (mQ G X (some (.int z)) Mc SS) 4 [.ref 94, .int c1, .int v2, .int v3] [] Mc SS := by
  unfold Fm_countOf_b4 at h
  refine r_iload_n hX dX9_countOf_4 rfl ?_
  refine r_aload_n hX dX9_countOf_5 rfl ?_
  refine r_getf (v := .ref 95) hX dX9_countOf_6 fl_9_7 rfl (by decide) (by decide) rfl ?_
  refine r_bipush (v := (7 : Int32)) hX dX9_countOf_9 (by decide) ?_
  obtain ⟨k1, h⟩ := grd_s h
  refine r_iald hX dX9_countOf_11 rfl (by decide) (inb_at rfl k1) ?_
  refine r_icmp_ge (tgt := 35) hX dX9_countOf_12 (by decide) (fun g2 => ?_) (fun g2 => ?_)
  · have h := (if_pos g2).symm.trans h
    refine WR.fg (L' := [.ref 94, vU, .int v2, vU]) ⟨Or.inr rfl, Or.inl rfl, Or.inr rfl, Or.inl rfl, trivial⟩ ?_
    exact hx _ (Option.some.inj h).symm
  · have h := (if_neg g2).symm.trans h
    refine r_aload_n hX dX9_countOf_15 rfl ?_
    refine r_iload_n hX dX9_countOf_16 rfl ?_
    refine r_iconst (v := (3 : Int32)) hX dX9_countOf_17 (by decide) ?_
    obtain ⟨z3, p4, h⟩ := bnd_s h
    refine r_callV (As := [.int v3, .int (3 : Int32)]) hX dX9_countOf_18 mk_Fm_of mi_Fm_of ml_9_79 rfl rfl rfl rfl (by decide) (by decide) (Nat.le_of_ble_eq_true rfl) hr (ok_Fm_of (d := d + 0) v3 (3 : Int32) Mc p4) ?_
    refine r_iload_n hX dX9_countOf_21 rfl ?_
    refine r_icmp_ne (tgt := 29) hX dX9_countOf_22 (by decide) (fun g5 => ?_) (fun g5 => ?_)
    · have h := (if_neg g5).symm.trans h
      exact ok_Fm_countOf_j29 n v2 v3   hX hT hr hc hx h
    · have h := (if_pos g5).symm.trans h
      refine r_iload_n hX dX9_countOf_25 rfl ?_
      refine r_iconst (v := (1 : Int32)) hX dX9_countOf_26 (by decide) ?_
      refine r_iadd hX dX9_countOf_27 ?_
      refine r_istore_n (L1 := [.ref 94, .int c1, .int (v2 + (1 : Int32)), .int v3]) hX dX9_countOf_28 (Nat.le_of_ble_eq_true rfl) rfl ?_
      exact ok_Fm_countOf_j29 n (v2 + (1 : Int32)) v3   hX hT hr hc hx h
set_option maxRecDepth 100000 in
theorem ok_Fm_countOf {G : Gm} {l : Launch} {d : Nat} (n : Nat) (v1 : Int32) (M : Mm) {z : Int32}  (h : Fm_countOf n v1 M = some z) : CK G l (d + 1) md_Fm_countOf [.ref 94, .int v1] M SS (some (.int z)) M SS := by
  refine ck_of mk_Fm_countOf (Nat.le_of_ble_eq_true rfl) ⟨Nat.le_refl _, Nat.le_refl _⟩ (fun X hX hT hS hr hl => ?_)
  subst hl
  unfold Fm_countOf at h
  show WR G X (mQ G X (some (.int z)) M SS) 0 [.ref 94, .int v1, vU, vU] [] M SS
  refine r_iconst (v := (0 : Int32)) hX dX9_countOf_0 (by decide) ?_
  refine r_istore_n (L1 := [.ref 94, .int v1, .int (0 : Int32), vU]) hX dX9_countOf_1 (Nat.le_of_ble_eq_true rfl) rfl ?_
  refine r_iconst (v := (0 : Int32)) hX dX9_countOf_2 (by decide) ?_
  refine r_istore_n (L1 := [.ref 94, .int v1, .int (0 : Int32), .int (0 : Int32)]) hX dX9_countOf_3 (Nat.le_of_ble_eq_true rfl) rfl ?_
  obtain ⟨y6, h1, h⟩ := bnd_s h
  refine loop_ok (P := fun s1 : Int32 × Int32 => WR G X (mQ G X (some (.int z)) M SS) 4 [.ref 94, .int v1, .int s1.1, .int s1.2] [] M SS) (E := fun x1 : Int32 => WR G X (mQ G X (some (.int z)) M SS) 35 [.ref 94, vU, .int x1, vU] [] M SS) (fun s1 o1 g1 g2 g3 => ok_Fm_countOf_b4 n s1.1 s1.2  hX hT hr g2 g3 g1) n ((0 : Int32), (0 : Int32)) y6 h1 ?_
  show WR G X (mQ G X (some (.int z)) M SS) 35 [.ref 94, vU, .int y6, vU] [] M SS
  refine r_iload_n hX dX9_countOf_35 rfl ?_
  obtain rfl := Option.some.inj h
  exact r_iret hX hT dX9_countOf_36 rfl
def Fm_usedOn_j46 (v2 : Int32) (v3 : Int32) : Option ((Int32 × Int32) ⊕ (Int32)) :=
  some (.inl (v2, v3 + (1 : Int32)))
def Fm_usedOn_b4 (c1 : Int32) (Mc : Mm) (v2 : Int32) (v3 : Int32) : Option ((Int32 × Int32) ⊕ (Int32)) :=
  grd (inb (7 : Int32) 12256) (
  if (Mc.1 95 (tn (7 : Int32))) ≤ v3 then
    some (.inr v2)
  else
    bnd (Fm_isLit v3 Mc) (fun z3 =>
    if z3 = true then
      bnd (Fm_of v3 (6 : Int32) Mc) (fun z6 =>
      bnd (Fm_has z6 c1 Mc) (fun z8 =>
      if z8 = true then
        bnd (Fm_of v3 (5 : Int32) Mc) (fun z11 =>
        Fm_usedOn_j46 (v2 + z11) v3)
      else
        Fm_usedOn_j46 v2 v3))
    else
      Fm_usedOn_j46 v2 v3))
def Fm_usedOn (n : Nat) (v1 : Int32) (M : Mm) : Option (Int32) :=
  bnd (loop (fun s1 : Int32 × Int32 => Fm_usedOn_b4 v1 M s1.1 s1.2) n ((0 : Int32), (0 : Int32))) (fun y13 =>
  some y13)
set_option maxRecDepth 100000 in
theorem ok_Fm_usedOn_j46 (n : Nat) (v2 : Int32) (v3 : Int32) {c1 : Int32} {Mc : Mm} {z : Int32} {oo : (Int32 × Int32) ⊕ (Int32)} {G : Gm} {X : Cx} {d : Nat}  (hX : XK G X 9 cX9_usedOn 4 (d + 2)) (hT : XT X (some .int) "usedOn") (hr : XR X SS) (hc : ∀ s1 : Int32 × Int32, oo = .inl s1 → WR G X (mQ G X (some (.int z)) Mc SS) 4 [.ref 94, .int c1, .int s1.1, .int s1.2] [] Mc SS) (hx : ∀ x1 : Int32, oo = .inr x1 → WR G X (mQ G X (some (.int z)) Mc SS) 52 [.ref 94, vU, .int x1, vU] [] Mc SS) (h : Fm_usedOn_j46 v2 v3 = some oo) : WR G X (mQ G X (some (.int z)) Mc SS) 46 [.ref 94, .int c1, .int v2, .int v3] [] Mc SS := by
  unfold Fm_usedOn_j46 at h
  refine r_iinc (v := v3 + (1 : Int32)) (L1 := [.ref 94, .int c1, .int v2, .int (v3 + (1 : Int32))]) hX dX9_usedOn_46 rfl rfl rfl ?_
  refine r_goto (tgt := 4) hX dX9_usedOn_49 (by decide) ?_
  exact hc (v2, v3 + (1 : Int32)) (Option.some.inj h).symm
set_option maxRecDepth 100000 in
theorem ok_Fm_usedOn_b4 (n : Nat) (v2 : Int32) (v3 : Int32) {c1 : Int32} {Mc : Mm} {z : Int32} {oo : (Int32 × Int32) ⊕ (Int32)} {G : Gm} {X : Cx} {d : Nat}  (hX : XK G X 9 cX9_usedOn 4 (d + 2)) (hT : XT X (some .int) "usedOn") (hr : XR X SS) (hc : ∀ s1 : Int32 × Int32, oo = .inl s1 → WR G X (mQ G X (some (.int z)) Mc SS) 4 [.ref 94, .int c1, .int s1.1, .int s1.2] [] Mc SS) (hx : ∀ x1 : Int32, oo = .inr x1 → WR G X (mQ G X (some (.int z)) Mc SS) 52 [.ref 94, vU, .int x1, vU] [] Mc SS) (h : Fm_usedOn_b4 c1 Mc v2 v3 = some oo) : WR G X (mQ G X (some (.int z)) Mc SS) 4 [.ref 94, .int c1, .int v2, .int v3] [] Mc SS := by
  unfold Fm_usedOn_b4 at h
  refine r_iload_n hX dX9_usedOn_4 rfl ?_
  refine r_aload_n hX dX9_usedOn_5 rfl ?_
  refine r_getf (v := .ref 95) hX dX9_usedOn_6 fl_9_7 rfl (by decide) (by decide) rfl ?_
  refine r_bipush (v := (7 : Int32)) hX dX9_usedOn_9 (by decide) ?_
  obtain ⟨k1, h⟩ := grd_s h
  refine r_iald hX dX9_usedOn_11 rfl (by decide) (inb_at rfl k1) ?_
  refine r_icmp_ge (tgt := 52) hX dX9_usedOn_12 (by decide) (fun g2 => ?_) (fun g2 => ?_)
  · have h := (if_pos g2).symm.trans h
    refine WR.fg (L' := [.ref 94, vU, .int v2, vU]) ⟨Or.inr rfl, Or.inl rfl, Or.inr rfl, Or.inl rfl, trivial⟩ ?_
    exact hx _ (Option.some.inj h).symm
  · have h := (if_neg g2).symm.trans h
    refine r_aload_n hX dX9_usedOn_15 rfl ?_
    refine r_iload_n hX dX9_usedOn_16 rfl ?_
    obtain ⟨z3, p4, h⟩ := bnd_s h
    refine r_callV (As := [.int v3]) hX dX9_usedOn_17 mk_Fm_isLit mi_Fm_isLit ml_9_219 rfl rfl rfl rfl (by decide) (by decide) (Nat.le_of_ble_eq_true rfl) hr (ok_Fm_isLit (d := d + 0) v3 Mc p4) ?_
    refine r_ifb_eq (tgt := 46) hX dX9_usedOn_20 (by decide) (fun g5 => ?_) (fun g5 => ?_)
    · have h := (if_neg (show ¬ z3 = true from fun e => by rw [g5] at e; cases e)).symm.trans h
      exact ok_Fm_usedOn_j46 n v2 v3   hX hT hr hc hx h
    · have h := (if_pos g5).symm.trans h
      refine r_aload_n hX dX9_usedOn_23 rfl ?_
      refine r_iload_n hX dX9_usedOn_24 rfl ?_
      refine r_bipush (v := (6 : Int32)) hX dX9_usedOn_25 (by decide) ?_
      obtain ⟨z6, p7, h⟩ := bnd_s h
      refine r_callV (As := [.int v3, .int (6 : Int32)]) hX dX9_usedOn_27 mk_Fm_of mi_Fm_of ml_9_79 rfl rfl rfl rfl (by decide) (by decide) (Nat.le_of_ble_eq_true rfl) hr (ok_Fm_of (d := d + 1) v3 (6 : Int32) Mc p7) ?_
      refine r_iload_n hX dX9_usedOn_30 rfl ?_
      obtain ⟨z8, p9, h⟩ := bnd_s h
      refine r_callS (As := [.int z6, .int c1]) hX dX9_usedOn_31 mk_Fm_has ms_Fm_has ml_9_179 rfl rfl rfl (Nat.le_of_ble_eq_true rfl) hr (ok_Fm_has (d := d + 1) z6 c1 Mc p9) ?_
      refine r_ifb_eq (tgt := 46) hX dX9_usedOn_34 (by decide) (fun g10 => ?_) (fun g10 => ?_)
      · have h := (if_neg (show ¬ z8 = true from fun e => by rw [g10] at e; cases e)).symm.trans h
        exact ok_Fm_usedOn_j46 n v2 v3   hX hT hr hc hx h
      · have h := (if_pos g10).symm.trans h
        refine r_iload_n hX dX9_usedOn_37 rfl ?_
        refine r_aload_n hX dX9_usedOn_38 rfl ?_
        refine r_iload_n hX dX9_usedOn_39 rfl ?_
        refine r_iconst (v := (5 : Int32)) hX dX9_usedOn_40 (by decide) ?_
        obtain ⟨z11, p12, h⟩ := bnd_s h
        refine r_callV (As := [.int v3, .int (5 : Int32)]) hX dX9_usedOn_41 mk_Fm_of mi_Fm_of ml_9_79 rfl rfl rfl rfl (by decide) (by decide) (Nat.le_of_ble_eq_true rfl) hr (ok_Fm_of (d := d + 1) v3 (5 : Int32) Mc p12) ?_
        refine r_iadd hX dX9_usedOn_44 ?_
        refine r_istore_n (L1 := [.ref 94, .int c1, .int (v2 + z11), .int v3]) hX dX9_usedOn_45 (Nat.le_of_ble_eq_true rfl) rfl ?_
        exact ok_Fm_usedOn_j46 n (v2 + z11) v3   hX hT hr hc hx h
set_option maxRecDepth 100000 in
theorem ok_Fm_usedOn {G : Gm} {l : Launch} {d : Nat} (n : Nat) (v1 : Int32) (M : Mm) {z : Int32}  (h : Fm_usedOn n v1 M = some z) : CK G l (d + 2) md_Fm_usedOn [.ref 94, .int v1] M SS (some (.int z)) M SS := by
  refine ck_of mk_Fm_usedOn (Nat.le_of_ble_eq_true rfl) ⟨Nat.le_refl _, Nat.le_refl _⟩ (fun X hX hT hS hr hl => ?_)
  subst hl
  unfold Fm_usedOn at h
  show WR G X (mQ G X (some (.int z)) M SS) 0 [.ref 94, .int v1, vU, vU] [] M SS
  refine r_iconst (v := (0 : Int32)) hX dX9_usedOn_0 (by decide) ?_
  refine r_istore_n (L1 := [.ref 94, .int v1, .int (0 : Int32), vU]) hX dX9_usedOn_1 (Nat.le_of_ble_eq_true rfl) rfl ?_
  refine r_iconst (v := (0 : Int32)) hX dX9_usedOn_2 (by decide) ?_
  refine r_istore_n (L1 := [.ref 94, .int v1, .int (0 : Int32), .int (0 : Int32)]) hX dX9_usedOn_3 (Nat.le_of_ble_eq_true rfl) rfl ?_
  obtain ⟨y13, h1, h⟩ := bnd_s h
  refine loop_ok (P := fun s1 : Int32 × Int32 => WR G X (mQ G X (some (.int z)) M SS) 4 [.ref 94, .int v1, .int s1.1, .int s1.2] [] M SS) (E := fun x1 : Int32 => WR G X (mQ G X (some (.int z)) M SS) 52 [.ref 94, vU, .int x1, vU] [] M SS) (fun s1 o1 g1 g2 g3 => ok_Fm_usedOn_b4 n s1.1 s1.2  hX hT hr g2 g3 g1) n ((0 : Int32), (0 : Int32)) y13 h1 ?_
  show WR G X (mQ G X (some (.int z)) M SS) 52 [.ref 94, vU, .int y13, vU] [] M SS
  refine r_iload_n hX dX9_usedOn_52 rfl ?_
  obtain rfl := Option.some.inj h
  exact r_iret hX hT dX9_usedOn_53 rfl
def Fm_usedOnAll_b4 (n : Nat) (Mc : Mm) (v1 : Int32) (v2 : Int32) : Option ((Int32 × Int32) ⊕ (Int32)) :=
  grd (inb (3 : Int32) 12256) (
  if (Mc.1 95 (tn (3 : Int32))) ≤ v2 then
    some (.inr v1)
  else
    bnd (Fm_usedOn n v2 Mc) (fun z3 =>
    some (.inl (v1 + z3, v2 + (1 : Int32)))))
def Fm_usedOnAll (n : Nat) (M : Mm) : Option (Int32) :=
  bnd (loop (fun s1 : Int32 × Int32 => Fm_usedOnAll_b4 n M s1.1 s1.2) n ((0 : Int32), (0 : Int32))) (fun y5 =>
  some y5)
set_option maxRecDepth 100000 in
theorem ok_Fm_usedOnAll_b4 (n : Nat) (v1 : Int32) (v2 : Int32)  {Mc : Mm} {z : Int32} {oo : (Int32 × Int32) ⊕ (Int32)} {G : Gm} {X : Cx} {d : Nat}  (hX : XK G X 9 cX9_usedOnAll 3 (d + 3)) (hT : XT X (some .int) "usedOnAll") (hr : XR X SS) (hc : ∀ s1 : Int32 × Int32, oo = .inl s1 → WR G X (mQ G X (some (.int z)) Mc SS) 4 [.ref 94, .int s1.1, .int s1.2] [] Mc SS) (hx : ∀ x1 : Int32, oo = .inr x1 → WR G X (mQ G X (some (.int z)) Mc SS) 28 [.ref 94, .int x1, vU] [] Mc SS) (h : Fm_usedOnAll_b4 n Mc v1 v2 = some oo) : WR G X (mQ G X (some (.int z)) Mc SS) 4 [.ref 94, .int v1, .int v2] [] Mc SS := by
  unfold Fm_usedOnAll_b4 at h
  refine r_iload_n hX dX9_usedOnAll_4 rfl ?_
  refine r_aload_n hX dX9_usedOnAll_5 rfl ?_
  refine r_getf (v := .ref 95) hX dX9_usedOnAll_6 fl_9_7 rfl (by decide) (by decide) rfl ?_
  refine r_iconst (v := (3 : Int32)) hX dX9_usedOnAll_9 (by decide) ?_
  obtain ⟨k1, h⟩ := grd_s h
  refine r_iald hX dX9_usedOnAll_10 rfl (by decide) (inb_at rfl k1) ?_
  refine r_icmp_ge (tgt := 28) hX dX9_usedOnAll_11 (by decide) (fun g2 => ?_) (fun g2 => ?_)
  · have h := (if_pos g2).symm.trans h
    refine WR.fg (L' := [.ref 94, .int v1, vU]) ⟨Or.inr rfl, Or.inr rfl, Or.inl rfl, trivial⟩ ?_
    exact hx _ (Option.some.inj h).symm
  · have h := (if_neg g2).symm.trans h
    refine r_iload_n hX dX9_usedOnAll_14 rfl ?_
    refine r_aload_n hX dX9_usedOnAll_15 rfl ?_
    refine r_iload_n hX dX9_usedOnAll_16 rfl ?_
    obtain ⟨z3, p4, h⟩ := bnd_s h
    refine r_callV (As := [.int v2]) hX dX9_usedOnAll_17 mk_Fm_usedOn mi_Fm_usedOn ml_9_454 rfl rfl rfl rfl (by decide) (by decide) (Nat.le_of_ble_eq_true rfl) hr (ok_Fm_usedOn (d := d + 0) n v2 Mc p4) ?_
    refine r_iadd hX dX9_usedOnAll_20 ?_
    refine r_istore_n (L1 := [.ref 94, .int (v1 + z3), .int v2]) hX dX9_usedOnAll_21 (Nat.le_of_ble_eq_true rfl) rfl ?_
    refine r_iinc (v := v2 + (1 : Int32)) (L1 := [.ref 94, .int (v1 + z3), .int (v2 + (1 : Int32))]) hX dX9_usedOnAll_22 rfl rfl rfl ?_
    refine r_goto (tgt := 4) hX dX9_usedOnAll_25 (by decide) ?_
    exact hc (v1 + z3, v2 + (1 : Int32)) (Option.some.inj h).symm
set_option maxRecDepth 100000 in
theorem ok_Fm_usedOnAll {G : Gm} {l : Launch} {d : Nat} (n : Nat) (M : Mm) {z : Int32}  (h : Fm_usedOnAll n M = some z) : CK G l (d + 3) md_Fm_usedOnAll [.ref 94] M SS (some (.int z)) M SS := by
  refine ck_of mk_Fm_usedOnAll (Nat.le_of_ble_eq_true rfl) ⟨Nat.le_refl _, Nat.le_refl _⟩ (fun X hX hT hS hr hl => ?_)
  subst hl
  unfold Fm_usedOnAll at h
  show WR G X (mQ G X (some (.int z)) M SS) 0 [.ref 94, vU, vU] [] M SS
  refine r_iconst (v := (0 : Int32)) hX dX9_usedOnAll_0 (by decide) ?_
  refine r_istore_n (L1 := [.ref 94, .int (0 : Int32), vU]) hX dX9_usedOnAll_1 (Nat.le_of_ble_eq_true rfl) rfl ?_
  refine r_iconst (v := (0 : Int32)) hX dX9_usedOnAll_2 (by decide) ?_
  refine r_istore_n (L1 := [.ref 94, .int (0 : Int32), .int (0 : Int32)]) hX dX9_usedOnAll_3 (Nat.le_of_ble_eq_true rfl) rfl ?_
  obtain ⟨y5, h1, h⟩ := bnd_s h
  refine loop_ok (P := fun s1 : Int32 × Int32 => WR G X (mQ G X (some (.int z)) M SS) 4 [.ref 94, .int s1.1, .int s1.2] [] M SS) (E := fun x1 : Int32 => WR G X (mQ G X (some (.int z)) M SS) 28 [.ref 94, .int x1, vU] [] M SS) (fun s1 o1 g1 g2 g3 => ok_Fm_usedOnAll_b4 n s1.1 s1.2  hX hT hr g2 g3 g1) n ((0 : Int32), (0 : Int32)) y5 h1 ?_
  show WR G X (mQ G X (some (.int z)) M SS) 28 [.ref 94, .int y5, vU] [] M SS
  refine r_iload_n hX dX9_usedOnAll_28 rfl ?_
  obtain rfl := Option.some.inj h
  exact r_iret hX hT dX9_usedOnAll_29 rfl
def Fm_gridIs (n : Nat) (v1 : Int32) (M : Mm) : Option (Int32) :=
  bnd (Fm_in v1 (20 : Int32) (23 : Int32) M) (fun z1 =>
  if z1 = true then
    grd (inb (((8 : Int32) + v1) - (20 : Int32)) 12256) (
    some (M.1 95 (tn (((8 : Int32) + v1) - (20 : Int32)))))
  else
    if v1 = (0 : Int32) then
      grd (inb (0 : Int32) 12256) (
      some (M.1 95 (tn (0 : Int32))))
    else
      if v1 = (1 : Int32) then
        grd (inb (1 : Int32) 12256) (
        some (M.1 95 (tn (1 : Int32))))
      else
        if v1 = (2 : Int32) then
          grd (inb (2 : Int32) 12256) (
          some (M.1 95 (tn (2 : Int32))))
        else
          if v1 = (3 : Int32) then
            grd (inb (3 : Int32) 12256) (
            some (M.1 95 (tn (3 : Int32))))
          else
            if v1 = (4 : Int32) then
              grd (inb (12 : Int32) 12256) (
              some (M.1 95 (tn (12 : Int32))))
            else
              if v1 = (5 : Int32) then
                grd (inb (7 : Int32) 12256) (
                some (M.1 95 (tn (7 : Int32))))
              else
                if v1 = (6 : Int32) then
                  bnd (Fm_countOf n (v1 - (6 : Int32)) M) (fun z17 =>
                  some z17)
                else
                  if v1 = (7 : Int32) then
                    bnd (Fm_countOf n (v1 - (6 : Int32)) M) (fun z20 =>
                    some z20)
                  else
                    if v1 = (8 : Int32) then
                      bnd (Fm_countOf n (v1 - (6 : Int32)) M) (fun z23 =>
                      some z23)
                    else
                      if v1 = (9 : Int32) then
                        bnd (Fm_countOf n (v1 - (6 : Int32)) M) (fun z26 =>
                        some z26)
                      else
                        if v1 = (10 : Int32) then
                          bnd (Fm_top n M) (fun z29 =>
                          some z29)
                        else
                          if v1 = (11 : Int32) then
                            bnd (Fm_usedOnAll n M) (fun z32 =>
                            some z32)
                          else
                            if v1 = (12 : Int32) then
                              grd (inb (5 : Int32) 12256) (
                              some (M.1 95 (tn (5 : Int32))))
                            else
                              if v1 = (13 : Int32) then
                                grd (inb (6 : Int32) 12256) (
                                some (M.1 95 (tn (6 : Int32))))
                              else
                                some (-2 : Int32))
set_option maxRecDepth 100000 in
theorem ok_Fm_gridIs {G : Gm} {l : Launch} {d : Nat} (n : Nat) (v1 : Int32) (M : Mm) {z : Int32}  (h : Fm_gridIs n v1 M = some z) : CK G l (d + 4) md_Fm_gridIs [.ref 94, .int v1] M SS (some (.int z)) M SS := by
  refine ck_of mk_Fm_gridIs (Nat.le_of_ble_eq_true rfl) ⟨Nat.le_refl _, Nat.le_refl _⟩ (fun X hX hT hS hr hl => ?_)
  subst hl
  unfold Fm_gridIs at h
  show WR G X (mQ G X (some (.int z)) M SS) 0 [.ref 94, .int v1] [] M SS
  refine r_iload_n hX dX9_gridIs_0 rfl ?_
  refine r_bipush (v := (20 : Int32)) hX dX9_gridIs_1 (by decide) ?_
  refine r_bipush (v := (23 : Int32)) hX dX9_gridIs_3 (by decide) ?_
  obtain ⟨z1, p2, h⟩ := bnd_s h
  refine r_callS (As := [.int v1, .int (20 : Int32), .int (23 : Int32)]) hX dX9_gridIs_5 mk_Fm_in ms_Fm_in ml_9_83 rfl rfl rfl (Nat.le_of_ble_eq_true rfl) hr (ok_Fm_in (d := d + 3) v1 (20 : Int32) (23 : Int32) M p2) ?_
  refine r_ifb_eq (tgt := 24) hX dX9_gridIs_8 (by decide) (fun g3 => ?_) (fun g3 => ?_)
  · have h := (if_neg (show ¬ z1 = true from fun e => by rw [g3] at e; cases e)).symm.trans h
    refine r_iload_n hX dX9_gridIs_24 rfl ?_
    by_cases g4 : v1 = (0 : Int32)
    · have h := (if_pos g4).symm.trans h
      refine r_tabEq (tgt := 96) hX dX9_gridIs_25 g4 ⟨by decide, by decide, rfl⟩ (by decide) ?_
      refine r_aload_n hX dX9_gridIs_96 rfl ?_
      refine r_getf (v := .ref 95) hX dX9_gridIs_97 fl_9_7 rfl (by decide) (by decide) rfl ?_
      refine r_iconst (v := (0 : Int32)) hX dX9_gridIs_100 (by decide) ?_
      obtain ⟨k5, h⟩ := grd_s h
      refine r_iald hX dX9_gridIs_101 rfl (by decide) (inb_at rfl k5) ?_
      obtain rfl := Option.some.inj h
      exact r_iret hX hT dX9_gridIs_102 rfl
    · have h := (if_neg g4).symm.trans h
      by_cases g6 : v1 = (1 : Int32)
      · have h := (if_pos g6).symm.trans h
        refine r_tabEq (tgt := 103) hX dX9_gridIs_25 g6 ⟨by decide, by decide, rfl⟩ (by decide) ?_
        refine r_aload_n hX dX9_gridIs_103 rfl ?_
        refine r_getf (v := .ref 95) hX dX9_gridIs_104 fl_9_7 rfl (by decide) (by decide) rfl ?_
        refine r_iconst (v := (1 : Int32)) hX dX9_gridIs_107 (by decide) ?_
        obtain ⟨k7, h⟩ := grd_s h
        refine r_iald hX dX9_gridIs_108 rfl (by decide) (inb_at rfl k7) ?_
        obtain rfl := Option.some.inj h
        exact r_iret hX hT dX9_gridIs_109 rfl
      · have h := (if_neg g6).symm.trans h
        by_cases g8 : v1 = (2 : Int32)
        · have h := (if_pos g8).symm.trans h
          refine r_tabEq (tgt := 110) hX dX9_gridIs_25 g8 ⟨by decide, by decide, rfl⟩ (by decide) ?_
          refine r_aload_n hX dX9_gridIs_110 rfl ?_
          refine r_getf (v := .ref 95) hX dX9_gridIs_111 fl_9_7 rfl (by decide) (by decide) rfl ?_
          refine r_iconst (v := (2 : Int32)) hX dX9_gridIs_114 (by decide) ?_
          obtain ⟨k9, h⟩ := grd_s h
          refine r_iald hX dX9_gridIs_115 rfl (by decide) (inb_at rfl k9) ?_
          obtain rfl := Option.some.inj h
          exact r_iret hX hT dX9_gridIs_116 rfl
        · have h := (if_neg g8).symm.trans h
          by_cases g10 : v1 = (3 : Int32)
          · have h := (if_pos g10).symm.trans h
            refine r_tabEq (tgt := 117) hX dX9_gridIs_25 g10 ⟨by decide, by decide, rfl⟩ (by decide) ?_
            refine r_aload_n hX dX9_gridIs_117 rfl ?_
            refine r_getf (v := .ref 95) hX dX9_gridIs_118 fl_9_7 rfl (by decide) (by decide) rfl ?_
            refine r_iconst (v := (3 : Int32)) hX dX9_gridIs_121 (by decide) ?_
            obtain ⟨k11, h⟩ := grd_s h
            refine r_iald hX dX9_gridIs_122 rfl (by decide) (inb_at rfl k11) ?_
            obtain rfl := Option.some.inj h
            exact r_iret hX hT dX9_gridIs_123 rfl
          · have h := (if_neg g10).symm.trans h
            by_cases g12 : v1 = (4 : Int32)
            · have h := (if_pos g12).symm.trans h
              refine r_tabEq (tgt := 124) hX dX9_gridIs_25 g12 ⟨by decide, by decide, rfl⟩ (by decide) ?_
              refine r_aload_n hX dX9_gridIs_124 rfl ?_
              refine r_getf (v := .ref 95) hX dX9_gridIs_125 fl_9_7 rfl (by decide) (by decide) rfl ?_
              refine r_bipush (v := (12 : Int32)) hX dX9_gridIs_128 (by decide) ?_
              obtain ⟨k13, h⟩ := grd_s h
              refine r_iald hX dX9_gridIs_130 rfl (by decide) (inb_at rfl k13) ?_
              obtain rfl := Option.some.inj h
              exact r_iret hX hT dX9_gridIs_131 rfl
            · have h := (if_neg g12).symm.trans h
              by_cases g14 : v1 = (5 : Int32)
              · have h := (if_pos g14).symm.trans h
                refine r_tabEq (tgt := 132) hX dX9_gridIs_25 g14 ⟨by decide, by decide, rfl⟩ (by decide) ?_
                refine r_aload_n hX dX9_gridIs_132 rfl ?_
                refine r_getf (v := .ref 95) hX dX9_gridIs_133 fl_9_7 rfl (by decide) (by decide) rfl ?_
                refine r_bipush (v := (7 : Int32)) hX dX9_gridIs_136 (by decide) ?_
                obtain ⟨k15, h⟩ := grd_s h
                refine r_iald hX dX9_gridIs_138 rfl (by decide) (inb_at rfl k15) ?_
                obtain rfl := Option.some.inj h
                exact r_iret hX hT dX9_gridIs_139 rfl
              · have h := (if_neg g14).symm.trans h
                by_cases g16 : v1 = (6 : Int32)
                · have h := (if_pos g16).symm.trans h
                  refine r_tabEq (tgt := 140) hX dX9_gridIs_25 g16 ⟨by decide, by decide, rfl⟩ (by decide) ?_
                  refine r_aload_n hX dX9_gridIs_140 rfl ?_
                  refine r_iload_n hX dX9_gridIs_141 rfl ?_
                  refine r_bipush (v := (6 : Int32)) hX dX9_gridIs_142 (by decide) ?_
                  refine r_isub hX dX9_gridIs_144 ?_
                  obtain ⟨z17, p18, h⟩ := bnd_s h
                  refine r_callV (As := [.int (v1 - (6 : Int32))]) hX dX9_gridIs_145 mk_Fm_countOf mi_Fm_countOf ml_9_457 rfl rfl rfl rfl (by decide) (by decide) (Nat.le_of_ble_eq_true rfl) hr (ok_Fm_countOf (d := d + 2) n (v1 - (6 : Int32)) M p18) ?_
                  obtain rfl := Option.some.inj h
                  exact r_iret hX hT dX9_gridIs_148 rfl
                · have h := (if_neg g16).symm.trans h
                  by_cases g19 : v1 = (7 : Int32)
                  · have h := (if_pos g19).symm.trans h
                    refine r_tabEq (tgt := 140) hX dX9_gridIs_25 g19 ⟨by decide, by decide, rfl⟩ (by decide) ?_
                    refine r_aload_n hX dX9_gridIs_140 rfl ?_
                    refine r_iload_n hX dX9_gridIs_141 rfl ?_
                    refine r_bipush (v := (6 : Int32)) hX dX9_gridIs_142 (by decide) ?_
                    refine r_isub hX dX9_gridIs_144 ?_
                    obtain ⟨z20, p21, h⟩ := bnd_s h
                    refine r_callV (As := [.int (v1 - (6 : Int32))]) hX dX9_gridIs_145 mk_Fm_countOf mi_Fm_countOf ml_9_457 rfl rfl rfl rfl (by decide) (by decide) (Nat.le_of_ble_eq_true rfl) hr (ok_Fm_countOf (d := d + 2) n (v1 - (6 : Int32)) M p21) ?_
                    obtain rfl := Option.some.inj h
                    exact r_iret hX hT dX9_gridIs_148 rfl
                  · have h := (if_neg g19).symm.trans h
                    by_cases g22 : v1 = (8 : Int32)
                    · have h := (if_pos g22).symm.trans h
                      refine r_tabEq (tgt := 140) hX dX9_gridIs_25 g22 ⟨by decide, by decide, rfl⟩ (by decide) ?_
                      refine r_aload_n hX dX9_gridIs_140 rfl ?_
                      refine r_iload_n hX dX9_gridIs_141 rfl ?_
                      refine r_bipush (v := (6 : Int32)) hX dX9_gridIs_142 (by decide) ?_
                      refine r_isub hX dX9_gridIs_144 ?_
                      obtain ⟨z23, p24, h⟩ := bnd_s h
                      refine r_callV (As := [.int (v1 - (6 : Int32))]) hX dX9_gridIs_145 mk_Fm_countOf mi_Fm_countOf ml_9_457 rfl rfl rfl rfl (by decide) (by decide) (Nat.le_of_ble_eq_true rfl) hr (ok_Fm_countOf (d := d + 2) n (v1 - (6 : Int32)) M p24) ?_
                      obtain rfl := Option.some.inj h
                      exact r_iret hX hT dX9_gridIs_148 rfl
                    · have h := (if_neg g22).symm.trans h
                      by_cases g25 : v1 = (9 : Int32)
                      · have h := (if_pos g25).symm.trans h
                        refine r_tabEq (tgt := 140) hX dX9_gridIs_25 g25 ⟨by decide, by decide, rfl⟩ (by decide) ?_
                        refine r_aload_n hX dX9_gridIs_140 rfl ?_
                        refine r_iload_n hX dX9_gridIs_141 rfl ?_
                        refine r_bipush (v := (6 : Int32)) hX dX9_gridIs_142 (by decide) ?_
                        refine r_isub hX dX9_gridIs_144 ?_
                        obtain ⟨z26, p27, h⟩ := bnd_s h
                        refine r_callV (As := [.int (v1 - (6 : Int32))]) hX dX9_gridIs_145 mk_Fm_countOf mi_Fm_countOf ml_9_457 rfl rfl rfl rfl (by decide) (by decide) (Nat.le_of_ble_eq_true rfl) hr (ok_Fm_countOf (d := d + 2) n (v1 - (6 : Int32)) M p27) ?_
                        obtain rfl := Option.some.inj h
                        exact r_iret hX hT dX9_gridIs_148 rfl
                      · have h := (if_neg g25).symm.trans h
                        by_cases g28 : v1 = (10 : Int32)
                        · have h := (if_pos g28).symm.trans h
                          refine r_tabEq (tgt := 149) hX dX9_gridIs_25 g28 ⟨by decide, by decide, rfl⟩ (by decide) ?_
                          refine r_aload_n hX dX9_gridIs_149 rfl ?_
                          obtain ⟨z29, p30, h⟩ := bnd_s h
                          refine r_callV (As := []) hX dX9_gridIs_150 mk_Fm_top mi_Fm_top ml_9_317 rfl rfl rfl rfl (by decide) (by decide) (Nat.le_of_ble_eq_true rfl) hr (ok_Fm_top (d := d + 0) n M p30) ?_
                          obtain rfl := Option.some.inj h
                          exact r_iret hX hT dX9_gridIs_153 rfl
                        · have h := (if_neg g28).symm.trans h
                          by_cases g31 : v1 = (11 : Int32)
                          · have h := (if_pos g31).symm.trans h
                            refine r_tabEq (tgt := 154) hX dX9_gridIs_25 g31 ⟨by decide, by decide, rfl⟩ (by decide) ?_
                            refine r_aload_n hX dX9_gridIs_154 rfl ?_
                            obtain ⟨z32, p33, h⟩ := bnd_s h
                            refine r_callV (As := []) hX dX9_gridIs_155 mk_Fm_usedOnAll mi_Fm_usedOnAll ml_9_460 rfl rfl rfl rfl (by decide) (by decide) (Nat.le_of_ble_eq_true rfl) hr (ok_Fm_usedOnAll (d := d + 0) n M p33) ?_
                            obtain rfl := Option.some.inj h
                            exact r_iret hX hT dX9_gridIs_158 rfl
                          · have h := (if_neg g31).symm.trans h
                            by_cases g34 : v1 = (12 : Int32)
                            · have h := (if_pos g34).symm.trans h
                              refine r_tabEq (tgt := 159) hX dX9_gridIs_25 g34 ⟨by decide, by decide, rfl⟩ (by decide) ?_
                              refine r_aload_n hX dX9_gridIs_159 rfl ?_
                              refine r_getf (v := .ref 95) hX dX9_gridIs_160 fl_9_7 rfl (by decide) (by decide) rfl ?_
                              refine r_iconst (v := (5 : Int32)) hX dX9_gridIs_163 (by decide) ?_
                              obtain ⟨k35, h⟩ := grd_s h
                              refine r_iald hX dX9_gridIs_164 rfl (by decide) (inb_at rfl k35) ?_
                              obtain rfl := Option.some.inj h
                              exact r_iret hX hT dX9_gridIs_165 rfl
                            · have h := (if_neg g34).symm.trans h
                              by_cases g36 : v1 = (13 : Int32)
                              · have h := (if_pos g36).symm.trans h
                                refine r_tabEq (tgt := 166) hX dX9_gridIs_25 g36 ⟨by decide, by decide, rfl⟩ (by decide) ?_
                                refine r_aload_n hX dX9_gridIs_166 rfl ?_
                                refine r_getf (v := .ref 95) hX dX9_gridIs_167 fl_9_7 rfl (by decide) (by decide) rfl ?_
                                refine r_bipush (v := (6 : Int32)) hX dX9_gridIs_170 (by decide) ?_
                                obtain ⟨k37, h⟩ := grd_s h
                                refine r_iald hX dX9_gridIs_172 rfl (by decide) (inb_at rfl k37) ?_
                                obtain rfl := Option.some.inj h
                                exact r_iret hX hT dX9_gridIs_173 rfl
                              · have h := (if_neg g36).symm.trans h
                                refine r_tabOut (tgt := 174) hX dX9_gridIs_25 (by have q0 := ne_ti g4 (k := 0) (by decide); have q1 := ne_ti g6 (k := 1) (by decide); have q2 := ne_ti g8 (k := 2) (by decide); have q3 := ne_ti g10 (k := 3) (by decide); have q4 := ne_ti g12 (k := 4) (by decide); have q5 := ne_ti g14 (k := 5) (by decide); have q6 := ne_ti g16 (k := 6) (by decide); have q7 := ne_ti g19 (k := 7) (by decide); have q8 := ne_ti g22 (k := 8) (by decide); have q9 := ne_ti g25 (k := 9) (by decide); have q10 := ne_ti g28 (k := 10) (by decide); have q11 := ne_ti g31 (k := 11) (by decide); have q12 := ne_ti g34 (k := 12) (by decide); have q13 := ne_ti g36 (k := 13) (by decide); omega) (by decide) ?_
                                refine r_bipush (v := (-2 : Int32)) hX dX9_gridIs_174 (by decide) ?_
                                obtain rfl := Option.some.inj h
                                exact r_iret hX hT dX9_gridIs_176 rfl
  · have h := (if_pos g3).symm.trans h
    refine r_aload_n hX dX9_gridIs_11 rfl ?_
    refine r_getf (v := .ref 95) hX dX9_gridIs_12 fl_9_7 rfl (by decide) (by decide) rfl ?_
    refine r_bipush (v := (8 : Int32)) hX dX9_gridIs_15 (by decide) ?_
    refine r_iload_n hX dX9_gridIs_17 rfl ?_
    refine r_iadd hX dX9_gridIs_18 ?_
    refine r_bipush (v := (20 : Int32)) hX dX9_gridIs_19 (by decide) ?_
    refine r_isub hX dX9_gridIs_21 ?_
    obtain ⟨k38, h⟩ := grd_s h
    refine r_iald hX dX9_gridIs_22 rfl (by decide) (inb_at rfl k38) ?_
    obtain rfl := Option.some.inj h
    exact r_iret hX hT dX9_gridIs_23 rfl
def Fm_findsRows_j96 (v3 : Int32) (v4 : Int32) (M : Mm) : Option ((Int32 × Int32 × Mm) ⊕ (Mm)) :=
  some (.inl (v3, v4 + (1 : Int32), M))
def Fm_findsRows_j76 (c2 : Int32) (v3 : Int32) (v4 : Int32) (M : Mm) : Option ((Int32 × Int32 × Mm) ⊕ (Mm)) :=
  bnd (Fm_max (0 : Int32) ((v3 - c2) + (1 : Int32)) M) (fun z9 =>
  Fm_findsRows_j96 (0 : Int32) v4 ((up2 M.1 94 44 ((M.1 94 44) + z9)), M.2))
def Fm_findsRows_b20 (n : Nat) (c1 : Int32) (c2 : Int32) (v3 : Int32) (v4 : Int32) (M : Mm) : Option ((Int32 × Int32 × Mm) ⊕ (Mm)) :=
  grd (inb (1 : Int32) 12256) (
  if (M.1 95 (tn (1 : Int32))) < v4 then
    some (.inr M)
  else
    bnd (Fm_isFree n ((1 : Int32) <<< (c1 &&& 31)) v4 M) (fun z3 =>
    if z3 = true then
      Fm_findsRows_j96 (v3 + (1 : Int32)) v4 M
    else
      bnd (Fm_max (M.1 94 42) v3 M) (fun z6 =>
      if v3 ≤ (0 : Int32) then
        Fm_findsRows_j76 c2 v3 v4 ((up2 M.1 94 42 z6), M.2)
      else
        Fm_findsRows_j76 c2 v3 v4 ((up2 (up2 M.1 94 42 z6) 94 43 (((up2 M.1 94 42 z6) 94 43) + (1 : Int32))), M.2))))
def Fm_findsRows (n : Nat) (v1 : Int32) (v2 : Int32) (M : Mm) : Option (Mm) :=
  bnd (loop (fun s1 : Int32 × Int32 × Mm => Fm_findsRows_b20 n v1 v2 s1.1 s1.2.1 s1.2.2) n ((0 : Int32), (0 : Int32), ((up2 (up2 (up2 M.1 94 42 (0 : Int32)) 94 43 (0 : Int32)) 94 44 (0 : Int32)), M.2))) (fun y11 =>
  some y11)
set_option maxRecDepth 100000 in
theorem ok_Fm_findsRows_j96 (n : Nat) (v3 : Int32) (v4 : Int32) (M : Mm) {c1 : Int32} {c2 : Int32} {z : Mm} {oo : (Int32 × Int32 × Mm) ⊕ (Mm)} {G : Gm} {X : Cx} {d : Nat}  (hX : XK G X 9 cX9_findsRows 5 (d + 3)) (hT : XT X (none) "findsRows") (hr : XR X SS) (hc : ∀ s1 : Int32 × Int32 × Mm, oo = .inl s1 → WR G X (mQ G X (none) z SS) 20 [.ref 94, .int c1, .int c2, .int s1.1, .int s1.2.1] [] s1.2.2 SS) (hx : ∀ x1 : Mm, oo = .inr x1 → WR G X (mQ G X (none) z SS) 102 [.ref 94, vU, vU, vU, vU] [] x1 SS) (h : Fm_findsRows_j96 v3 v4 M = some oo) : WR G X (mQ G X (none) z SS) 96 [.ref 94, .int c1, .int c2, .int v3, .int v4] [] M SS := by
  unfold Fm_findsRows_j96 at h
  refine r_iinc (v := v4 + (1 : Int32)) (L1 := [.ref 94, .int c1, .int c2, .int v3, .int (v4 + (1 : Int32))]) hX dX9_findsRows_96 rfl rfl rfl ?_
  refine r_goto (tgt := 20) hX dX9_findsRows_99 (by decide) ?_
  exact hc (v3, v4 + (1 : Int32), M) (Option.some.inj h).symm
set_option maxRecDepth 100000 in
theorem ok_Fm_findsRows_j76 (n : Nat) (v3 : Int32) (v4 : Int32) (M : Mm) {c1 : Int32} {c2 : Int32} {z : Mm} {oo : (Int32 × Int32 × Mm) ⊕ (Mm)} {G : Gm} {X : Cx} {d : Nat}  (hX : XK G X 9 cX9_findsRows 5 (d + 3)) (hT : XT X (none) "findsRows") (hr : XR X SS) (hc : ∀ s1 : Int32 × Int32 × Mm, oo = .inl s1 → WR G X (mQ G X (none) z SS) 20 [.ref 94, .int c1, .int c2, .int s1.1, .int s1.2.1] [] s1.2.2 SS) (hx : ∀ x1 : Mm, oo = .inr x1 → WR G X (mQ G X (none) z SS) 102 [.ref 94, vU, vU, vU, vU] [] x1 SS) (h : Fm_findsRows_j76 c2 v3 v4 M = some oo) : WR G X (mQ G X (none) z SS) 76 [.ref 94, .int c1, .int c2, .int v3, .int v4] [] M SS := by
  unfold Fm_findsRows_j76 at h
  refine r_aload_n hX dX9_findsRows_76 rfl ?_
  refine r_aload_n hX dX9_findsRows_77 rfl ?_
  refine r_getf (v := .int (M.1 94 44)) hX dX9_findsRows_78 fl_9_469 rfl (by decide) (by decide) rfl ?_
  refine r_iconst (v := (0 : Int32)) hX dX9_findsRows_81 (by decide) ?_
  refine r_iload_n hX dX9_findsRows_82 rfl ?_
  refine r_iload_n hX dX9_findsRows_83 rfl ?_
  refine r_isub hX dX9_findsRows_84 ?_
  refine r_iconst (v := (1 : Int32)) hX dX9_findsRows_85 (by decide) ?_
  refine r_iadd hX dX9_findsRows_86 ?_
  obtain ⟨z9, p10, h⟩ := bnd_s h
  refine r_callS (As := [.int (0 : Int32), .int ((v3 - c2) + (1 : Int32))]) hX dX9_findsRows_87 mk_Fm_max ms_Fm_max ml_9_305 rfl rfl rfl (Nat.le_of_ble_eq_true rfl) hr (ok_Fm_max (d := d + 2) (0 : Int32) ((v3 - c2) + (1 : Int32)) M p10) ?_
  refine r_iadd hX dX9_findsRows_90 ?_
  refine r_putI hX dX9_findsRows_91 fl_9_469 rfl (by decide) (by decide) (okI_int _) ?_
  refine r_iconst (v := (0 : Int32)) hX dX9_findsRows_94 (by decide) ?_
  refine r_istore_n (L1 := [.ref 94, .int c1, .int c2, .int (0 : Int32), .int v4]) hX dX9_findsRows_95 (Nat.le_of_ble_eq_true rfl) rfl ?_
  exact ok_Fm_findsRows_j96 n (0 : Int32) v4 ((up2 M.1 94 44 ((M.1 94 44) + z9)), M.2)   hX hT hr hc hx h
set_option maxRecDepth 100000 in
theorem ok_Fm_findsRows_b20 (n : Nat) (v3 : Int32) (v4 : Int32) (M : Mm) {c1 : Int32} {c2 : Int32} {z : Mm} {oo : (Int32 × Int32 × Mm) ⊕ (Mm)} {G : Gm} {X : Cx} {d : Nat}  (hX : XK G X 9 cX9_findsRows 5 (d + 3)) (hT : XT X (none) "findsRows") (hr : XR X SS) (hc : ∀ s1 : Int32 × Int32 × Mm, oo = .inl s1 → WR G X (mQ G X (none) z SS) 20 [.ref 94, .int c1, .int c2, .int s1.1, .int s1.2.1] [] s1.2.2 SS) (hx : ∀ x1 : Mm, oo = .inr x1 → WR G X (mQ G X (none) z SS) 102 [.ref 94, vU, vU, vU, vU] [] x1 SS) (h : Fm_findsRows_b20 n c1 c2 v3 v4 M = some oo) : WR G X (mQ G X (none) z SS) 20 [.ref 94, .int c1, .int c2, .int v3, .int v4] [] M SS := by
  unfold Fm_findsRows_b20 at h
  refine r_iload hX dX9_findsRows_20 rfl ?_
  refine r_aload_n hX dX9_findsRows_22 rfl ?_
  refine r_getf (v := .ref 95) hX dX9_findsRows_23 fl_9_7 rfl (by decide) (by decide) rfl ?_
  refine r_iconst (v := (1 : Int32)) hX dX9_findsRows_26 (by decide) ?_
  obtain ⟨k1, h⟩ := grd_s h
  refine r_iald hX dX9_findsRows_27 rfl (by decide) (inb_at rfl k1) ?_
  refine r_icmp_gt (tgt := 102) hX dX9_findsRows_28 (by decide) (fun g2 => ?_) (fun g2 => ?_)
  · have h := (if_pos g2).symm.trans h
    refine WR.fg (L' := [.ref 94, vU, vU, vU, vU]) ⟨Or.inr rfl, Or.inl rfl, Or.inl rfl, Or.inl rfl, Or.inl rfl, trivial⟩ ?_
    exact hx _ (Option.some.inj h).symm
  · have h := (if_neg g2).symm.trans h
    refine r_aload_n hX dX9_findsRows_31 rfl ?_
    refine r_iconst (v := (1 : Int32)) hX dX9_findsRows_32 (by decide) ?_
    refine r_iload_n hX dX9_findsRows_33 rfl ?_
    refine r_ishl hX dX9_findsRows_34 ?_
    refine r_iload hX dX9_findsRows_35 rfl ?_
    obtain ⟨z3, p4, h⟩ := bnd_s h
    refine r_callV (As := [.int ((1 : Int32) <<< (c1 &&& 31)), .int v4]) hX dX9_findsRows_37 mk_Fm_isFree mi_Fm_isFree ml_9_230 rfl rfl rfl rfl (by decide) (by decide) (Nat.le_of_ble_eq_true rfl) hr (ok_Fm_isFree (d := d + 0) n ((1 : Int32) <<< (c1 &&& 31)) v4 M p4) ?_
    refine r_ifb_eq (tgt := 50) hX dX9_findsRows_40 (by decide) (fun g5 => ?_) (fun g5 => ?_)
    · have h := (if_neg (show ¬ z3 = true from fun e => by rw [g5] at e; cases e)).symm.trans h
      refine r_aload_n hX dX9_findsRows_50 rfl ?_
      refine r_aload_n hX dX9_findsRows_51 rfl ?_
      refine r_getf (v := .int (M.1 94 42)) hX dX9_findsRows_52 fl_9_463 rfl (by decide) (by decide) rfl ?_
      refine r_iload_n hX dX9_findsRows_55 rfl ?_
      obtain ⟨z6, p7, h⟩ := bnd_s h
      refine r_callS (As := [.int (M.1 94 42), .int v3]) hX dX9_findsRows_56 mk_Fm_max ms_Fm_max ml_9_305 rfl rfl rfl (Nat.le_of_ble_eq_true rfl) hr (ok_Fm_max (d := d + 2) (M.1 94 42) v3 M p7) ?_
      refine r_putI hX dX9_findsRows_59 fl_9_463 rfl (by decide) (by decide) (okI_int _) ?_
      refine r_iload_n hX dX9_findsRows_62 rfl ?_
      refine r_if_le (tgt := 76) hX dX9_findsRows_63 (by decide) (fun g8 => ?_) (fun g8 => ?_)
      · have h := (if_pos g8).symm.trans h
        exact ok_Fm_findsRows_j76 n v3 v4 ((up2 M.1 94 42 z6), M.2)   hX hT hr hc hx h
      · have h := (if_neg g8).symm.trans h
        refine r_aload_n hX dX9_findsRows_66 rfl ?_
        refine r_aload_n hX dX9_findsRows_67 rfl ?_
        refine r_getf (v := .int ((up2 M.1 94 42 z6) 94 43)) hX dX9_findsRows_68 fl_9_466 rfl (by decide) (by decide) rfl ?_
        refine r_iconst (v := (1 : Int32)) hX dX9_findsRows_71 (by decide) ?_
        refine r_iadd hX dX9_findsRows_72 ?_
        refine r_putI' hX dX9_findsRows_73 fl_9_466 rfl (by decide) (by decide) (okI_int _) ?_
        exact ok_Fm_findsRows_j76 n v3 v4 ((up2 (up2 M.1 94 42 z6) 94 43 (((up2 M.1 94 42 z6) 94 43) + (1 : Int32))), M.2)   hX hT hr hc hx h
    · have h := (if_pos g5).symm.trans h
      refine r_iload_n hX dX9_findsRows_43 rfl ?_
      refine r_iconst (v := (1 : Int32)) hX dX9_findsRows_44 (by decide) ?_
      refine r_iadd hX dX9_findsRows_45 ?_
      refine r_istore_n (L1 := [.ref 94, .int c1, .int c2, .int (v3 + (1 : Int32)), .int v4]) hX dX9_findsRows_46 (Nat.le_of_ble_eq_true rfl) rfl ?_
      refine r_goto (tgt := 96) hX dX9_findsRows_47 (by decide) ?_
      exact ok_Fm_findsRows_j96 n (v3 + (1 : Int32)) v4 M   hX hT hr hc hx h
set_option maxRecDepth 100000 in
theorem ok_Fm_findsRows {G : Gm} {l : Launch} {d : Nat} (n : Nat) (v1 : Int32) (v2 : Int32) (M : Mm) {z : Mm}  (h : Fm_findsRows n v1 v2 M = some z) : CK G l (d + 3) md_Fm_findsRows [.ref 94, .int v1, .int v2] M SS (none) z SS := by
  refine ck_of mk_Fm_findsRows (Nat.le_of_ble_eq_true rfl) ⟨Nat.le_refl _, Nat.le_refl _⟩ (fun X hX hT hS hr hl => ?_)
  subst hl
  unfold Fm_findsRows at h
  show WR G X (mQ G X (none) z SS) 0 [.ref 94, .int v1, .int v2, vU, vU] [] M SS
  refine r_aload_n hX dX9_findsRows_0 rfl ?_
  refine r_iconst (v := (0 : Int32)) hX dX9_findsRows_1 (by decide) ?_
  refine r_putI hX dX9_findsRows_2 fl_9_463 rfl (by decide) (by decide) (okI_int _) ?_
  refine r_aload_n hX dX9_findsRows_5 rfl ?_
  refine r_iconst (v := (0 : Int32)) hX dX9_findsRows_6 (by decide) ?_
  refine r_putI' hX dX9_findsRows_7 fl_9_466 rfl (by decide) (by decide) (okI_int _) ?_
  refine r_aload_n hX dX9_findsRows_10 rfl ?_
  refine r_iconst (v := (0 : Int32)) hX dX9_findsRows_11 (by decide) ?_
  refine r_putI' hX dX9_findsRows_12 fl_9_469 rfl (by decide) (by decide) (okI_int _) ?_
  refine r_iconst (v := (0 : Int32)) hX dX9_findsRows_15 (by decide) ?_
  refine r_istore_n (L1 := [.ref 94, .int v1, .int v2, .int (0 : Int32), vU]) hX dX9_findsRows_16 (Nat.le_of_ble_eq_true rfl) rfl ?_
  refine r_iconst (v := (0 : Int32)) hX dX9_findsRows_17 (by decide) ?_
  refine r_istore (L1 := [.ref 94, .int v1, .int v2, .int (0 : Int32), .int (0 : Int32)]) hX dX9_findsRows_18 (Nat.le_of_ble_eq_true rfl) rfl ?_
  obtain ⟨y11, h1, h⟩ := bnd_s h
  refine loop_ok (P := fun s1 : Int32 × Int32 × Mm => WR G X (mQ G X (none) z SS) 20 [.ref 94, .int v1, .int v2, .int s1.1, .int s1.2.1] [] s1.2.2 SS) (E := fun x1 : Mm => WR G X (mQ G X (none) z SS) 102 [.ref 94, vU, vU, vU, vU] [] x1 SS) (fun s1 o1 g1 g2 g3 => ok_Fm_findsRows_b20 n s1.1 s1.2.1 s1.2.2  hX hT hr g2 g3 g1) n ((0 : Int32), (0 : Int32), ((up2 (up2 (up2 M.1 94 42 (0 : Int32)) 94 43 (0 : Int32)) 94 44 (0 : Int32)), M.2)) y11 h1 ?_
  show WR G X (mQ G X (none) z SS) 102 [.ref 94, vU, vU, vU, vU] [] y11 SS
  obtain rfl := Option.some.inj h
  exact r_vret hX hT dX9_findsRows_102
def Fm_litOn_j41 (v2 : Int32) (v3 : Int32) : Option ((Int32 × Int32) ⊕ (Int32)) :=
  some (.inl (v2, v3 + (1 : Int32)))
def Fm_litOn_b4 (c1 : Int32) (Mc : Mm) (v2 : Int32) (v3 : Int32) : Option ((Int32 × Int32) ⊕ (Int32)) :=
  grd (inb (7 : Int32) 12256) (
  if (Mc.1 95 (tn (7 : Int32))) ≤ v3 then
    some (.inr v2)
  else
    bnd (Fm_isLit v3 Mc) (fun z3 =>
    if z3 = true then
      bnd (Fm_of v3 (6 : Int32) Mc) (fun z6 =>
      bnd (Fm_has z6 c1 Mc) (fun z8 =>
      if z8 = true then
        Fm_litOn_j41 (v2 + (1 : Int32)) v3
      else
        Fm_litOn_j41 v2 v3))
    else
      Fm_litOn_j41 v2 v3))
def Fm_litOn (n : Nat) (v1 : Int32) (M : Mm) : Option (Int32) :=
  bnd (loop (fun s1 : Int32 × Int32 => Fm_litOn_b4 v1 M s1.1 s1.2) n ((0 : Int32), (0 : Int32))) (fun y11 =>
  some y11)
set_option maxRecDepth 100000 in
theorem ok_Fm_litOn_j41 (n : Nat) (v2 : Int32) (v3 : Int32) {c1 : Int32} {Mc : Mm} {z : Int32} {oo : (Int32 × Int32) ⊕ (Int32)} {G : Gm} {X : Cx} {d : Nat}  (hX : XK G X 9 cX9_litOn 4 (d + 2)) (hT : XT X (some .int) "litOn") (hr : XR X SS) (hc : ∀ s1 : Int32 × Int32, oo = .inl s1 → WR G X (mQ G X (some (.int z)) Mc SS) 4 [.ref 94, .int c1, .int s1.1, .int s1.2] [] Mc SS) (hx : ∀ x1 : Int32, oo = .inr x1 → WR G X (mQ G X (some (.int z)) Mc SS) 47 [.ref 94, vU, .int x1, vU] [] Mc SS) (h : Fm_litOn_j41 v2 v3 = some oo) : WR G X (mQ G X (some (.int z)) Mc SS) 41 [.ref 94, .int c1, .int v2, .int v3] [] Mc SS := by
  unfold Fm_litOn_j41 at h
  refine r_iinc (v := v3 + (1 : Int32)) (L1 := [.ref 94, .int c1, .int v2, .int (v3 + (1 : Int32))]) hX dX9_litOn_41 rfl rfl rfl ?_
  refine r_goto (tgt := 4) hX dX9_litOn_44 (by decide) ?_
  exact hc (v2, v3 + (1 : Int32)) (Option.some.inj h).symm
set_option maxRecDepth 100000 in
theorem ok_Fm_litOn_b4 (n : Nat) (v2 : Int32) (v3 : Int32) {c1 : Int32} {Mc : Mm} {z : Int32} {oo : (Int32 × Int32) ⊕ (Int32)} {G : Gm} {X : Cx} {d : Nat}  (hX : XK G X 9 cX9_litOn 4 (d + 2)) (hT : XT X (some .int) "litOn") (hr : XR X SS) (hc : ∀ s1 : Int32 × Int32, oo = .inl s1 → WR G X (mQ G X (some (.int z)) Mc SS) 4 [.ref 94, .int c1, .int s1.1, .int s1.2] [] Mc SS) (hx : ∀ x1 : Int32, oo = .inr x1 → WR G X (mQ G X (some (.int z)) Mc SS) 47 [.ref 94, vU, .int x1, vU] [] Mc SS) (h : Fm_litOn_b4 c1 Mc v2 v3 = some oo) : WR G X (mQ G X (some (.int z)) Mc SS) 4 [.ref 94, .int c1, .int v2, .int v3] [] Mc SS := by
  unfold Fm_litOn_b4 at h
  refine r_iload_n hX dX9_litOn_4 rfl ?_
  refine r_aload_n hX dX9_litOn_5 rfl ?_
  refine r_getf (v := .ref 95) hX dX9_litOn_6 fl_9_7 rfl (by decide) (by decide) rfl ?_
  refine r_bipush (v := (7 : Int32)) hX dX9_litOn_9 (by decide) ?_
  obtain ⟨k1, h⟩ := grd_s h
  refine r_iald hX dX9_litOn_11 rfl (by decide) (inb_at rfl k1) ?_
  refine r_icmp_ge (tgt := 47) hX dX9_litOn_12 (by decide) (fun g2 => ?_) (fun g2 => ?_)
  · have h := (if_pos g2).symm.trans h
    refine WR.fg (L' := [.ref 94, vU, .int v2, vU]) ⟨Or.inr rfl, Or.inl rfl, Or.inr rfl, Or.inl rfl, trivial⟩ ?_
    exact hx _ (Option.some.inj h).symm
  · have h := (if_neg g2).symm.trans h
    refine r_aload_n hX dX9_litOn_15 rfl ?_
    refine r_iload_n hX dX9_litOn_16 rfl ?_
    obtain ⟨z3, p4, h⟩ := bnd_s h
    refine r_callV (As := [.int v3]) hX dX9_litOn_17 mk_Fm_isLit mi_Fm_isLit ml_9_219 rfl rfl rfl rfl (by decide) (by decide) (Nat.le_of_ble_eq_true rfl) hr (ok_Fm_isLit (d := d + 0) v3 Mc p4) ?_
    refine r_ifb_eq (tgt := 41) hX dX9_litOn_20 (by decide) (fun g5 => ?_) (fun g5 => ?_)
    · have h := (if_neg (show ¬ z3 = true from fun e => by rw [g5] at e; cases e)).symm.trans h
      exact ok_Fm_litOn_j41 n v2 v3   hX hT hr hc hx h
    · have h := (if_pos g5).symm.trans h
      refine r_aload_n hX dX9_litOn_23 rfl ?_
      refine r_iload_n hX dX9_litOn_24 rfl ?_
      refine r_bipush (v := (6 : Int32)) hX dX9_litOn_25 (by decide) ?_
      obtain ⟨z6, p7, h⟩ := bnd_s h
      refine r_callV (As := [.int v3, .int (6 : Int32)]) hX dX9_litOn_27 mk_Fm_of mi_Fm_of ml_9_79 rfl rfl rfl rfl (by decide) (by decide) (Nat.le_of_ble_eq_true rfl) hr (ok_Fm_of (d := d + 1) v3 (6 : Int32) Mc p7) ?_
      refine r_iload_n hX dX9_litOn_30 rfl ?_
      obtain ⟨z8, p9, h⟩ := bnd_s h
      refine r_callS (As := [.int z6, .int c1]) hX dX9_litOn_31 mk_Fm_has ms_Fm_has ml_9_179 rfl rfl rfl (Nat.le_of_ble_eq_true rfl) hr (ok_Fm_has (d := d + 1) z6 c1 Mc p9) ?_
      refine r_ifb_eq (tgt := 41) hX dX9_litOn_34 (by decide) (fun g10 => ?_) (fun g10 => ?_)
      · have h := (if_neg (show ¬ z8 = true from fun e => by rw [g10] at e; cases e)).symm.trans h
        exact ok_Fm_litOn_j41 n v2 v3   hX hT hr hc hx h
      · have h := (if_pos g10).symm.trans h
        refine r_iload_n hX dX9_litOn_37 rfl ?_
        refine r_iconst (v := (1 : Int32)) hX dX9_litOn_38 (by decide) ?_
        refine r_iadd hX dX9_litOn_39 ?_
        refine r_istore_n (L1 := [.ref 94, .int c1, .int (v2 + (1 : Int32)), .int v3]) hX dX9_litOn_40 (Nat.le_of_ble_eq_true rfl) rfl ?_
        exact ok_Fm_litOn_j41 n (v2 + (1 : Int32)) v3   hX hT hr hc hx h
set_option maxRecDepth 100000 in
theorem ok_Fm_litOn {G : Gm} {l : Launch} {d : Nat} (n : Nat) (v1 : Int32) (M : Mm) {z : Int32}  (h : Fm_litOn n v1 M = some z) : CK G l (d + 2) md_Fm_litOn [.ref 94, .int v1] M SS (some (.int z)) M SS := by
  refine ck_of mk_Fm_litOn (Nat.le_of_ble_eq_true rfl) ⟨Nat.le_refl _, Nat.le_refl _⟩ (fun X hX hT hS hr hl => ?_)
  subst hl
  unfold Fm_litOn at h
  show WR G X (mQ G X (some (.int z)) M SS) 0 [.ref 94, .int v1, vU, vU] [] M SS
  refine r_iconst (v := (0 : Int32)) hX dX9_litOn_0 (by decide) ?_
  refine r_istore_n (L1 := [.ref 94, .int v1, .int (0 : Int32), vU]) hX dX9_litOn_1 (Nat.le_of_ble_eq_true rfl) rfl ?_
  refine r_iconst (v := (0 : Int32)) hX dX9_litOn_2 (by decide) ?_
  refine r_istore_n (L1 := [.ref 94, .int v1, .int (0 : Int32), .int (0 : Int32)]) hX dX9_litOn_3 (Nat.le_of_ble_eq_true rfl) rfl ?_
  obtain ⟨y11, h1, h⟩ := bnd_s h
  refine loop_ok (P := fun s1 : Int32 × Int32 => WR G X (mQ G X (some (.int z)) M SS) 4 [.ref 94, .int v1, .int s1.1, .int s1.2] [] M SS) (E := fun x1 : Int32 => WR G X (mQ G X (some (.int z)) M SS) 47 [.ref 94, vU, .int x1, vU] [] M SS) (fun s1 o1 g1 g2 g3 => ok_Fm_litOn_b4 n s1.1 s1.2  hX hT hr g2 g3 g1) n ((0 : Int32), (0 : Int32)) y11 h1 ?_
  show WR G X (mQ G X (some (.int z)) M SS) 47 [.ref 94, vU, .int y11, vU] [] M SS
  refine r_iload_n hX dX9_litOn_47 rfl ?_
  obtain rfl := Option.some.inj h
  exact r_iret hX hT dX9_litOn_48 rfl
def Fm_tornOf (n : Nat) (v1 : Int32) (M : Mm) : Option (Int32) :=
  grd (inb (1 : Int32) 12256) (
  bnd (Fm_usedOn n v1 M) (fun z2 =>
  if ((M.1 95 (tn (1 : Int32))) - z2) = (0 : Int32) then
    some (0 : Int32)
  else
    grd (nz ((M.1 95 (tn (1 : Int32))) - z2)) (
    some (((((M.1 95 (tn (1 : Int32))) - z2) - (M.1 94 42)) * (10000 : Int32)) / ((M.1 95 (tn (1 : Int32))) - z2)))))
set_option maxRecDepth 100000 in
theorem ok_Fm_tornOf {G : Gm} {l : Launch} {d : Nat} (n : Nat) (v1 : Int32) (M : Mm) {z : Int32}  (h : Fm_tornOf n v1 M = some z) : CK G l (d + 3) md_Fm_tornOf [.ref 94, .int v1] M SS (some (.int z)) M SS := by
  refine ck_of mk_Fm_tornOf (Nat.le_of_ble_eq_true rfl) ⟨Nat.le_refl _, Nat.le_refl _⟩ (fun X hX hT hS hr hl => ?_)
  subst hl
  unfold Fm_tornOf at h
  show WR G X (mQ G X (some (.int z)) M SS) 0 [.ref 94, .int v1, vU] [] M SS
  refine r_aload_n hX dX9_tornOf_0 rfl ?_
  refine r_getf (v := .ref 95) hX dX9_tornOf_1 fl_9_7 rfl (by decide) (by decide) rfl ?_
  refine r_iconst (v := (1 : Int32)) hX dX9_tornOf_4 (by decide) ?_
  obtain ⟨k1, h⟩ := grd_s h
  refine r_iald hX dX9_tornOf_5 rfl (by decide) (inb_at rfl k1) ?_
  refine r_aload_n hX dX9_tornOf_6 rfl ?_
  refine r_iload_n hX dX9_tornOf_7 rfl ?_
  obtain ⟨z2, p3, h⟩ := bnd_s h
  refine r_callV (As := [.int v1]) hX dX9_tornOf_8 mk_Fm_usedOn mi_Fm_usedOn ml_9_454 rfl rfl rfl rfl (by decide) (by decide) (Nat.le_of_ble_eq_true rfl) hr (ok_Fm_usedOn (d := d + 0) n v1 M p3) ?_
  refine r_isub hX dX9_tornOf_11 ?_
  refine r_istore_n (L1 := [.ref 94, .int v1, .int ((M.1 95 (tn (1 : Int32))) - z2)]) hX dX9_tornOf_12 (Nat.le_of_ble_eq_true rfl) rfl ?_
  refine r_iload_n hX dX9_tornOf_13 rfl ?_
  refine r_if_ne (tgt := 21) hX dX9_tornOf_14 (by decide) (fun g4 => ?_) (fun g4 => ?_)
  · have h := (if_neg g4).symm.trans h
    refine r_iload_n hX dX9_tornOf_21 rfl ?_
    refine r_aload_n hX dX9_tornOf_22 rfl ?_
    refine r_getf (v := .int (M.1 94 42)) hX dX9_tornOf_23 fl_9_463 rfl (by decide) (by decide) rfl ?_
    refine r_isub hX dX9_tornOf_26 ?_
    refine r_sipush (v := (10000 : Int32)) hX dX9_tornOf_27 (by decide) ?_
    refine r_imul hX dX9_tornOf_30 ?_
    refine r_iload_n hX dX9_tornOf_31 rfl ?_
    obtain ⟨k5, h⟩ := grd_s h
    refine r_idiv hX dX9_tornOf_32 (nz_ne k5) ?_
    obtain rfl := Option.some.inj h
    exact r_iret hX hT dX9_tornOf_33 rfl
  · have h := (if_pos g4).symm.trans h
    refine r_iconst (v := (0 : Int32)) hX dX9_tornOf_17 (by decide) ?_
    refine r_goto (tgt := 33) hX dX9_tornOf_18 (by decide) ?_
    obtain rfl := Option.some.inj h
    exact r_iret hX hT dX9_tornOf_33 rfl
def Fm_linkIs_j31 (n : Nat) (v1 : Int32) (v2 : Int32) (M : Mm) : Option (Int32 × Mm) :=
  bnd (Fm_max (1 : Int32) (v2 - (20 : Int32)) M) (fun z7 =>
  bnd (Fm_findsRows n v1 z7 M) (fun z9 =>
  if v2 ≤ (20 : Int32) then
    if v2 = (0 : Int32) then
      grd (inb ((16 : Int32) + v1) 12256) (
      some (z9.1 95 (tn ((16 : Int32) + v1)), z9))
    else
      if v2 = (1 : Int32) then
        grd (inb ((30 : Int32) + v1) 12256) (
        some (z9.1 95 (tn ((30 : Int32) + v1)), z9))
      else
        if v2 = (2 : Int32) then
          grd (inb ((44 : Int32) + v1) 12256) (
          some (z9.1 95 (tn ((44 : Int32) + v1)), z9))
        else
          if v2 = (3 : Int32) then
            bnd (Fm_isUp v1 z9) (fun z19 =>
            if z19 = true then
              some ((1 : Int32), z9)
            else
              some ((0 : Int32), z9))
          else
            if v2 = (4 : Int32) then
              bnd (Fm_usedOn n v1 z9) (fun z23 =>
              some (z23, z9))
            else
              if v2 = (5 : Int32) then
                bnd (Fm_topOn n ((1 : Int32) <<< (v1 &&& 31)) z9) (fun z26 =>
                if z26 = (-1 : Int32) then
                  some ((-2 : Int32), z9)
                else
                  bnd (Fm_topOn n ((1 : Int32) <<< (v1 &&& 31)) z9) (fun z29 =>
                  some (z29, z9)))
              else
                if v2 = (6 : Int32) then
                  some (z9.1 94 42, z9)
                else
                  if v2 = (7 : Int32) then
                    some (z9.1 94 43, z9)
                  else
                    if v2 = (8 : Int32) then
                      bnd (Fm_tornOf n v1 z9) (fun z34 =>
                      some (z34, z9))
                    else
                      bnd (Fm_litOn n v1 z9) (fun z36 =>
                      some (z36, z9))
  else
    some (z9.1 94 44, z9)))
def Fm_linkIs (n : Nat) (v1 : Int32) (v2 : Int32) (M : Mm) : Option (Int32 × Mm) :=
  bnd (Fm_isLink v1 M) (fun z1 =>
  if z1 = true then
    bnd (Fm_in v2 (0 : Int32) (9 : Int32) M) (fun z4 =>
    if z4 = true then
      Fm_linkIs_j31 n v1 v2 M
    else
      bnd (Fm_in v2 (21 : Int32) (84 : Int32) M) (fun z38 =>
      if z38 = true then
        Fm_linkIs_j31 n v1 v2 M
      else
        some ((-1 : Int32), M)))
  else
    some ((-1 : Int32), M))
set_option maxRecDepth 100000 in
theorem ok_Fm_linkIs_j31 (n : Nat) (v1 : Int32) (v2 : Int32) (M : Mm) {z : Int32 × Mm} {G : Gm} {X : Cx} {d : Nat}  (hX : XK G X 9 cX9_linkIs 3 (d + 4)) (hT : XT X (some .int) "linkIs") (hr : XR X SS) (h : Fm_linkIs_j31 n v1 v2 M = some z) : WR G X (mQ G X (some (.int z.1)) z.2 SS) 31 [.ref 94, .int v1, .int v2] [] M SS := by
  unfold Fm_linkIs_j31 at h
  refine r_aload_n hX dX9_linkIs_31 rfl ?_
  refine r_iload_n hX dX9_linkIs_32 rfl ?_
  refine r_iconst (v := (1 : Int32)) hX dX9_linkIs_33 (by decide) ?_
  refine r_iload_n hX dX9_linkIs_34 rfl ?_
  refine r_bipush (v := (20 : Int32)) hX dX9_linkIs_35 (by decide) ?_
  refine r_isub hX dX9_linkIs_37 ?_
  obtain ⟨z7, p8, h⟩ := bnd_s h
  refine r_callS (As := [.int (1 : Int32), .int (v2 - (20 : Int32))]) hX dX9_linkIs_38 mk_Fm_max ms_Fm_max ml_9_305 rfl rfl rfl (Nat.le_of_ble_eq_true rfl) hr (ok_Fm_max (d := d + 3) (1 : Int32) (v2 - (20 : Int32)) M p8) ?_
  obtain ⟨z9, p10, h⟩ := bnd_s h
  refine r_callV (As := [.int v1, .int z7]) hX dX9_linkIs_41 mk_Fm_findsRows mi_Fm_findsRows ml_9_472 rfl rfl rfl rfl (by decide) (by decide) (Nat.le_of_ble_eq_true rfl) hr (ok_Fm_findsRows (d := d + 0) n v1 z7 M p10) ?_
  refine r_iload_n hX dX9_linkIs_44 rfl ?_
  refine r_bipush (v := (20 : Int32)) hX dX9_linkIs_45 (by decide) ?_
  refine r_icmp_le (tgt := 55) hX dX9_linkIs_47 (by decide) (fun g11 => ?_) (fun g11 => ?_)
  · have h := (if_pos g11).symm.trans h
    refine r_iload_n hX dX9_linkIs_55 rfl ?_
    by_cases g12 : v2 = (0 : Int32)
    · have h := (if_pos g12).symm.trans h
      refine r_tabEq (tgt := 108) hX dX9_linkIs_56 g12 ⟨by decide, by decide, rfl⟩ (by decide) ?_
      refine r_aload_n hX dX9_linkIs_108 rfl ?_
      refine r_getf (v := .ref 95) hX dX9_linkIs_109 fl_9_7 rfl (by decide) (by decide) rfl ?_
      refine r_bipush (v := (16 : Int32)) hX dX9_linkIs_112 (by decide) ?_
      refine r_iload_n hX dX9_linkIs_114 rfl ?_
      refine r_iadd hX dX9_linkIs_115 ?_
      obtain ⟨k13, h⟩ := grd_s h
      refine r_iald hX dX9_linkIs_116 rfl (by decide) (inb_at rfl k13) ?_
      obtain rfl := Option.some.inj h
      exact r_iret hX hT dX9_linkIs_117 rfl
    · have h := (if_neg g12).symm.trans h
      by_cases g14 : v2 = (1 : Int32)
      · have h := (if_pos g14).symm.trans h
        refine r_tabEq (tgt := 118) hX dX9_linkIs_56 g14 ⟨by decide, by decide, rfl⟩ (by decide) ?_
        refine r_aload_n hX dX9_linkIs_118 rfl ?_
        refine r_getf (v := .ref 95) hX dX9_linkIs_119 fl_9_7 rfl (by decide) (by decide) rfl ?_
        refine r_bipush (v := (30 : Int32)) hX dX9_linkIs_122 (by decide) ?_
        refine r_iload_n hX dX9_linkIs_124 rfl ?_
        refine r_iadd hX dX9_linkIs_125 ?_
        obtain ⟨k15, h⟩ := grd_s h
        refine r_iald hX dX9_linkIs_126 rfl (by decide) (inb_at rfl k15) ?_
        obtain rfl := Option.some.inj h
        exact r_iret hX hT dX9_linkIs_127 rfl
      · have h := (if_neg g14).symm.trans h
        by_cases g16 : v2 = (2 : Int32)
        · have h := (if_pos g16).symm.trans h
          refine r_tabEq (tgt := 128) hX dX9_linkIs_56 g16 ⟨by decide, by decide, rfl⟩ (by decide) ?_
          refine r_aload_n hX dX9_linkIs_128 rfl ?_
          refine r_getf (v := .ref 95) hX dX9_linkIs_129 fl_9_7 rfl (by decide) (by decide) rfl ?_
          refine r_bipush (v := (44 : Int32)) hX dX9_linkIs_132 (by decide) ?_
          refine r_iload_n hX dX9_linkIs_134 rfl ?_
          refine r_iadd hX dX9_linkIs_135 ?_
          obtain ⟨k17, h⟩ := grd_s h
          refine r_iald hX dX9_linkIs_136 rfl (by decide) (inb_at rfl k17) ?_
          obtain rfl := Option.some.inj h
          exact r_iret hX hT dX9_linkIs_137 rfl
        · have h := (if_neg g16).symm.trans h
          by_cases g18 : v2 = (3 : Int32)
          · have h := (if_pos g18).symm.trans h
            refine r_tabEq (tgt := 138) hX dX9_linkIs_56 g18 ⟨by decide, by decide, rfl⟩ (by decide) ?_
            refine r_aload_n hX dX9_linkIs_138 rfl ?_
            refine r_iload_n hX dX9_linkIs_139 rfl ?_
            obtain ⟨z19, p20, h⟩ := bnd_s h
            refine r_callV (As := [.int v1]) hX dX9_linkIs_140 mk_Fm_isUp mi_Fm_isUp ml_9_182 rfl rfl rfl rfl (by decide) (by decide) (Nat.le_of_ble_eq_true rfl) hr (ok_Fm_isUp (d := d + 2) v1 z9 p20) ?_
            refine r_ifb_eq (tgt := 150) hX dX9_linkIs_143 (by decide) (fun g21 => ?_) (fun g21 => ?_)
            · have h := (if_neg (show ¬ z19 = true from fun e => by rw [g21] at e; cases e)).symm.trans h
              refine r_iconst (v := (0 : Int32)) hX dX9_linkIs_150 (by decide) ?_
              obtain rfl := Option.some.inj h
              exact r_iret hX hT dX9_linkIs_151 rfl
            · have h := (if_pos g21).symm.trans h
              refine r_iconst (v := (1 : Int32)) hX dX9_linkIs_146 (by decide) ?_
              refine r_goto (tgt := 151) hX dX9_linkIs_147 (by decide) ?_
              obtain rfl := Option.some.inj h
              exact r_iret hX hT dX9_linkIs_151 rfl
          · have h := (if_neg g18).symm.trans h
            by_cases g22 : v2 = (4 : Int32)
            · have h := (if_pos g22).symm.trans h
              refine r_tabEq (tgt := 152) hX dX9_linkIs_56 g22 ⟨by decide, by decide, rfl⟩ (by decide) ?_
              refine r_aload_n hX dX9_linkIs_152 rfl ?_
              refine r_iload_n hX dX9_linkIs_153 rfl ?_
              obtain ⟨z23, p24, h⟩ := bnd_s h
              refine r_callV (As := [.int v1]) hX dX9_linkIs_154 mk_Fm_usedOn mi_Fm_usedOn ml_9_454 rfl rfl rfl rfl (by decide) (by decide) (Nat.le_of_ble_eq_true rfl) hr (ok_Fm_usedOn (d := d + 1) n v1 z9 p24) ?_
              obtain rfl := Option.some.inj h
              exact r_iret hX hT dX9_linkIs_157 rfl
            · have h := (if_neg g22).symm.trans h
              by_cases g25 : v2 = (5 : Int32)
              · have h := (if_pos g25).symm.trans h
                refine r_tabEq (tgt := 158) hX dX9_linkIs_56 g25 ⟨by decide, by decide, rfl⟩ (by decide) ?_
                refine r_aload_n hX dX9_linkIs_158 rfl ?_
                refine r_iconst (v := (1 : Int32)) hX dX9_linkIs_159 (by decide) ?_
                refine r_iload_n hX dX9_linkIs_160 rfl ?_
                refine r_ishl hX dX9_linkIs_161 ?_
                obtain ⟨z26, p27, h⟩ := bnd_s h
                refine r_callV (As := [.int ((1 : Int32) <<< (v1 &&& 31))]) hX dX9_linkIs_162 mk_Fm_topOn mi_Fm_topOn ml_9_308 rfl rfl rfl rfl (by decide) (by decide) (Nat.le_of_ble_eq_true rfl) hr (ok_Fm_topOn (d := d + 1) n ((1 : Int32) <<< (v1 &&& 31)) z9 p27) ?_
                refine r_iconst (v := (-1 : Int32)) hX dX9_linkIs_165 (by decide) ?_
                refine r_icmp_ne (tgt := 174) hX dX9_linkIs_166 (by decide) (fun g28 => ?_) (fun g28 => ?_)
                · have h := (if_neg g28).symm.trans h
                  refine r_aload_n hX dX9_linkIs_174 rfl ?_
                  refine r_iconst (v := (1 : Int32)) hX dX9_linkIs_175 (by decide) ?_
                  refine r_iload_n hX dX9_linkIs_176 rfl ?_
                  refine r_ishl hX dX9_linkIs_177 ?_
                  obtain ⟨z29, p30, h⟩ := bnd_s h
                  refine r_callV (As := [.int ((1 : Int32) <<< (v1 &&& 31))]) hX dX9_linkIs_178 mk_Fm_topOn mi_Fm_topOn ml_9_308 rfl rfl rfl rfl (by decide) (by decide) (Nat.le_of_ble_eq_true rfl) hr (ok_Fm_topOn (d := d + 1) n ((1 : Int32) <<< (v1 &&& 31)) z9 p30) ?_
                  obtain rfl := Option.some.inj h
                  exact r_iret hX hT dX9_linkIs_181 rfl
                · have h := (if_pos g28).symm.trans h
                  refine r_bipush (v := (-2 : Int32)) hX dX9_linkIs_169 (by decide) ?_
                  refine r_goto (tgt := 181) hX dX9_linkIs_171 (by decide) ?_
                  obtain rfl := Option.some.inj h
                  exact r_iret hX hT dX9_linkIs_181 rfl
              · have h := (if_neg g25).symm.trans h
                by_cases g31 : v2 = (6 : Int32)
                · have h := (if_pos g31).symm.trans h
                  refine r_tabEq (tgt := 182) hX dX9_linkIs_56 g31 ⟨by decide, by decide, rfl⟩ (by decide) ?_
                  refine r_aload_n hX dX9_linkIs_182 rfl ?_
                  refine r_getf (v := .int (z9.1 94 42)) hX dX9_linkIs_183 fl_9_463 rfl (by decide) (by decide) rfl ?_
                  obtain rfl := Option.some.inj h
                  exact r_iret hX hT dX9_linkIs_186 rfl
                · have h := (if_neg g31).symm.trans h
                  by_cases g32 : v2 = (7 : Int32)
                  · have h := (if_pos g32).symm.trans h
                    refine r_tabEq (tgt := 187) hX dX9_linkIs_56 g32 ⟨by decide, by decide, rfl⟩ (by decide) ?_
                    refine r_aload_n hX dX9_linkIs_187 rfl ?_
                    refine r_getf (v := .int (z9.1 94 43)) hX dX9_linkIs_188 fl_9_466 rfl (by decide) (by decide) rfl ?_
                    obtain rfl := Option.some.inj h
                    exact r_iret hX hT dX9_linkIs_191 rfl
                  · have h := (if_neg g32).symm.trans h
                    by_cases g33 : v2 = (8 : Int32)
                    · have h := (if_pos g33).symm.trans h
                      refine r_tabEq (tgt := 192) hX dX9_linkIs_56 g33 ⟨by decide, by decide, rfl⟩ (by decide) ?_
                      refine r_aload_n hX dX9_linkIs_192 rfl ?_
                      refine r_iload_n hX dX9_linkIs_193 rfl ?_
                      obtain ⟨z34, p35, h⟩ := bnd_s h
                      refine r_callV (As := [.int v1]) hX dX9_linkIs_194 mk_Fm_tornOf mi_Fm_tornOf ml_9_475 rfl rfl rfl rfl (by decide) (by decide) (Nat.le_of_ble_eq_true rfl) hr (ok_Fm_tornOf (d := d + 0) n v1 z9 p35) ?_
                      obtain rfl := Option.some.inj h
                      exact r_iret hX hT dX9_linkIs_197 rfl
                    · have h := (if_neg g33).symm.trans h
                      refine r_tabOut (tgt := 198) hX dX9_linkIs_56 (by have q0 := ne_ti g12 (k := 0) (by decide); have q1 := ne_ti g14 (k := 1) (by decide); have q2 := ne_ti g16 (k := 2) (by decide); have q3 := ne_ti g18 (k := 3) (by decide); have q4 := ne_ti g22 (k := 4) (by decide); have q5 := ne_ti g25 (k := 5) (by decide); have q6 := ne_ti g31 (k := 6) (by decide); have q7 := ne_ti g32 (k := 7) (by decide); have q8 := ne_ti g33 (k := 8) (by decide); omega) (by decide) ?_
                      refine r_aload_n hX dX9_linkIs_198 rfl ?_
                      refine r_iload_n hX dX9_linkIs_199 rfl ?_
                      obtain ⟨z36, p37, h⟩ := bnd_s h
                      refine r_callV (As := [.int v1]) hX dX9_linkIs_200 mk_Fm_litOn mi_Fm_litOn ml_9_478 rfl rfl rfl rfl (by decide) (by decide) (Nat.le_of_ble_eq_true rfl) hr (ok_Fm_litOn (d := d + 1) n v1 z9 p37) ?_
                      obtain rfl := Option.some.inj h
                      exact r_iret hX hT dX9_linkIs_203 rfl
  · have h := (if_neg g11).symm.trans h
    refine r_aload_n hX dX9_linkIs_50 rfl ?_
    refine r_getf (v := .int (z9.1 94 44)) hX dX9_linkIs_51 fl_9_469 rfl (by decide) (by decide) rfl ?_
    obtain rfl := Option.some.inj h
    exact r_iret hX hT dX9_linkIs_54 rfl
set_option maxRecDepth 100000 in
theorem ok_Fm_linkIs {G : Gm} {l : Launch} {d : Nat} (n : Nat) (v1 : Int32) (v2 : Int32) (M : Mm) {z : Int32 × Mm}  (h : Fm_linkIs n v1 v2 M = some z) : CK G l (d + 4) md_Fm_linkIs [.ref 94, .int v1, .int v2] M SS (some (.int z.1)) z.2 SS := by
  refine ck_of mk_Fm_linkIs (Nat.le_of_ble_eq_true rfl) ⟨Nat.le_refl _, Nat.le_refl _⟩ (fun X hX hT hS hr hl => ?_)
  subst hl
  unfold Fm_linkIs at h
  show WR G X (mQ G X (some (.int z.1)) z.2 SS) 0 [.ref 94, .int v1, .int v2] [] M SS
  refine r_aload_n hX dX9_linkIs_0 rfl ?_
  refine r_iload_n hX dX9_linkIs_1 rfl ?_
  obtain ⟨z1, p2, h⟩ := bnd_s h
  refine r_callV (As := [.int v1]) hX dX9_linkIs_2 mk_Fm_isLink mi_Fm_isLink ml_9_296 rfl rfl rfl rfl (by decide) (by decide) (Nat.le_of_ble_eq_true rfl) hr (ok_Fm_isLink (d := d + 2) v1 M p2) ?_
  refine r_ifb_eq (tgt := 29) hX dX9_linkIs_5 (by decide) (fun g3 => ?_) (fun g3 => ?_)
  · have h := (if_neg (show ¬ z1 = true from fun e => by rw [g3] at e; cases e)).symm.trans h
    refine r_iconst (v := (-1 : Int32)) hX dX9_linkIs_29 (by decide) ?_
    obtain rfl := Option.some.inj h
    exact r_iret hX hT dX9_linkIs_30 rfl
  · have h := (if_pos g3).symm.trans h
    refine r_iload_n hX dX9_linkIs_8 rfl ?_
    refine r_iconst (v := (0 : Int32)) hX dX9_linkIs_9 (by decide) ?_
    refine r_bipush (v := (9 : Int32)) hX dX9_linkIs_10 (by decide) ?_
    obtain ⟨z4, p5, h⟩ := bnd_s h
    refine r_callS (As := [.int v2, .int (0 : Int32), .int (9 : Int32)]) hX dX9_linkIs_12 mk_Fm_in ms_Fm_in ml_9_83 rfl rfl rfl (Nat.le_of_ble_eq_true rfl) hr (ok_Fm_in (d := d + 3) v2 (0 : Int32) (9 : Int32) M p5) ?_
    refine r_ifb_ne (tgt := 31) hX dX9_linkIs_15 (by decide) (fun g6 => ?_) (fun g6 => ?_)
    · have h := (if_pos g6).symm.trans h
      exact ok_Fm_linkIs_j31 n v1 v2 M   hX hT hr h
    · have h := (if_neg (show ¬ z4 = true from fun e => by rw [g6] at e; cases e)).symm.trans h
      refine r_iload_n hX dX9_linkIs_18 rfl ?_
      refine r_bipush (v := (21 : Int32)) hX dX9_linkIs_19 (by decide) ?_
      refine r_bipush (v := (84 : Int32)) hX dX9_linkIs_21 (by decide) ?_
      obtain ⟨z38, p39, h⟩ := bnd_s h
      refine r_callS (As := [.int v2, .int (21 : Int32), .int (84 : Int32)]) hX dX9_linkIs_23 mk_Fm_in ms_Fm_in ml_9_83 rfl rfl rfl (Nat.le_of_ble_eq_true rfl) hr (ok_Fm_in (d := d + 3) v2 (21 : Int32) (84 : Int32) M p39) ?_
      refine r_ifb_ne (tgt := 31) hX dX9_linkIs_26 (by decide) (fun g40 => ?_) (fun g40 => ?_)
      · have h := (if_pos g40).symm.trans h
        exact ok_Fm_linkIs_j31 n v1 v2 M   hX hT hr h
      · have h := (if_neg (show ¬ z38 = true from fun e => by rw [g40] at e; cases e)).symm.trans h
        refine r_iconst (v := (-1 : Int32)) hX dX9_linkIs_29 (by decide) ?_
        obtain rfl := Option.some.inj h
        exact r_iret hX hT dX9_linkIs_30 rfl
def Fm_lengthOf_j34 (v2 : Int32) (v3 : Int32) : Option ((Int32 × Int32) ⊕ (Int32)) :=
  some (.inl (v2, v3 + (1 : Int32)))
def Fm_lengthOf_b4 (c1 : Int32) (Mc : Mm) (v2 : Int32) (v3 : Int32) : Option ((Int32 × Int32) ⊕ (Int32)) :=
  grd (inb (3 : Int32) 12256) (
  if (Mc.1 95 (tn (3 : Int32))) ≤ v3 then
    some (.inr v2)
  else
    bnd (Fm_has c1 v3 Mc) (fun z3 =>
    if z3 = true then
      grd (inb ((44 : Int32) + v3) 12256) (
      Fm_lengthOf_j34 (v2 + (Mc.1 95 (tn ((44 : Int32) + v3)))) v3)
    else
      Fm_lengthOf_j34 v2 v3))
def Fm_lengthOf (n : Nat) (v1 : Int32) (M : Mm) : Option (Int32) :=
  bnd (loop (fun s1 : Int32 × Int32 => Fm_lengthOf_b4 v1 M s1.1 s1.2) n ((0 : Int32), (0 : Int32))) (fun y7 =>
  some y7)
set_option maxRecDepth 100000 in
theorem ok_Fm_lengthOf_j34 (n : Nat) (v2 : Int32) (v3 : Int32) {c1 : Int32} {Mc : Mm} {z : Int32} {oo : (Int32 × Int32) ⊕ (Int32)} {G : Gm} {X : Cx} {d : Nat}  (hX : XK G X 9 cX9_lengthOf 4 (d + 1)) (hT : XT X (some .int) "lengthOf") (hr : XR X SS) (hc : ∀ s1 : Int32 × Int32, oo = .inl s1 → WR G X (mQ G X (some (.int z)) Mc SS) 4 [.ref 94, .int c1, .int s1.1, .int s1.2] [] Mc SS) (hx : ∀ x1 : Int32, oo = .inr x1 → WR G X (mQ G X (some (.int z)) Mc SS) 40 [.ref 94, vU, .int x1, vU] [] Mc SS) (h : Fm_lengthOf_j34 v2 v3 = some oo) : WR G X (mQ G X (some (.int z)) Mc SS) 34 [.ref 94, .int c1, .int v2, .int v3] [] Mc SS := by
  unfold Fm_lengthOf_j34 at h
  refine r_iinc (v := v3 + (1 : Int32)) (L1 := [.ref 94, .int c1, .int v2, .int (v3 + (1 : Int32))]) hX dX9_lengthOf_34 rfl rfl rfl ?_
  refine r_goto (tgt := 4) hX dX9_lengthOf_37 (by decide) ?_
  exact hc (v2, v3 + (1 : Int32)) (Option.some.inj h).symm
set_option maxRecDepth 100000 in
theorem ok_Fm_lengthOf_b4 (n : Nat) (v2 : Int32) (v3 : Int32) {c1 : Int32} {Mc : Mm} {z : Int32} {oo : (Int32 × Int32) ⊕ (Int32)} {G : Gm} {X : Cx} {d : Nat}  (hX : XK G X 9 cX9_lengthOf 4 (d + 1)) (hT : XT X (some .int) "lengthOf") (hr : XR X SS) (hc : ∀ s1 : Int32 × Int32, oo = .inl s1 → WR G X (mQ G X (some (.int z)) Mc SS) 4 [.ref 94, .int c1, .int s1.1, .int s1.2] [] Mc SS) (hx : ∀ x1 : Int32, oo = .inr x1 → WR G X (mQ G X (some (.int z)) Mc SS) 40 [.ref 94, vU, .int x1, vU] [] Mc SS) (h : Fm_lengthOf_b4 c1 Mc v2 v3 = some oo) : WR G X (mQ G X (some (.int z)) Mc SS) 4 [.ref 94, .int c1, .int v2, .int v3] [] Mc SS := by
  unfold Fm_lengthOf_b4 at h
  refine r_iload_n hX dX9_lengthOf_4 rfl ?_
  refine r_aload_n hX dX9_lengthOf_5 rfl ?_
  refine r_getf (v := .ref 95) hX dX9_lengthOf_6 fl_9_7 rfl (by decide) (by decide) rfl ?_
  refine r_iconst (v := (3 : Int32)) hX dX9_lengthOf_9 (by decide) ?_
  obtain ⟨k1, h⟩ := grd_s h
  refine r_iald hX dX9_lengthOf_10 rfl (by decide) (inb_at rfl k1) ?_
  refine r_icmp_ge (tgt := 40) hX dX9_lengthOf_11 (by decide) (fun g2 => ?_) (fun g2 => ?_)
  · have h := (if_pos g2).symm.trans h
    refine WR.fg (L' := [.ref 94, vU, .int v2, vU]) ⟨Or.inr rfl, Or.inl rfl, Or.inr rfl, Or.inl rfl, trivial⟩ ?_
    exact hx _ (Option.some.inj h).symm
  · have h := (if_neg g2).symm.trans h
    refine r_iload_n hX dX9_lengthOf_14 rfl ?_
    refine r_iload_n hX dX9_lengthOf_15 rfl ?_
    obtain ⟨z3, p4, h⟩ := bnd_s h
    refine r_callS (As := [.int c1, .int v3]) hX dX9_lengthOf_16 mk_Fm_has ms_Fm_has ml_9_179 rfl rfl rfl (Nat.le_of_ble_eq_true rfl) hr (ok_Fm_has (d := d + 0) c1 v3 Mc p4) ?_
    refine r_ifb_eq (tgt := 34) hX dX9_lengthOf_19 (by decide) (fun g5 => ?_) (fun g5 => ?_)
    · have h := (if_neg (show ¬ z3 = true from fun e => by rw [g5] at e; cases e)).symm.trans h
      exact ok_Fm_lengthOf_j34 n v2 v3   hX hT hr hc hx h
    · have h := (if_pos g5).symm.trans h
      refine r_iload_n hX dX9_lengthOf_22 rfl ?_
      refine r_aload_n hX dX9_lengthOf_23 rfl ?_
      refine r_getf (v := .ref 95) hX dX9_lengthOf_24 fl_9_7 rfl (by decide) (by decide) rfl ?_
      refine r_bipush (v := (44 : Int32)) hX dX9_lengthOf_27 (by decide) ?_
      refine r_iload_n hX dX9_lengthOf_29 rfl ?_
      refine r_iadd hX dX9_lengthOf_30 ?_
      obtain ⟨k6, h⟩ := grd_s h
      refine r_iald hX dX9_lengthOf_31 rfl (by decide) (inb_at rfl k6) ?_
      refine r_iadd hX dX9_lengthOf_32 ?_
      refine r_istore_n (L1 := [.ref 94, .int c1, .int (v2 + (Mc.1 95 (tn ((44 : Int32) + v3)))), .int v3]) hX dX9_lengthOf_33 (Nat.le_of_ble_eq_true rfl) rfl ?_
      exact ok_Fm_lengthOf_j34 n (v2 + (Mc.1 95 (tn ((44 : Int32) + v3)))) v3   hX hT hr hc hx h
set_option maxRecDepth 100000 in
theorem ok_Fm_lengthOf {G : Gm} {l : Launch} {d : Nat} (n : Nat) (v1 : Int32) (M : Mm) {z : Int32}  (h : Fm_lengthOf n v1 M = some z) : CK G l (d + 1) md_Fm_lengthOf [.ref 94, .int v1] M SS (some (.int z)) M SS := by
  refine ck_of mk_Fm_lengthOf (Nat.le_of_ble_eq_true rfl) ⟨Nat.le_refl _, Nat.le_refl _⟩ (fun X hX hT hS hr hl => ?_)
  subst hl
  unfold Fm_lengthOf at h
  show WR G X (mQ G X (some (.int z)) M SS) 0 [.ref 94, .int v1, vU, vU] [] M SS
  refine r_iconst (v := (0 : Int32)) hX dX9_lengthOf_0 (by decide) ?_
  refine r_istore_n (L1 := [.ref 94, .int v1, .int (0 : Int32), vU]) hX dX9_lengthOf_1 (Nat.le_of_ble_eq_true rfl) rfl ?_
  refine r_iconst (v := (0 : Int32)) hX dX9_lengthOf_2 (by decide) ?_
  refine r_istore_n (L1 := [.ref 94, .int v1, .int (0 : Int32), .int (0 : Int32)]) hX dX9_lengthOf_3 (Nat.le_of_ble_eq_true rfl) rfl ?_
  obtain ⟨y7, h1, h⟩ := bnd_s h
  refine loop_ok (P := fun s1 : Int32 × Int32 => WR G X (mQ G X (some (.int z)) M SS) 4 [.ref 94, .int v1, .int s1.1, .int s1.2] [] M SS) (E := fun x1 : Int32 => WR G X (mQ G X (some (.int z)) M SS) 40 [.ref 94, vU, .int x1, vU] [] M SS) (fun s1 o1 g1 g2 g3 => ok_Fm_lengthOf_b4 n s1.1 s1.2  hX hT hr g2 g3 g1) n ((0 : Int32), (0 : Int32)) y7 h1 ?_
  show WR G X (mQ G X (some (.int z)) M SS) 40 [.ref 94, vU, .int y7, vU] [] M SS
  refine r_iload_n hX dX9_lengthOf_40 rfl ?_
  obtain rfl := Option.some.inj h
  exact r_iret hX hT dX9_lengthOf_41 rfl
def Fm_demandIs_j54 (v1 : Int32) (M : Mm) : Option (Int32) :=
  bnd (Fm_of v1 (7 : Int32) M) (fun z43 =>
  if z43 = (-1 : Int32) then
    some (-2 : Int32)
  else
    bnd (Fm_of v1 (7 : Int32) M) (fun z46 =>
    some z46))
def Fm_demandIs (n : Nat) (v1 : Int32) (v2 : Int32) (M : Mm) : Option (Int32) :=
  bnd (Fm_isDemand v1 M) (fun z1 =>
  if z1 = true then
    bnd (Fm_in v2 (0 : Int32) (11 : Int32) M) (fun z4 =>
    if z4 = true then
      if (4 : Int32) ≤ v2 then
        bnd (Fm_of v1 (3 : Int32) M) (fun z8 =>
        if v2 = (11 : Int32) then
          if z8 = (0 : Int32) then
            Fm_demandIs_j54 v1 M
          else
            if z8 = (2 : Int32) then
              Fm_demandIs_j54 v1 M
            else
              some (-2 : Int32)
        else
          if z8 = (0 : Int32) then
            if v2 = (4 : Int32) then
              bnd (Fm_of v1 (4 : Int32) M) (fun z13 =>
              some z13)
            else
              if v2 = (5 : Int32) then
                bnd (Fm_of v1 (5 : Int32) M) (fun z16 =>
                some z16)
              else
                if v2 = (6 : Int32) then
                  bnd (Fm_of v1 (6 : Int32) M) (fun z19 =>
                  bnd (Fm_sizeOf n z19 M) (fun z21 =>
                  some z21))
                else
                  if v2 = (7 : Int32) then
                    bnd (Fm_of v1 (6 : Int32) M) (fun z24 =>
                    some z24)
                  else
                    if v2 = (8 : Int32) then
                      bnd (Fm_of v1 (6 : Int32) M) (fun z27 =>
                      bnd (Fm_lengthOf n z27 M) (fun z29 =>
                      some z29))
                    else
                      if v2 = (9 : Int32) then
                        bnd (Fm_of v1 (6 : Int32) M) (fun z32 =>
                        bnd (Fm_lengthOf n z32 M) (fun z34 =>
                        bnd (Fm_formatBy n z34 M) (fun z36 =>
                        some z36)))
                      else
                        bnd (Fm_of v1 (4 : Int32) M) (fun z38 =>
                        bnd (Fm_lowest n v1 M) (fun z40 =>
                        some (z38 - z40)))
          else
            some (-2 : Int32))
      else
        bnd (Fm_of v1 v2 M) (fun z49 =>
        some z49)
    else
      some (-1 : Int32))
  else
    some (-1 : Int32))
set_option maxRecDepth 100000 in
theorem ok_Fm_demandIs_j54 (n : Nat) (v1 : Int32) (M : Mm) {z : Int32} {G : Gm} {X : Cx} {d : Nat}  (hX : XK G X 9 cX9_demandIs 4 (d + 5)) (hT : XT X (some .int) "demandIs") (hr : XR X SS) (h : Fm_demandIs_j54 v1 M = some z) : WR G X (mQ G X (some (.int z)) M SS) 54 [.ref 94, .int v1, vU, vU] [] M SS := by
  unfold Fm_demandIs_j54 at h
  refine r_aload_n hX dX9_demandIs_54 rfl ?_
  refine r_iload_n hX dX9_demandIs_55 rfl ?_
  refine r_bipush (v := (7 : Int32)) hX dX9_demandIs_56 (by decide) ?_
  obtain ⟨z43, p44, h⟩ := bnd_s h
  refine r_callV (As := [.int v1, .int (7 : Int32)]) hX dX9_demandIs_58 mk_Fm_of mi_Fm_of ml_9_79 rfl rfl rfl rfl (by decide) (by decide) (Nat.le_of_ble_eq_true rfl) hr (ok_Fm_of (d := d + 4) v1 (7 : Int32) M p44) ?_
  refine r_iconst (v := (-1 : Int32)) hX dX9_demandIs_61 (by decide) ?_
  refine r_icmp_eq (tgt := 75) hX dX9_demandIs_62 (by decide) (fun g45 => ?_) (fun g45 => ?_)
  · have h := (if_pos g45).symm.trans h
    refine r_bipush (v := (-2 : Int32)) hX dX9_demandIs_75 (by decide) ?_
    obtain rfl := Option.some.inj h
    exact r_iret hX hT dX9_demandIs_77 rfl
  · have h := (if_neg g45).symm.trans h
    refine r_aload_n hX dX9_demandIs_65 rfl ?_
    refine r_iload_n hX dX9_demandIs_66 rfl ?_
    refine r_bipush (v := (7 : Int32)) hX dX9_demandIs_67 (by decide) ?_
    obtain ⟨z46, p47, h⟩ := bnd_s h
    refine r_callV (As := [.int v1, .int (7 : Int32)]) hX dX9_demandIs_69 mk_Fm_of mi_Fm_of ml_9_79 rfl rfl rfl rfl (by decide) (by decide) (Nat.le_of_ble_eq_true rfl) hr (ok_Fm_of (d := d + 4) v1 (7 : Int32) M p47) ?_
    refine r_goto (tgt := 77) hX dX9_demandIs_72 (by decide) ?_
    obtain rfl := Option.some.inj h
    exact r_iret hX hT dX9_demandIs_77 rfl
set_option maxRecDepth 100000 in
theorem ok_Fm_demandIs {G : Gm} {l : Launch} {d : Nat} (n : Nat) (v1 : Int32) (v2 : Int32) (M : Mm) {z : Int32}  (h : Fm_demandIs n v1 v2 M = some z) : CK G l (d + 5) md_Fm_demandIs [.ref 94, .int v1, .int v2] M SS (some (.int z)) M SS := by
  refine ck_of mk_Fm_demandIs (Nat.le_of_ble_eq_true rfl) ⟨Nat.le_refl _, Nat.le_refl _⟩ (fun X hX hT hS hr hl => ?_)
  subst hl
  unfold Fm_demandIs at h
  show WR G X (mQ G X (some (.int z)) M SS) 0 [.ref 94, .int v1, .int v2, vU] [] M SS
  refine r_aload_n hX dX9_demandIs_0 rfl ?_
  refine r_iload_n hX dX9_demandIs_1 rfl ?_
  obtain ⟨z1, p2, h⟩ := bnd_s h
  refine r_callV (As := [.int v1]) hX dX9_demandIs_2 mk_Fm_isDemand mi_Fm_isDemand ml_9_281 rfl rfl rfl rfl (by decide) (by decide) (Nat.le_of_ble_eq_true rfl) hr (ok_Fm_isDemand (d := d + 3) v1 M p2) ?_
  refine r_ifb_eq (tgt := 18) hX dX9_demandIs_5 (by decide) (fun g3 => ?_) (fun g3 => ?_)
  · have h := (if_neg (show ¬ z1 = true from fun e => by rw [g3] at e; cases e)).symm.trans h
    refine r_iconst (v := (-1 : Int32)) hX dX9_demandIs_18 (by decide) ?_
    obtain rfl := Option.some.inj h
    exact r_iret hX hT dX9_demandIs_19 rfl
  · have h := (if_pos g3).symm.trans h
    refine r_iload_n hX dX9_demandIs_8 rfl ?_
    refine r_iconst (v := (0 : Int32)) hX dX9_demandIs_9 (by decide) ?_
    refine r_bipush (v := (11 : Int32)) hX dX9_demandIs_10 (by decide) ?_
    obtain ⟨z4, p5, h⟩ := bnd_s h
    refine r_callS (As := [.int v2, .int (0 : Int32), .int (11 : Int32)]) hX dX9_demandIs_12 mk_Fm_in ms_Fm_in ml_9_83 rfl rfl rfl (Nat.le_of_ble_eq_true rfl) hr (ok_Fm_in (d := d + 4) v2 (0 : Int32) (11 : Int32) M p5) ?_
    refine r_ifb_ne (tgt := 20) hX dX9_demandIs_15 (by decide) (fun g6 => ?_) (fun g6 => ?_)
    · have h := (if_pos g6).symm.trans h
      refine r_iload_n hX dX9_demandIs_20 rfl ?_
      refine r_iconst (v := (4 : Int32)) hX dX9_demandIs_21 (by decide) ?_
      refine r_icmp_ge (tgt := 32) hX dX9_demandIs_22 (by decide) (fun g7 => ?_) (fun g7 => ?_)
      · have h := (if_pos g7).symm.trans h
        refine r_aload_n hX dX9_demandIs_32 rfl ?_
        refine r_iload_n hX dX9_demandIs_33 rfl ?_
        refine r_iconst (v := (3 : Int32)) hX dX9_demandIs_34 (by decide) ?_
        obtain ⟨z8, p9, h⟩ := bnd_s h
        refine r_callV (As := [.int v1, .int (3 : Int32)]) hX dX9_demandIs_35 mk_Fm_of mi_Fm_of ml_9_79 rfl rfl rfl rfl (by decide) (by decide) (Nat.le_of_ble_eq_true rfl) hr (ok_Fm_of (d := d + 4) v1 (3 : Int32) M p9) ?_
        refine r_istore_n (L1 := [.ref 94, .int v1, .int v2, .int z8]) hX dX9_demandIs_38 (Nat.le_of_ble_eq_true rfl) rfl ?_
        refine r_iload_n hX dX9_demandIs_39 rfl ?_
        refine r_bipush (v := (11 : Int32)) hX dX9_demandIs_40 (by decide) ?_
        refine r_icmp_ne (tgt := 78) hX dX9_demandIs_42 (by decide) (fun g10 => ?_) (fun g10 => ?_)
        · have h := (if_neg g10).symm.trans h
          refine r_iload_n hX dX9_demandIs_78 rfl ?_
          refine r_if_eq (tgt := 85) hX dX9_demandIs_79 (by decide) (fun g11 => ?_) (fun g11 => ?_)
          · have h := (if_pos g11).symm.trans h
            refine r_iload_n hX dX9_demandIs_85 rfl ?_
            by_cases g12 : v2 = (4 : Int32)
            · have h := (if_pos g12).symm.trans h
              refine r_tabEq (tgt := 124) hX dX9_demandIs_86 g12 ⟨by decide, by decide, rfl⟩ (by decide) ?_
              refine r_aload_n hX dX9_demandIs_124 rfl ?_
              refine r_iload_n hX dX9_demandIs_125 rfl ?_
              refine r_iconst (v := (4 : Int32)) hX dX9_demandIs_126 (by decide) ?_
              obtain ⟨z13, p14, h⟩ := bnd_s h
              refine r_callV (As := [.int v1, .int (4 : Int32)]) hX dX9_demandIs_127 mk_Fm_of mi_Fm_of ml_9_79 rfl rfl rfl rfl (by decide) (by decide) (Nat.le_of_ble_eq_true rfl) hr (ok_Fm_of (d := d + 4) v1 (4 : Int32) M p14) ?_
              obtain rfl := Option.some.inj h
              exact r_iret hX hT dX9_demandIs_130 rfl
            · have h := (if_neg g12).symm.trans h
              by_cases g15 : v2 = (5 : Int32)
              · have h := (if_pos g15).symm.trans h
                refine r_tabEq (tgt := 131) hX dX9_demandIs_86 g15 ⟨by decide, by decide, rfl⟩ (by decide) ?_
                refine r_aload_n hX dX9_demandIs_131 rfl ?_
                refine r_iload_n hX dX9_demandIs_132 rfl ?_
                refine r_iconst (v := (5 : Int32)) hX dX9_demandIs_133 (by decide) ?_
                obtain ⟨z16, p17, h⟩ := bnd_s h
                refine r_callV (As := [.int v1, .int (5 : Int32)]) hX dX9_demandIs_134 mk_Fm_of mi_Fm_of ml_9_79 rfl rfl rfl rfl (by decide) (by decide) (Nat.le_of_ble_eq_true rfl) hr (ok_Fm_of (d := d + 4) v1 (5 : Int32) M p17) ?_
                obtain rfl := Option.some.inj h
                exact r_iret hX hT dX9_demandIs_137 rfl
              · have h := (if_neg g15).symm.trans h
                by_cases g18 : v2 = (6 : Int32)
                · have h := (if_pos g18).symm.trans h
                  refine r_tabEq (tgt := 138) hX dX9_demandIs_86 g18 ⟨by decide, by decide, rfl⟩ (by decide) ?_
                  refine r_aload_n hX dX9_demandIs_138 rfl ?_
                  refine r_iload_n hX dX9_demandIs_139 rfl ?_
                  refine r_bipush (v := (6 : Int32)) hX dX9_demandIs_140 (by decide) ?_
                  obtain ⟨z19, p20, h⟩ := bnd_s h
                  refine r_callV (As := [.int v1, .int (6 : Int32)]) hX dX9_demandIs_142 mk_Fm_of mi_Fm_of ml_9_79 rfl rfl rfl rfl (by decide) (by decide) (Nat.le_of_ble_eq_true rfl) hr (ok_Fm_of (d := d + 4) v1 (6 : Int32) M p20) ?_
                  obtain ⟨z21, p22, h⟩ := bnd_s h
                  refine r_callS (As := [.int z19]) hX dX9_demandIs_145 mk_Fm_sizeOf ms_Fm_sizeOf ml_9_481 rfl rfl rfl (Nat.le_of_ble_eq_true rfl) hr (ok_Fm_sizeOf (d := d + 4) n z19 M p22) ?_
                  obtain rfl := Option.some.inj h
                  exact r_iret hX hT dX9_demandIs_148 rfl
                · have h := (if_neg g18).symm.trans h
                  by_cases g23 : v2 = (7 : Int32)
                  · have h := (if_pos g23).symm.trans h
                    refine r_tabEq (tgt := 149) hX dX9_demandIs_86 g23 ⟨by decide, by decide, rfl⟩ (by decide) ?_
                    refine r_aload_n hX dX9_demandIs_149 rfl ?_
                    refine r_iload_n hX dX9_demandIs_150 rfl ?_
                    refine r_bipush (v := (6 : Int32)) hX dX9_demandIs_151 (by decide) ?_
                    obtain ⟨z24, p25, h⟩ := bnd_s h
                    refine r_callV (As := [.int v1, .int (6 : Int32)]) hX dX9_demandIs_153 mk_Fm_of mi_Fm_of ml_9_79 rfl rfl rfl rfl (by decide) (by decide) (Nat.le_of_ble_eq_true rfl) hr (ok_Fm_of (d := d + 4) v1 (6 : Int32) M p25) ?_
                    obtain rfl := Option.some.inj h
                    exact r_iret hX hT dX9_demandIs_156 rfl
                  · have h := (if_neg g23).symm.trans h
                    by_cases g26 : v2 = (8 : Int32)
                    · have h := (if_pos g26).symm.trans h
                      refine r_tabEq (tgt := 157) hX dX9_demandIs_86 g26 ⟨by decide, by decide, rfl⟩ (by decide) ?_
                      refine r_aload_n hX dX9_demandIs_157 rfl ?_
                      refine r_aload_n hX dX9_demandIs_158 rfl ?_
                      refine r_iload_n hX dX9_demandIs_159 rfl ?_
                      refine r_bipush (v := (6 : Int32)) hX dX9_demandIs_160 (by decide) ?_
                      obtain ⟨z27, p28, h⟩ := bnd_s h
                      refine r_callV (As := [.int v1, .int (6 : Int32)]) hX dX9_demandIs_162 mk_Fm_of mi_Fm_of ml_9_79 rfl rfl rfl rfl (by decide) (by decide) (Nat.le_of_ble_eq_true rfl) hr (ok_Fm_of (d := d + 4) v1 (6 : Int32) M p28) ?_
                      obtain ⟨z29, p30, h⟩ := bnd_s h
                      refine r_callV (As := [.int z27]) hX dX9_demandIs_165 mk_Fm_lengthOf mi_Fm_lengthOf ml_9_484 rfl rfl rfl rfl (by decide) (by decide) (Nat.le_of_ble_eq_true rfl) hr (ok_Fm_lengthOf (d := d + 3) n z27 M p30) ?_
                      obtain rfl := Option.some.inj h
                      exact r_iret hX hT dX9_demandIs_168 rfl
                    · have h := (if_neg g26).symm.trans h
                      by_cases g31 : v2 = (9 : Int32)
                      · have h := (if_pos g31).symm.trans h
                        refine r_tabEq (tgt := 169) hX dX9_demandIs_86 g31 ⟨by decide, by decide, rfl⟩ (by decide) ?_
                        refine r_aload_n hX dX9_demandIs_169 rfl ?_
                        refine r_aload_n hX dX9_demandIs_170 rfl ?_
                        refine r_aload_n hX dX9_demandIs_171 rfl ?_
                        refine r_iload_n hX dX9_demandIs_172 rfl ?_
                        refine r_bipush (v := (6 : Int32)) hX dX9_demandIs_173 (by decide) ?_
                        obtain ⟨z32, p33, h⟩ := bnd_s h
                        refine r_callV (As := [.int v1, .int (6 : Int32)]) hX dX9_demandIs_175 mk_Fm_of mi_Fm_of ml_9_79 rfl rfl rfl rfl (by decide) (by decide) (Nat.le_of_ble_eq_true rfl) hr (ok_Fm_of (d := d + 4) v1 (6 : Int32) M p33) ?_
                        obtain ⟨z34, p35, h⟩ := bnd_s h
                        refine r_callV (As := [.int z32]) hX dX9_demandIs_178 mk_Fm_lengthOf mi_Fm_lengthOf ml_9_484 rfl rfl rfl rfl (by decide) (by decide) (Nat.le_of_ble_eq_true rfl) hr (ok_Fm_lengthOf (d := d + 3) n z32 M p35) ?_
                        obtain ⟨z36, p37, h⟩ := bnd_s h
                        refine r_callV (As := [.int z34]) hX dX9_demandIs_181 mk_Fm_formatBy mi_Fm_formatBy ml_9_208 rfl rfl rfl rfl (by decide) (by decide) (Nat.le_of_ble_eq_true rfl) hr (ok_Fm_formatBy (d := d + 4) n z34 M p37) ?_
                        obtain rfl := Option.some.inj h
                        exact r_iret hX hT dX9_demandIs_184 rfl
                      · have h := (if_neg g31).symm.trans h
                        refine r_tabOut (tgt := 185) hX dX9_demandIs_86 (by have q0 := ne_ti g12 (k := 4) (by decide); have q1 := ne_ti g15 (k := 5) (by decide); have q2 := ne_ti g18 (k := 6) (by decide); have q3 := ne_ti g23 (k := 7) (by decide); have q4 := ne_ti g26 (k := 8) (by decide); have q5 := ne_ti g31 (k := 9) (by decide); omega) (by decide) ?_
                        refine r_aload_n hX dX9_demandIs_185 rfl ?_
                        refine r_iload_n hX dX9_demandIs_186 rfl ?_
                        refine r_iconst (v := (4 : Int32)) hX dX9_demandIs_187 (by decide) ?_
                        obtain ⟨z38, p39, h⟩ := bnd_s h
                        refine r_callV (As := [.int v1, .int (4 : Int32)]) hX dX9_demandIs_188 mk_Fm_of mi_Fm_of ml_9_79 rfl rfl rfl rfl (by decide) (by decide) (Nat.le_of_ble_eq_true rfl) hr (ok_Fm_of (d := d + 4) v1 (4 : Int32) M p39) ?_
                        refine r_aload_n hX dX9_demandIs_191 rfl ?_
                        refine r_iload_n hX dX9_demandIs_192 rfl ?_
                        obtain ⟨z40, p41, h⟩ := bnd_s h
                        refine r_callV (As := [.int v1]) hX dX9_demandIs_193 mk_Fm_lowest mi_Fm_lowest ml_9_284 rfl rfl rfl rfl (by decide) (by decide) (Nat.le_of_ble_eq_true rfl) hr (ok_Fm_lowest (d := d + 0) n v1 M p41) ?_
                        refine r_isub hX dX9_demandIs_196 ?_
                        obtain rfl := Option.some.inj h
                        exact r_iret hX hT dX9_demandIs_197 rfl
          · have h := (if_neg g11).symm.trans h
            refine r_bipush (v := (-2 : Int32)) hX dX9_demandIs_82 (by decide) ?_
            obtain rfl := Option.some.inj h
            exact r_iret hX hT dX9_demandIs_84 rfl
        · have h := (if_pos g10).symm.trans h
          refine r_iload_n hX dX9_demandIs_45 rfl ?_
          refine r_if_eq (tgt := 54) hX dX9_demandIs_46 (by decide) (fun g42 => ?_) (fun g42 => ?_)
          · have h := (if_pos g42).symm.trans h
            refine WR.fg (L' := [.ref 94, .int v1, vU, vU]) ⟨Or.inr rfl, Or.inr rfl, Or.inl rfl, Or.inl rfl, trivial⟩ ?_
            exact ok_Fm_demandIs_j54 n v1 M   hX hT hr h
          · have h := (if_neg g42).symm.trans h
            refine r_iload_n hX dX9_demandIs_49 rfl ?_
            refine r_iconst (v := (2 : Int32)) hX dX9_demandIs_50 (by decide) ?_
            refine r_icmp_ne (tgt := 75) hX dX9_demandIs_51 (by decide) (fun g48 => ?_) (fun g48 => ?_)
            · have h := (if_neg g48).symm.trans h
              refine r_bipush (v := (-2 : Int32)) hX dX9_demandIs_75 (by decide) ?_
              obtain rfl := Option.some.inj h
              exact r_iret hX hT dX9_demandIs_77 rfl
            · have h := (if_pos g48).symm.trans h
              refine WR.fg (L' := [.ref 94, .int v1, vU, vU]) ⟨Or.inr rfl, Or.inr rfl, Or.inl rfl, Or.inl rfl, trivial⟩ ?_
              exact ok_Fm_demandIs_j54 n v1 M   hX hT hr h
      · have h := (if_neg g7).symm.trans h
        refine r_aload_n hX dX9_demandIs_25 rfl ?_
        refine r_iload_n hX dX9_demandIs_26 rfl ?_
        refine r_iload_n hX dX9_demandIs_27 rfl ?_
        obtain ⟨z49, p50, h⟩ := bnd_s h
        refine r_callV (As := [.int v1, .int v2]) hX dX9_demandIs_28 mk_Fm_of mi_Fm_of ml_9_79 rfl rfl rfl rfl (by decide) (by decide) (Nat.le_of_ble_eq_true rfl) hr (ok_Fm_of (d := d + 4) v1 v2 M p50) ?_
        obtain rfl := Option.some.inj h
        exact r_iret hX hT dX9_demandIs_31 rfl
    · have h := (if_neg (show ¬ z4 = true from fun e => by rw [g6] at e; cases e)).symm.trans h
      refine r_iconst (v := (-1 : Int32)) hX dX9_demandIs_18 (by decide) ?_
      obtain rfl := Option.some.inj h
      exact r_iret hX hT dX9_demandIs_19 rfl
def Fm_seed (v1 : Int32) (M : Mm) : Option (Bool × Mm) :=
  bnd (Fm_in v1 (0 : Int32) (65535 : Int32) M) (fun z1 =>
  if z1 = true then
    grd (inb (6 : Int32) 12256) (
    some (true, ((up2 M.1 95 (tn (6 : Int32)) v1), M.2)))
  else
    some (false, M))
set_option maxRecDepth 100000 in
theorem ok_Fm_seed {G : Gm} {l : Launch} {d : Nat} (v1 : Int32) (M : Mm) {z : Bool × Mm}  (h : Fm_seed v1 M = some z) : CK G l (d + 1) md_Fm_seed [.ref 94, .int v1] M SS (some (.int (b2i z.1))) z.2 SS := by
  refine ck_of mk_Fm_seed (Nat.le_of_ble_eq_true rfl) ⟨Nat.le_refl _, Nat.le_refl _⟩ (fun X hX hT hS hr hl => ?_)
  subst hl
  unfold Fm_seed at h
  show WR G X (mQ G X (some (.int (b2i z.1))) z.2 SS) 0 [.ref 94, .int v1] [] M SS
  refine r_iload_n hX dX9_seed_0 rfl ?_
  refine r_iconst (v := (0 : Int32)) hX dX9_seed_1 (by decide) ?_
  refine r_ldcw hX dX9_seed_2 ki_9_487 ?_
  obtain ⟨z1, p2, h⟩ := bnd_s h
  refine r_callS (As := [.int v1, .int (0 : Int32), .int (65535 : Int32)]) hX dX9_seed_5 mk_Fm_in ms_Fm_in ml_9_83 rfl rfl rfl (Nat.le_of_ble_eq_true rfl) hr (ok_Fm_in (d := d + 0) v1 (0 : Int32) (65535 : Int32) M p2) ?_
  refine r_ifb_ne (tgt := 13) hX dX9_seed_8 (by decide) (fun g3 => ?_) (fun g3 => ?_)
  · have h := (if_pos g3).symm.trans h
    refine r_aload_n hX dX9_seed_13 rfl ?_
    refine r_getf (v := .ref 95) hX dX9_seed_14 fl_9_7 rfl (by decide) (by decide) rfl ?_
    refine r_bipush (v := (6 : Int32)) hX dX9_seed_17 (by decide) ?_
    refine r_iload_n hX dX9_seed_19 rfl ?_
    obtain ⟨k4, h⟩ := grd_s h
    refine r_iast hX dX9_seed_20 rfl (by decide) (inb_at rfl k4) ?_
    refine r_iconst (v := (1 : Int32)) hX dX9_seed_21 (by decide) ?_
    obtain rfl := Option.some.inj h
    exact r_iret (v := b2i true) hX hT dX9_seed_22 (okI_b true).1
  · have h := (if_neg (show ¬ z1 = true from fun e => by rw [g3] at e; cases e)).symm.trans h
    refine r_iconst (v := (0 : Int32)) hX dX9_seed_11 (by decide) ?_
    obtain rfl := Option.some.inj h
    exact r_iret (v := b2i false) hX hT dX9_seed_12 (okI_b false).1
def Fm_keep (n : Nat) (M : Mm) : Option (Int32 × Mm) :=
  bnd (Fm_copies n (0 : Int32) (1 : Int32) ((up2 M.1 94 2 (1 : Int32)), M.2)) (fun z1 =>
  grd (inb (7 : Int32) 12256) (
  some (z1.1 95 (tn (7 : Int32)), z1)))
set_option maxRecDepth 100000 in
theorem ok_Fm_keep {G : Gm} {l : Launch} {d : Nat} (n : Nat) (M : Mm) {z : Int32 × Mm}  (h : Fm_keep n M = some z) : CK G l (d + 1) md_Fm_keep [.ref 94] M SS (some (.int z.1)) z.2 SS := by
  refine ck_of mk_Fm_keep (Nat.le_of_ble_eq_true rfl) ⟨Nat.le_refl _, Nat.le_refl _⟩ (fun X hX hT hS hr hl => ?_)
  subst hl
  unfold Fm_keep at h
  show WR G X (mQ G X (some (.int z.1)) z.2 SS) 0 [.ref 94] [] M SS
  refine r_aload_n hX dX9_keep_0 rfl ?_
  refine r_iconst (v := (1 : Int32)) hX dX9_keep_1 (by decide) ?_
  refine r_putI hX dX9_keep_2 fl_9_488 rfl (by decide) (by decide) (okI_b true) ?_
  refine r_aload_n hX dX9_keep_5 rfl ?_
  refine r_iconst (v := (0 : Int32)) hX dX9_keep_6 (by decide) ?_
  refine r_iconst (v := (1 : Int32)) hX dX9_keep_7 (by decide) ?_
  obtain ⟨z1, p2, h⟩ := bnd_s h
  refine r_callV (As := [.int (0 : Int32), .int (1 : Int32)]) hX dX9_keep_8 mk_Fm_copies mi_Fm_copies ml_9_311 rfl rfl rfl rfl (by decide) (by decide) (Nat.le_of_ble_eq_true rfl) hr (ok_Fm_copies (d := d + 0) n (0 : Int32) (1 : Int32) ((up2 M.1 94 2 (1 : Int32)), M.2) p2) ?_
  refine r_aload_n hX dX9_keep_11 rfl ?_
  refine r_getf (v := .ref 95) hX dX9_keep_12 fl_9_7 rfl (by decide) (by decide) rfl ?_
  refine r_bipush (v := (7 : Int32)) hX dX9_keep_15 (by decide) ?_
  obtain ⟨k3, h⟩ := grd_s h
  refine r_iald hX dX9_keep_17 rfl (by decide) (inb_at rfl k3) ?_
  obtain rfl := Option.some.inj h
  exact r_iret hX hT dX9_keep_18 rfl
def Fm_undo (n : Nat) (M : Mm) : Option (Bool × Mm) :=
  if (M.1 94 2) = (0 : Int32) then
    some (false, M)
  else
    bnd (Fm_copies n (1 : Int32) (0 : Int32) M) (fun z2 =>
    some (true, z2))
set_option maxRecDepth 100000 in
theorem ok_Fm_undo {G : Gm} {l : Launch} {d : Nat} (n : Nat) (M : Mm) {z : Bool × Mm}  (h : Fm_undo n M = some z) : CK G l (d + 1) md_Fm_undo [.ref 94] M SS (some (.int (b2i z.1))) z.2 SS := by
  refine ck_of mk_Fm_undo (Nat.le_of_ble_eq_true rfl) ⟨Nat.le_refl _, Nat.le_refl _⟩ (fun X hX hT hS hr hl => ?_)
  subst hl
  unfold Fm_undo at h
  show WR G X (mQ G X (some (.int (b2i z.1))) z.2 SS) 0 [.ref 94] [] M SS
  refine r_aload_n hX dX9_undo_0 rfl ?_
  refine r_getf (v := .int (M.1 94 2)) hX dX9_undo_1 fl_9_488 rfl (by decide) (by decide) rfl ?_
  refine r_if_ne (tgt := 9) hX dX9_undo_4 (by decide) (fun g1 => ?_) (fun g1 => ?_)
  · have h := (if_neg g1).symm.trans h
    refine r_aload_n hX dX9_undo_9 rfl ?_
    refine r_iconst (v := (1 : Int32)) hX dX9_undo_10 (by decide) ?_
    refine r_iconst (v := (0 : Int32)) hX dX9_undo_11 (by decide) ?_
    obtain ⟨z2, p3, h⟩ := bnd_s h
    refine r_callV (As := [.int (1 : Int32), .int (0 : Int32)]) hX dX9_undo_12 mk_Fm_copies mi_Fm_copies ml_9_311 rfl rfl rfl rfl (by decide) (by decide) (Nat.le_of_ble_eq_true rfl) hr (ok_Fm_copies (d := d + 0) n (1 : Int32) (0 : Int32) M p3) ?_
    refine r_iconst (v := (1 : Int32)) hX dX9_undo_15 (by decide) ?_
    obtain rfl := Option.some.inj h
    exact r_iret (v := b2i true) hX hT dX9_undo_16 (okI_b true).1
  · have h := (if_pos g1).symm.trans h
    refine r_iconst (v := (0 : Int32)) hX dX9_undo_7 (by decide) ?_
    obtain rfl := Option.some.inj h
    exact r_iret (v := b2i false) hX hT dX9_undo_8 (okI_b false).1
def Fm_check_j77 (v2 : Int32) (v3 : Int32) : Option ((Int32 × Int32) ⊕ (Int32)) :=
  some (.inl (v2, v3 + (-1 : Int32)))
def Fm_check_j75 (v3 : Int32) : Option ((Int32 × Int32) ⊕ (Int32)) :=
  Fm_check_j77 v3 v3
def Fm_check_j72 (v2 : Int32) (v3 : Int32) (w0 : Int32) (w1 : Int32) : Option ((Int32 × Int32) ⊕ (Int32)) :=
  if w1 = w0 then
    Fm_check_j77 v2 v3
  else
    Fm_check_j75 v3
def Fm_check_b27 (Mc : Mm) (v2 : Int32) (v3 : Int32) : Option ((Int32 × Int32) ⊕ (Int32)) :=
  if v3 < (0 : Int32) then
    some (.inr v2)
  else
    grd (inb (7 : Int32) 12256) (
    if (Mc.1 95 (tn (7 : Int32))) ≤ v3 then
      Fm_check_j75 v3
    else
      grd (inb v3 240) (
      bnd (Fm_isLit v3 Mc) (fun z9 =>
      if z9 = true then
        bnd (Fm_of v3 (4 : Int32) Mc) (fun z13 =>
        Fm_check_j72 v2 v3 z13 ((Mc.1 97 (tn v3)) &&& (255 : Int32)))
      else
        Fm_check_j72 v2 v3 (255 : Int32) ((Mc.1 97 (tn v3)) &&& (255 : Int32)))))
def Fm_check (n : Nat) (v1 : Int32) (M : Mm) : Option (Int32 × Mm) :=
  bnd (Fm_in v1 (0 : Int32) (40 : Int32) M) (fun z1 =>
  if z1 = true then
    if v1 ≤ (M.1 94 4) then
      bnd (loop (fun s1 : Int32 × Int32 => Fm_check_b27 M s1.1 s1.2) n ((-1 : Int32), v1 - (1 : Int32))) (fun y15 =>
      some (y15, ((up2 M.1 94 4 (0 : Int32)), M.2)))
    else
      some ((-2 : Int32), M)
  else
    some ((-2 : Int32), M))
set_option maxRecDepth 100000 in
theorem ok_Fm_check_j77 (n : Nat) (v2 : Int32) (v3 : Int32)  {Mc : Mm} {z : Int32 × Mm} {oo : (Int32 × Int32) ⊕ (Int32)} {G : Gm} {X : Cx} {d : Nat}  (hX : XK G X 9 cX9_check 4 (d + 2)) (hT : XT X (some .int) "check") (hr : XR X SS) (hc : ∀ s1 : Int32 × Int32, oo = .inl s1 → WR G X (mQ G X (some (.int z.1)) z.2 SS) 27 [.ref 94, vU, .int s1.1, .int s1.2] [] Mc SS) (hx : ∀ x1 : Int32, oo = .inr x1 → WR G X (mQ G X (some (.int z.1)) z.2 SS) 83 [.ref 94, vU, .int x1, vU] [] Mc SS) (h : Fm_check_j77 v2 v3 = some oo) : WR G X (mQ G X (some (.int z.1)) z.2 SS) 77 [.ref 94, vU, .int v2, .int v3] [] Mc SS := by
  unfold Fm_check_j77 at h
  refine r_iinc (v := v3 + (-1 : Int32)) (L1 := [.ref 94, vU, .int v2, .int (v3 + (-1 : Int32))]) hX dX9_check_77 rfl rfl rfl ?_
  refine r_goto (tgt := 27) hX dX9_check_80 (by decide) ?_
  exact hc (v2, v3 + (-1 : Int32)) (Option.some.inj h).symm
set_option maxRecDepth 100000 in
theorem ok_Fm_check_j75 (n : Nat) (v3 : Int32)  {Mc : Mm} {z : Int32 × Mm} {oo : (Int32 × Int32) ⊕ (Int32)} {G : Gm} {X : Cx} {d : Nat}  (hX : XK G X 9 cX9_check 4 (d + 2)) (hT : XT X (some .int) "check") (hr : XR X SS) (hc : ∀ s1 : Int32 × Int32, oo = .inl s1 → WR G X (mQ G X (some (.int z.1)) z.2 SS) 27 [.ref 94, vU, .int s1.1, .int s1.2] [] Mc SS) (hx : ∀ x1 : Int32, oo = .inr x1 → WR G X (mQ G X (some (.int z.1)) z.2 SS) 83 [.ref 94, vU, .int x1, vU] [] Mc SS) (h : Fm_check_j75 v3 = some oo) : WR G X (mQ G X (some (.int z.1)) z.2 SS) 75 [.ref 94, vU, vU, .int v3] [] Mc SS := by
  unfold Fm_check_j75 at h
  refine r_iload_n hX dX9_check_75 rfl ?_
  refine r_istore_n (L1 := [.ref 94, vU, .int v3, .int v3]) hX dX9_check_76 (Nat.le_of_ble_eq_true rfl) rfl ?_
  exact ok_Fm_check_j77 n v3 v3   hX hT hr hc hx h
set_option maxRecDepth 100000 in
theorem ok_Fm_check_j72 (n : Nat) (v2 : Int32) (v3 : Int32) (w0 : Int32) (w1 : Int32)  {Mc : Mm} {z : Int32 × Mm} {oo : (Int32 × Int32) ⊕ (Int32)} {G : Gm} {X : Cx} {d : Nat}  (hX : XK G X 9 cX9_check 4 (d + 2)) (hT : XT X (some .int) "check") (hr : XR X SS) (hc : ∀ s1 : Int32 × Int32, oo = .inl s1 → WR G X (mQ G X (some (.int z.1)) z.2 SS) 27 [.ref 94, vU, .int s1.1, .int s1.2] [] Mc SS) (hx : ∀ x1 : Int32, oo = .inr x1 → WR G X (mQ G X (some (.int z.1)) z.2 SS) 83 [.ref 94, vU, .int x1, vU] [] Mc SS) (h : Fm_check_j72 v2 v3 w0 w1 = some oo) : WR G X (mQ G X (some (.int z.1)) z.2 SS) 72 [.ref 94, vU, .int v2, .int v3] [.int w0, .int w1] Mc SS := by
  unfold Fm_check_j72 at h
  refine r_icmp_eq (tgt := 77) hX dX9_check_72 (by decide) (fun g12 => ?_) (fun g12 => ?_)
  · have h := (if_pos g12).symm.trans h
    exact ok_Fm_check_j77 n v2 v3   hX hT hr hc hx h
  · have h := (if_neg g12).symm.trans h
    refine WR.fg (L' := [.ref 94, vU, vU, .int v3]) ⟨Or.inr rfl, Or.inl rfl, Or.inl rfl, Or.inr rfl, trivial⟩ ?_
    exact ok_Fm_check_j75 n v3   hX hT hr hc hx h
set_option maxRecDepth 100000 in
theorem ok_Fm_check_b27 (n : Nat) (v2 : Int32) (v3 : Int32)  {Mc : Mm} {z : Int32 × Mm} {oo : (Int32 × Int32) ⊕ (Int32)} {G : Gm} {X : Cx} {d : Nat}  (hX : XK G X 9 cX9_check 4 (d + 2)) (hT : XT X (some .int) "check") (hr : XR X SS) (hc : ∀ s1 : Int32 × Int32, oo = .inl s1 → WR G X (mQ G X (some (.int z.1)) z.2 SS) 27 [.ref 94, vU, .int s1.1, .int s1.2] [] Mc SS) (hx : ∀ x1 : Int32, oo = .inr x1 → WR G X (mQ G X (some (.int z.1)) z.2 SS) 83 [.ref 94, vU, .int x1, vU] [] Mc SS) (h : Fm_check_b27 Mc v2 v3 = some oo) : WR G X (mQ G X (some (.int z.1)) z.2 SS) 27 [.ref 94, vU, .int v2, .int v3] [] Mc SS := by
  unfold Fm_check_b27 at h
  refine r_iload_n hX dX9_check_27 rfl ?_
  refine r_if_lt (tgt := 83) hX dX9_check_28 (by decide) (fun g5 => ?_) (fun g5 => ?_)
  · have h := (if_pos g5).symm.trans h
    refine WR.fg (L' := [.ref 94, vU, .int v2, vU]) ⟨Or.inr rfl, Or.inl rfl, Or.inr rfl, Or.inl rfl, trivial⟩ ?_
    exact hx _ (Option.some.inj h).symm
  · have h := (if_neg g5).symm.trans h
    refine r_iload_n hX dX9_check_31 rfl ?_
    refine r_aload_n hX dX9_check_32 rfl ?_
    refine r_getf (v := .ref 95) hX dX9_check_33 fl_9_7 rfl (by decide) (by decide) rfl ?_
    refine r_bipush (v := (7 : Int32)) hX dX9_check_36 (by decide) ?_
    obtain ⟨k6, h⟩ := grd_s h
    refine r_iald hX dX9_check_38 rfl (by decide) (inb_at rfl k6) ?_
    refine r_icmp_ge (tgt := 75) hX dX9_check_39 (by decide) (fun g7 => ?_) (fun g7 => ?_)
    · have h := (if_pos g7).symm.trans h
      refine WR.fg (L' := [.ref 94, vU, vU, .int v3]) ⟨Or.inr rfl, Or.inl rfl, Or.inl rfl, Or.inr rfl, trivial⟩ ?_
      exact ok_Fm_check_j75 n v3   hX hT hr hc hx h
    · have h := (if_neg g7).symm.trans h
      refine r_aload_n hX dX9_check_42 rfl ?_
      refine r_getf (v := .ref 97) hX dX9_check_43 fl_9_16 rfl (by decide) (by decide) rfl ?_
      refine r_iload_n hX dX9_check_46 rfl ?_
      obtain ⟨k8, h⟩ := grd_s h
      refine r_bald hX dX9_check_47 rfl (by decide) (inb_at rfl k8) ?_
      refine r_sipush (v := (255 : Int32)) hX dX9_check_48 (by decide) ?_
      refine r_iand hX dX9_check_51 ?_
      refine r_aload_n hX dX9_check_52 rfl ?_
      refine r_iload_n hX dX9_check_53 rfl ?_
      obtain ⟨z9, p10, h⟩ := bnd_s h
      refine r_callV (As := [.int v3]) hX dX9_check_54 mk_Fm_isLit mi_Fm_isLit ml_9_219 rfl rfl rfl rfl (by decide) (by decide) (Nat.le_of_ble_eq_true rfl) hr (ok_Fm_isLit (d := d + 0) v3 Mc p10) ?_
      refine r_ifb_eq (tgt := 69) hX dX9_check_57 (by decide) (fun g11 => ?_) (fun g11 => ?_)
      · have h := (if_neg (show ¬ z9 = true from fun e => by rw [g11] at e; cases e)).symm.trans h
        refine r_sipush (v := (255 : Int32)) hX dX9_check_69 (by decide) ?_
        exact ok_Fm_check_j72 n v2 v3 (255 : Int32) ((Mc.1 97 (tn v3)) &&& (255 : Int32))   hX hT hr hc hx h
      · have h := (if_pos g11).symm.trans h
        refine r_aload_n hX dX9_check_60 rfl ?_
        refine r_iload_n hX dX9_check_61 rfl ?_
        refine r_iconst (v := (4 : Int32)) hX dX9_check_62 (by decide) ?_
        obtain ⟨z13, p14, h⟩ := bnd_s h
        refine r_callV (As := [.int v3, .int (4 : Int32)]) hX dX9_check_63 mk_Fm_of mi_Fm_of ml_9_79 rfl rfl rfl rfl (by decide) (by decide) (Nat.le_of_ble_eq_true rfl) hr (ok_Fm_of (d := d + 1) v3 (4 : Int32) Mc p14) ?_
        refine r_goto (tgt := 72) hX dX9_check_66 (by decide) ?_
        exact ok_Fm_check_j72 n v2 v3 z13 ((Mc.1 97 (tn v3)) &&& (255 : Int32))   hX hT hr hc hx h
set_option maxRecDepth 100000 in
theorem ok_Fm_check {G : Gm} {l : Launch} {d : Nat} (n : Nat) (v1 : Int32) (M : Mm) {z : Int32 × Mm}  (h : Fm_check n v1 M = some z) : CK G l (d + 2) md_Fm_check [.ref 94, .int v1] M SS (some (.int z.1)) z.2 SS := by
  refine ck_of mk_Fm_check (Nat.le_of_ble_eq_true rfl) ⟨Nat.le_refl _, Nat.le_refl _⟩ (fun X hX hT hS hr hl => ?_)
  subst hl
  unfold Fm_check at h
  show WR G X (mQ G X (some (.int z.1)) z.2 SS) 0 [.ref 94, .int v1, vU, vU] [] M SS
  refine r_iload_n hX dX9_check_0 rfl ?_
  refine r_iconst (v := (0 : Int32)) hX dX9_check_1 (by decide) ?_
  refine r_bipush (v := (40 : Int32)) hX dX9_check_2 (by decide) ?_
  obtain ⟨z1, p2, h⟩ := bnd_s h
  refine r_callS (As := [.int v1, .int (0 : Int32), .int (40 : Int32)]) hX dX9_check_4 mk_Fm_in ms_Fm_in ml_9_83 rfl rfl rfl (Nat.le_of_ble_eq_true rfl) hr (ok_Fm_in (d := d + 1) v1 (0 : Int32) (40 : Int32) M p2) ?_
  refine r_ifb_eq (tgt := 18) hX dX9_check_7 (by decide) (fun g3 => ?_) (fun g3 => ?_)
  · have h := (if_neg (show ¬ z1 = true from fun e => by rw [g3] at e; cases e)).symm.trans h
    refine r_bipush (v := (-2 : Int32)) hX dX9_check_18 (by decide) ?_
    obtain rfl := Option.some.inj h
    exact r_iret hX hT dX9_check_20 rfl
  · have h := (if_pos g3).symm.trans h
    refine r_iload_n hX dX9_check_10 rfl ?_
    refine r_aload_n hX dX9_check_11 rfl ?_
    refine r_getf (v := .int (M.1 94 4)) hX dX9_check_12 fl_9_87 rfl (by decide) (by decide) rfl ?_
    refine r_icmp_le (tgt := 21) hX dX9_check_15 (by decide) (fun g4 => ?_) (fun g4 => ?_)
    · have h := (if_pos g4).symm.trans h
      refine r_iconst (v := (-1 : Int32)) hX dX9_check_21 (by decide) ?_
      refine r_istore_n (L1 := [.ref 94, .int v1, .int (-1 : Int32), vU]) hX dX9_check_22 (Nat.le_of_ble_eq_true rfl) rfl ?_
      refine r_iload_n hX dX9_check_23 rfl ?_
      refine r_iconst (v := (1 : Int32)) hX dX9_check_24 (by decide) ?_
      refine r_isub hX dX9_check_25 ?_
      refine r_istore_n (L1 := [.ref 94, .int v1, .int (-1 : Int32), .int (v1 - (1 : Int32))]) hX dX9_check_26 (Nat.le_of_ble_eq_true rfl) rfl ?_
      refine WR.fg (L' := [.ref 94, vU, .int (-1 : Int32), .int (v1 - (1 : Int32))]) ⟨Or.inr rfl, Or.inl rfl, Or.inr rfl, Or.inr rfl, trivial⟩ ?_
      obtain ⟨y15, h1, h⟩ := bnd_s h
      refine loop_ok (P := fun s1 : Int32 × Int32 => WR G X (mQ G X (some (.int z.1)) z.2 SS) 27 [.ref 94, vU, .int s1.1, .int s1.2] [] M SS) (E := fun x1 : Int32 => WR G X (mQ G X (some (.int z.1)) z.2 SS) 83 [.ref 94, vU, .int x1, vU] [] M SS) (fun s1 o1 g1 g2 g3 => ok_Fm_check_b27 n s1.1 s1.2  hX hT hr g2 g3 g1) n ((-1 : Int32), v1 - (1 : Int32)) y15 h1 ?_
      show WR G X (mQ G X (some (.int z.1)) z.2 SS) 83 [.ref 94, vU, .int y15, vU] [] M SS
      refine r_aload_n hX dX9_check_83 rfl ?_
      refine r_iconst (v := (0 : Int32)) hX dX9_check_84 (by decide) ?_
      refine r_putI hX dX9_check_85 fl_9_87 rfl (by decide) (by decide) (okI_int _) ?_
      refine r_iload_n hX dX9_check_88 rfl ?_
      obtain rfl := Option.some.inj h
      exact r_iret hX hT dX9_check_89 rfl
    · have h := (if_neg g4).symm.trans h
      refine r_bipush (v := (-2 : Int32)) hX dX9_check_18 (by decide) ?_
      obtain rfl := Option.some.inj h
      exact r_iret hX hT dX9_check_20 rfl
def Fm_count (v1 : Int32) (M : Mm) : Option (Int32) :=
  if v1 = (0 : Int32) then
    grd (inb (7 : Int32) 12256) (
    some (M.1 95 (tn (7 : Int32))))
  else
    if v1 = (1 : Int32) then
      some (M.1 94 4)
    else
      if v1 = (2 : Int32) then
        grd (inb (4 : Int32) 12256) (
        some (M.1 95 (tn (4 : Int32))))
      else
        some (-1 : Int32)
set_option maxRecDepth 100000 in
theorem ok_Fm_count {G : Gm} {l : Launch} {d : Nat} (v1 : Int32) (M : Mm) {z : Int32}  (h : Fm_count v1 M = some z) : CK G l (d + 0) md_Fm_count [.ref 94, .int v1] M SS (some (.int z)) M SS := by
  refine ck_of mk_Fm_count (Nat.le_of_ble_eq_true rfl) ⟨Nat.le_refl _, Nat.le_refl _⟩ (fun X hX hT hS hr hl => ?_)
  subst hl
  unfold Fm_count at h
  show WR G X (mQ G X (some (.int z)) M SS) 0 [.ref 94, .int v1] [] M SS
  refine r_iload_n hX dX9_count_0 rfl ?_
  refine r_if_ne (tgt := 14) hX dX9_count_1 (by decide) (fun g1 => ?_) (fun g1 => ?_)
  · have h := (if_neg g1).symm.trans h
    refine r_iload_n hX dX9_count_14 rfl ?_
    refine r_iconst (v := (1 : Int32)) hX dX9_count_15 (by decide) ?_
    refine r_icmp_ne (tgt := 26) hX dX9_count_16 (by decide) (fun g2 => ?_) (fun g2 => ?_)
    · have h := (if_neg g2).symm.trans h
      refine r_iload_n hX dX9_count_26 rfl ?_
      refine r_iconst (v := (2 : Int32)) hX dX9_count_27 (by decide) ?_
      refine r_icmp_ne (tgt := 40) hX dX9_count_28 (by decide) (fun g3 => ?_) (fun g3 => ?_)
      · have h := (if_neg g3).symm.trans h
        refine r_iconst (v := (-1 : Int32)) hX dX9_count_40 (by decide) ?_
        obtain rfl := Option.some.inj h
        exact r_iret hX hT dX9_count_41 rfl
      · have h := (if_pos g3).symm.trans h
        refine r_aload_n hX dX9_count_31 rfl ?_
        refine r_getf (v := .ref 95) hX dX9_count_32 fl_9_7 rfl (by decide) (by decide) rfl ?_
        refine r_iconst (v := (4 : Int32)) hX dX9_count_35 (by decide) ?_
        obtain ⟨k4, h⟩ := grd_s h
        refine r_iald hX dX9_count_36 rfl (by decide) (inb_at rfl k4) ?_
        refine r_goto (tgt := 41) hX dX9_count_37 (by decide) ?_
        obtain rfl := Option.some.inj h
        exact r_iret hX hT dX9_count_41 rfl
    · have h := (if_pos g2).symm.trans h
      refine r_aload_n hX dX9_count_19 rfl ?_
      refine r_getf (v := .int (M.1 94 4)) hX dX9_count_20 fl_9_87 rfl (by decide) (by decide) rfl ?_
      refine r_goto (tgt := 41) hX dX9_count_23 (by decide) ?_
      obtain rfl := Option.some.inj h
      exact r_iret hX hT dX9_count_41 rfl
  · have h := (if_pos g1).symm.trans h
    refine r_aload_n hX dX9_count_4 rfl ?_
    refine r_getf (v := .ref 95) hX dX9_count_5 fl_9_7 rfl (by decide) (by decide) rfl ?_
    refine r_bipush (v := (7 : Int32)) hX dX9_count_8 (by decide) ?_
    obtain ⟨k5, h⟩ := grd_s h
    refine r_iald hX dX9_count_10 rfl (by decide) (inb_at rfl k5) ?_
    refine r_goto (tgt := 41) hX dX9_count_11 (by decide) ?_
    obtain rfl := Option.some.inj h
    exact r_iret hX hT dX9_count_41 rfl
