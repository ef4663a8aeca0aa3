def St_landings (n : Nat) (s : Nat) (v1 : Int32) (M : Mm) : Option (Int64) :=
  grd (inb v1 40) (
  grd (inb v1 40) (
  grd (inb v1 40) (
  bnd (Fg_span (imx (0 : Int32) (((M.1 (s + 13) (tn v1)) - (M.1 (s + 14) (tn v1))) + (1 : Int32))) ((M.1 (s + 13) (tn v1)) + (M.1 (s + 14) (tn v1))) M) (fun z4 =>
  grd (inb v1 40) (
  bnd (St_fitting n s (M.1 (s + 12) (tn v1)) (M.1 (s + 14) (tn v1)) v1 M) (fun z7 =>
  some (z7 &&& (z4 ^^^ (-1 : Int64)))))))))
set_option maxRecDepth 100000 in
theorem ok_St_landings {G : Gm} {l : Launch} {d : Nat} (n : Nat) (s : Nat) (v1 : Int32) (M : Mm) {z : Int64} (hs : isSt s) (h : St_landings n s v1 M = some z) : CK G l (d + 2) md_St_landings [.ref s, .int v1] M SS (some (.long z)) M SS := by
  refine ck_of mk_St_landings (Nat.le_of_ble_eq_true rfl) ⟨Nat.le_refl _, Nat.le_refl _⟩ (fun X hX hT hS hr hl => ?_)
  subst hl
  unfold St_landings at h
  show WR G X (mQ G X (some (.long z)) M SS) 0 [.ref s, .int v1, vU, vU, vU] [] M SS
  refine r_aload_n hX dX4_landings_0 rfl ?_
  refine r_getf (v := .ref (s + 14)) hX dX4_landings_1 fl_4_53 (kdS0 hs) (by decide) (ltS0 hs) (rfS12 hs) ?_
  refine r_iload_n hX dX4_landings_4 rfl ?_
  obtain ⟨k1, h⟩ := grd_s h
  refine r_iald hX dX4_landings_5 (kdS14 hs) (ltS14 hs) (inb_at (lnS14 hs) k1) ?_
  refine r_istore_n (L1 := [.ref s, .int v1, .int (M.1 (s + 14) (tn v1)), vU, vU]) hX dX4_landings_6 (Nat.le_of_ble_eq_true rfl) rfl ?_
  refine r_iconst (v := (0 : Int32)) hX dX4_landings_7 (by decide) ?_
  refine r_aload_n hX dX4_landings_8 rfl ?_
  refine r_getf (v := .ref (s + 13)) hX dX4_landings_9 fl_4_50 (kdS0 hs) (by decide) (ltS0 hs) (rfS11 hs) ?_
  refine r_iload_n hX dX4_landings_12 rfl ?_
  obtain ⟨k2, h⟩ := grd_s h
  refine r_iald hX dX4_landings_13 (kdS13 hs) (ltS13 hs) (inb_at (lnS13 hs) k2) ?_
  refine r_iload_n hX dX4_landings_14 rfl ?_
  refine r_isub hX dX4_landings_15 ?_
  refine r_iconst (v := (1 : Int32)) hX dX4_landings_16 (by decide) ?_
  refine r_iadd hX dX4_landings_17 ?_
  refine r_max hX dX4_landings_18 ml_4_124 rfl (Nat.le_of_ble_eq_true rfl) hr ?_
  refine r_aload_n hX dX4_landings_21 rfl ?_
  refine r_getf (v := .ref (s + 13)) hX dX4_landings_22 fl_4_50 (kdS0 hs) (by decide) (ltS0 hs) (rfS11 hs) ?_
  refine r_iload_n hX dX4_landings_25 rfl ?_
  obtain ⟨k3, h⟩ := grd_s h
  refine r_iald hX dX4_landings_26 (kdS13 hs) (ltS13 hs) (inb_at (lnS13 hs) k3) ?_
  refine r_iload_n hX dX4_landings_27 rfl ?_
  refine r_iadd hX dX4_landings_28 ?_
  obtain ⟨z4, p5, h⟩ := bnd_s h
  refine r_callSN (As := [.int (imx (0 : Int32) (((M.1 (s + 13) (tn v1)) - (M.1 (s + 14) (tn v1))) + (1 : Int32))), .int ((M.1 (s + 13) (tn v1)) + (M.1 (s + 14) (tn v1)))]) hX dX4_landings_29 mk_Fg_span ms_Fg_span mn_4_88 rfl rfl rfl (Nat.le_of_ble_eq_true rfl) hr (ok_Fg_span (d := d + 1) (imx (0 : Int32) (((M.1 (s + 13) (tn v1)) - (M.1 (s + 14) (tn v1))) + (1 : Int32))) ((M.1 (s + 13) (tn v1)) + (M.1 (s + 14) (tn v1))) M p5) ?_
  refine r_lstore_n (L1 := [.ref s, .int v1, .int (M.1 (s + 14) (tn v1)), .long z4, vU]) hX dX4_landings_32 (Nat.le_of_ble_eq_true rfl) rfl ?_
  refine r_aload_n hX dX4_landings_33 rfl ?_
  refine r_aload_n hX dX4_landings_34 rfl ?_
  refine r_getf (v := .ref (s + 12)) hX dX4_landings_35 fl_4_47 (kdS0 hs) (by decide) (ltS0 hs) (rfS10 hs) ?_
  refine r_iload_n hX dX4_landings_38 rfl ?_
  obtain ⟨k6, h⟩ := grd_s h
  refine r_iald hX dX4_landings_39 (kdS12 hs) (ltS12 hs) (inb_at (lnS12 hs) k6) ?_
  refine r_iload_n hX dX4_landings_40 rfl ?_
  refine r_iload_n hX dX4_landings_41 rfl ?_
  obtain ⟨z7, p8, h⟩ := bnd_s h
  refine r_callV (As := [.int (M.1 (s + 12) (tn v1)), .int (M.1 (s + 14) (tn v1)), .int v1]) hX dX4_landings_42 mk_St_fitting mi_St_fitting ml_4_120 rfl rfl rfl (kdS0 hs) (by decide) (ltS0 hs) (Nat.le_of_ble_eq_true rfl) hr (ok_St_fitting (d := d + 0) n s (M.1 (s + 12) (tn v1)) (M.1 (s + 14) (tn v1)) v1 M hs p8) ?_
  refine r_lload_n hX dX4_landings_45 rfl ?_
  refine r_ldc2 hX dX4_landings_46 kl_4_96 ?_
  refine r_lxor hX dX4_landings_49 ?_
  refine r_land hX dX4_landings_50 ?_
  obtain rfl := Option.some.inj h
  exact r_lret hX hT dX4_landings_51
def Rp_parkOne_j57 (n : Nat) (v1 : Int32) (w0 : Int64) (Mc : Mm) : Option ((Int32) ⊕ ((Unit) ⊕ (Bool × Mm))) :=
  if w0 = (0 : Int64) then
    some (.inl (v1 + (1 : Int32)))
  else
    grd (inb v1 40) (
    bnd (Fg_lowest w0 Mc) (fun z6 =>
    grd (inb v1 40) (
    bnd (St_move n 54 v1 (Mc.1 66 (tn v1)) z6 (Mc.1 68 (tn v1)) Mc) (fun z9 =>
    bnd (Rp_waitAnewFor n v1 (z9.1, (up2 z9.2 72 4 ((z9.2 72 4) ||| (lshl (1 : Int64) v1))))) (fun z11 =>
    some (.inr (.inr (true, z11))))))))
def Rp_parkOne_j40 (n : Nat) (v1 : Int32) (w0 : Int32) (Mc : Mm) : Option ((Int32) ⊕ ((Unit) ⊕ (Bool × Mm))) :=
  if w0 = (0 : Int32) then
    Rp_parkOne_j57 n v1 (0 : Int64) Mc
  else
    bnd (St_landings n 54 v1 Mc) (fun z13 =>
    Rp_parkOne_j57 n v1 z13 Mc)
def Rp_parkOne_b2 (n : Nat) (Mc : Mm) (v1 : Int32) : Option ((Int32) ⊕ ((Unit) ⊕ (Bool × Mm))) :=
  if (Mc.1 54 4) ≤ v1 then
    some (.inr (.inl ()))
  else
    if ((lushr ((Mc.2 72 3) &&& ((Mc.2 72 4) ^^^ (-1 : Int64))) v1) &&& (1 : Int64)) = (0 : Int64) then
      Rp_parkOne_j40 n v1 (0 : Int32) Mc
    else
      Rp_parkOne_j40 n v1 (1 : Int32) Mc
def Rp_parkOne (n : Nat) (M : Mm) : Option (Bool × Mm) :=
  bnd (loop (fun s1 : Int32 => Rp_parkOne_b2 n M s1) n (0 : Int32)) (fun y15 =>
  elS y15 (fun x16 =>
    some (false, M))
    (fun e17 => some e17))
set_option maxRecDepth 100000 in
theorem ok_Rp_parkOne_j57 (n : Nat) (v1 : Int32) (w0 : Int64)  {Mc : Mm} {z : Bool × Mm} {oo : (Int32) ⊕ ((Unit) ⊕ (Bool × Mm))} {G : Gm} {X : Cx} {d : Nat}  (hX : XK G X 3 cX3_parkOne 5 (d + 3)) (hT : XT X (some .boolean) "parkOne") (hr : XR X SS) (hc : ∀ s1 : Int32, oo = .inl s1 → WR G X (mQ G X (some (.int (b2i z.1))) z.2 SS) 2 [.ref 72, .int s1, vU, vU, vU] [] Mc SS) (hx : ∀ x1 : (Unit) ⊕ (Bool × Mm), oo = .inr x1 → elS x1 (fun x2 => WR G X (mQ G X (some (.int (b2i z.1))) z.2 SS) 119 [.ref 72, vU, vU, vU, vU] [] Mc SS) (fun y1 => y1 = z)) (h : Rp_parkOne_j57 n v1 w0 Mc = some oo) : WR G X (mQ G X (some (.int (b2i z.1))) z.2 SS) 57 [.ref 72, .int v1, vU, vU, vU] [.long w0] Mc SS := by
  unfold Rp_parkOne_j57 at h
  refine r_lstore_n (L1 := [.ref 72, .int v1, vU, .long w0, vU]) hX dX3_parkOne_57 (Nat.le_of_ble_eq_true rfl) rfl ?_
  refine r_lload_n hX dX3_parkOne_58 rfl ?_
  refine r_lconst (v := (0 : Int64)) hX dX3_parkOne_59 (by decide) ?_
  refine r_lcmp_eq (tgt := 113) hX dX3_parkOne_60 dX3_parkOne_61 (by decide) (fun g4 => ?_) (fun g4 => ?_)
  · have h := (if_pos g4).symm.trans h
    refine r_iinc (v := v1 + (1 : Int32)) (L1 := [.ref 72, .int (v1 + (1 : Int32)), vU, .long w0, vU]) hX dX3_parkOne_113 rfl rfl rfl ?_
    refine r_goto (tgt := 2) hX dX3_parkOne_116 (by decide) ?_
    refine WR.fg (L' := [.ref 72, .int (v1 + (1 : Int32)), vU, vU, vU]) ⟨Or.inr rfl, Or.inr rfl, Or.inl rfl, Or.inl rfl, Or.inl rfl, trivial⟩ ?_
    exact hc (v1 + (1 : Int32)) (Option.some.inj h).symm
  · have h := (if_neg g4).symm.trans h
    refine r_aload_n hX dX3_parkOne_64 rfl ?_
    refine r_getf (v := .ref 54) hX dX3_parkOne_65 fl_3_37 rfl (by decide) (by decide) rfl ?_
    refine r_iload_n hX dX3_parkOne_68 rfl ?_
    refine r_aload_n hX dX3_parkOne_69 rfl ?_
    refine r_getf (v := .ref 54) hX dX3_parkOne_70 fl_3_37 rfl (by decide) (by decide) rfl ?_
    refine r_getf (v := .ref 66) hX dX3_parkOne_73 fl_3_97 rfl (by decide) (by decide) rfl ?_
    refine r_iload_n hX dX3_parkOne_76 rfl ?_
    obtain ⟨k5, h⟩ := grd_s h
    refine r_iald hX dX3_parkOne_77 rfl (by decide) (inb_at rfl k5) ?_
    refine r_lload_n hX dX3_parkOne_78 rfl ?_
    obtain ⟨z6, p7, h⟩ := bnd_s h
    refine r_callSN (As := [.long w0]) hX dX3_parkOne_79 mk_Fg_lowest ms_Fg_lowest mn_3_133 rfl rfl rfl (Nat.le_of_ble_eq_true rfl) hr (ok_Fg_lowest (d := d + 1) w0 Mc p7) ?_
    refine r_aload_n hX dX3_parkOne_82 rfl ?_
    refine r_getf (v := .ref 54) hX dX3_parkOne_83 fl_3_37 rfl (by decide) (by decide) rfl ?_
    refine r_getf (v := .ref 68) hX dX3_parkOne_86 fl_3_101 rfl (by decide) (by decide) rfl ?_
    refine r_iload_n hX dX3_parkOne_89 rfl ?_
    obtain ⟨k8, h⟩ := grd_s h
    refine r_iald hX dX3_parkOne_90 rfl (by decide) (inb_at rfl k8) ?_
    obtain ⟨z9, p10, h⟩ := bnd_s h
    refine r_callV (As := [.int v1, .int (Mc.1 66 (tn v1)), .int z6, .int (Mc.1 68 (tn v1))]) hX dX3_parkOne_91 mk_St_move mi_St_move ml_3_117 rfl rfl rfl rfl (by decide) (by decide) (Nat.le_of_ble_eq_true rfl) hr (ok_St_move (d := d + 0) n 54 v1 (Mc.1 66 (tn v1)) z6 (Mc.1 68 (tn v1)) Mc st54 p10) ?_
    refine r_aload_n hX dX3_parkOne_94 rfl ?_
    refine r_dup hX dX3_parkOne_95 rfl ?_
    refine r_getf (v := .long (z9.2 72 4)) hX dX3_parkOne_96 fl_3_22 rfl (by decide) (by decide) rfl ?_
    refine r_lconst (v := (1 : Int64)) hX dX3_parkOne_99 (by decide) ?_
    refine r_iload_n hX dX3_parkOne_100 rfl ?_
    refine r_lshl hX dX3_parkOne_101 ?_
    refine r_lor hX dX3_parkOne_102 ?_
    refine r_putL hX dX3_parkOne_103 fl_3_22 rfl (by decide) (by decide) rfl ?_
    refine r_aload_n hX dX3_parkOne_106 rfl ?_
    refine r_iload_n hX dX3_parkOne_107 rfl ?_
    obtain ⟨z11, p12, h⟩ := bnd_s h
    refine r_callV (As := [.int v1]) hX dX3_parkOne_108 mk_Rp_waitAnewFor mi_Rp_waitAnewFor ml_3_120 rfl rfl rfl rfl (by decide) (by decide) (Nat.le_of_ble_eq_true rfl) hr (ok_Rp_waitAnewFor (d := d + 1) n v1 (z9.1, (up2 z9.2 72 4 ((z9.2 72 4) ||| (lshl (1 : Int64) v1)))) p12) ?_
    refine r_iconst (v := (1 : Int32)) hX dX3_parkOne_111 (by decide) ?_
    obtain rfl := hx _ (Option.some.inj h).symm
    exact r_iret (v := b2i true) hX hT dX3_parkOne_112 (okI_b true).1
set_option maxRecDepth 100000 in
theorem ok_Rp_parkOne_j40 (n : Nat) (v1 : Int32) (w0 : Int32)  {Mc : Mm} {z : Bool × Mm} {oo : (Int32) ⊕ ((Unit) ⊕ (Bool × Mm))} {G : Gm} {X : Cx} {d : Nat}  (hX : XK G X 3 cX3_parkOne 5 (d + 3)) (hT : XT X (some .boolean) "parkOne") (hr : XR X SS) (hc : ∀ s1 : Int32, oo = .inl s1 → WR G X (mQ G X (some (.int (b2i z.1))) z.2 SS) 2 [.ref 72, .int s1, vU, vU, vU] [] Mc SS) (hx : ∀ x1 : (Unit) ⊕ (Bool × Mm), oo = .inr x1 → elS x1 (fun x2 => WR G X (mQ G X (some (.int (b2i z.1))) z.2 SS) 119 [.ref 72, vU, vU, vU, vU] [] Mc SS) (fun y1 => y1 = z)) (h : Rp_parkOne_j40 n v1 w0 Mc = some oo) : WR G X (mQ G X (some (.int (b2i z.1))) z.2 SS) 40 [.ref 72, .int v1, vU, vU, vU] [.int w0] Mc SS := by
  unfold Rp_parkOne_j40 at h
  refine r_istore_n (L1 := [.ref 72, .int v1, .int w0, vU, vU]) hX dX3_parkOne_40 (Nat.le_of_ble_eq_true rfl) rfl ?_
  refine r_iload_n hX dX3_parkOne_41 rfl ?_
  refine r_if_eq (tgt := 56) hX dX3_parkOne_42 (by decide) (fun g3 => ?_) (fun g3 => ?_)
  · have h := (if_pos g3).symm.trans h
    refine r_lconst (v := (0 : Int64)) hX dX3_parkOne_56 (by decide) ?_
    refine WR.fg (L' := [.ref 72, .int v1, vU, vU, vU]) ⟨Or.inr rfl, Or.inr rfl, Or.inl rfl, Or.inl rfl, Or.inl rfl, trivial⟩ ?_
    exact ok_Rp_parkOne_j57 n v1 (0 : Int64)   hX hT hr hc hx h
  · have h := (if_neg g3).symm.trans h
    refine r_aload_n hX dX3_parkOne_45 rfl ?_
    refine r_getf (v := .ref 54) hX dX3_parkOne_46 fl_3_37 rfl (by decide) (by decide) rfl ?_
    refine r_iload_n hX dX3_parkOne_49 rfl ?_
    obtain ⟨z13, p14, h⟩ := bnd_s h
    refine r_callV (As := [.int v1]) hX dX3_parkOne_50 mk_St_landings mi_St_landings ml_3_130 rfl rfl rfl rfl (by decide) (by decide) (Nat.le_of_ble_eq_true rfl) hr (ok_St_landings (d := d + 0) n 54 v1 Mc st54 p14) ?_
    refine r_goto (tgt := 57) hX dX3_parkOne_53 (by decide) ?_
    refine WR.fg (L' := [.ref 72, .int v1, vU, vU, vU]) ⟨Or.inr rfl, Or.inr rfl, Or.inl rfl, Or.inl rfl, Or.inl rfl, trivial⟩ ?_
    exact ok_Rp_parkOne_j57 n v1 z13   hX hT hr hc hx h
set_option maxRecDepth 100000 in
theorem ok_Rp_parkOne_b2 (n : Nat) (v1 : Int32)  {Mc : Mm} {z : Bool × Mm} {oo : (Int32) ⊕ ((Unit) ⊕ (Bool × Mm))} {G : Gm} {X : Cx} {d : Nat}  (hX : XK G X 3 cX3_parkOne 5 (d + 3)) (hT : XT X (some .boolean) "parkOne") (hr : XR X SS) (hc : ∀ s1 : Int32, oo = .inl s1 → WR G X (mQ G X (some (.int (b2i z.1))) z.2 SS) 2 [.ref 72, .int s1, vU, vU, vU] [] Mc SS) (hx : ∀ x1 : (Unit) ⊕ (Bool × Mm), oo = .inr x1 → elS x1 (fun x2 => WR G X (mQ G X (some (.int (b2i z.1))) z.2 SS) 119 [.ref 72, vU, vU, vU, vU] [] Mc SS) (fun y1 => y1 = z)) (h : Rp_parkOne_b2 n Mc v1 = some oo) : WR G X (mQ G X (some (.int (b2i z.1))) z.2 SS) 2 [.ref 72, .int v1, vU, vU, vU] [] Mc SS := by
  unfold Rp_parkOne_b2 at h
  refine r_iload_n hX dX3_parkOne_2 rfl ?_
  refine r_aload_n hX dX3_parkOne_3 rfl ?_
  refine r_getf (v := .ref 54) hX dX3_parkOne_4 fl_3_37 rfl (by decide) (by decide) rfl ?_
  refine r_getf (v := .int (Mc.1 54 4)) hX dX3_parkOne_7 fl_3_51 rfl (by decide) (by decide) rfl ?_
  refine r_icmp_ge (tgt := 119) hX dX3_parkOne_10 (by decide) (fun g1 => ?_) (fun g1 => ?_)
  · have h := (if_pos g1).symm.trans h
    refine WR.fg (L' := [.ref 72, vU, vU, vU, vU]) ⟨Or.inr rfl, Or.inl rfl, Or.inl rfl, Or.inl rfl, Or.inl rfl, trivial⟩ ?_
    exact hx _ (Option.some.inj h).symm
  · have h := (if_neg g1).symm.trans h
    refine r_aload_n hX dX3_parkOne_13 rfl ?_
    refine r_getf (v := .long (Mc.2 72 3)) hX dX3_parkOne_14 fl_3_18 rfl (by decide) (by decide) rfl ?_
    refine r_aload_n hX dX3_parkOne_17 rfl ?_
    refine r_getf (v := .long (Mc.2 72 4)) hX dX3_parkOne_18 fl_3_22 rfl (by decide) (by decide) rfl ?_
    refine r_ldc2 hX dX3_parkOne_21 kl_3_115 ?_
    refine r_lxor hX dX3_parkOne_24 ?_
    refine r_land hX dX3_parkOne_25 ?_
    refine r_iload_n hX dX3_parkOne_26 rfl ?_
    refine r_lushr hX dX3_parkOne_27 ?_
    refine r_lconst (v := (1 : Int64)) hX dX3_parkOne_28 (by decide) ?_
    refine r_land hX dX3_parkOne_29 ?_
    refine r_lconst (v := (0 : Int64)) hX dX3_parkOne_30 (by decide) ?_
    refine r_lcmp_eq (tgt := 39) hX dX3_parkOne_31 dX3_parkOne_32 (by decide) (fun g2 => ?_) (fun g2 => ?_)
    · have h := (if_pos g2).symm.trans h
      refine r_iconst (v := (0 : Int32)) hX dX3_parkOne_39 (by decide) ?_
      exact ok_Rp_parkOne_j40 n v1 (0 : Int32)   hX hT hr hc hx h
    · have h := (if_neg g2).symm.trans h
      refine r_iconst (v := (1 : Int32)) hX dX3_parkOne_35 (by decide) ?_
      refine r_goto (tgt := 40) hX dX3_parkOne_36 (by decide) ?_
      exact ok_Rp_parkOne_j40 n v1 (1 : Int32)   hX hT hr hc hx h
set_option maxRecDepth 100000 in
theorem ok_Rp_parkOne {G : Gm} {l : Launch} {d : Nat} (n : Nat) (M : Mm) {z : Bool × Mm}  (h : Rp_parkOne n M = some z) : CK G l (d + 3) md_Rp_parkOne [.ref 72] M SS (some (.int (b2i z.1))) z.2 SS := by
  refine ck_of mk_Rp_parkOne (Nat.le_of_ble_eq_true rfl) ⟨Nat.le_refl _, Nat.le_refl _⟩ (fun X hX hT hS hr hl => ?_)
  subst hl
  unfold Rp_parkOne at h
  show WR G X (mQ G X (some (.int (b2i z.1))) z.2 SS) 0 [.ref 72, vU, vU, vU, vU] [] M SS
  refine r_iconst (v := (0 : Int32)) hX dX3_parkOne_0 (by decide) ?_
  refine r_istore_n (L1 := [.ref 72, .int (0 : Int32), vU, vU, vU]) hX dX3_parkOne_1 (Nat.le_of_ble_eq_true rfl) rfl ?_
  obtain ⟨y15, h1, h⟩ := bnd_s h
  refine loop_ok (P := fun s1 : Int32 => WR G X (mQ G X (some (.int (b2i z.1))) z.2 SS) 2 [.ref 72, .int s1, vU, vU, vU] [] M SS) (E := fun x1 : (Unit) ⊕ (Bool × Mm) => elS x1 (fun x2 => WR G X (mQ G X (some (.int (b2i z.1))) z.2 SS) 119 [.ref 72, vU, vU, vU, vU] [] M SS) (fun y1 => y1 = z)) (fun s1 o1 g1 g2 g3 => ok_Rp_parkOne_b2 n s1  hX hT hr g2 g3 g1) n (0 : Int32) y15 h1 ?_
  cases y15 with
  | inr e17 =>
    exact Option.some.inj h
  | inl x16 =>
    show WR G X (mQ G X (some (.int (b2i z.1))) z.2 SS) 119 [.ref 72, vU, vU, vU, vU] [] M SS
    refine r_iconst (v := (0 : Int32)) hX dX3_parkOne_119 (by decide) ?_
    obtain rfl := Option.some.inj h
    exact r_iret (v := b2i false) hX hT dX3_parkOne_120 (okI_b false).1
def Rp_carryOutParking_b6 (n : Nat) (v1 : Int32) (M : Mm) : Option ((Int32 × Mm) ⊕ (Mm)) :=
  if (40 : Int32) ≤ v1 then
    some (.inr M)
  else
    if (M.2 72 3) = (0 : Int64) then
      some (.inr M)
    else
      bnd (Rp_parkOne n M) (fun z5 =>
      if z5.1 = true then
        bnd (Rp_carryOut n z5.2) (fun z8 =>
        some (.inl (v1 + (1 : Int32), z8)))
      else
        some (.inr z5.2))
def Rp_carryOutParking (n : Nat) (M : Mm) : Option (Mm) :=
  bnd (Rp_carryOut n M) (fun z1 =>
  bnd (loop (fun s1 : Int32 × Mm => Rp_carryOutParking_b6 n s1.1 s1.2) n ((0 : Int32), z1)) (fun y10 =>
  some y10))
set_option maxRecDepth 100000 in
theorem ok_Rp_carryOutParking_b6 (n : Nat) (v1 : Int32) (M : Mm)  {z : Mm} {oo : (Int32 × Mm) ⊕ (Mm)} {G : Gm} {X : Cx} {d : Nat}  (hX : XK G X 3 cX3_carryOutParking 2 (d + 4)) (hT : XT X (none) "carryOutParking") (hr : XR X SS) (hc : ∀ s1 : Int32 × Mm, oo = .inl s1 → WR G X (mQ G X (none) z SS) 6 [.ref 72, .int s1.1] [] s1.2 SS) (hx : ∀ x1 : Mm, oo = .inr x1 → WR G X (mQ G X (none) z SS) 38 [.ref 72, vU] [] x1 SS) (h : Rp_carryOutParking_b6 n v1 M = some oo) : WR G X (mQ G X (none) z SS) 6 [.ref 72, .int v1] [] M SS := by
  unfold Rp_carryOutParking_b6 at h
  refine r_iload_n hX dX3_carryOutParking_6 rfl ?_
  refine r_bipush (v := (40 : Int32)) hX dX3_carryOutParking_7 (by decide) ?_
  refine r_icmp_ge (tgt := 38) hX dX3_carryOutParking_9 (by decide) (fun g3 => ?_) (fun g3 => ?_)
  · have h := (if_pos g3).symm.trans h
    refine WR.fg (L' := [.ref 72, vU]) ⟨Or.inr rfl, Or.inl rfl, trivial⟩ ?_
    exact hx _ (Option.some.inj h).symm
  · have h := (if_neg g3).symm.trans h
    refine r_aload_n hX dX3_carryOutParking_12 rfl ?_
    refine r_getf (v := .long (M.2 72 3)) hX dX3_carryOutParking_13 fl_3_18 rfl (by decide) (by decide) rfl ?_
    refine r_lconst (v := (0 : Int64)) hX dX3_carryOutParking_16 (by decide) ?_
    refine r_lcmp_eq (tgt := 38) hX dX3_carryOutParking_17 dX3_carryOutParking_18 (by decide) (fun g4 => ?_) (fun g4 => ?_)
    · have h := (if_pos g4).symm.trans h
      refine WR.fg (L' := [.ref 72, vU]) ⟨Or.inr rfl, Or.inl rfl, trivial⟩ ?_
      exact hx _ (Option.some.inj h).symm
    · have h := (if_neg g4).symm.trans h
      refine r_aload_n hX dX3_carryOutParking_21 rfl ?_
      obtain ⟨z5, p6, h⟩ := bnd_s h
      refine r_callV (As := []) hX dX3_carryOutParking_22 mk_Rp_parkOne mi_Rp_parkOne ml_3_126 rfl rfl rfl rfl (by decide) (by decide) (Nat.le_of_ble_eq_true rfl) hr (ok_Rp_parkOne (d := d + 0) n M p6) ?_
      refine r_ifb_eq (tgt := 38) hX dX3_carryOutParking_25 (by decide) (fun g7 => ?_) (fun g7 => ?_)
      · have h := (if_neg (show ¬ z5.1 = true from fun e => by rw [g7] at e; cases e)).symm.trans h
        refine WR.fg (L' := [.ref 72, vU]) ⟨Or.inr rfl, Or.inl rfl, trivial⟩ ?_
        exact hx _ (Option.some.inj h).symm
      · have h := (if_pos g7).symm.trans h
        refine r_aload_n hX dX3_carryOutParking_28 rfl ?_
        obtain ⟨z8, p9, h⟩ := bnd_s h
        refine r_callV (As := []) hX dX3_carryOutParking_29 mk_Rp_carryOut mi_Rp_carryOut ml_3_123 rfl rfl rfl rfl (by decide) (by decide) (Nat.le_of_ble_eq_true rfl) hr (ok_Rp_carryOut (d := d + 0) n z5.2 p9) ?_
        refine r_iinc (v := v1 + (1 : Int32)) (L1 := [.ref 72, .int (v1 + (1 : Int32))]) hX dX3_carryOutParking_32 rfl rfl rfl ?_
        refine r_goto (tgt := 6) hX dX3_carryOutParking_35 (by decide) ?_
        exact hc (v1 + (1 : Int32), z8) (Option.some.inj h).symm
set_option maxRecDepth 100000 in
theorem ok_Rp_carryOutParking {G : Gm} {l : Launch} {d : Nat} (n : Nat) (M : Mm) {z : Mm}  (h : Rp_carryOutParking n M = some z) : CK G l (d + 4) md_Rp_carryOutParking [.ref 72] M SS (none) z SS := by
  refine ck_of mk_Rp_carryOutParking (Nat.le_of_ble_eq_true rfl) ⟨Nat.le_refl _, Nat.le_refl _⟩ (fun X hX hT hS hr hl => ?_)
  subst hl
  unfold Rp_carryOutParking at h
  show WR G X (mQ G X (none) z SS) 0 [.ref 72, vU] [] M SS
  refine r_aload_n hX dX3_carryOutParking_0 rfl ?_
  obtain ⟨z1, p2, h⟩ := bnd_s h
  refine r_callV (As := []) hX dX3_carryOutParking_1 mk_Rp_carryOut mi_Rp_carryOut ml_3_123 rfl rfl rfl rfl (by decide) (by decide) (Nat.le_of_ble_eq_true rfl) hr (ok_Rp_carryOut (d := d + 0) n M p2) ?_
  refine r_iconst (v := (0 : Int32)) hX dX3_carryOutParking_4 (by decide) ?_
  refine r_istore_n (L1 := [.ref 72, .int (0 : Int32)]) hX dX3_carryOutParking_5 (Nat.le_of_ble_eq_true rfl) rfl ?_
  obtain ⟨y10, h1, h⟩ := bnd_s h
  refine loop_ok (P := fun s1 : Int32 × Mm => WR G X (mQ G X (none) z SS) 6 [.ref 72, .int s1.1] [] s1.2 SS) (E := fun x1 : Mm => WR G X (mQ G X (none) z SS) 38 [.ref 72, vU] [] x1 SS) (fun s1 o1 g1 g2 g3 => ok_Rp_carryOutParking_b6 n s1.1 s1.2  hX hT hr g2 g3 g1) n ((0 : Int32), z1) y10 h1 ?_
  show WR G X (mQ G X (none) z SS) 38 [.ref 72, vU] [] y10 SS
  obtain rfl := Option.some.inj h
  exact r_vret hX hT dX3_carryOutParking_38
def Rp_goingRound_j56 (v2 : Int32) (M : Mm) : Option ((Int32 × Mm) ⊕ (Mm)) :=
  some (.inl (v2 + (1 : Int32), M))
def Rp_goingRound_b15 (c1 : Int32) (v2 : Int32) (M : Mm) : Option ((Int32 × Mm) ⊕ (Mm)) :=
  if (M.1 54 4) ≤ v2 then
    some (.inr M)
  else
    grd (inb v2 40) (
    if ((lushr (M.2 91 (tn v2)) c1) &&& (1 : Int64)) = (0 : Int64) then
      Rp_goingRound_j56 v2 M
    else
      grd (inb v2 40) (
      grd (inb c1 40) (
      grd (inb v2 40) (
      Rp_goingRound_j56 v2 (M.1, (up2 M.2 91 (tn v2) ((M.2 91 (tn v2)) ||| (M.2 91 (tn c1)))))))))
def Rp_goingRound_b2 (n : Nat) (v1 : Int32) (M : Mm) : Option ((Int32 × Mm) ⊕ (Mm)) :=
  if (M.1 54 4) ≤ v1 then
    some (.inr M)
  else
    bnd (loop (fun s1 : Int32 × Mm => Rp_goingRound_b15 v1 s1.1 s1.2) n ((0 : Int32), M)) (fun y8 =>
    some (.inl (v1 + (1 : Int32), y8)))
def Rp_goingRound_j101 (v1 : Int32) (v2 : Int32) : Option ((Int32 × Int32) ⊕ (Int32)) :=
  some (.inl (v1, v2 + (1 : Int32)))
def Rp_goingRound_b72 (Mc : Mm) (v1 : Int32) (v2 : Int32) : Option ((Int32 × Int32) ⊕ (Int32)) :=
  if (Mc.1 54 4) ≤ v2 then
    some (.inr v1)
  else
    grd (inb v2 40) (
    if ((lushr (Mc.2 91 (tn v2)) v2) &&& (1 : Int64)) = (0 : Int64) then
      Rp_goingRound_j101 v1 v2
    else
      Rp_goingRound_j101 (v1 + (1 : Int32)) v2)
def Rp_goingRound (n : Nat) (M : Mm) : Option (Int32 × Mm) :=
  bnd (loop (fun s1 : Int32 × Mm => Rp_goingRound_b2 n s1.1 s1.2) n ((0 : Int32), M)) (fun y9 =>
  bnd (loop (fun s1 : Int32 × Int32 => Rp_goingRound_b72 y9 s1.1 s1.2) n ((0 : Int32), (0 : Int32))) (fun y13 =>
  some (y13, y9)))
set_option maxRecDepth 100000 in
theorem ok_Rp_goingRound_j56 (n : Nat) (v2 : Int32) (M : Mm) {c1 : Int32} {z : Int32 × Mm} {oo : (Int32 × Mm) ⊕ (Mm)} {G : Gm} {X : Cx} {d : Nat}  (hX : XK G X 3 cX3_goingRound 3 (d + 0)) (hT : XT X (some .int) "goingRound") (hr : XR X SS) (hc : ∀ s1 : Int32 × Mm, oo = .inl s1 → WR G X (mQ G X (some (.int z.1)) z.2 SS) 15 [.ref 72, .int c1, .int s1.1] [] s1.2 SS) (hx : ∀ x1 : Mm, oo = .inr x1 → WR G X (mQ G X (some (.int z.1)) z.2 SS) 62 [.ref 72, .int c1, vU] [] x1 SS) (h : Rp_goingRound_j56 v2 M = some oo) : WR G X (mQ G X (some (.int z.1)) z.2 SS) 56 [.ref 72, .int c1, .int v2] [] M SS := by
  unfold Rp_goingRound_j56 at h
  refine r_iinc (v := v2 + (1 : Int32)) (L1 := [.ref 72, .int c1, .int (v2 + (1 : Int32))]) hX dX3_goingRound_56 rfl rfl rfl ?_
  refine r_goto (tgt := 15) hX dX3_goingRound_59 (by decide) ?_
  exact hc (v2 + (1 : Int32), M) (Option.some.inj h).symm
set_option maxRecDepth 100000 in
theorem ok_Rp_goingRound_b15 (n : Nat) (v2 : Int32) (M : Mm) {c1 : Int32} {z : Int32 × Mm} {oo : (Int32 × Mm) ⊕ (Mm)} {G : Gm} {X : Cx} {d : Nat}  (hX : XK G X 3 cX3_goingRound 3 (d + 0)) (hT : XT X (some .int) "goingRound") (hr : XR X SS) (hc : ∀ s1 : Int32 × Mm, oo = .inl s1 → WR G X (mQ G X (some (.int z.1)) z.2 SS) 15 [.ref 72, .int c1, .int s1.1] [] s1.2 SS) (hx : ∀ x1 : Mm, oo = .inr x1 → WR G X (mQ G X (some (.int z.1)) z.2 SS) 62 [.ref 72, .int c1, vU] [] x1 SS) (h : Rp_goingRound_b15 c1 v2 M = some oo) : WR G X (mQ G X (some (.int z.1)) z.2 SS) 15 [.ref 72, .int c1, .int v2] [] M SS := by
  unfold Rp_goingRound_b15 at h
  refine r_iload_n hX dX3_goingRound_15 rfl ?_
  refine r_aload_n hX dX3_goingRound_16 rfl ?_
  refine r_getf (v := .ref 54) hX dX3_goingRound_17 fl_3_37 rfl (by decide) (by decide) rfl ?_
  refine r_getf (v := .int (M.1 54 4)) hX dX3_goingRound_20 fl_3_51 rfl (by decide) (by decide) rfl ?_
  refine r_icmp_ge (tgt := 62) hX dX3_goingRound_23 (by decide) (fun g2 => ?_) (fun g2 => ?_)
  · have h := (if_pos g2).symm.trans h
    refine WR.fg (L' := [.ref 72, .int c1, vU]) ⟨Or.inr rfl, Or.inr rfl, Or.inl rfl, trivial⟩ ?_
    exact hx _ (Option.some.inj h).symm
  · have h := (if_neg g2).symm.trans h
    refine r_aload_n hX dX3_goingRound_26 rfl ?_
    refine r_getf (v := .ref 91) hX dX3_goingRound_27 fl_3_25 rfl (by decide) (by decide) rfl ?_
    refine r_iload_n hX dX3_goingRound_30 rfl ?_
    obtain ⟨k3, h⟩ := grd_s h
    refine r_lald hX dX3_goingRound_31 rfl (by decide) (inb_at rfl k3) ?_
    refine r_iload_n hX dX3_goingRound_32 rfl ?_
    refine r_lushr hX dX3_goingRound_33 ?_
    refine r_lconst (v := (1 : Int64)) hX dX3_goingRound_34 (by decide) ?_
    refine r_land hX dX3_goingRound_35 ?_
    refine r_lconst (v := (0 : Int64)) hX dX3_goingRound_36 (by decide) ?_
    refine r_lcmp_eq (tgt := 56) hX dX3_goingRound_37 dX3_goingRound_38 (by decide) (fun g4 => ?_) (fun g4 => ?_)
    · have h := (if_pos g4).symm.trans h
      exact ok_Rp_goingRound_j56 n v2 M   hX hT hr hc hx h
    · have h := (if_neg g4).symm.trans h
      refine r_aload_n hX dX3_goingRound_41 rfl ?_
      refine r_getf (v := .ref 91) hX dX3_goingRound_42 fl_3_25 rfl (by decide) (by decide) rfl ?_
      refine r_iload_n hX dX3_goingRound_45 rfl ?_
      refine r_dup2 hX dX3_goingRound_46 rfl rfl ?_
      obtain ⟨k5, h⟩ := grd_s h
      refine r_lald hX dX3_goingRound_47 rfl (by decide) (inb_at rfl k5) ?_
      refine r_aload_n hX dX3_goingRound_48 rfl ?_
      refine r_getf (v := .ref 91) hX dX3_goingRound_49 fl_3_25 rfl (by decide) (by decide) rfl ?_
      refine r_iload_n hX dX3_goingRound_52 rfl ?_
      obtain ⟨k6, h⟩ := grd_s h
      refine r_lald hX dX3_goingRound_53 rfl (by decide) (inb_at rfl k6) ?_
      refine r_lor hX dX3_goingRound_54 ?_
      obtain ⟨k7, h⟩ := grd_s h
      refine r_last hX dX3_goingRound_55 rfl (by decide) (inb_at rfl k7) ?_
      exact ok_Rp_goingRound_j56 n v2 (M.1, (up2 M.2 91 (tn v2) ((M.2 91 (tn v2)) ||| (M.2 91 (tn c1)))))   hX hT hr hc hx h
set_option maxRecDepth 100000 in
theorem ok_Rp_goingRound_b2 (n : Nat) (v1 : Int32) (M : Mm)  {z : Int32 × Mm} {oo : (Int32 × Mm) ⊕ (Mm)} {G : Gm} {X : Cx} {d : Nat}  (hX : XK G X 3 cX3_goingRound 3 (d + 0)) (hT : XT X (some .int) "goingRound") (hr : XR X SS) (hc : ∀ s1 : Int32 × Mm, oo = .inl s1 → WR G X (mQ G X (some (.int z.1)) z.2 SS) 2 [.ref 72, .int s1.1, vU] [] s1.2 SS) (hx : ∀ x1 : Mm, oo = .inr x1 → WR G X (mQ G X (some (.int z.1)) z.2 SS) 68 [.ref 72, vU, vU] [] x1 SS) (h : Rp_goingRound_b2 n v1 M = some oo) : WR G X (mQ G X (some (.int z.1)) z.2 SS) 2 [.ref 72, .int v1, vU] [] M SS := by
  unfold Rp_goingRound_b2 at h
  refine r_iload_n hX dX3_goingRound_2 rfl ?_
  refine r_aload_n hX dX3_goingRound_3 rfl ?_
  refine r_getf (v := .ref 54) hX dX3_goingRound_4 fl_3_37 rfl (by decide) (by decide) rfl ?_
  refine r_getf (v := .int (M.1 54 4)) hX dX3_goingRound_7 fl_3_51 rfl (by decide) (by decide) rfl ?_
  refine r_icmp_ge (tgt := 68) hX dX3_goingRound_10 (by decide) (fun g1 => ?_) (fun g1 => ?_)
  · have h := (if_pos g1).symm.trans h
    refine WR.fg (L' := [.ref 72, vU, vU]) ⟨Or.inr rfl, Or.inl rfl, Or.inl rfl, trivial⟩ ?_
    exact hx _ (Option.some.inj h).symm
  · have h := (if_neg g1).symm.trans h
    refine r_iconst (v := (0 : Int32)) hX dX3_goingRound_13 (by decide) ?_
    refine r_istore_n (L1 := [.ref 72, .int v1, .int (0 : Int32)]) hX dX3_goingRound_14 (Nat.le_of_ble_eq_true rfl) rfl ?_
    obtain ⟨y8, h1, h⟩ := bnd_s h
    refine loop_ok (P := fun s1 : Int32 × Mm => WR G X (mQ G X (some (.int z.1)) z.2 SS) 15 [.ref 72, .int v1, .int s1.1] [] s1.2 SS) (E := fun x1 : Mm => WR G X (mQ G X (some (.int z.1)) z.2 SS) 62 [.ref 72, .int v1, vU] [] x1 SS) (fun s1 o1 g1 g2 g3 => ok_Rp_goingRound_b15 n s1.1 s1.2  hX hT hr g2 g3 g1) n ((0 : Int32), M) y8 h1 ?_
    show WR G X (mQ G X (some (.int z.1)) z.2 SS) 62 [.ref 72, .int v1, vU] [] y8 SS
    refine r_iinc (v := v1 + (1 : Int32)) (L1 := [.ref 72, .int (v1 + (1 : Int32)), vU]) hX dX3_goingRound_62 rfl rfl rfl ?_
    refine r_goto (tgt := 2) hX dX3_goingRound_65 (by decide) ?_
    exact hc (v1 + (1 : Int32), y8) (Option.some.inj h).symm
set_option maxRecDepth 100000 in
theorem ok_Rp_goingRound_j101 (n : Nat) (v1 : Int32) (v2 : Int32)  {Mc : Mm} {z : Int32 × Mm} {oo : (Int32 × Int32) ⊕ (Int32)} {G : Gm} {X : Cx} {d : Nat}  (hX : XK G X 3 cX3_goingRound 3 (d + 0)) (hT : XT X (some .int) "goingRound") (hr : XR X SS) (hc : ∀ s1 : Int32 × Int32, oo = .inl s1 → WR G X (mQ G X (some (.int z.1)) z.2 SS) 72 [.ref 72, .int s1.1, .int s1.2] [] Mc SS) (hx : ∀ x1 : Int32, oo = .inr x1 → WR G X (mQ G X (some (.int z.1)) z.2 SS) 107 [.ref 72, .int x1, vU] [] Mc SS) (h : Rp_goingRound_j101 v1 v2 = some oo) : WR G X (mQ G X (some (.int z.1)) z.2 SS) 101 [.ref 72, .int v1, .int v2] [] Mc SS := by
  unfold Rp_goingRound_j101 at h
  refine r_iinc (v := v2 + (1 : Int32)) (L1 := [.ref 72, .int v1, .int (v2 + (1 : Int32))]) hX dX3_goingRound_101 rfl rfl rfl ?_
  refine r_goto (tgt := 72) hX dX3_goingRound_104 (by decide) ?_
  exact hc (v1, v2 + (1 : Int32)) (Option.some.inj h).symm
set_option maxRecDepth 100000 in
theorem ok_Rp_goingRound_b72 (n : Nat) (v1 : Int32) (v2 : Int32)  {Mc : Mm} {z : Int32 × Mm} {oo : (Int32 × Int32) ⊕ (Int32)} {G : Gm} {X : Cx} {d : Nat}  (hX : XK G X 3 cX3_goingRound 3 (d + 0)) (hT : XT X (some .int) "goingRound") (hr : XR X SS) (hc : ∀ s1 : Int32 × Int32, oo = .inl s1 → WR G X (mQ G X (some (.int z.1)) z.2 SS) 72 [.ref 72, .int s1.1, .int s1.2] [] Mc SS) (hx : ∀ x1 : Int32, oo = .inr x1 → WR G X (mQ G X (some (.int z.1)) z.2 SS) 107 [.ref 72, .int x1, vU] [] Mc SS) (h : Rp_goingRound_b72 Mc v1 v2 = some oo) : WR G X (mQ G X (some (.int z.1)) z.2 SS) 72 [.ref 72, .int v1, .int v2] [] Mc SS := by
  unfold Rp_goingRound_b72 at h
  refine r_iload_n hX dX3_goingRound_72 rfl ?_
  refine r_aload_n hX dX3_goingRound_73 rfl ?_
  refine r_getf (v := .ref 54) hX dX3_goingRound_74 fl_3_37 rfl (by decide) (by decide) rfl ?_
  refine r_getf (v := .int (Mc.1 54 4)) hX dX3_goingRound_77 fl_3_51 rfl (by decide) (by decide) rfl ?_
  refine r_icmp_ge (tgt := 107) hX dX3_goingRound_80 (by decide) (fun g10 => ?_) (fun g10 => ?_)
  · have h := (if_pos g10).symm.trans h
    refine WR.fg (L' := [.ref 72, .int v1, vU]) ⟨Or.inr rfl, Or.inr rfl, Or.inl rfl, trivial⟩ ?_
    exact hx _ (Option.some.inj h).symm
  · have h := (if_neg g10).symm.trans h
    refine r_aload_n hX dX3_goingRound_83 rfl ?_
    refine r_getf (v := .ref 91) hX dX3_goingRound_84 fl_3_25 rfl (by decide) (by decide) rfl ?_
    refine r_iload_n hX dX3_goingRound_87 rfl ?_
    obtain ⟨k11, h⟩ := grd_s h
    refine r_lald hX dX3_goingRound_88 rfl (by decide) (inb_at rfl k11) ?_
    refine r_iload_n hX dX3_goingRound_89 rfl ?_
    refine r_lushr hX dX3_goingRound_90 ?_
    refine r_lconst (v := (1 : Int64)) hX dX3_goingRound_91 (by decide) ?_
    refine r_land hX dX3_goingRound_92 ?_
    refine r_lconst (v := (0 : Int64)) hX dX3_goingRound_93 (by decide) ?_
    refine r_lcmp_eq (tgt := 101) hX dX3_goingRound_94 dX3_goingRound_95 (by decide) (fun g12 => ?_) (fun g12 => ?_)
    · have h := (if_pos g12).symm.trans h
      exact ok_Rp_goingRound_j101 n v1 v2   hX hT hr hc hx h
    · have h := (if_neg g12).symm.trans h
      refine r_iinc (v := v1 + (1 : Int32)) (L1 := [.ref 72, .int (v1 + (1 : Int32)), .int v2]) hX dX3_goingRound_98 rfl rfl rfl ?_
      exact ok_Rp_goingRound_j101 n (v1 + (1 : Int32)) v2   hX hT hr hc hx h
set_option maxRecDepth 100000 in
theorem ok_Rp_goingRound {G : Gm} {l : Launch} {d : Nat} (n : Nat) (M : Mm) {z : Int32 × Mm}  (h : Rp_goingRound n M = some z) : CK G l (d + 0) md_Rp_goingRound [.ref 72] M SS (some (.int z.1)) z.2 SS := by
  refine ck_of mk_Rp_goingRound (Nat.le_of_ble_eq_true rfl) ⟨Nat.le_refl _, Nat.le_refl _⟩ (fun X hX hT hS hr hl => ?_)
  subst hl
  unfold Rp_goingRound at h
  show WR G X (mQ G X (some (.int z.1)) z.2 SS) 0 [.ref 72, vU, vU] [] M SS
  refine r_iconst (v := (0 : Int32)) hX dX3_goingRound_0 (by decide) ?_
  refine r_istore_n (L1 := [.ref 72, .int (0 : Int32), vU]) hX dX3_goingRound_1 (Nat.le_of_ble_eq_true rfl) rfl ?_
  obtain ⟨y9, h1, h⟩ := bnd_s h
  refine loop_ok (P := fun s1 : Int32 × Mm => WR G X (mQ G X (some (.int z.1)) z.2 SS) 2 [.ref 72, .int s1.1, vU] [] s1.2 SS) (E := fun x1 : Mm => WR G X (mQ G X (some (.int z.1)) z.2 SS) 68 [.ref 72, vU, vU] [] x1 SS) (fun s1 o1 g1 g2 g3 => ok_Rp_goingRound_b2 n s1.1 s1.2  hX hT hr g2 g3 g1) n ((0 : Int32), M) y9 h1 ?_
  show WR G X (mQ G X (some (.int z.1)) z.2 SS) 68 [.ref 72, vU, vU] [] y9 SS
  refine r_iconst (v := (0 : Int32)) hX dX3_goingRound_68 (by decide) ?_
  refine r_istore_n (L1 := [.ref 72, .int (0 : Int32), vU]) hX dX3_goingRound_69 (Nat.le_of_ble_eq_true rfl) rfl ?_
  refine r_iconst (v := (0 : Int32)) hX dX3_goingRound_70 (by decide) ?_
  refine r_istore_n (L1 := [.ref 72, .int (0 : Int32), .int (0 : Int32)]) hX dX3_goingRound_71 (Nat.le_of_ble_eq_true rfl) rfl ?_
  obtain ⟨y13, h1, h⟩ := bnd_s h
  refine loop_ok (P := fun s1 : Int32 × Int32 => WR G X (mQ G X (some (.int z.1)) z.2 SS) 72 [.ref 72, .int s1.1, .int s1.2] [] y9 SS) (E := fun x1 : Int32 => WR G X (mQ G X (some (.int z.1)) z.2 SS) 107 [.ref 72, .int x1, vU] [] y9 SS) (fun s1 o1 g1 g2 g3 => ok_Rp_goingRound_b72 n s1.1 s1.2  hX hT hr g2 g3 g1) n ((0 : Int32), (0 : Int32)) y13 h1 ?_
  show WR G X (mQ G X (some (.int z.1)) z.2 SS) 107 [.ref 72, .int y13, vU] [] y9 SS
  refine r_iload_n hX dX3_goingRound_107 rfl ?_
  obtain rfl := Option.some.inj h
  exact r_iret hX hT dX3_goingRound_108 rfl
def St_clearDemands_b7 (s : Nat) (v1 : Int32) (M : Mm) : Option ((Int32 × Mm) ⊕ (Mm)) :=
  if (40 : Int32) ≤ v1 then
    some (.inr M)
  else
    grd (inb v1 40) (
    some (.inl (v1 + (1 : Int32), ((up2 M.1 (s + 10) (tn v1) (3 : Int32)), M.2))))
def St_clearDemands (n : Nat) (s : Nat) (M : Mm) : Option (Mm) :=
  bnd (loop (fun s1 : Int32 × Mm => St_clearDemands_b7 s s1.1 s1.2) n ((0 : Int32), ((up2 M.1 s 4 (0 : Int32)), M.2))) (fun y3 =>
  bnd (St_clearSlots n s y3) (fun z4 =>
  some z4))
set_option maxRecDepth 100000 in
theorem ok_St_clearDemands_b7 (n : Nat) (s : Nat) (v1 : Int32) (M : Mm)  {z : Mm} {oo : (Int32 × Mm) ⊕ (Mm)} {G : Gm} {X : Cx} {d : Nat} (hs : isSt s) (hX : XK G X 4 cX4_clearDemands 2 (d + 1)) (hT : XT X (none) "clearDemands") (hr : XR X SS) (hc : ∀ s1 : Int32 × Mm, oo = .inl s1 → WR G X (mQ G X (none) z SS) 7 [.ref s, .int s1.1] [] s1.2 SS) (hx : ∀ x1 : Mm, oo = .inr x1 → WR G X (mQ G X (none) z SS) 26 [.ref s, vU] [] x1 SS) (h : St_clearDemands_b7 s v1 M = some oo) : WR G X (mQ G X (none) z SS) 7 [.ref s, .int v1] [] M SS := by
  unfold St_clearDemands_b7 at h
  refine r_iload_n hX dX4_clearDemands_7 rfl ?_
  refine r_bipush (v := (40 : Int32)) hX dX4_clearDemands_8 (by decide) ?_
  refine r_icmp_ge (tgt := 26) hX dX4_clearDemands_10 (by decide) (fun g1 => ?_) (fun g1 => ?_)
  · have h := (if_pos g1).symm.trans h
    refine WR.fg (L' := [.ref s, vU]) ⟨Or.inr rfl, Or.inl rfl, trivial⟩ ?_
    exact hx _ (Option.some.inj h).symm
  · have h := (if_neg g1).symm.trans h
    refine r_aload_n hX dX4_clearDemands_13 rfl ?_
    refine r_getf (v := .ref (s + 10)) hX dX4_clearDemands_14 fl_4_41 (kdS0 hs) (by decide) (ltS0 hs) (rfS8 hs) ?_
    refine r_iload_n hX dX4_clearDemands_17 rfl ?_
    refine r_iconst (v := (3 : Int32)) hX dX4_clearDemands_18 (by decide) ?_
    obtain ⟨k2, h⟩ := grd_s h
    refine r_iast hX dX4_clearDemands_19 (kdS10 hs) (ltS10 hs) (inb_at (lnS10 hs) k2) ?_
    refine r_iinc (v := v1 + (1 : Int32)) (L1 := [.ref s, .int (v1 + (1 : Int32))]) hX dX4_clearDemands_20 rfl rfl rfl ?_
    refine r_goto (tgt := 7) hX dX4_clearDemands_23 (by decide) ?_
    exact hc (v1 + (1 : Int32), ((up2 M.1 (s + 10) (tn v1) (3 : Int32)), M.2)) (Option.some.inj h).symm
set_option maxRecDepth 100000 in
theorem ok_St_clearDemands {G : Gm} {l : Launch} {d : Nat} (n : Nat) (s : Nat) (M : Mm) {z : Mm} (hs : isSt s) (h : St_clearDemands n s M = some z) : CK G l (d + 1) md_St_clearDemands [.ref s] M SS (none) z SS := by
  refine ck_of mk_St_clearDemands (Nat.le_of_ble_eq_true rfl) ⟨Nat.le_refl _, Nat.le_refl _⟩ (fun X hX hT hS hr hl => ?_)
  subst hl
  unfold St_clearDemands at h
  show WR G X (mQ G X (none) z SS) 0 [.ref s, vU] [] M SS
  refine r_aload_n hX dX4_clearDemands_0 rfl ?_
  refine r_iconst (v := (0 : Int32)) hX dX4_clearDemands_1 (by decide) ?_
  refine r_putI hX dX4_clearDemands_2 fl_4_28 (kdS0 hs) (by decide) (ltS0 hs) (okI_int _) ?_
  refine r_iconst (v := (0 : Int32)) hX dX4_clearDemands_5 (by decide) ?_
  refine r_istore_n (L1 := [.ref s, .int (0 : Int32)]) hX dX4_clearDemands_6 (Nat.le_of_ble_eq_true rfl) rfl ?_
  obtain ⟨y3, h1, h⟩ := bnd_s h
  refine loop_ok (P := fun s1 : Int32 × Mm => WR G X (mQ G X (none) z SS) 7 [.ref s, .int s1.1] [] s1.2 SS) (E := fun x1 : Mm => WR G X (mQ G X (none) z SS) 26 [.ref s, vU] [] x1 SS) (fun s1 o1 g1 g2 g3 => ok_St_clearDemands_b7 n s s1.1 s1.2 hs hX hT hr g2 g3 g1) n ((0 : Int32), ((up2 M.1 s 4 (0 : Int32)), M.2)) y3 h1 ?_
  show WR G X (mQ G X (none) z SS) 26 [.ref s, vU] [] y3 SS
  refine r_aload_n hX dX4_clearDemands_26 rfl ?_
  obtain ⟨z4, p5, h⟩ := bnd_s h
  refine r_callV (As := []) hX dX4_clearDemands_27 mk_St_clearSlots mi_St_clearSlots ml_4_75 rfl rfl rfl (kdS0 hs) (by decide) (ltS0 hs) (Nat.le_of_ble_eq_true rfl) hr (ok_St_clearSlots (d := d + 0) n s y3 hs p5) ?_
  obtain rfl := Option.some.inj h
  exact r_vret hX hT dX4_clearDemands_30
def St_beginWith (n : Nat) (s : Nat) (o : Nat) (M : Mm) : Option (Mm) :=
  bnd (Nt_copy (s + 1) o M) (fun z1 =>
  bnd (St_clearDemands n s ((up2 (up2 z1.1 s 1 (((1 : Int32) <<< ((z1.1 (s + 1) 3) &&& 31)) - (1 : Int32))) s 2 (0 : Int32)), z1.2)) (fun z3 =>
  some z3))
set_option maxRecDepth 100000 in
theorem ok_St_beginWith {G : Gm} {l : Launch} {d : Nat} (n : Nat) (s : Nat) (o : Nat) (M : Mm) {z : Mm} (hs : isSt s) (ho : isNt o) (h : St_beginWith n s o M = some z) : CK G l (d + 2) md_St_beginWith [.ref s, .ref o] M SS (none) z SS := by
  refine ck_of mk_St_beginWith (Nat.le_of_ble_eq_true rfl) ⟨Nat.le_refl _, Nat.le_refl _⟩ (fun X hX hT hS hr hl => ?_)
  subst hl
  unfold St_beginWith at h
  show WR G X (mQ G X (none) z SS) 0 [.ref s, .ref o] [] M SS
  refine r_aload_n hX dX4_beginWith_0 rfl ?_
  refine r_getf (v := .ref (s + 1)) hX dX4_beginWith_1 fl_4_12 (kdS0 hs) (by decide) (ltS0 hs) (rfS0 hs) ?_
  refine r_aload_n hX dX4_beginWith_4 rfl ?_
  obtain ⟨z1, p2, h⟩ := bnd_s h
  refine r_callV (As := [.ref o]) hX dX4_beginWith_5 mk_Nt_copy mi_Nt_copy ml_4_66 rfl rfl rfl (kdS1 hs) (by decide) (ltS1 hs) (Nat.le_of_ble_eq_true rfl) hr (ok_Nt_copy (d := d + 1) (s + 1) o M (nt_st hs) ho p2) ?_
  refine r_aload_n hX dX4_beginWith_8 rfl ?_
  refine r_iconst (v := (1 : Int32)) hX dX4_beginWith_9 (by decide) ?_
  refine r_aload_n hX dX4_beginWith_10 rfl ?_
  refine r_getf (v := .ref (s + 1)) hX dX4_beginWith_11 fl_4_12 (kdS0 hs) (by decide) (ltS0 hs) (rfS0 hs) ?_
  refine r_getf (v := .int (z1.1 (s + 1) 3)) hX dX4_beginWith_14 fl_4_70 (kdS1 hs) (by decide) (ltS1 hs) rfl ?_
  refine r_ishl hX dX4_beginWith_17 ?_
  refine r_iconst (v := (1 : Int32)) hX dX4_beginWith_18 (by decide) ?_
  refine r_isub hX dX4_beginWith_19 ?_
  refine r_putI hX dX4_beginWith_20 fl_4_18 (kdS0 hs) (by decide) (ltS0 hs) (okI_int _) ?_
  refine r_aload_n hX dX4_beginWith_23 rfl ?_
  refine r_iconst (v := (0 : Int32)) hX dX4_beginWith_24 (by decide) ?_
  refine r_putI' hX dX4_beginWith_25 fl_4_22 (kdS0 hs) (by decide) (ltS0 hs) (okI_int _) ?_
  refine r_aload_n hX dX4_beginWith_28 rfl ?_
  obtain ⟨z3, p4, h⟩ := bnd_s h
  refine r_callV (As := []) hX dX4_beginWith_29 mk_St_clearDemands mi_St_clearDemands ml_4_72 rfl rfl rfl (kdS0 hs) (by decide) (ltS0 hs) (Nat.le_of_ble_eq_true rfl) hr (ok_St_clearDemands (d := d + 0) n s ((up2 (up2 z1.1 s 1 (((1 : Int32) <<< ((z1.1 (s + 1) 3) &&& 31)) - (1 : Int32))) s 2 (0 : Int32)), z1.2) hs p4) ?_
  obtain rfl := Option.some.inj h
  exact r_vret hX hT dX4_beginWith_32
def St_has (s : Nat) (v1 : Int32) (M : Mm) : Option (Bool) :=
  if v1 < (0 : Int32) then
    some false
  else
    if (M.1 s 4) ≤ v1 then
      some false
    else
      some true
set_option maxRecDepth 100000 in
theorem ok_St_has {G : Gm} {l : Launch} {d : Nat} (s : Nat) (v1 : Int32) (M : Mm) {z : Bool} (hs : isSt s) (h : St_has s v1 M = some z) : CK G l (d + 0) md_St_has [.ref s, .int v1] M SS (some (.int (b2i z))) M SS := by
  refine ck_of mk_St_has (Nat.le_of_ble_eq_true rfl) ⟨Nat.le_refl _, Nat.le_refl _⟩ (fun X hX hT hS hr hl => ?_)
  subst hl
  unfold St_has at h
  show WR G X (mQ G X (some (.int (b2i z))) M SS) 0 [.ref s, .int v1] [] M SS
  refine r_iload_n hX dX4_has_0 rfl ?_
  refine r_if_lt (tgt := 16) hX dX4_has_1 (by decide) (fun g1 => ?_) (fun g1 => ?_)
  · have h := (if_pos g1).symm.trans h
    refine r_iconst (v := (0 : Int32)) hX dX4_has_16 (by decide) ?_
    obtain rfl := Option.some.inj h
    exact r_iret (v := b2i false) hX hT dX4_has_17 (okI_b false).1
  · have h := (if_neg g1).symm.trans h
    refine r_iload_n hX dX4_has_4 rfl ?_
    refine r_aload_n hX dX4_has_5 rfl ?_
    refine r_getf (v := .int (M.1 s 4)) hX dX4_has_6 fl_4_28 (kdS0 hs) (by decide) (ltS0 hs) rfl ?_
    refine r_icmp_ge (tgt := 16) hX dX4_has_9 (by decide) (fun g2 => ?_) (fun g2 => ?_)
    · have h := (if_pos g2).symm.trans h
      refine r_iconst (v := (0 : Int32)) hX dX4_has_16 (by decide) ?_
      obtain rfl := Option.some.inj h
      exact r_iret (v := b2i false) hX hT dX4_has_17 (okI_b false).1
    · have h := (if_neg g2).symm.trans h
      refine r_iconst (v := (1 : Int32)) hX dX4_has_12 (by decide) ?_
      refine r_goto (tgt := 17) hX dX4_has_13 (by decide) ?_
      obtain rfl := Option.some.inj h
      exact r_iret (v := b2i true) hX hT dX4_has_17 (okI_b true).1
def St_isLit (s : Nat) (v1 : Int32) (M : Mm) : Option (Bool) :=
  bnd (St_has s v1 M) (fun z1 =>
  if z1 = true then
    grd (inb v1 40) (
    if (M.1 (s + 10) (tn v1)) = (0 : Int32) then
      some true
    else
      some false)
  else
    some false)
set_option maxRecDepth 100000 in
theorem ok_St_isLit {G : Gm} {l : Launch} {d : Nat} (s : Nat) (v1 : Int32) (M : Mm) {z : Bool} (hs : isSt s) (h : St_isLit s v1 M = some z) : CK G l (d + 1) md_St_isLit [.ref s, .int v1] M SS (some (.int (b2i z))) M SS := by
  refine ck_of mk_St_isLit (Nat.le_of_ble_eq_true rfl) ⟨Nat.le_refl _, Nat.le_refl _⟩ (fun X hX hT hS hr hl => ?_)
  subst hl
  unfold St_isLit at h
  show WR G X (mQ G X (some (.int (b2i z))) M SS) 0 [.ref s, .int v1] [] M SS
  refine r_aload_n hX dX4_isLit_0 rfl ?_
  refine r_iload_n hX dX4_isLit_1 rfl ?_
  obtain ⟨z1, p2, h⟩ := bnd_s h
  refine r_callV (As := [.int v1]) hX dX4_isLit_2 mk_St_has mi_St_has ml_4_84 rfl rfl rfl (kdS0 hs) (by decide) (ltS0 hs) (Nat.le_of_ble_eq_true rfl) hr (ok_St_has (d := d + 0) s v1 M hs p2) ?_
  refine r_ifb_eq (tgt := 21) hX dX4_isLit_5 (by decide) (fun g3 => ?_) (fun g3 => ?_)
  · have h := (if_neg (show ¬ z1 = true from fun e => by rw [g3] at e; cases e)).symm.trans h
    refine r_iconst (v := (0 : Int32)) hX dX4_isLit_21 (by decide) ?_
    obtain rfl := Option.some.inj h
    exact r_iret (v := b2i false) hX hT dX4_isLit_22 (okI_b false).1
  · have h := (if_pos g3).symm.trans h
    refine r_aload_n hX dX4_isLit_8 rfl ?_
    refine r_getf (v := .ref (s + 10)) hX dX4_isLit_9 fl_4_41 (kdS0 hs) (by decide) (ltS0 hs) (rfS8 hs) ?_
    refine r_iload_n hX dX4_isLit_12 rfl ?_
    obtain ⟨k4, h⟩ := grd_s h
    refine r_iald hX dX4_isLit_13 (kdS10 hs) (ltS10 hs) (inb_at (lnS10 hs) k4) ?_
    refine r_if_ne (tgt := 21) hX dX4_isLit_14 (by decide) (fun g5 => ?_) (fun g5 => ?_)
    · have h := (if_neg g5).symm.trans h
      refine r_iconst (v := (0 : Int32)) hX dX4_isLit_21 (by decide) ?_
      obtain rfl := Option.some.inj h
      exact r_iret (v := b2i false) hX hT dX4_isLit_22 (okI_b false).1
    · have h := (if_pos g5).symm.trans h
      refine r_iconst (v := (1 : Int32)) hX dX4_isLit_17 (by decide) ?_
      refine r_goto (tgt := 22) hX dX4_isLit_18 (by decide) ?_
      obtain rfl := Option.some.inj h
      exact r_iret (v := b2i true) hX hT dX4_isLit_22 (okI_b true).1
def St_isLitOrDark_j27  : Option (Bool) :=
  some true
def St_isLitOrDark (s : Nat) (v1 : Int32) (M : Mm) : Option (Bool) :=
  bnd (St_has s v1 M) (fun z1 =>
  if z1 = true then
    grd (inb v1 40) (
    if (M.1 (s + 10) (tn v1)) = (0 : Int32) then
      St_isLitOrDark_j27
    else
      grd (inb v1 40) (
      if (M.1 (s + 10) (tn v1)) = (2 : Int32) then
        St_isLitOrDark_j27
      else
        some false))
  else
    some false)
set_option maxRecDepth 100000 in
theorem ok_St_isLitOrDark_j27 (s : Nat) (M : Mm) {z : Bool} {G : Gm} {X : Cx} {d : Nat} (hs : isSt s) (hX : XK G X 4 cX4_isLitOrDark 2 (d + 1)) (hT : XT X (some .boolean) "isLitOrDark") (hr : XR X SS) (h : St_isLitOrDark_j27 = some z) : WR G X (mQ G X (some (.int (b2i z))) M SS) 27 [.ref s, vU] [] M SS := by
  unfold St_isLitOrDark_j27 at h
  refine r_iconst (v := (1 : Int32)) hX dX4_isLitOrDark_27 (by decide) ?_
  refine r_goto (tgt := 32) hX dX4_isLitOrDark_28 (by decide) ?_
  obtain rfl := Option.some.inj h
  exact r_iret (v := b2i true) hX hT dX4_isLitOrDark_32 (okI_b true).1
set_option maxRecDepth 100000 in
theorem ok_St_isLitOrDark {G : Gm} {l : Launch} {d : Nat} (s : Nat) (v1 : Int32) (M : Mm) {z : Bool} (hs : isSt s) (h : St_isLitOrDark s v1 M = some z) : CK G l (d + 1) md_St_isLitOrDark [.ref s, .int v1] M SS (some (.int (b2i z))) M SS := by
  refine ck_of mk_St_isLitOrDark (Nat.le_of_ble_eq_true rfl) ⟨Nat.le_refl _, Nat.le_refl _⟩ (fun X hX hT hS hr hl => ?_)
  subst hl
  unfold St_isLitOrDark at h
  show WR G X (mQ G X (some (.int (b2i z))) M SS) 0 [.ref s, .int v1] [] M SS
  refine r_aload_n hX dX4_isLitOrDark_0 rfl ?_
  refine r_iload_n hX dX4_isLitOrDark_1 rfl ?_
  obtain ⟨z1, p2, h⟩ := bnd_s h
  refine r_callV (As := [.int v1]) hX dX4_isLitOrDark_2 mk_St_has mi_St_has ml_4_84 rfl rfl rfl (kdS0 hs) (by decide) (ltS0 hs) (Nat.le_of_ble_eq_true rfl) hr (ok_St_has (d := d + 0) s v1 M hs p2) ?_
  refine r_ifb_eq (tgt := 31) hX dX4_isLitOrDark_5 (by decide) (fun g3 => ?_) (fun g3 => ?_)
  · have h := (if_neg (show ¬ z1 = true from fun e => by rw [g3] at e; cases e)).symm.trans h
    refine r_iconst (v := (0 : Int32)) hX dX4_isLitOrDark_31 (by decide) ?_
    obtain rfl := Option.some.inj h
    exact r_iret (v := b2i false) hX hT dX4_isLitOrDark_32 (okI_b false).1
  · have h := (if_pos g3).symm.trans h
    refine r_aload_n hX dX4_isLitOrDark_8 rfl ?_
    refine r_getf (v := .ref (s + 10)) hX dX4_isLitOrDark_9 fl_4_41 (kdS0 hs) (by decide) (ltS0 hs) (rfS8 hs) ?_
    refine r_iload_n hX dX4_isLitOrDark_12 rfl ?_
    obtain ⟨k4, h⟩ := grd_s h
    refine r_iald hX dX4_isLitOrDark_13 (kdS10 hs) (ltS10 hs) (inb_at (lnS10 hs) k4) ?_
    refine r_if_eq (tgt := 27) hX dX4_isLitOrDark_14 (by decide) (fun g5 => ?_) (fun g5 => ?_)
    · have h := (if_pos g5).symm.trans h
      refine WR.fg (L' := [.ref s, vU]) ⟨Or.inr rfl, Or.inl rfl, trivial⟩ ?_
      exact ok_St_isLitOrDark_j27 s M  hs hX hT hr h
    · have h := (if_neg g5).symm.trans h
      refine r_aload_n hX dX4_isLitOrDark_17 rfl ?_
      refine r_getf (v := .ref (s + 10)) hX dX4_isLitOrDark_18 fl_4_41 (kdS0 hs) (by decide) (ltS0 hs) (rfS8 hs) ?_
      refine r_iload_n hX dX4_isLitOrDark_21 rfl ?_
      obtain ⟨k6, h⟩ := grd_s h
      refine r_iald hX dX4_isLitOrDark_22 (kdS10 hs) (ltS10 hs) (inb_at (lnS10 hs) k6) ?_
      refine r_iconst (v := (2 : Int32)) hX dX4_isLitOrDark_23 (by decide) ?_
      refine r_icmp_ne (tgt := 31) hX dX4_isLitOrDark_24 (by decide) (fun g7 => ?_) (fun g7 => ?_)
      · have h := (if_neg g7).symm.trans h
        refine r_iconst (v := (0 : Int32)) hX dX4_isLitOrDark_31 (by decide) ?_
        obtain rfl := Option.some.inj h
        exact r_iret (v := b2i false) hX hT dX4_isLitOrDark_32 (okI_b false).1
      · have h := (if_pos g7).symm.trans h
        refine WR.fg (L' := [.ref s, vU]) ⟨Or.inr rfl, Or.inl rfl, trivial⟩ ?_
        exact ok_St_isLitOrDark_j27 s M  hs hX hT hr h
def St_hasLink (s : Nat) (v1 : Int32) (M : Mm) : Option (Bool) :=
  if v1 < (0 : Int32) then
    some false
  else
    if (M.1 (s + 1) 3) ≤ v1 then
      some false
    else
      some true
set_option maxRecDepth 100000 in
theorem ok_St_hasLink {G : Gm} {l : Launch} {d : Nat} (s : Nat) (v1 : Int32) (M : Mm) {z : Bool} (hs : isSt s) (h : St_hasLink s v1 M = some z) : CK G l (d + 0) md_St_hasLink [.ref s, .int v1] M SS (some (.int (b2i z))) M SS := by
  refine ck_of mk_St_hasLink (Nat.le_of_ble_eq_true rfl) ⟨Nat.le_refl _, Nat.le_refl _⟩ (fun X hX hT hS hr hl => ?_)
  subst hl
  unfold St_hasLink at h
  show WR G X (mQ G X (some (.int (b2i z))) M SS) 0 [.ref s, .int v1] [] M SS
  refine r_iload_n hX dX4_hasLink_0 rfl ?_
  refine r_if_lt (tgt := 19) hX dX4_hasLink_1 (by decide) (fun g1 => ?_) (fun g1 => ?_)
  · have h := (if_pos g1).symm.trans h
    refine r_iconst (v := (0 : Int32)) hX dX4_hasLink_19 (by decide) ?_
    obtain rfl := Option.some.inj h
    exact r_iret (v := b2i false) hX hT dX4_hasLink_20 (okI_b false).1
  · have h := (if_neg g1).symm.trans h
    refine r_iload_n hX dX4_hasLink_4 rfl ?_
    refine r_aload_n hX dX4_hasLink_5 rfl ?_
    refine r_getf (v := .ref (s + 1)) hX dX4_hasLink_6 fl_4_12 (kdS0 hs) (by decide) (ltS0 hs) (rfS0 hs) ?_
    refine r_getf (v := .int (M.1 (s + 1) 3)) hX dX4_hasLink_9 fl_4_70 (kdS1 hs) (by decide) (ltS1 hs) rfl ?_
    refine r_icmp_ge (tgt := 19) hX dX4_hasLink_12 (by decide) (fun g2 => ?_) (fun g2 => ?_)
    · have h := (if_pos g2).symm.trans h
      refine r_iconst (v := (0 : Int32)) hX dX4_hasLink_19 (by decide) ?_
      obtain rfl := Option.some.inj h
      exact r_iret (v := b2i false) hX hT dX4_hasLink_20 (okI_b false).1
    · have h := (if_neg g2).symm.trans h
      refine r_iconst (v := (1 : Int32)) hX dX4_hasLink_15 (by decide) ?_
      refine r_goto (tgt := 20) hX dX4_hasLink_16 (by decide) ?_
      obtain rfl := Option.some.inj h
      exact r_iret (v := b2i true) hX hT dX4_hasLink_20 (okI_b true).1
def St_isUp (s : Nat) (v1 : Int32) (M : Mm) : Option (Bool) :=
  if ((ushr (M.1 s 1) v1) &&& (1 : Int32)) = (0 : Int32) then
    some false
  else
    some true
set_option maxRecDepth 100000 in
theorem ok_St_isUp {G : Gm} {l : Launch} {d : Nat} (s : Nat) (v1 : Int32) (M : Mm) {z : Bool} (hs : isSt s) (h : St_isUp s v1 M = some z) : CK G l (d + 0) md_St_isUp [.ref s, .int v1] M SS (some (.int (b2i z))) M SS := by
  refine ck_of mk_St_isUp (Nat.le_of_ble_eq_true rfl) ⟨Nat.le_refl _, Nat.le_refl _⟩ (fun X hX hT hS hr hl => ?_)
  subst hl
  unfold St_isUp at h
  show WR G X (mQ G X (some (.int (b2i z))) M SS) 0 [.ref s, .int v1] [] M SS
  refine r_aload_n hX dX4_isUp_0 rfl ?_
  refine r_getf (v := .int (M.1 s 1)) hX dX4_isUp_1 fl_4_18 (kdS0 hs) (by decide) (ltS0 hs) rfl ?_
  refine r_iload_n hX dX4_isUp_4 rfl ?_
  refine r_iushr hX dX4_isUp_5 ?_
  refine r_iconst (v := (1 : Int32)) hX dX4_isUp_6 (by decide) ?_
  refine r_iand hX dX4_isUp_7 ?_
  refine r_if_eq (tgt := 15) hX dX4_isUp_8 (by decide) (fun g1 => ?_) (fun g1 => ?_)
  · have h := (if_pos g1).symm.trans h
    refine r_iconst (v := (0 : Int32)) hX dX4_isUp_15 (by decide) ?_
    obtain rfl := Option.some.inj h
    exact r_iret (v := b2i false) hX hT dX4_isUp_16 (okI_b false).1
  · have h := (if_neg g1).symm.trans h
    refine r_iconst (v := (1 : Int32)) hX dX4_isUp_11 (by decide) ?_
    refine r_goto (tgt := 16) hX dX4_isUp_12 (by decide) ?_
    obtain rfl := Option.some.inj h
    exact r_iret (v := b2i true) hX hT dX4_isUp_16 (okI_b true).1
def St_add (s : Nat) (v1 : Int32) (v2 : Int32) (v3 : Int32) (M : Mm) : Option (Int32 × Mm) :=
  grd (inb (M.1 s 4) 40) (
  grd (inb (M.1 s 4) 40) (
  grd (inb (M.1 s 4) 40) (
  grd (inb (M.1 s 4) 40) (
  grd (inb (M.1 s 4) 40) (
  some (M.1 s 4, ((up2 (up2 (up2 (up2 (up2 (up2 M.1 (s + 7) (tn (M.1 s 4)) v1) (s + 8) (tn (M.1 s 4)) v2) (s + 9) (tn (M.1 s 4)) v3) (s + 10) (tn (M.1 s 4)) (1 : Int32)) (s + 11) (tn (M.1 s 4)) (-1 : Int32)) s 4 (((up2 (up2 (up2 (up2 (up2 M.1 (s + 7) (tn (M.1 s 4)) v1) (s + 8) (tn (M.1 s 4)) v2) (s + 9) (tn (M.1 s 4)) v3) (s + 10) (tn (M.1 s 4)) (1 : Int32)) (s + 11) (tn (M.1 s 4)) (-1 : Int32)) s 4) + (1 : Int32))), M.2)))))))
set_option maxRecDepth 100000 in
theorem ok_St_add {G : Gm} {l : Launch} {d : Nat} (s : Nat) (v1 : Int32) (v2 : Int32) (v3 : Int32) (M : Mm) {z : Int32 × Mm} (hs : isSt s) (h : St_add s v1 v2 v3 M = some z) : CK G l (d + 0) md_St_add [.ref s, .int v1, .int v2, .int v3] M SS (some (.int z.1)) z.2 SS := by
  refine ck_of mk_St_add (Nat.le_of_ble_eq_true rfl) ⟨Nat.le_refl _, Nat.le_refl _⟩ (fun X hX hT hS hr hl => ?_)
  subst hl
  unfold St_add at h
  show WR G X (mQ G X (some (.int z.1)) z.2 SS) 0 [.ref s, .int v1, .int v2, .int v3, vU] [] M SS
  refine r_aload_n hX dX4_add_0 rfl ?_
  refine r_getf (v := .int (M.1 s 4)) hX dX4_add_1 fl_4_28 (kdS0 hs) (by decide) (ltS0 hs) rfl ?_
  refine r_istore (L1 := [.ref s, .int v1, .int v2, .int v3, .int (M.1 s 4)]) hX dX4_add_4 (Nat.le_of_ble_eq_true rfl) rfl ?_
  refine r_aload_n hX dX4_add_6 rfl ?_
  refine r_getf (v := .ref (s + 7)) hX dX4_add_7 fl_4_31 (kdS0 hs) (by decide) (ltS0 hs) (rfS5 hs) ?_
  refine r_iload hX dX4_add_10 rfl ?_
  refine r_iload_n hX dX4_add_12 rfl ?_
  obtain ⟨k1, h⟩ := grd_s h
  refine r_iast hX dX4_add_13 (kdS7 hs) (ltS7 hs) (inb_at (lnS7 hs) k1) ?_
  refine r_aload_n hX dX4_add_14 rfl ?_
  refine r_getf (v := .ref (s + 8)) hX dX4_add_15 fl_4_35 (kdS0 hs) (by decide) (ltS0 hs) (rfS6 hs) ?_
  refine r_iload hX dX4_add_18 rfl ?_
  refine r_iload_n hX dX4_add_20 rfl ?_
  obtain ⟨k2, h⟩ := grd_s h
  refine r_iast' hX dX4_add_21 (kdS8 hs) (ltS8 hs) (inb_at (lnS8 hs) k2) ?_
  refine r_aload_n hX dX4_add_22 rfl ?_
  refine r_getf (v := .ref (s + 9)) hX dX4_add_23 fl_4_38 (kdS0 hs) (by decide) (ltS0 hs) (rfS7 hs) ?_
  refine r_iload hX dX4_add_26 rfl ?_
  refine r_iload_n hX dX4_add_28 rfl ?_
  obtain ⟨k3, h⟩ := grd_s h
  refine r_iast' hX dX4_add_29 (kdS9 hs) (ltS9 hs) (inb_at (lnS9 hs) k3) ?_
  refine r_aload_n hX dX4_add_30 rfl ?_
  refine r_getf (v := .ref (s + 10)) hX dX4_add_31 fl_4_41 (kdS0 hs) (by decide) (ltS0 hs) (rfS8 hs) ?_
  refine r_iload hX dX4_add_34 rfl ?_
  refine r_iconst (v := (1 : Int32)) hX dX4_add_36 (by decide) ?_
  obtain ⟨k4, h⟩ := grd_s h
  refine r_iast' hX dX4_add_37 (kdS10 hs) (ltS10 hs) (inb_at (lnS10 hs) k4) ?_
  refine r_aload_n hX dX4_add_38 rfl ?_
  refine r_getf (v := .ref (s + 11)) hX dX4_add_39 fl_4_44 (kdS0 hs) (by decide) (ltS0 hs) (rfS9 hs) ?_
  refine r_iload hX dX4_add_42 rfl ?_
  refine r_iconst (v := (-1 : Int32)) hX dX4_add_44 (by decide) ?_
  obtain ⟨k5, h⟩ := grd_s h
  refine r_iast' hX dX4_add_45 (kdS11 hs) (ltS11 hs) (inb_at (lnS11 hs) k5) ?_
  refine r_aload_n hX dX4_add_46 rfl ?_
  refine r_dup hX dX4_add_47 rfl ?_
  refine r_getf (v := .int ((up2 (up2 (up2 (up2 (up2 M.1 (s + 7) (tn (M.1 s 4)) v1) (s + 8) (tn (M.1 s 4)) v2) (s + 9) (tn (M.1 s 4)) v3) (s + 10) (tn (M.1 s 4)) (1 : Int32)) (s + 11) (tn (M.1 s 4)) (-1 : Int32)) s 4)) hX dX4_add_48 fl_4_28 (kdS0 hs) (by decide) (ltS0 hs) rfl ?_
  refine r_iconst (v := (1 : Int32)) hX dX4_add_51 (by decide) ?_
  refine r_iadd hX dX4_add_52 ?_
  refine r_putI' hX dX4_add_53 fl_4_28 (kdS0 hs) (by decide) (ltS0 hs) (okI_int _) ?_
  refine r_iload hX dX4_add_56 rfl ?_
  obtain rfl := Option.some.inj h
  exact r_iret hX hT dX4_add_58 rfl
def St_slideRoom_b26 (c2 : Int64) (v4 : Int32) : Option ((Int32) ⊕ (Int32)) :=
  if v4 ≤ (0 : Int32) then
    some (.inr v4)
  else
    if ((lushr c2 (v4 - (1 : Int32))) &&& (1 : Int64)) = (0 : Int64) then
      some (.inr v4)
    else
      some (.inl (v4 + (-1 : Int32)))
def St_slideRoom_j50 (s : Nat) (v1 : Int32) (v4 : Int32) (M : Mm) : Option (Int32) :=
  grd (inb v1 40) (
  some ((M.1 (s + 13) (tn v1)) - v4))
def St_slideRoom (n : Nat) (s : Nat) (v1 : Int32) (M : Mm) : Option (Int32) :=
  grd (inb v1 40) (
  grd (inb v1 40) (
  bnd (St_fitting n s (M.1 (s + 12) (tn v1)) (M.1 (s + 14) (tn v1)) v1 M) (fun z3 =>
  grd (inb v1 40) (
  bnd (loop (fun s1 : Int32 => St_slideRoom_b26 z3 s1) n (M.1 (s + 13) (tn v1))) (fun y8 =>
  St_slideRoom_j50 s v1 y8 M)))))
set_option maxRecDepth 100000 in
theorem ok_St_slideRoom_b26 (n : Nat) (s : Nat) (v4 : Int32) {c1 : Int32} {c2 : Int64} {Mc : Mm} {z : Int32} {oo : (Int32) ⊕ (Int32)} {G : Gm} {X : Cx} {d : Nat} (hs : isSt s) (hX : XK G X 4 cX4_slideRoom 5 (d + 2)) (hT : XT X (some .int) "slideRoom") (hr : XR X SS) (hc : ∀ s1 : Int32, oo = .inl s1 → WR G X (mQ G X (some (.int z)) Mc SS) 26 [.ref s, .int c1, .long c2, vU, .int s1] [] Mc SS) (hx : ∀ x1 : Int32, oo = .inr x1 → WR G X (mQ G X (some (.int z)) Mc SS) 50 [.ref s, .int c1, vU, vU, .int x1] [] Mc SS) (h : St_slideRoom_b26 c2 v4 = some oo) : WR G X (mQ G X (some (.int z)) Mc SS) 26 [.ref s, .int c1, .long c2, vU, .int v4] [] Mc SS := by
  unfold St_slideRoom_b26 at h
  refine r_iload hX dX4_slideRoom_26 rfl ?_
  refine r_if_le (tgt := 50) hX dX4_slideRoom_28 (by decide) (fun g6 => ?_) (fun g6 => ?_)
  · have h := (if_pos g6).symm.trans h
    refine WR.fg (L' := [.ref s, .int c1, vU, vU, .int v4]) ⟨Or.inr rfl, Or.inr rfl, Or.inl rfl, Or.inl rfl, Or.inr rfl, trivial⟩ ?_
    exact hx _ (Option.some.inj h).symm
  · have h := (if_neg g6).symm.trans h
    refine r_lload_n hX dX4_slideRoom_31 rfl ?_
    refine r_iload hX dX4_slideRoom_32 rfl ?_
    refine r_iconst (v := (1 : Int32)) hX dX4_slideRoom_34 (by decide) ?_
    refine r_isub hX dX4_slideRoom_35 ?_
    refine r_lushr hX dX4_slideRoom_36 ?_
    refine r_lconst (v := (1 : Int64)) hX dX4_slideRoom_37 (by decide) ?_
    refine r_land hX dX4_slideRoom_38 ?_
    refine r_lconst (v := (0 : Int64)) hX dX4_slideRoom_39 (by decide) ?_
    refine r_lcmp_eq (tgt := 50) hX dX4_slideRoom_40 dX4_slideRoom_41 (by decide) (fun g7 => ?_) (fun g7 => ?_)
    · have h := (if_pos g7).symm.trans h
      refine WR.fg (L' := [.ref s, .int c1, vU, vU, .int v4]) ⟨Or.inr rfl, Or.inr rfl, Or.inl rfl, Or.inl rfl, Or.inr rfl, trivial⟩ ?_
      exact hx _ (Option.some.inj h).symm
    · have h := (if_neg g7).symm.trans h
      refine r_iinc (v := v4 + (-1 : Int32)) (L1 := [.ref s, .int c1, .long c2, vU, .int (v4 + (-1 : Int32))]) hX dX4_slideRoom_44 rfl rfl rfl ?_
      refine r_goto (tgt := 26) hX dX4_slideRoom_47 (by decide) ?_
      exact hc (v4 + (-1 : Int32)) (Option.some.inj h).symm
set_option maxRecDepth 100000 in
theorem ok_St_slideRoom_j50 (n : Nat) (s : Nat) (v1 : Int32) (v4 : Int32) (M : Mm) {z : Int32} {G : Gm} {X : Cx} {d : Nat} (hs : isSt s) (hX : XK G X 4 cX4_slideRoom 5 (d + 2)) (hT : XT X (some .int) "slideRoom") (hr : XR X SS) (h : St_slideRoom_j50 s v1 v4 M = some z) : WR G X (mQ G X (some (.int z)) M SS) 50 [.ref s, .int v1, vU, vU, .int v4] [] M SS := by
  unfold St_slideRoom_j50 at h
  refine r_aload_n hX dX4_slideRoom_50 rfl ?_
  refine r_getf (v := .ref (s + 13)) hX dX4_slideRoom_51 fl_4_50 (kdS0 hs) (by decide) (ltS0 hs) (rfS11 hs) ?_
  refine r_iload_n hX dX4_slideRoom_54 rfl ?_
  obtain ⟨k9, h⟩ := grd_s h
  refine r_iald hX dX4_slideRoom_55 (kdS13 hs) (ltS13 hs) (inb_at (lnS13 hs) k9) ?_
  refine r_iload hX dX4_slideRoom_56 rfl ?_
  refine r_isub hX dX4_slideRoom_58 ?_
  obtain rfl := Option.some.inj h
  exact r_iret hX hT dX4_slideRoom_59 rfl
set_option maxRecDepth 100000 in
theorem ok_St_slideRoom {G : Gm} {l : Launch} {d : Nat} (n : Nat) (s : Nat) (v1 : Int32) (M : Mm) {z : Int32} (hs : isSt s) (h : St_slideRoom n s v1 M = some z) : CK G l (d + 2) md_St_slideRoom [.ref s, .int v1] M SS (some (.int z)) M SS := by
  refine ck_of mk_St_slideRoom (Nat.le_of_ble_eq_true rfl) ⟨Nat.le_refl _, Nat.le_refl _⟩ (fun X hX hT hS hr hl => ?_)
  subst hl
  unfold St_slideRoom at h
  show WR G X (mQ G X (some (.int z)) M SS) 0 [.ref s, .int v1, vU, vU, vU] [] M SS
  refine r_aload_n hX dX4_slideRoom_0 rfl ?_
  refine r_aload_n hX dX4_slideRoom_1 rfl ?_
  refine r_getf (v := .ref (s + 12)) hX dX4_slideRoom_2 fl_4_47 (kdS0 hs) (by decide) (ltS0 hs) (rfS10 hs) ?_
  refine r_iload_n hX dX4_slideRoom_5 rfl ?_
  obtain ⟨k1, h⟩ := grd_s h
  refine r_iald hX dX4_slideRoom_6 (kdS12 hs) (ltS12 hs) (inb_at (lnS12 hs) k1) ?_
  refine r_aload_n hX dX4_slideRoom_7 rfl ?_
  refine r_getf (v := .ref (s + 14)) hX dX4_slideRoom_8 fl_4_53 (kdS0 hs) (by decide) (ltS0 hs) (rfS12 hs) ?_
  refine r_iload_n hX dX4_slideRoom_11 rfl ?_
  obtain ⟨k2, h⟩ := grd_s h
  refine r_iald hX dX4_slideRoom_12 (kdS14 hs) (ltS14 hs) (inb_at (lnS14 hs) k2) ?_
  refine r_iload_n hX dX4_slideRoom_13 rfl ?_
  obtain ⟨z3, p4, h⟩ := bnd_s h
  refine r_callV (As := [.int (M.1 (s + 12) (tn v1)), .int (M.1 (s + 14) (tn v1)), .int v1]) hX dX4_slideRoom_14 mk_St_fitting mi_St_fitting ml_4_120 rfl rfl rfl (kdS0 hs) (by decide) (ltS0 hs) (Nat.le_of_ble_eq_true rfl) hr (ok_St_fitting (d := d + 0) n s (M.1 (s + 12) (tn v1)) (M.1 (s + 14) (tn v1)) v1 M hs p4) ?_
  refine r_lstore_n (L1 := [.ref s, .int v1, .long z3, vU, vU]) hX dX4_slideRoom_17 (Nat.le_of_ble_eq_true rfl) rfl ?_
  refine r_aload_n hX dX4_slideRoom_18 rfl ?_
  refine r_getf (v := .ref (s + 13)) hX dX4_slideRoom_19 fl_4_50 (kdS0 hs) (by decide) (ltS0 hs) (rfS11 hs) ?_
  refine r_iload_n hX dX4_slideRoom_22 rfl ?_
  obtain ⟨k5, h⟩ := grd_s h
  refine r_iald hX dX4_slideRoom_23 (kdS13 hs) (ltS13 hs) (inb_at (lnS13 hs) k5) ?_
  refine r_istore (L1 := [.ref s, .int v1, .long z3, vU, .int (M.1 (s + 13) (tn v1))]) hX dX4_slideRoom_24 (Nat.le_of_ble_eq_true rfl) rfl ?_
  obtain ⟨y8, h1, h⟩ := bnd_s h
  refine loop_ok (P := fun s1 : Int32 => WR G X (mQ G X (some (.int z)) M SS) 26 [.ref s, .int v1, .long z3, vU, .int s1] [] M SS) (E := fun x1 : Int32 => WR G X (mQ G X (some (.int z)) M SS) 50 [.ref s, .int v1, vU, vU, .int x1] [] M SS) (fun s1 o1 g1 g2 g3 => ok_St_slideRoom_b26 n s s1 hs hX hT hr g2 g3 g1) n (M.1 (s + 13) (tn v1)) y8 h1 ?_
  show WR G X (mQ G X (some (.int z)) M SS) 50 [.ref s, .int v1, vU, vU, .int y8] [] M SS
  exact ok_St_slideRoom_j50 n s v1 y8 M  hs hX hT hr h
def St_witnesses_j41 (v3 : Int64) (v5 : Int32) : Option ((Int64 × Int32) ⊕ (Int64)) :=
  some (.inl (v3, v5 + (1 : Int32)))
def St_witnesses_b5 (n : Nat) (s : Nat) (c1 : Int32) (c2 : Int32) (Mc : Mm) (v3 : Int64) (v5 : Int32) : Option ((Int64 × Int32) ⊕ (Int64)) :=
  if (Mc.1 (s + 1) 1) < (v5 + c2) then
    some (.inr v3)
  else
    bnd (St_inTheWay n s c1 v5 c2 Mc) (fun z2 =>
    if z2 < (0 : Int32) then
      St_witnesses_j41 v3 v5
    else
      St_witnesses_j41 (v3 ||| (lshl (1 : Int64) z2)) v5)
def St_witnesses (n : Nat) (s : Nat) (v1 : Int32) (v2 : Int32) (M : Mm) : Option (Int64) :=
  bnd (loop (fun s1 : Int64 × Int32 => St_witnesses_b5 n s v1 v2 M s1.1 s1.2) n ((0 : Int64), (0 : Int32))) (fun y5 =>
  some y5)
set_option maxRecDepth 100000 in
theorem ok_St_witnesses_j41 (n : Nat) (s : Nat) (v3 : Int64) (v5 : Int32) {c1 : Int32} {c2 : Int32} {Mc : Mm} {z : Int64} {oo : (Int64 × Int32) ⊕ (Int64)} {G : Gm} {X : Cx} {d : Nat} (hs : isSt s) (hX : XK G X 4 cX4_witnesses 7 (d + 2)) (hT : XT X (some .long) "witnesses") (hr : XR X SS) (hc : ∀ s1 : Int64 × Int32, oo = .inl s1 → WR G X (mQ G X (some (.long z)) Mc SS) 5 [.ref s, .int c1, .int c2, .long s1.1, vU, .int s1.2, vU] [] Mc SS) (hx : ∀ x1 : Int64, oo = .inr x1 → WR G X (mQ G X (some (.long z)) Mc SS) 47 [.ref s, vU, vU, .long x1, vU, vU, vU] [] Mc SS) (h : St_witnesses_j41 v3 v5 = some oo) : WR G X (mQ G X (some (.long z)) Mc SS) 41 [.ref s, .int c1, .int c2, .long v3, vU, .int v5, vU] [] Mc SS := by
  unfold St_witnesses_j41 at h
  refine r_iinc (v := v5 + (1 : Int32)) (L1 := [.ref s, .int c1, .int c2, .long v3, vU, .int (v5 + (1 : Int32)), vU]) hX dX4_witnesses_41 rfl rfl rfl ?_
  refine r_goto (tgt := 5) hX dX4_witnesses_44 (by decide) ?_
  exact hc (v3, v5 + (1 : Int32)) (Option.some.inj h).symm
set_option maxRecDepth 100000 in
theorem ok_St_witnesses_b5 (n : Nat) (s : Nat) (v3 : Int64) (v5 : Int32) {c1 : Int32} {c2 : Int32} {Mc : Mm} {z : Int64} {oo : (Int64 × Int32) ⊕ (Int64)} {G : Gm} {X : Cx} {d : Nat} (hs : isSt s) (hX : XK G X 4 cX4_witnesses 7 (d + 2)) (hT : XT X (some .long) "witnesses") (hr : XR X SS) (hc : ∀ s1 : Int64 × Int32, oo = .inl s1 → WR G X (mQ G X (some (.long z)) Mc SS) 5 [.ref s, .int c1, .int c2, .long s1.1, vU, .int s1.2, vU] [] Mc SS) (hx : ∀ x1 : Int64, oo = .inr x1 → WR G X (mQ G X (some (.long z)) Mc SS) 47 [.ref s, vU, vU, .long x1, vU, vU, vU] [] Mc SS) (h : St_witnesses_b5 n s c1 c2 Mc v3 v5 = some oo) : WR G X (mQ G X (some (.long z)) Mc SS) 5 [.ref s, .int c1, .int c2, .long v3, vU, .int v5, vU] [] Mc SS := by
  unfold St_witnesses_b5 at h
  refine r_iload hX dX4_witnesses_5 rfl ?_
  refine r_iload_n hX dX4_witnesses_7 rfl ?_
  refine r_iadd hX dX4_witnesses_8 ?_
  refine r_aload_n hX dX4_witnesses_9 rfl ?_
  refine r_getf (v := .ref (s + 1)) hX dX4_witnesses_10 fl_4_12 (kdS0 hs) (by decide) (ltS0 hs) (rfS0 hs) ?_
  refine r_getf (v := .int (Mc.1 (s + 1) 1)) hX dX4_witnesses_13 fl_4_134 (kdS1 hs) (by decide) (ltS1 hs) rfl ?_
  refine r_icmp_gt (tgt := 47) hX dX4_witnesses_16 (by decide) (fun g1 => ?_) (fun g1 => ?_)
  · have h := (if_pos g1).symm.trans h
    refine WR.fg (L' := [.ref s, vU, vU, .long v3, vU, vU, vU]) ⟨Or.inr rfl, Or.inl rfl, Or.inl rfl, Or.inr rfl, Or.inl rfl, Or.inl rfl, Or.inl rfl, trivial⟩ ?_
    exact hx _ (Option.some.inj h).symm
  · have h := (if_neg g1).symm.trans h
    refine r_aload_n hX dX4_witnesses_19 rfl ?_
    refine r_iload_n hX dX4_witnesses_20 rfl ?_
    refine r_iload hX dX4_witnesses_21 rfl ?_
    refine r_iload_n hX dX4_witnesses_23 rfl ?_
    obtain ⟨z2, p3, h⟩ := bnd_s h
    refine r_callV (As := [.int c1, .int v5, .int c2]) hX dX4_witnesses_24 mk_St_inTheWay mi_St_inTheWay ml_4_137 rfl rfl rfl (kdS0 hs) (by decide) (ltS0 hs) (Nat.le_of_ble_eq_true rfl) hr (ok_St_inTheWay (d := d + 0) n s c1 v5 c2 Mc hs p3) ?_
    refine r_istore (L1 := [.ref s, .int c1, .int c2, .long v3, vU, .int v5, .int z2]) hX dX4_witnesses_27 (Nat.le_of_ble_eq_true rfl) rfl ?_
    refine r_iload hX dX4_witnesses_29 rfl ?_
    refine r_if_lt (tgt := 41) hX dX4_witnesses_31 (by decide) (fun g4 => ?_) (fun g4 => ?_)
    · have h := (if_pos g4).symm.trans h
      refine WR.fg (L' := [.ref s, .int c1, .int c2, .long v3, vU, .int v5, vU]) ⟨Or.inr rfl, Or.inr rfl, Or.inr rfl, Or.inr rfl, Or.inl rfl, Or.inr rfl, Or.inl rfl, trivial⟩ ?_
      exact ok_St_witnesses_j41 n s v3 v5  hs hX hT hr hc hx h
    · have h := (if_neg g4).symm.trans h
      refine r_lload_n hX dX4_witnesses_34 rfl ?_
      refine r_lconst (v := (1 : Int64)) hX dX4_witnesses_35 (by decide) ?_
      refine r_iload hX dX4_witnesses_36 rfl ?_
      refine r_lshl hX dX4_witnesses_38 ?_
      refine r_lor hX dX4_witnesses_39 ?_
      refine r_lstore_n (L1 := [.ref s, .int c1, .int c2, .long (v3 ||| (lshl (1 : Int64) z2)), vU, .int v5, .int z2]) hX dX4_witnesses_40 (Nat.le_of_ble_eq_true rfl) rfl ?_
      refine WR.fg (L' := [.ref s, .int c1, .int c2, .long (v3 ||| (lshl (1 : Int64) z2)), vU, .int v5, vU]) ⟨Or.inr rfl, Or.inr rfl, Or.inr rfl, Or.inr rfl, Or.inl rfl, Or.inr rfl, Or.inl rfl, trivial⟩ ?_
      exact ok_St_witnesses_j41 n s (v3 ||| (lshl (1 : Int64) z2)) v5  hs hX hT hr hc hx h
set_option maxRecDepth 100000 in
theorem ok_St_witnesses {G : Gm} {l : Launch} {d : Nat} (n : Nat) (s : Nat) (v1 : Int32) (v2 : Int32) (M : Mm) {z : Int64} (hs : isSt s) (h : St_witnesses n s v1 v2 M = some z) : CK G l (d + 2) md_St_witnesses [.ref s, .int v1, .int v2] M SS (some (.long z)) M SS := by
  refine ck_of mk_St_witnesses (Nat.le_of_ble_eq_true rfl) ⟨Nat.le_refl _, Nat.le_refl _⟩ (fun X hX hT hS hr hl => ?_)
  subst hl
  unfold St_witnesses at h
  show WR G X (mQ G X (some (.long z)) M SS) 0 [.ref s, .int v1, .int v2, vU, vU, vU, vU] [] M SS
  refine r_lconst (v := (0 : Int64)) hX dX4_witnesses_0 (by decide) ?_
  refine r_lstore_n (L1 := [.ref s, .int v1, .int v2, .long (0 : Int64), vU, vU, vU]) hX dX4_witnesses_1 (Nat.le_of_ble_eq_true rfl) rfl ?_
  refine r_iconst (v := (0 : Int32)) hX dX4_witnesses_2 (by decide) ?_
  refine r_istore (L1 := [.ref s, .int v1, .int v2, .long (0 : Int64), vU, .int (0 : Int32), vU]) hX dX4_witnesses_3 (Nat.le_of_ble_eq_true rfl) rfl ?_
  obtain ⟨y5, h1, h⟩ := bnd_s h
  refine loop_ok (P := fun s1 : Int64 × Int32 => WR G X (mQ G X (some (.long z)) M SS) 5 [.ref s, .int v1, .int v2, .long s1.1, vU, .int s1.2, vU] [] M SS) (E := fun x1 : Int64 => WR G X (mQ G X (some (.long z)) M SS) 47 [.ref s, vU, vU, .long x1, vU, vU, vU] [] M SS) (fun s1 o1 g1 g2 g3 => ok_St_witnesses_b5 n s s1.1 s1.2 hs hX hT hr g2 g3 g1) n ((0 : Int64), (0 : Int32)) y5 h1 ?_
  show WR G X (mQ G X (some (.long z)) M SS) 47 [.ref s, vU, vU, .long y5, vU, vU, vU] [] M SS
  refine r_lload_n hX dX4_witnesses_47 rfl ?_
  obtain rfl := Option.some.inj h
  exact r_lret hX hT dX4_witnesses_48
def St_top_b4 (s : Nat) (Mc : Mm) (v1 : Int64) (v3 : Int32) : Option ((Int64 × Int32) ⊕ (Int64)) :=
  if (Mc.1 (s + 1) 3) ≤ v3 then
    some (.inr v1)
  else
    grd (inb v3 14) (
    some (.inl (v1 ||| (Mc.2 (s + 16) (tn v3)), v3 + (1 : Int32))))
def St_top (n : Nat) (s : Nat) (M : Mm) : Option (Int32) :=
  bnd (loop (fun s1 : Int64 × Int32 => St_top_b4 s M s1.1 s1.2) n ((0 : Int64), (0 : Int32))) (fun y3 =>
  bnd (Fg_highest n y3 M) (fun z4 =>
  some z4))
set_option maxRecDepth 100000 in
theorem ok_St_top_b4 (n : Nat) (s : Nat) (v1 : Int64) (v3 : Int32)  {Mc : Mm} {z : Int32} {oo : (Int64 × Int32) ⊕ (Int64)} {G : Gm} {X : Cx} {d : Nat} (hs : isSt s) (hX : XK G X 4 cX4_top 4 (d + 2)) (hT : XT X (some .int) "top") (hr : XR X SS) (hc : ∀ s1 : Int64 × Int32, oo = .inl s1 → WR G X (mQ G X (some (.int z)) Mc SS) 4 [.ref s, .long s1.1, vU, .int s1.2] [] Mc SS) (hx : ∀ x1 : Int64, oo = .inr x1 → WR G X (mQ G X (some (.int z)) Mc SS) 30 [.ref s, .long x1, vU, vU] [] Mc SS) (h : St_top_b4 s Mc v1 v3 = some oo) : WR G X (mQ G X (some (.int z)) Mc SS) 4 [.ref s, .long v1, vU, .int v3] [] Mc SS := by
  unfold St_top_b4 at h
  refine r_iload_n hX dX4_top_4 rfl ?_
  refine r_aload_n hX dX4_top_5 rfl ?_
  refine r_getf (v := .ref (s + 1)) hX dX4_top_6 fl_4_12 (kdS0 hs) (by decide) (ltS0 hs) (rfS0 hs) ?_
  refine r_getf (v := .int (Mc.1 (s + 1) 3)) hX dX4_top_9 fl_4_70 (kdS1 hs) (by decide) (ltS1 hs) rfl ?_
  refine r_icmp_ge (tgt := 30) hX dX4_top_12 (by decide) (fun g1 => ?_) (fun g1 => ?_)
  · have h := (if_pos g1).symm.trans h
    refine WR.fg (L' := [.ref s, .long v1, vU, vU]) ⟨Or.inr rfl, Or.inr rfl, Or.inl rfl, Or.inl rfl, trivial⟩ ?_
    exact hx _ (Option.some.inj h).symm
  · have h := (if_neg g1).symm.trans h
    refine r_lload_n hX dX4_top_15 rfl ?_
    refine r_aload_n hX dX4_top_16 rfl ?_
    refine r_getf (v := .ref (s + 16)) hX dX4_top_17 fl_4_60 (kdS0 hs) (by decide) (ltS0 hs) (rfS14 hs) ?_
    refine r_iload_n hX dX4_top_20 rfl ?_
    obtain ⟨k2, h⟩ := grd_s h
    refine r_lald hX dX4_top_21 (kdS16 hs) (ltS16 hs) (inb_at (lnS16 hs) k2) ?_
    refine r_lor hX dX4_top_22 ?_
    refine r_lstore_n (L1 := [.ref s, .long (v1 ||| (Mc.2 (s + 16) (tn v3))), vU, .int v3]) hX dX4_top_23 (Nat.le_of_ble_eq_true rfl) rfl ?_
    refine r_iinc (v := v3 + (1 : Int32)) (L1 := [.ref s, .long (v1 ||| (Mc.2 (s + 16) (tn v3))), vU, .int (v3 + (1 : Int32))]) hX dX4_top_24 rfl rfl rfl ?_
    refine r_goto (tgt := 4) hX dX4_top_27 (by decide) ?_
    exact hc (v1 ||| (Mc.2 (s + 16) (tn v3)), v3 + (1 : Int32)) (Option.some.inj h).symm
set_option maxRecDepth 100000 in
theorem ok_St_top {G : Gm} {l : Launch} {d : Nat} (n : Nat) (s : Nat) (M : Mm) {z : Int32} (hs : isSt s) (h : St_top n s M = some z) : CK G l (d + 2) md_St_top [.ref s] M SS (some (.int z)) M SS := by
  refine ck_of mk_St_top (Nat.le_of_ble_eq_true rfl) ⟨Nat.le_refl _, Nat.le_refl _⟩ (fun X hX hT hS hr hl => ?_)
  subst hl
  unfold St_top at h
  show WR G X (mQ G X (some (.int z)) M SS) 0 [.ref s, vU, vU, vU] [] M SS
  refine r_lconst (v := (0 : Int64)) hX dX4_top_0 (by decide) ?_
  refine r_lstore_n (L1 := [.ref s, .long (0 : Int64), vU, vU]) hX dX4_top_1 (Nat.le_of_ble_eq_true rfl) rfl ?_
  refine r_iconst (v := (0 : Int32)) hX dX4_top_2 (by decide) ?_
  refine r_istore_n (L1 := [.ref s, .long (0 : Int64), vU, .int (0 : Int32)]) hX dX4_top_3 (Nat.le_of_ble_eq_true rfl) rfl ?_
  obtain ⟨y3, h1, h⟩ := bnd_s h
  refine loop_ok (P := fun s1 : Int64 × Int32 => WR G X (mQ G X (some (.int z)) M SS) 4 [.ref s, .long s1.1, vU, .int s1.2] [] M SS) (E := fun x1 : Int64 => WR G X (mQ G X (some (.int z)) M SS) 30 [.ref s, .long x1, vU, vU] [] M SS) (fun s1 o1 g1 g2 g3 => ok_St_top_b4 n s s1.1 s1.2 hs hX hT hr g2 g3 g1) n ((0 : Int64), (0 : Int32)) y3 h1 ?_
  show WR G X (mQ G X (some (.int z)) M SS) 30 [.ref s, .long y3, vU, vU] [] M SS
  refine r_lload_n hX dX4_top_30 rfl ?_
  obtain ⟨z4, p5, h⟩ := bnd_s h
  refine r_callSN (As := [.long y3]) hX dX4_top_31 mk_Fg_highest ms_Fg_highest mn_4_141 rfl rfl rfl (Nat.le_of_ble_eq_true rfl) hr (ok_Fg_highest (d := d + 0) n y3 M p5) ?_
  obtain rfl := Option.some.inj h
  exact r_iret hX hT dX4_top_34 rfl
def St_slotsUsed_b4 (s : Nat) (Mc : Mm) (v1 : Int32) (v2 : Int32) : Option ((Int32 × Int32) ⊕ (Int32)) :=
  if (Mc.1 (s + 1) 3) ≤ v2 then
    some (.inr v1)
  else
    grd (inb v2 14) (
    bnd (Jl_bitCount (Mc.2 (s + 16) (tn v2)) Mc) (fun z3 =>
    some (.inl (v1 + z3, v2 + (1 : Int32)))))
def St_slotsUsed (n : Nat) (s : Nat) (M : Mm) : Option (Int32) :=
  bnd (loop (fun s1 : Int32 × Int32 => St_slotsUsed_b4 s M s1.1 s1.2) n ((0 : Int32), (0 : Int32))) (fun y5 =>
  some y5)
set_option maxRecDepth 100000 in
theorem ok_St_slotsUsed_b4 (n : Nat) (s : Nat) (v1 : Int32) (v2 : Int32)  {Mc : Mm} {z : Int32} {oo : (Int32 × Int32) ⊕ (Int32)} {G : Gm} {X : Cx} {d : Nat} (hs : isSt s) (hX : XK G X 4 cX4_slotsUsed 3 (d + 1)) (hT : XT X (some .int) "slotsUsed") (hr : XR X SS) (hc : ∀ s1 : Int32 × Int32, oo = .inl s1 → WR G X (mQ G X (some (.int z)) Mc SS) 4 [.ref s, .int s1.1, .int s1.2] [] Mc SS) (hx : ∀ x1 : Int32, oo = .inr x1 → WR G X (mQ G X (some (.int z)) Mc SS) 33 [.ref s, .int x1, vU] [] Mc SS) (h : St_slotsUsed_b4 s Mc v1 v2 = some oo) : WR G X (mQ G X (some (.int z)) Mc SS) 4 [.ref s, .int v1, .int v2] [] Mc SS := by
  unfold St_slotsUsed_b4 at h
  refine r_iload_n hX dX4_slotsUsed_4 rfl ?_
  refine r_aload_n hX dX4_slotsUsed_5 rfl ?_
  refine r_getf (v := .ref (s + 1)) hX dX4_slotsUsed_6 fl_4_12 (kdS0 hs) (by decide) (ltS0 hs) (rfS0 hs) ?_
  refine r_getf (v := .int (Mc.1 (s + 1) 3)) hX dX4_slotsUsed_9 fl_4_70 (kdS1 hs) (by decide) (ltS1 hs) rfl ?_
  refine r_icmp_ge (tgt := 33) hX dX4_slotsUsed_12 (by decide) (fun g1 => ?_) (fun g1 => ?_)
  · have h := (if_pos g1).symm.trans h
    refine WR.fg (L' := [.ref s, .int v1, vU]) ⟨Or.inr rfl, Or.inr rfl, Or.inl rfl, trivial⟩ ?_
    exact hx _ (Option.some.inj h).symm
  · have h := (if_neg g1).symm.trans h
    refine r_iload_n hX dX4_slotsUsed_15 rfl ?_
    refine r_aload_n hX dX4_slotsUsed_16 rfl ?_
    refine r_getf (v := .ref (s + 16)) hX dX4_slotsUsed_17 fl_4_60 (kdS0 hs) (by decide) (ltS0 hs) (rfS14 hs) ?_
    refine r_iload_n hX dX4_slotsUsed_20 rfl ?_
    obtain ⟨k2, h⟩ := grd_s h
    refine r_lald hX dX4_slotsUsed_21 (kdS16 hs) (ltS16 hs) (inb_at (lnS16 hs) k2) ?_
    obtain ⟨z3, p4, h⟩ := bnd_s h
    refine r_callS (As := [.long (Mc.2 (s + 16) (tn v2))]) hX dX4_slotsUsed_22 mk_Jl_bitCount ms_Jl_bitCount ml_4_145 rfl rfl rfl (Nat.le_of_ble_eq_true rfl) hr (ok_Jl_bitCount (d := d + 0) (Mc.2 (s + 16) (tn v2)) Mc p4) ?_
    refine r_iadd hX dX4_slotsUsed_25 ?_
    refine r_istore_n (L1 := [.ref s, .int (v1 + z3), .int v2]) hX dX4_slotsUsed_26 (Nat.le_of_ble_eq_true rfl) rfl ?_
    refine r_iinc (v := v2 + (1 : Int32)) (L1 := [.ref s, .int (v1 + z3), .int (v2 + (1 : Int32))]) hX dX4_slotsUsed_27 rfl rfl rfl ?_
    refine r_goto (tgt := 4) hX dX4_slotsUsed_30 (by decide) ?_
    exact hc (v1 + z3, v2 + (1 : Int32)) (Option.some.inj h).symm
set_option maxRecDepth 100000 in
theorem ok_St_slotsUsed {G : Gm} {l : Launch} {d : Nat} (n : Nat) (s : Nat) (M : Mm) {z : Int32} (hs : isSt s) (h : St_slotsUsed n s M = some z) : CK G l (d + 1) md_St_slotsUsed [.ref s] M SS (some (.int z)) M SS := by
  refine ck_of mk_St_slotsUsed (Nat.le_of_ble_eq_true rfl) ⟨Nat.le_refl _, Nat.le_refl _⟩ (fun X hX hT hS hr hl => ?_)
  subst hl
  unfold St_slotsUsed at h
  show WR G X (mQ G X (some (.int z)) M SS) 0 [.ref s, vU, vU] [] M SS
  refine r_iconst (v := (0 : Int32)) hX dX4_slotsUsed_0 (by decide) ?_
  refine r_istore_n (L1 := [.ref s, .int (0 : Int32), vU]) hX dX4_slotsUsed_1 (Nat.le_of_ble_eq_true rfl) rfl ?_
  refine r_iconst (v := (0 : Int32)) hX dX4_slotsUsed_2 (by decide) ?_
  refine r_istore_n (L1 := [.ref s, .int (0 : Int32), .int (0 : Int32)]) hX dX4_slotsUsed_3 (Nat.le_of_ble_eq_true rfl) rfl ?_
  obtain ⟨y5, h1, h⟩ := bnd_s h
  refine loop_ok (P := fun s1 : Int32 × Int32 => WR G X (mQ G X (some (.int z)) M SS) 4 [.ref s, .int s1.1, .int s1.2] [] M SS) (E := fun x1 : Int32 => WR G X (mQ G X (some (.int z)) M SS) 33 [.ref s, .int x1, vU] [] M SS) (fun s1 o1 g1 g2 g3 => ok_St_slotsUsed_b4 n s s1.1 s1.2 hs hX hT hr g2 g3 g1) n ((0 : Int32), (0 : Int32)) y5 h1 ?_
  show WR G X (mQ G X (some (.int z)) M SS) 33 [.ref s, .int y5, vU] [] M SS
  refine r_iload_n hX dX4_slotsUsed_33 rfl ?_
  obtain rfl := Option.some.inj h
  exact r_iret hX hT dX4_slotsUsed_34 rfl
def St_howMany_j25 (v2 : Int32) (v3 : Int32) : Option ((Int32 × Int32) ⊕ (Int32)) :=
  some (.inl (v2, v3 + (1 : Int32)))
def St_howMany_b4 (s : Nat) (c1 : Int32) (Mc : Mm) (v2 : Int32) (v3 : Int32) : Option ((Int32 × Int32) ⊕ (Int32)) :=
  if (Mc.1 s 4) ≤ v3 then
    some (.inr v2)
  else
    grd (inb v3 40) (
    if (Mc.1 (s + 10) (tn v3)) = c1 then
      St_howMany_j25 (v2 + (1 : Int32)) v3
    else
      St_howMany_j25 v2 v3)
def St_howMany (n : Nat) (s : Nat) (v1 : Int32) (M : Mm) : Option (Int32) :=
  bnd (loop (fun s1 : Int32 × Int32 => St_howMany_b4 s v1 M s1.1 s1.2) n ((0 : Int32), (0 : Int32))) (fun y4 =>
  some y4)
set_option maxRecDepth 100000 in
theorem ok_St_howMany_j25 (n : Nat) (s : Nat) (v2 : Int32) (v3 : Int32) {c1 : Int32} {Mc : Mm} {z : Int32} {oo : (Int32 × Int32) ⊕ (Int32)} {G : Gm} {X : Cx} {d : Nat} (hs : isSt s) (hX : XK G X 4 cX4_howMany 4 (d + 0)) (hT : XT X (some .int) "howMany") (hr : XR X SS) (hc : ∀ s1 : Int32 × Int32, oo = .inl s1 → WR G X (mQ G X (some (.int z)) Mc SS) 4 [.ref s, .int c1, .int s1.1, .int s1.2] [] Mc SS) (hx : ∀ x1 : Int32, oo = .inr x1 → WR G X (mQ G X (some (.int z)) Mc SS) 31 [.ref s, vU, .int x1, vU] [] Mc SS) (h : St_howMany_j25 v2 v3 = some oo) : WR G X (mQ G X (some (.int z)) Mc SS) 25 [.ref s, .int c1, .int v2, .int v3] [] Mc SS := by
  unfold St_howMany_j25 at h
  refine r_iinc (v := v3 + (1 : Int32)) (L1 := [.ref s, .int c1, .int v2, .int (v3 + (1 : Int32))]) hX dX4_howMany_25 rfl rfl rfl ?_
  refine r_goto (tgt := 4) hX dX4_howMany_28 (by decide) ?_
  exact hc (v2, v3 + (1 : Int32)) (Option.some.inj h).symm
set_option maxRecDepth 100000 in
theorem ok_St_howMany_b4 (n : Nat) (s : Nat) (v2 : Int32) (v3 : Int32) {c1 : Int32} {Mc : Mm} {z : Int32} {oo : (Int32 × Int32) ⊕ (Int32)} {G : Gm} {X : Cx} {d : Nat} (hs : isSt s) (hX : XK G X 4 cX4_howMany 4 (d + 0)) (hT : XT X (some .int) "howMany") (hr : XR X SS) (hc : ∀ s1 : Int32 × Int32, oo = .inl s1 → WR G X (mQ G X (some (.int z)) Mc SS) 4 [.ref s, .int c1, .int s1.1, .int s1.2] [] Mc SS) (hx : ∀ x1 : Int32, oo = .inr x1 → WR G X (mQ G X (some (.int z)) Mc SS) 31 [.ref s, vU, .int x1, vU] [] Mc SS) (h : St_howMany_b4 s c1 Mc v2 v3 = some oo) : WR G X (mQ G X (some (.int z)) Mc SS) 4 [.ref s, .int c1, .int v2, .int v3] [] Mc SS := by
  unfold St_howMany_b4 at h
  refine r_iload_n hX dX4_howMany_4 rfl ?_
  refine r_aload_n hX dX4_howMany_5 rfl ?_
  refine r_getf (v := .int (Mc.1 s 4)) hX dX4_howMany_6 fl_4_28 (kdS0 hs) (by decide) (ltS0 hs) rfl ?_
  refine r_icmp_ge (tgt := 31) hX dX4_howMany_9 (by decide) (fun g1 => ?_) (fun g1 => ?_)
  · have h := (if_pos g1).symm.trans h
    refine WR.fg (L' := [.ref s, vU, .int v2, vU]) ⟨Or.inr rfl, Or.inl rfl, Or.inr rfl, Or.inl rfl, trivial⟩ ?_
    exact hx _ (Option.some.inj h).symm
  · have h := (if_neg g1).symm.trans h
    refine r_aload_n hX dX4_howMany_12 rfl ?_
    refine r_getf (v := .ref (s + 10)) hX dX4_howMany_13 fl_4_41 (kdS0 hs) (by decide) (ltS0 hs) (rfS8 hs) ?_
    refine r_iload_n hX dX4_howMany_16 rfl ?_
    obtain ⟨k2, h⟩ := grd_s h
    refine r_iald hX dX4_howMany_17 (kdS10 hs) (ltS10 hs) (inb_at (lnS10 hs) k2) ?_
    refine r_iload_n hX dX4_howMany_18 rfl ?_
    refine r_icmp_ne (tgt := 25) hX dX4_howMany_19 (by decide) (fun g3 => ?_) (fun g3 => ?_)
    · have h := (if_neg g3).symm.trans h
      exact ok_St_howMany_j25 n s v2 v3  hs hX hT hr hc hx h
    · have h := (if_pos g3).symm.trans h
      refine r_iinc (v := v2 + (1 : Int32)) (L1 := [.ref s, .int c1, .int (v2 + (1 : Int32)), .int v3]) hX dX4_howMany_22 rfl rfl rfl ?_
      exact ok_St_howMany_j25 n s (v2 + (1 : Int32)) v3  hs hX hT hr hc hx h
set_option maxRecDepth 100000 in
theorem ok_St_howMany {G : Gm} {l : Launch} {d : Nat} (n : Nat) (s : Nat) (v1 : Int32) (M : Mm) {z : Int32} (hs : isSt s) (h : St_howMany n s v1 M = some z) : CK G l (d + 0) md_St_howMany [.ref s, .int v1] M SS (some (.int z)) M SS := by
  refine ck_of mk_St_howMany (Nat.le_of_ble_eq_true rfl) ⟨Nat.le_refl _, Nat.le_refl _⟩ (fun X hX hT hS hr hl => ?_)
  subst hl
  unfold St_howMany at h
  show WR G X (mQ G X (some (.int z)) M SS) 0 [.ref s, .int v1, vU, vU] [] M SS
  refine r_iconst (v := (0 : Int32)) hX dX4_howMany_0 (by decide) ?_
  refine r_istore_n (L1 := [.ref s, .int v1, .int (0 : Int32), vU]) hX dX4_howMany_1 (Nat.le_of_ble_eq_true rfl) rfl ?_
  refine r_iconst (v := (0 : Int32)) hX dX4_howMany_2 (by decide) ?_
  refine r_istore_n (L1 := [.ref s, .int v1, .int (0 : Int32), .int (0 : Int32)]) hX dX4_howMany_3 (Nat.le_of_ble_eq_true rfl) rfl ?_
  obtain ⟨y4, h1, h⟩ := bnd_s h
  refine loop_ok (P := fun s1 : Int32 × Int32 => WR G X (mQ G X (some (.int z)) M SS) 4 [.ref s, .int v1, .int s1.1, .int s1.2] [] M SS) (E := fun x1 : Int32 => WR G X (mQ G X (some (.int z)) M SS) 31 [.ref s, vU, .int x1, vU] [] M SS) (fun s1 o1 g1 g2 g3 => ok_St_howMany_b4 n s s1.1 s1.2 hs hX hT hr g2 g3 g1) n ((0 : Int32), (0 : Int32)) y4 h1 ?_
  show WR G X (mQ G X (some (.int z)) M SS) 31 [.ref s, vU, .int y4, vU] [] M SS
  refine r_iload_n hX dX4_howMany_31 rfl ?_
  obtain rfl := Option.some.inj h
  exact r_iret hX hT dX4_howMany_32 rfl
def St_litOn_j37 (v2 : Int32) (v3 : Int32) : Option ((Int32 × Int32) ⊕ (Int32)) :=
  some (.inl (v2, v3 + (1 : Int32)))
def St_litOn_b4 (s : Nat) (c1 : Int32) (Mc : Mm) (v2 : Int32) (v3 : Int32) : Option ((Int32 × Int32) ⊕ (Int32)) :=
  if (Mc.1 s 4) ≤ v3 then
    some (.inr v2)
  else
    grd (inb v3 40) (
    if (Mc.1 (s + 10) (tn v3)) = (0 : Int32) then
      grd (inb v3 40) (
      if ((ushr (Mc.1 (s + 12) (tn v3)) c1) &&& (1 : Int32)) = (0 : Int32) then
        St_litOn_j37 v2 v3
      else
        St_litOn_j37 (v2 + (1 : Int32)) v3)
    else
      St_litOn_j37 v2 v3)
def St_litOn (n : Nat) (s : Nat) (v1 : Int32) (M : Mm) : Option (Int32) :=
  bnd (loop (fun s1 : Int32 × Int32 => St_litOn_b4 s v1 M s1.1 s1.2) n ((0 : Int32), (0 : Int32))) (fun y6 =>
  some y6)
set_option maxRecDepth 100000 in
theorem ok_St_litOn_j37 (n : Nat) (s : Nat) (v2 : Int32) (v3 : Int32) {c1 : Int32} {Mc : Mm} {z : Int32} {oo : (Int32 × Int32) ⊕ (Int32)} {G : Gm} {X : Cx} {d : Nat} (hs : isSt s) (hX : XK G X 4 cX4_litOn 4 (d + 0)) (hT : XT X (some .int) "litOn") (hr : XR X SS) (hc : ∀ s1 : Int32 × Int32, oo = .inl s1 → WR G X (mQ G X (some (.int z)) Mc SS) 4 [.ref s, .int c1, .int s1.1, .int s1.2] [] Mc SS) (hx : ∀ x1 : Int32, oo = .inr x1 → WR G X (mQ G X (some (.int z)) Mc SS) 43 [.ref s, vU, .int x1, vU] [] Mc SS) (h : St_litOn_j37 v2 v3 = some oo) : WR G X (mQ G X (some (.int z)) Mc SS) 37 [.ref s, .int c1, .int v2, .int v3] [] Mc SS := by
  unfold St_litOn_j37 at h
  refine r_iinc (v := v3 + (1 : Int32)) (L1 := [.ref s, .int c1, .int v2, .int (v3 + (1 : Int32))]) hX dX4_litOn_37 rfl rfl rfl ?_
  refine r_goto (tgt := 4) hX dX4_litOn_40 (by decide) ?_
  exact hc (v2, v3 + (1 : Int32)) (Option.some.inj h).symm
set_option maxRecDepth 100000 in
theorem ok_St_litOn_b4 (n : Nat) (s : Nat) (v2 : Int32) (v3 : Int32) {c1 : Int32} {Mc : Mm} {z : Int32} {oo : (Int32 × Int32) ⊕ (Int32)} {G : Gm} {X : Cx} {d : Nat} (hs : isSt s) (hX : XK G X 4 cX4_litOn 4 (d + 0)) (hT : XT X (some .int) "litOn") (hr : XR X SS) (hc : ∀ s1 : Int32 × Int32, oo = .inl s1 → WR G X (mQ G X (some (.int z)) Mc SS) 4 [.ref s, .int c1, .int s1.1, .int s1.2] [] Mc SS) (hx : ∀ x1 : Int32, oo = .inr x1 → WR G X (mQ G X (some (.int z)) Mc SS) 43 [.ref s, vU, .int x1, vU] [] Mc SS) (h : St_litOn_b4 s c1 Mc v2 v3 = some oo) : WR G X (mQ G X (some (.int z)) Mc SS) 4 [.ref s, .int c1, .int v2, .int v3] [] Mc SS := by
  unfold St_litOn_b4 at h
  refine r_iload_n hX dX4_litOn_4 rfl ?_
  refine r_aload_n hX dX4_litOn_5 rfl ?_
  refine r_getf (v := .int (Mc.1 s 4)) hX dX4_litOn_6 fl_4_28 (kdS0 hs) (by decide) (ltS0 hs) rfl ?_
  refine r_icmp_ge (tgt := 43) hX dX4_litOn_9 (by decide) (fun g1 => ?_) (fun g1 => ?_)
  · have h := (if_pos g1).symm.trans h
    refine WR.fg (L' := [.ref s, vU, .int v2, vU]) ⟨Or.inr rfl, Or.inl rfl, Or.inr rfl, Or.inl rfl, trivial⟩ ?_
    exact hx _ (Option.some.inj h).symm
  · have h := (if_neg g1).symm.trans h
    refine r_aload_n hX dX4_litOn_12 rfl ?_
    refine r_getf (v := .ref (s + 10)) hX dX4_litOn_13 fl_4_41 (kdS0 hs) (by decide) (ltS0 hs) (rfS8 hs) ?_
    refine r_iload_n hX dX4_litOn_16 rfl ?_
    obtain ⟨k2, h⟩ := grd_s h
    refine r_iald hX dX4_litOn_17 (kdS10 hs) (ltS10 hs) (inb_at (lnS10 hs) k2) ?_
    refine r_if_ne (tgt := 37) hX dX4_litOn_18 (by decide) (fun g3 => ?_) (fun g3 => ?_)
    · have h := (if_neg g3).symm.trans h
      exact ok_St_litOn_j37 n s v2 v3  hs hX hT hr hc hx h
    · have h := (if_pos g3).symm.trans h
      refine r_aload_n hX dX4_litOn_21 rfl ?_
      refine r_getf (v := .ref (s + 12)) hX dX4_litOn_22 fl_4_47 (kdS0 hs) (by decide) (ltS0 hs) (rfS10 hs) ?_
      refine r_iload_n hX dX4_litOn_25 rfl ?_
      obtain ⟨k4, h⟩ := grd_s h
      refine r_iald hX dX4_litOn_26 (kdS12 hs) (ltS12 hs) (inb_at (lnS12 hs) k4) ?_
      refine r_iload_n hX dX4_litOn_27 rfl ?_
      refine r_iushr hX dX4_litOn_28 ?_
      refine r_iconst (v := (1 : Int32)) hX dX4_litOn_29 (by decide) ?_
      refine r_iand hX dX4_litOn_30 ?_
      refine r_if_eq (tgt := 37) hX dX4_litOn_31 (by decide) (fun g5 => ?_) (fun g5 => ?_)
      · have h := (if_pos g5).symm.trans h
        exact ok_St_litOn_j37 n s v2 v3  hs hX hT hr hc hx h
      · have h := (if_neg g5).symm.trans h
        refine r_iinc (v := v2 + (1 : Int32)) (L1 := [.ref s, .int c1, .int (v2 + (1 : Int32)), .int v3]) hX dX4_litOn_34 rfl rfl rfl ?_
        exact ok_St_litOn_j37 n s (v2 + (1 : Int32)) v3  hs hX hT hr hc hx h
set_option maxRecDepth 100000 in
theorem ok_St_litOn {G : Gm} {l : Launch} {d : Nat} (n : Nat) (s : Nat) (v1 : Int32) (M : Mm) {z : Int32} (hs : isSt s) (h : St_litOn n s v1 M = some z) : CK G l (d + 0) md_St_litOn [.ref s, .int v1] M SS (some (.int z)) M SS := by
  refine ck_of mk_St_litOn (Nat.le_of_ble_eq_true rfl) ⟨Nat.le_refl _, Nat.le_refl _⟩ (fun X hX hT hS hr hl => ?_)
  subst hl
  unfold St_litOn at h
  show WR G X (mQ G X (some (.int z)) M SS) 0 [.ref s, .int v1, vU, vU] [] M SS
  refine r_iconst (v := (0 : Int32)) hX dX4_litOn_0 (by decide) ?_
  refine r_istore_n (L1 := [.ref s, .int v1, .int (0 : Int32), vU]) hX dX4_litOn_1 (Nat.le_of_ble_eq_true rfl) rfl ?_
  refine r_iconst (v := (0 : Int32)) hX dX4_litOn_2 (by decide) ?_
  refine r_istore_n (L1 := [.ref s, .int v1, .int (0 : Int32), .int (0 : Int32)]) hX dX4_litOn_3 (Nat.le_of_ble_eq_true rfl) rfl ?_
  obtain ⟨y6, h1, h⟩ := bnd_s h
  refine loop_ok (P := fun s1 : Int32 × Int32 => WR G X (mQ G X (some (.int z)) M SS) 4 [.ref s, .int v1, .int s1.1, .int s1.2] [] M SS) (E := fun x1 : Int32 => WR G X (mQ G X (some (.int z)) M SS) 43 [.ref s, vU, .int x1, vU] [] M SS) (fun s1 o1 g1 g2 g3 => ok_St_litOn_b4 n s s1.1 s1.2 hs hX hT hr g2 g3 g1) n ((0 : Int32), (0 : Int32)) y6 h1 ?_
  show WR G X (mQ G X (some (.int z)) M SS) 43 [.ref s, vU, .int y6, vU] [] M SS
  refine r_iload_n hX dX4_litOn_43 rfl ?_
  obtain rfl := Option.some.inj h
  exact r_iret hX hT dX4_litOn_44 rfl
def St_orderByFirst_j79 (v1 : Int32) (v2 : Int32) (M : Mm) : Option ((Int32 × Int32 × Mm) ⊕ (Int32 × Mm)) :=
  some (.inl (v1, v2 + (1 : Int32), M))
def St_orderByFirst_b23 (s : Nat) (c2 : Int32) (v3 : Int32) (M : Mm) : Option ((Int32 × Mm) ⊕ (Int32 × Mm)) :=
  if v3 ≤ (0 : Int32) then
    some (.inr (v3, M))
  else
    grd (inb (v3 - (1 : Int32)) 40) (
    grd (inb (M.1 (s + 17) (tn (v3 - (1 : Int32)))) 40) (
    grd (inb c2 40) (
    if (M.1 (s + 13) (tn (M.1 (s + 17) (tn (v3 - (1 : Int32)))))) ≤ (M.1 (s + 13) (tn c2)) then
      some (.inr (v3, M))
    else
      grd (inb (v3 - (1 : Int32)) 40) (
      grd (inb v3 40) (
      some (.inl (v3 + (-1 : Int32), ((up2 M.1 (s + 17) (tn v3) (M.1 (s + 17) (tn (v3 - (1 : Int32))))), M.2))))))))
def St_orderByFirst_j69 (s : Nat) (v1 : Int32) (v2 : Int32) (v3 : Int32) (M : Mm) : Option ((Int32 × Int32 × Mm) ⊕ (Int32 × Mm)) :=
  grd (inb v3 40) (
  St_orderByFirst_j79 (v1 + (1 : Int32)) v2 ((up2 M.1 (s + 17) (tn v3) v2), M.2))
def St_orderByFirst_b4 (n : Nat) (s : Nat) (v1 : Int32) (v2 : Int32) (M : Mm) : Option ((Int32 × Int32 × Mm) ⊕ (Int32 × Mm)) :=
  if (M.1 s 4) ≤ v2 then
    some (.inr (v1, M))
  else
    grd (inb v2 40) (
    if (M.1 (s + 10) (tn v2)) = (0 : Int32) then
      bnd (loop (fun s1 : Int32 × Mm => St_orderByFirst_b23 s v2 s1.1 s1.2) n (v1, M)) (fun y11 =>
      St_orderByFirst_j69 s v1 v2 y11.1 y11.2)
    else
      St_orderByFirst_j79 v1 v2 M)
def St_orderByFirst (n : Nat) (s : Nat) (M : Mm) : Option (Int32 × Mm) :=
  bnd (loop (fun s1 : Int32 × Int32 × Mm => St_orderByFirst_b4 n s s1.1 s1.2.1 s1.2.2) n ((0 : Int32), (0 : Int32), M)) (fun y13 =>
  some (y13.1, y13.2))
set_option maxRecDepth 100000 in
theorem ok_St_orderByFirst_j79 (n : Nat) (s : Nat) (v1 : Int32) (v2 : Int32) (M : Mm)  {z : Int32 × Mm} {oo : (Int32 × Int32 × Mm) ⊕ (Int32 × Mm)} {G : Gm} {X : Cx} {d : Nat} (hs : isSt s) (hX : XK G X 4 cX4_orderByFirst 4 (d + 0)) (hT : XT X (some .int) "orderByFirst") (hr : XR X SS) (hc : ∀ s1 : Int32 × Int32 × Mm, oo = .inl s1 → WR G X (mQ G X (some (.int z.1)) z.2 SS) 4 [.ref s, .int s1.1, .int s1.2.1, vU] [] s1.2.2 SS) (hx : ∀ x1 : Int32 × Mm, oo = .inr x1 → WR G X (mQ G X (some (.int z.1)) z.2 SS) 85 [.ref s, .int x1.1, vU, vU] [] x1.2 SS) (h : St_orderByFirst_j79 v1 v2 M = some oo) : WR G X (mQ G X (some (.int z.1)) z.2 SS) 79 [.ref s, .int v1, .int v2, vU] [] M SS := by
  unfold St_orderByFirst_j79 at h
  refine r_iinc (v := v2 + (1 : Int32)) (L1 := [.ref s, .int v1, .int (v2 + (1 : Int32)), vU]) hX dX4_orderByFirst_79 rfl rfl rfl ?_
  refine r_goto (tgt := 4) hX dX4_orderByFirst_82 (by decide) ?_
  exact hc (v1, v2 + (1 : Int32), M) (Option.some.inj h).symm
set_option maxRecDepth 100000 in
theorem ok_St_orderByFirst_b23 (n : Nat) (s : Nat) (v3 : Int32) (M : Mm) {c1 : Int32} {c2 : Int32} {z : Int32 × Mm} {oo : (Int32 × Mm) ⊕ (Int32 × Mm)} {G : Gm} {X : Cx} {d : Nat} (hs : isSt s) (hX : XK G X 4 cX4_orderByFirst 4 (d + 0)) (hT : XT X (some .int) "orderByFirst") (hr : XR X SS) (hc : ∀ s1 : Int32 × Mm, oo = .inl s1 → WR G X (mQ G X (some (.int z.1)) z.2 SS) 23 [.ref s, .int c1, .int c2, .int s1.1] [] s1.2 SS) (hx : ∀ x1 : Int32 × Mm, oo = .inr x1 → WR G X (mQ G X (some (.int z.1)) z.2 SS) 69 [.ref s, .int c1, .int c2, .int x1.1] [] x1.2 SS) (h : St_orderByFirst_b23 s c2 v3 M = some oo) : WR G X (mQ G X (some (.int z.1)) z.2 SS) 23 [.ref s, .int c1, .int c2, .int v3] [] M SS := by
  unfold St_orderByFirst_b23 at h
  refine r_iload_n hX dX4_orderByFirst_23 rfl ?_
  refine r_if_le (tgt := 69) hX dX4_orderByFirst_24 (by decide) (fun g4 => ?_) (fun g4 => ?_)
  · have h := (if_pos g4).symm.trans h
    exact hx _ (Option.some.inj h).symm
  · have h := (if_neg g4).symm.trans h
    refine r_aload_n hX dX4_orderByFirst_27 rfl ?_
    refine r_getf (v := .ref (s + 13)) hX dX4_orderByFirst_28 fl_4_50 (kdS0 hs) (by decide) (ltS0 hs) (rfS11 hs) ?_
    refine r_aload_n hX dX4_orderByFirst_31 rfl ?_
    refine r_getf (v := .ref (s + 17)) hX dX4_orderByFirst_32 fl_4_63 (kdS0 hs) (by decide) (ltS0 hs) (rfS15 hs) ?_
    refine r_iload_n hX dX4_orderByFirst_35 rfl ?_
    refine r_iconst (v := (1 : Int32)) hX dX4_orderByFirst_36 (by decide) ?_
    refine r_isub hX dX4_orderByFirst_37 ?_
    obtain ⟨k5, h⟩ := grd_s h
    refine r_iald hX dX4_orderByFirst_38 (kdS17 hs) (ltS17 hs) (inb_at (lnS17 hs) k5) ?_
    obtain ⟨k6, h⟩ := grd_s h
    refine r_iald hX dX4_orderByFirst_39 (kdS13 hs) (ltS13 hs) (inb_at (lnS13 hs) k6) ?_
    refine r_aload_n hX dX4_orderByFirst_40 rfl ?_
    refine r_getf (v := .ref (s + 13)) hX dX4_orderByFirst_41 fl_4_50 (kdS0 hs) (by decide) (ltS0 hs) (rfS11 hs) ?_
    refine r_iload_n hX dX4_orderByFirst_44 rfl ?_
    obtain ⟨k7, h⟩ := grd_s h
    refine r_iald hX dX4_orderByFirst_45 (kdS13 hs) (ltS13 hs) (inb_at (lnS13 hs) k7) ?_
    refine r_icmp_le (tgt := 69) hX dX4_orderByFirst_46 (by decide) (fun g8 => ?_) (fun g8 => ?_)
    · have h := (if_pos g8).symm.trans h
      exact hx _ (Option.some.inj h).symm
    · have h := (if_neg g8).symm.trans h
      refine r_aload_n hX dX4_orderByFirst_49 rfl ?_
      refine r_getf (v := .ref (s + 17)) hX dX4_orderByFirst_50 fl_4_63 (kdS0 hs) (by decide) (ltS0 hs) (rfS15 hs) ?_
      refine r_iload_n hX dX4_orderByFirst_53 rfl ?_
      refine r_aload_n hX dX4_orderByFirst_54 rfl ?_
      refine r_getf (v := .ref (s + 17)) hX dX4_orderByFirst_55 fl_4_63 (kdS0 hs) (by decide) (ltS0 hs) (rfS15 hs) ?_
      refine r_iload_n hX dX4_orderByFirst_58 rfl ?_
      refine r_iconst (v := (1 : Int32)) hX dX4_orderByFirst_59 (by decide) ?_
      refine r_isub hX dX4_orderByFirst_60 ?_
      obtain ⟨k9, h⟩ := grd_s h
      refine r_iald hX dX4_orderByFirst_61 (kdS17 hs) (ltS17 hs) (inb_at (lnS17 hs) k9) ?_
      obtain ⟨k10, h⟩ := grd_s h
      refine r_iast hX dX4_orderByFirst_62 (kdS17 hs) (ltS17 hs) (inb_at (lnS17 hs) k10) ?_
      refine r_iinc (v := v3 + (-1 : Int32)) (L1 := [.ref s, .int c1, .int c2, .int (v3 + (-1 : Int32))]) hX dX4_orderByFirst_63 rfl rfl rfl ?_
      refine r_goto (tgt := 23) hX dX4_orderByFirst_66 (by decide) ?_
      exact hc (v3 + (-1 : Int32), ((up2 M.1 (s + 17) (tn v3) (M.1 (s + 17) (tn (v3 - (1 : Int32))))), M.2)) (Option.some.inj h).symm
set_option maxRecDepth 100000 in
theorem ok_St_orderByFirst_j69 (n : Nat) (s : Nat) (v1 : Int32) (v2 : Int32) (v3 : Int32) (M : Mm)  {z : Int32 × Mm} {oo : (Int32 × Int32 × Mm) ⊕ (Int32 × Mm)} {G : Gm} {X : Cx} {d : Nat} (hs : isSt s) (hX : XK G X 4 cX4_orderByFirst 4 (d + 0)) (hT : XT X (some .int) "orderByFirst") (hr : XR X SS) (hc : ∀ s1 : Int32 × Int32 × Mm, oo = .inl s1 → WR G X (mQ G X (some (.int z.1)) z.2 SS) 4 [.ref s, .int s1.1, .int s1.2.1, vU] [] s1.2.2 SS) (hx : ∀ x1 : Int32 × Mm, oo = .inr x1 → WR G X (mQ G X (some (.int z.1)) z.2 SS) 85 [.ref s, .int x1.1, vU, vU] [] x1.2 SS) (h : St_orderByFirst_j69 s v1 v2 v3 M = some oo) : WR G X (mQ G X (some (.int z.1)) z.2 SS) 69 [.ref s, .int v1, .int v2, .int v3] [] M SS := by
  unfold St_orderByFirst_j69 at h
  refine r_aload_n hX dX4_orderByFirst_69 rfl ?_
  refine r_getf (v := .ref (s + 17)) hX dX4_orderByFirst_70 fl_4_63 (kdS0 hs) (by decide) (ltS0 hs) (rfS15 hs) ?_
  refine r_iload_n hX dX4_orderByFirst_73 rfl ?_
  refine r_iload_n hX dX4_orderByFirst_74 rfl ?_
  obtain ⟨k12, h⟩ := grd_s h
  refine r_iast hX dX4_orderByFirst_75 (kdS17 hs) (ltS17 hs) (inb_at (lnS17 hs) k12) ?_
  refine r_iinc (v := v1 + (1 : Int32)) (L1 := [.ref s, .int (v1 + (1 : Int32)), .int v2, .int v3]) hX dX4_orderByFirst_76 rfl rfl rfl ?_
  refine WR.fg (L' := [.ref s, .int (v1 + (1 : Int32)), .int v2, vU]) ⟨Or.inr rfl, Or.inr rfl, Or.inr rfl, Or.inl rfl, trivial⟩ ?_
  exact ok_St_orderByFirst_j79 n s (v1 + (1 : Int32)) v2 ((up2 M.1 (s + 17) (tn v3) v2), M.2)  hs hX hT hr hc hx h
set_option maxRecDepth 100000 in
theorem ok_St_orderByFirst_b4 (n : Nat) (s : Nat) (v1 : Int32) (v2 : Int32) (M : Mm)  {z : Int32 × Mm} {oo : (Int32 × Int32 × Mm) ⊕ (Int32 × Mm)} {G : Gm} {X : Cx} {d : Nat} (hs : isSt s) (hX : XK G X 4 cX4_orderByFirst 4 (d + 0)) (hT : XT X (some .int) "orderByFirst") (hr : XR X SS) (hc : ∀ s1 : Int32 × Int32 × Mm, oo = .inl s1 → WR G X (mQ G X (some (.int z.1)) z.2 SS) 4 [.ref s, .int s1.1, .int s1.2.1, vU] [] s1.2.2 SS) (hx : ∀ x1 : Int32 × Mm, oo = .inr x1 → WR G X (mQ G X (some (.int z.1)) z.2 SS) 85 [.ref s, .int x1.1, vU, vU] [] x1.2 SS) (h : St_orderByFirst_b4 n s v1 v2 M = some oo) : WR G X (mQ G X (some (.int z.1)) z.2 SS) 4 [.ref s, .int v1, .int v2, vU] [] M SS := by
  unfold St_orderByFirst_b4 at h
  refine r_iload_n hX dX4_orderByFirst_4 rfl ?_
  refine r_aload_n hX dX4_orderByFirst_5 rfl ?_
  refine r_getf (v := .int (M.1 s 4)) hX dX4_orderByFirst_6 fl_4_28 (kdS0 hs) (by decide) (ltS0 hs) rfl ?_
  refine r_icmp_ge (tgt := 85) hX dX4_orderByFirst_9 (by decide) (fun g1 => ?_) (fun g1 => ?_)
  · have h := (if_pos g1).symm.trans h
    refine WR.fg (L' := [.ref s, .int v1, vU, vU]) ⟨Or.inr rfl, Or.inr rfl, Or.inl rfl, Or.inl rfl, trivial⟩ ?_
    exact hx _ (Option.some.inj h).symm
  · have h := (if_neg g1).symm.trans h
    refine r_aload_n hX dX4_orderByFirst_12 rfl ?_
    refine r_getf (v := .ref (s + 10)) hX dX4_orderByFirst_13 fl_4_41 (kdS0 hs) (by decide) (ltS0 hs) (rfS8 hs) ?_
    refine r_iload_n hX dX4_orderByFirst_16 rfl ?_
    obtain ⟨k2, h⟩ := grd_s h
    refine r_iald hX dX4_orderByFirst_17 (kdS10 hs) (ltS10 hs) (inb_at (lnS10 hs) k2) ?_
    refine r_if_ne (tgt := 79) hX dX4_orderByFirst_18 (by decide) (fun g3 => ?_) (fun g3 => ?_)
    · have h := (if_neg g3).symm.trans h
      exact ok_St_orderByFirst_j79 n s v1 v2 M  hs hX hT hr hc hx h
    · have h := (if_pos g3).symm.trans h
      refine r_iload_n hX dX4_orderByFirst_21 rfl ?_
      refine r_istore_n (L1 := [.ref s, .int v1, .int v2, .int v1]) hX dX4_orderByFirst_22 (Nat.le_of_ble_eq_true rfl) rfl ?_
      obtain ⟨y11, h1, h⟩ := bnd_s h
      refine loop_ok (P := fun s1 : Int32 × Mm => WR G X (mQ G X (some (.int z.1)) z.2 SS) 23 [.ref s, .int v1, .int v2, .int s1.1] [] s1.2 SS) (E := fun x1 : Int32 × Mm => WR G X (mQ G X (some (.int z.1)) z.2 SS) 69 [.ref s, .int v1, .int v2, .int x1.1] [] x1.2 SS) (fun s1 o1 g1 g2 g3 => ok_St_orderByFirst_b23 n s s1.1 s1.2 hs hX hT hr g2 g3 g1) n (v1, M) y11 h1 ?_
      show WR G X (mQ G X (some (.int z.1)) z.2 SS) 69 [.ref s, .int v1, .int v2, .int y11.1] [] y11.2 SS
      exact ok_St_orderByFirst_j69 n s v1 v2 y11.1 y11.2  hs hX hT hr hc hx h
set_option maxRecDepth 100000 in
theorem ok_St_orderByFirst {G : Gm} {l : Launch} {d : Nat} (n : Nat) (s : Nat) (M : Mm) {z : Int32 × Mm} (hs : isSt s) (h : St_orderByFirst n s M = some z) : CK G l (d + 0) md_St_orderByFirst [.ref s] M SS (some (.int z.1)) z.2 SS := by
  refine ck_of mk_St_orderByFirst (Nat.le_of_ble_eq_true rfl) ⟨Nat.le_refl _, Nat.le_refl _⟩ (fun X hX hT hS hr hl => ?_)
  subst hl
  unfold St_orderByFirst at h
  show WR G X (mQ G X (some (.int z.1)) z.2 SS) 0 [.ref s, vU, vU, vU] [] M SS
  refine r_iconst (v := (0 : Int32)) hX dX4_orderByFirst_0 (by decide) ?_
  refine r_istore_n (L1 := [.ref s, .int (0 : Int32), vU, vU]) hX dX4_orderByFirst_1 (Nat.le_of_ble_eq_true rfl) rfl ?_
  refine r_iconst (v := (0 : Int32)) hX dX4_orderByFirst_2 (by decide) ?_
  refine r_istore_n (L1 := [.ref s, .int (0 : Int32), .int (0 : Int32), vU]) hX dX4_orderByFirst_3 (Nat.le_of_ble_eq_true rfl) rfl ?_
  obtain ⟨y13, h1, h⟩ := bnd_s h
  refine loop_ok (P := fun s1 : Int32 × Int32 × Mm => WR G X (mQ G X (some (.int z.1)) z.2 SS) 4 [.ref s, .int s1.1, .int s1.2.1, vU] [] s1.2.2 SS) (E := fun x1 : Int32 × Mm => WR G X (mQ G X (some (.int z.1)) z.2 SS) 85 [.ref s, .int x1.1, vU, vU] [] x1.2 SS) (fun s1 o1 g1 g2 g3 => ok_St_orderByFirst_b4 n s s1.1 s1.2.1 s1.2.2 hs hX hT hr g2 g3 g1) n ((0 : Int32), (0 : Int32), M) y13 h1 ?_
  show WR G X (mQ G X (some (.int z.1)) z.2 SS) 85 [.ref s, .int y13.1, vU, vU] [] y13.2 SS
  refine r_iload_n hX dX4_orderByFirst_85 rfl ?_
  obtain rfl := Option.some.inj h
  exact r_iret hX hT dX4_orderByFirst_86 rfl
def St_sever_j57 (v2 : Int32) (v3 : Int32) (M : Mm) : Option ((Int32 × Int32 × Mm) ⊕ (Int32 × Mm)) :=
  some (.inl (v2, v3 + (1 : Int32), M))
def St_sever_b18 (n : Nat) (s : Nat) (c1 : Int32) (v2 : Int32) (v3 : Int32) (M : Mm) : Option ((Int32 × Int32 × Mm) ⊕ (Int32 × Mm)) :=
  if (M.1 s 4) ≤ v3 then
    some (.inr (v2, M))
  else
    grd (inb v3 40) (
    if (M.1 (s + 10) (tn v3)) = (0 : Int32) then
      grd (inb v3 40) (
      if ((ushr (M.1 (s + 12) (tn v3)) c1) &&& (1 : Int32)) = (0 : Int32) then
        St_sever_j57 v2 v3 M
      else
        bnd (St_takeOff n s v3 (2 : Int32) M) (fun z6 =>
        St_sever_j57 (v2 + (1 : Int32)) v3 z6))
    else
      St_sever_j57 v2 v3 M)
def St_sever (n : Nat) (s : Nat) (v1 : Int32) (M : Mm) : Option (Int32 × Mm) :=
  bnd (loop (fun s1 : Int32 × Int32 × Mm => St_sever_b18 n s v1 s1.1 s1.2.1 s1.2.2) n ((0 : Int32), (0 : Int32), ((up2 M.1 s 1 ((M.1 s 1) &&& (((1 : Int32) <<< (v1 &&& 31)) ^^^ (-1 : Int32)))), M.2))) (fun y8 =>
  some (y8.1, y8.2))
set_option maxRecDepth 100000 in
theorem ok_St_sever_j57 (n : Nat) (s : Nat) (v2 : Int32) (v3 : Int32) (M : Mm) {c1 : Int32} {z : Int32 × Mm} {oo : (Int32 × Int32 × Mm) ⊕ (Int32 × Mm)} {G : Gm} {X : Cx} {d : Nat} (hs : isSt s) (hX : XK G X 4 cX4_sever 4 (d + 1)) (hT : XT X (some .int) "sever") (hr : XR X SS) (hc : ∀ s1 : Int32 × Int32 × Mm, oo = .inl s1 → WR G X (mQ G X (some (.int z.1)) z.2 SS) 18 [.ref s, .int c1, .int s1.1, .int s1.2.1] [] s1.2.2 SS) (hx : ∀ x1 : Int32 × Mm, oo = .inr x1 → WR G X (mQ G X (some (.int z.1)) z.2 SS) 63 [.ref s, vU, .int x1.1, vU] [] x1.2 SS) (h : St_sever_j57 v2 v3 M = some oo) : WR G X (mQ G X (some (.int z.1)) z.2 SS) 57 [.ref s, .int c1, .int v2, .int v3] [] M SS := by
  unfold St_sever_j57 at h
  refine r_iinc (v := v3 + (1 : Int32)) (L1 := [.ref s, .int c1, .int v2, .int (v3 + (1 : Int32))]) hX dX4_sever_57 rfl rfl rfl ?_
  refine r_goto (tgt := 18) hX dX4_sever_60 (by decide) ?_
  exact hc (v2, v3 + (1 : Int32), M) (Option.some.inj h).symm
set_option maxRecDepth 100000 in
theorem ok_St_sever_b18 (n : Nat) (s : Nat) (v2 : Int32) (v3 : Int32) (M : Mm) {c1 : Int32} {z : Int32 × Mm} {oo : (Int32 × Int32 × Mm) ⊕ (Int32 × Mm)} {G : Gm} {X : Cx} {d : Nat} (hs : isSt s) (hX : XK G X 4 cX4_sever 4 (d + 1)) (hT : XT X (some .int) "sever") (hr : XR X SS) (hc : ∀ s1 : Int32 × Int32 × Mm, oo = .inl s1 → WR G X (mQ G X (some (.int z.1)) z.2 SS) 18 [.ref s, .int c1, .int s1.1, .int s1.2.1] [] s1.2.2 SS) (hx : ∀ x1 : Int32 × Mm, oo = .inr x1 → WR G X (mQ G X (some (.int z.1)) z.2 SS) 63 [.ref s, vU, .int x1.1, vU] [] x1.2 SS) (h : St_sever_b18 n s c1 v2 v3 M = some oo) : WR G X (mQ G X (some (.int z.1)) z.2 SS) 18 [.ref s, .int c1, .int v2, .int v3] [] M SS := by
  unfold St_sever_b18 at h
  refine r_iload_n hX dX4_sever_18 rfl ?_
  refine r_aload_n hX dX4_sever_19 rfl ?_
  refine r_getf (v := .int (M.1 s 4)) hX dX4_sever_20 fl_4_28 (kdS0 hs) (by decide) (ltS0 hs) rfl ?_
  refine r_icmp_ge (tgt := 63) hX dX4_sever_23 (by decide) (fun g1 => ?_) (fun g1 => ?_)
  · have h := (if_pos g1).symm.trans h
    refine WR.fg (L' := [.ref s, vU, .int v2, vU]) ⟨Or.inr rfl, Or.inl rfl, Or.inr rfl, Or.inl rfl, trivial⟩ ?_
    exact hx _ (Option.some.inj h).symm
  · have h := (if_neg g1).symm.trans h
    refine r_aload_n hX dX4_sever_26 rfl ?_
    refine r_getf (v := .ref (s + 10)) hX dX4_sever_27 fl_4_41 (kdS0 hs) (by decide) (ltS0 hs) (rfS8 hs) ?_
    refine r_iload_n hX dX4_sever_30 rfl ?_
    obtain ⟨k2, h⟩ := grd_s h
    refine r_iald hX dX4_sever_31 (kdS10 hs) (ltS10 hs) (inb_at (lnS10 hs) k2) ?_
    refine r_if_ne (tgt := 57) hX dX4_sever_32 (by decide) (fun g3 => ?_) (fun g3 => ?_)
    · have h := (if_neg g3).symm.trans h
      exact ok_St_sever_j57 n s v2 v3 M  hs hX hT hr hc hx h
    · have h := (if_pos g3).symm.trans h
      refine r_aload_n hX dX4_sever_35 rfl ?_
      refine r_getf (v := .ref (s + 12)) hX dX4_sever_36 fl_4_47 (kdS0 hs) (by decide) (ltS0 hs) (rfS10 hs) ?_
      refine r_iload_n hX dX4_sever_39 rfl ?_
      obtain ⟨k4, h⟩ := grd_s h
      refine r_iald hX dX4_sever_40 (kdS12 hs) (ltS12 hs) (inb_at (lnS12 hs) k4) ?_
      refine r_iload_n hX dX4_sever_41 rfl ?_
      refine r_iushr hX dX4_sever_42 ?_
      refine r_iconst (v := (1 : Int32)) hX dX4_sever_43 (by decide) ?_
      refine r_iand hX dX4_sever_44 ?_
      refine r_if_eq (tgt := 57) hX dX4_sever_45 (by decide) (fun g5 => ?_) (fun g5 => ?_)
      · have h := (if_pos g5).symm.trans h
        exact ok_St_sever_j57 n s v2 v3 M  hs hX hT hr hc hx h
      · have h := (if_neg g5).symm.trans h
        refine r_aload_n hX dX4_sever_48 rfl ?_
        refine r_iload_n hX dX4_sever_49 rfl ?_
        refine r_iconst (v := (2 : Int32)) hX dX4_sever_50 (by decide) ?_
        obtain ⟨z6, p7, h⟩ := bnd_s h
        refine r_callV (As := [.int v3, .int (2 : Int32)]) hX dX4_sever_51 mk_St_takeOff mi_St_takeOff ml_4_98 rfl rfl rfl (kdS0 hs) (by decide) (ltS0 hs) (Nat.le_of_ble_eq_true rfl) hr (ok_St_takeOff (d := d + 0) n s v3 (2 : Int32) M hs p7) ?_
        refine r_iinc (v := v2 + (1 : Int32)) (L1 := [.ref s, .int c1, .int (v2 + (1 : Int32)), .int v3]) hX dX4_sever_54 rfl rfl rfl ?_
        exact ok_St_sever_j57 n s (v2 + (1 : Int32)) v3 z6  hs hX hT hr hc hx h
set_option maxRecDepth 100000 in
theorem ok_St_sever {G : Gm} {l : Launch} {d : Nat} (n : Nat) (s : Nat) (v1 : Int32) (M : Mm) {z : Int32 × Mm} (hs : isSt s) (h : St_sever n s v1 M = some z) : CK G l (d + 1) md_St_sever [.ref s, .int v1] M SS (some (.int z.1)) z.2 SS := by
  refine ck_of mk_St_sever (Nat.le_of_ble_eq_true rfl) ⟨Nat.le_refl _, Nat.le_refl _⟩ (fun X hX hT hS hr hl => ?_)
  subst hl
  unfold St_sever at h
  show WR G X (mQ G X (some (.int z.1)) z.2 SS) 0 [.ref s, .int v1, vU, vU] [] M SS
  refine r_aload_n hX dX4_sever_0 rfl ?_
  refine r_dup hX dX4_sever_1 rfl ?_
  refine r_getf (v := .int (M.1 s 1)) hX dX4_sever_2 fl_4_18 (kdS0 hs) (by decide) (ltS0 hs) rfl ?_
  refine r_iconst (v := (1 : Int32)) hX dX4_sever_5 (by decide) ?_
  refine r_iload_n hX dX4_sever_6 rfl ?_
  refine r_ishl hX dX4_sever_7 ?_
  refine r_iconst (v := (-1 : Int32)) hX dX4_sever_8 (by decide) ?_
  refine r_ixor hX dX4_sever_9 ?_
  refine r_iand hX dX4_sever_10 ?_
  refine r_putI hX dX4_sever_11 fl_4_18 (kdS0 hs) (by decide) (ltS0 hs) (okI_int _) ?_
  refine r_iconst (v := (0 : Int32)) hX dX4_sever_14 (by decide) ?_
  refine r_istore_n (L1 := [.ref s, .int v1, .int (0 : Int32), vU]) hX dX4_sever_15 (Nat.le_of_ble_eq_true rfl) rfl ?_
  refine r_iconst (v := (0 : Int32)) hX dX4_sever_16 (by decide) ?_
  refine r_istore_n (L1 := [.ref s, .int v1, .int (0 : Int32), .int (0 : Int32)]) hX dX4_sever_17 (Nat.le_of_ble_eq_true rfl) rfl ?_
  obtain ⟨y8, h1, h⟩ := bnd_s h
  refine loop_ok (P := fun s1 : Int32 × Int32 × Mm => WR G X (mQ G X (some (.int z.1)) z.2 SS) 18 [.ref s, .int v1, .int s1.1, .int s1.2.1] [] s1.2.2 SS) (E := fun x1 : Int32 × Mm => WR G X (mQ G X (some (.int z.1)) z.2 SS) 63 [.ref s, vU, .int x1.1, vU] [] x1.2 SS) (fun s1 o1 g1 g2 g3 => ok_St_sever_b18 n s s1.1 s1.2.1 s1.2.2 hs hX hT hr g2 g3 g1) n ((0 : Int32), (0 : Int32), ((up2 M.1 s 1 ((M.1 s 1) &&& (((1 : Int32) <<< (v1 &&& 31)) ^^^ (-1 : Int32)))), M.2)) y8 h1 ?_
  show WR G X (mQ G X (some (.int z.1)) z.2 SS) 63 [.ref s, vU, .int y8.1, vU] [] y8.2 SS
  refine r_iload_n hX dX4_sever_63 rfl ?_
  obtain rfl := Option.some.inj h
  exact r_iret hX hT dX4_sever_64 rfl
def St_endThoseDue_j51 (v1 : Int32) (v2 : Int32) (M : Mm) : Option ((Int32 × Int32 × Mm) ⊕ (Int32 × Mm)) :=
  some (.inl (v1, v2 + (1 : Int32), M))
def St_endThoseDue_b4 (n : Nat) (s : Nat) (v1 : Int32) (v2 : Int32) (M : Mm) : Option ((Int32 × Int32 × Mm) ⊕ (Int32 × Mm)) :=
  if (M.1 s 4) ≤ v2 then
    some (.inr (v1, M))
  else
    bnd (St_isLitOrDark s v2 M) (fun z2 =>
    if z2 = true then
      grd (inb v2 40) (
      if (M.1 (s + 11) (tn v2)) < (0 : Int32) then
        St_endThoseDue_j51 v1 v2 M
      else
        grd (inb v2 40) (
        if (M.1 s 2) < (M.1 (s + 11) (tn v2)) then
          St_endThoseDue_j51 v1 v2 M
        else
          bnd (St_takeOff n s v2 (3 : Int32) M) (fun z9 =>
          St_endThoseDue_j51 (v1 + (1 : Int32)) v2 z9)))
    else
      St_endThoseDue_j51 v1 v2 M)
def St_endThoseDue (n : Nat) (s : Nat) (M : Mm) : Option (Int32 × Mm) :=
  bnd (loop (fun s1 : Int32 × Int32 × Mm => St_endThoseDue_b4 n s s1.1 s1.2.1 s1.2.2) n ((0 : Int32), (0 : Int32), M)) (fun y11 =>
  some (y11.1, y11.2))
set_option maxRecDepth 100000 in
theorem ok_St_endThoseDue_j51 (n : Nat) (s : Nat) (v1 : Int32) (v2 : Int32) (M : Mm)  {z : Int32 × Mm} {oo : (Int32 × Int32 × Mm) ⊕ (Int32 × Mm)} {G : Gm} {X : Cx} {d : Nat} (hs : isSt s) (hX : XK G X 4 cX4_endThoseDue 3 (d + 2)) (hT : XT X (some .int) "endThoseDue") (hr : XR X SS) (hc : ∀ s1 : Int32 × Int32 × Mm, oo = .inl s1 → WR G X (mQ G X (some (.int z.1)) z.2 SS) 4 [.ref s, .int s1.1, .int s1.2.1] [] s1.2.2 SS) (hx : ∀ x1 : Int32 × Mm, oo = .inr x1 → WR G X (mQ G X (some (.int z.1)) z.2 SS) 57 [.ref s, .int x1.1, vU] [] x1.2 SS) (h : St_endThoseDue_j51 v1 v2 M = some oo) : WR G X (mQ G X (some (.int z.1)) z.2 SS) 51 [.ref s, .int v1, .int v2] [] M SS := by
  unfold St_endThoseDue_j51 at h
  refine r_iinc (v := v2 + (1 : Int32)) (L1 := [.ref s, .int v1, .int (v2 + (1 : Int32))]) hX dX4_endThoseDue_51 rfl rfl rfl ?_
  refine r_goto (tgt := 4) hX dX4_endThoseDue_54 (by decide) ?_
  exact hc (v1, v2 + (1 : Int32), M) (Option.some.inj h).symm
set_option maxRecDepth 100000 in
theorem ok_St_endThoseDue_b4 (n : Nat) (s : Nat) (v1 : Int32) (v2 : Int32) (M : Mm)  {z : Int32 × Mm} {oo : (Int32 × Int32 × Mm) ⊕ (Int32 × Mm)} {G : Gm} {X : Cx} {d : Nat} (hs : isSt s) (hX : XK G X 4 cX4_endThoseDue 3 (d + 2)) (hT : XT X (some .int) "endThoseDue") (hr : XR X SS) (hc : ∀ s1 : Int32 × Int32 × Mm, oo = .inl s1 → WR G X (mQ G X (some (.int z.1)) z.2 SS) 4 [.ref s, .int s1.1, .int s1.2.1] [] s1.2.2 SS) (hx : ∀ x1 : Int32 × Mm, oo = .inr x1 → WR G X (mQ G X (some (.int z.1)) z.2 SS) 57 [.ref s, .int x1.1, vU] [] x1.2 SS) (h : St_endThoseDue_b4 n s v1 v2 M = some oo) : WR G X (mQ G X (some (.int z.1)) z.2 SS) 4 [.ref s, .int v1, .int v2] [] M SS := by
  unfold St_endThoseDue_b4 at h
  refine r_iload_n hX dX4_endThoseDue_4 rfl ?_
  refine r_aload_n hX dX4_endThoseDue_5 rfl ?_
  refine r_getf (v := .int (M.1 s 4)) hX dX4_endThoseDue_6 fl_4_28 (kdS0 hs) (by decide) (ltS0 hs) rfl ?_
  refine r_icmp_ge (tgt := 57) hX dX4_endThoseDue_9 (by decide) (fun g1 => ?_) (fun g1 => ?_)
  · have h := (if_pos g1).symm.trans h
    refine WR.fg (L' := [.ref s, .int v1, vU]) ⟨Or.inr rfl, Or.inr rfl, Or.inl rfl, trivial⟩ ?_
    exact hx _ (Option.some.inj h).symm
  · have h := (if_neg g1).symm.trans h
    refine r_aload_n hX dX4_endThoseDue_12 rfl ?_
    refine r_iload_n hX dX4_endThoseDue_13 rfl ?_
    obtain ⟨z2, p3, h⟩ := bnd_s h
    refine r_callV (As := [.int v2]) hX dX4_endThoseDue_14 mk_St_isLitOrDark mi_St_isLitOrDark ml_4_150 rfl rfl rfl (kdS0 hs) (by decide) (ltS0 hs) (Nat.le_of_ble_eq_true rfl) hr (ok_St_isLitOrDark (d := d + 0) s v2 M hs p3) ?_
    refine r_ifb_eq (tgt := 51) hX dX4_endThoseDue_17 (by decide) (fun g4 => ?_) (fun g4 => ?_)
    · have h := (if_neg (show ¬ z2 = true from fun e => by rw [g4] at e; cases e)).symm.trans h
      exact ok_St_endThoseDue_j51 n s v1 v2 M  hs hX hT hr hc hx h
    · have h := (if_pos g4).symm.trans h
      refine r_aload_n hX dX4_endThoseDue_20 rfl ?_
      refine r_getf (v := .ref (s + 11)) hX dX4_endThoseDue_21 fl_4_44 (kdS0 hs) (by decide) (ltS0 hs) (rfS9 hs) ?_
      refine r_iload_n hX dX4_endThoseDue_24 rfl ?_
      obtain ⟨k5, h⟩ := grd_s h
      refine r_iald hX dX4_endThoseDue_25 (kdS11 hs) (ltS11 hs) (inb_at (lnS11 hs) k5) ?_
      refine r_if_lt (tgt := 51) hX dX4_endThoseDue_26 (by decide) (fun g6 => ?_) (fun g6 => ?_)
      · have h := (if_pos g6).symm.trans h
        exact ok_St_endThoseDue_j51 n s v1 v2 M  hs hX hT hr hc hx h
      · have h := (if_neg g6).symm.trans h
        refine r_aload_n hX dX4_endThoseDue_29 rfl ?_
        refine r_getf (v := .ref (s + 11)) hX dX4_endThoseDue_30 fl_4_44 (kdS0 hs) (by decide) (ltS0 hs) (rfS9 hs) ?_
        refine r_iload_n hX dX4_endThoseDue_33 rfl ?_
        obtain ⟨k7, h⟩ := grd_s h
        refine r_iald hX dX4_endThoseDue_34 (kdS11 hs) (ltS11 hs) (inb_at (lnS11 hs) k7) ?_
        refine r_aload_n hX dX4_endThoseDue_35 rfl ?_
        refine r_getf (v := .int (M.1 s 2)) hX dX4_endThoseDue_36 fl_4_22 (kdS0 hs) (by decide) (ltS0 hs) rfl ?_
        refine r_icmp_gt (tgt := 51) hX dX4_endThoseDue_39 (by decide) (fun g8 => ?_) (fun g8 => ?_)
        · have h := (if_pos g8).symm.trans h
          exact ok_St_endThoseDue_j51 n s v1 v2 M  hs hX hT hr hc hx h
        · have h := (if_neg g8).symm.trans h
          refine r_aload_n hX dX4_endThoseDue_42 rfl ?_
          refine r_iload_n hX dX4_endThoseDue_43 rfl ?_
          refine r_iconst (v := (3 : Int32)) hX dX4_endThoseDue_44 (by decide) ?_
          obtain ⟨z9, p10, h⟩ := bnd_s h
          refine r_callV (As := [.int v2, .int (3 : Int32)]) hX dX4_endThoseDue_45 mk_St_takeOff mi_St_takeOff ml_4_98 rfl rfl rfl (kdS0 hs) (by decide) (ltS0 hs) (Nat.le_of_ble_eq_true rfl) hr (ok_St_takeOff (d := d + 1) n s v2 (3 : Int32) M hs p10) ?_
          refine r_iinc (v := v1 + (1 : Int32)) (L1 := [.ref s, .int (v1 + (1 : Int32)), .int v2]) hX dX4_endThoseDue_48 rfl rfl rfl ?_
          exact ok_St_endThoseDue_j51 n s (v1 + (1 : Int32)) v2 z9  hs hX hT hr hc hx h
set_option maxRecDepth 100000 in
theorem ok_St_endThoseDue {G : Gm} {l : Launch} {d : Nat} (n : Nat) (s : Nat) (M : Mm) {z : Int32 × Mm} (hs : isSt s) (h : St_endThoseDue n s M = some z) : CK G l (d + 2) md_St_endThoseDue [.ref s] M SS (some (.int z.1)) z.2 SS := by
  refine ck_of mk_St_endThoseDue (Nat.le_of_ble_eq_true rfl) ⟨Nat.le_refl _, Nat.le_refl _⟩ (fun X hX hT hS hr hl => ?_)
  subst hl
  unfold St_endThoseDue at h
  show WR G X (mQ G X (some (.int z.1)) z.2 SS) 0 [.ref s, vU, vU] [] M SS
  refine r_iconst (v := (0 : Int32)) hX dX4_endThoseDue_0 (by decide) ?_
  refine r_istore_n (L1 := [.ref s, .int (0 : Int32), vU]) hX dX4_endThoseDue_1 (Nat.le_of_ble_eq_true rfl) rfl ?_
  refine r_iconst (v := (0 : Int32)) hX dX4_endThoseDue_2 (by decide) ?_
  refine r_istore_n (L1 := [.ref s, .int (0 : Int32), .int (0 : Int32)]) hX dX4_endThoseDue_3 (Nat.le_of_ble_eq_true rfl) rfl ?_
  obtain ⟨y11, h1, h⟩ := bnd_s h
  refine loop_ok (P := fun s1 : Int32 × Int32 × Mm => WR G X (mQ G X (some (.int z.1)) z.2 SS) 4 [.ref s, .int s1.1, .int s1.2.1] [] s1.2.2 SS) (E := fun x1 : Int32 × Mm => WR G X (mQ G X (some (.int z.1)) z.2 SS) 57 [.ref s, .int x1.1, vU] [] x1.2 SS) (fun s1 o1 g1 g2 g3 => ok_St_endThoseDue_b4 n s s1.1 s1.2.1 s1.2.2 hs hX hT hr g2 g3 g1) n ((0 : Int32), (0 : Int32), M) y11 h1 ?_
  show WR G X (mQ G X (some (.int z.1)) z.2 SS) 57 [.ref s, .int y11.1, vU] [] y11.2 SS
  refine r_iload_n hX dX4_endThoseDue_57 rfl ?_
  obtain rfl := Option.some.inj h
  exact r_iret hX hT dX4_endThoseDue_58 rfl
def Tp_append_b3 (c1 : Int32) (v2 : Int32) (M : Mm) : Option ((Int32 × Mm) ⊕ (Mm)) :=
  if v2 < (0 : Int32) then
    some (.inr M)
  else
    if (240 : Int32) ≤ (M.1 1 1) then
      some (.inr M)
    else
      grd (inb (M.1 1 1) 240) (
      some (.inl (v2 + (-8 : Int32), ((up2 (up2 M.1 2 (tn (M.1 1 1)) ((ushr c1 v2) &&& (255 : Int32))) 1 1 (((up2 M.1 2 (tn (M.1 1 1)) ((ushr c1 v2) &&& (255 : Int32))) 1 1) + (1 : Int32))), M.2))))
def Tp_append (n : Nat) (v1 : Int32) (M : Mm) : Option (Mm) :=
  bnd (loop (fun s1 : Int32 × Mm => Tp_append_b3 v1 s1.1 s1.2) n ((24 : Int32), M)) (fun y4 =>
  some y4)
set_option maxRecDepth 100000 in
theorem ok_Tp_append_b3 (n : Nat) (v2 : Int32) (M : Mm) {c1 : Int32} {z : Mm} {oo : (Int32 × Mm) ⊕ (Mm)} {G : Gm} {X : Cx} {d : Nat}  (hX : XK G X 5 cX5_append 3 (d + 0)) (hT : XT X (none) "append") (hr : XR X SS) (hc : ∀ s1 : Int32 × Mm, oo = .inl s1 → WR G X (mQ G X (none) z SS) 3 [.ref 1, .int c1, .int s1.1] [] s1.2 SS) (hx : ∀ x1 : Mm, oo = .inr x1 → WR G X (mQ G X (none) z SS) 49 [.ref 1, vU, vU] [] x1 SS) (h : Tp_append_b3 c1 v2 M = some oo) : WR G X (mQ G X (none) z SS) 3 [.ref 1, .int c1, .int v2] [] M SS := by
  unfold Tp_append_b3 at h
  refine r_iload_n hX dX5_append_3 rfl ?_
  refine r_if_lt (tgt := 49) hX dX5_append_4 (by decide) (fun g1 => ?_) (fun g1 => ?_)
  · have h := (if_pos g1).symm.trans h
    refine WR.fg (L' := [.ref 1, vU, vU]) ⟨Or.inr rfl, Or.inl rfl, Or.inl rfl, trivial⟩ ?_
    exact hx _ (Option.some.inj h).symm
  · have h := (if_neg g1).symm.trans h
    refine r_aload_n hX dX5_append_7 rfl ?_
    refine r_getf (v := .int (M.1 1 1)) hX dX5_append_8 fl_5_15 rfl (by decide) (by decide) rfl ?_
    refine r_sipush (v := (240 : Int32)) hX dX5_append_11 (by decide) ?_
    refine r_icmp_ge (tgt := 49) hX dX5_append_14 (by decide) (fun g2 => ?_) (fun g2 => ?_)
    · have h := (if_pos g2).symm.trans h
      refine WR.fg (L' := [.ref 1, vU, vU]) ⟨Or.inr rfl, Or.inl rfl, Or.inl rfl, trivial⟩ ?_
      exact hx _ (Option.some.inj h).symm
    · have h := (if_neg g2).symm.trans h
      refine r_aload_n hX dX5_append_17 rfl ?_
      refine r_getf (v := .ref 2) hX dX5_append_18 fl_5_9 rfl (by decide) (by decide) rfl ?_
      refine r_aload_n hX dX5_append_21 rfl ?_
      refine r_getf (v := .int (M.1 1 1)) hX dX5_append_22 fl_5_15 rfl (by decide) (by decide) rfl ?_
      refine r_iload_n hX dX5_append_25 rfl ?_
      refine r_iload_n hX dX5_append_26 rfl ?_
      refine r_iushr hX dX5_append_27 ?_
      refine r_sipush (v := (255 : Int32)) hX dX5_append_28 (by decide) ?_
      refine r_iand hX dX5_append_31 ?_
      obtain ⟨k3, h⟩ := grd_s h
      refine r_iast hX dX5_append_32 rfl (by decide) (inb_at rfl k3) ?_
      refine r_aload_n hX dX5_append_33 rfl ?_
      refine r_dup hX dX5_append_34 rfl ?_
      refine r_getf (v := .int ((up2 M.1 2 (tn (M.1 1 1)) ((ushr c1 v2) &&& (255 : Int32))) 1 1)) hX dX5_append_35 fl_5_15 rfl (by decide) (by decide) rfl ?_
      refine r_iconst (v := (1 : Int32)) hX dX5_append_38 (by decide) ?_
      refine r_iadd hX dX5_append_39 ?_
      refine r_putI' hX dX5_append_40 fl_5_15 rfl (by decide) (by decide) (okI_int _) ?_
      refine r_iinc (v := v2 + (-8 : Int32)) (L1 := [.ref 1, .int c1, .int (v2 + (-8 : Int32))]) hX dX5_append_43 rfl rfl rfl ?_
      refine r_goto (tgt := 3) hX dX5_append_46 (by decide) ?_
      exact hc (v2 + (-8 : Int32), ((up2 (up2 M.1 2 (tn (M.1 1 1)) ((ushr c1 v2) &&& (255 : Int32))) 1 1 (((up2 M.1 2 (tn (M.1 1 1)) ((ushr c1 v2) &&& (255 : Int32))) 1 1) + (1 : Int32))), M.2)) (Option.some.inj h).symm
set_option maxRecDepth 100000 in
theorem ok_Tp_append {G : Gm} {l : Launch} {d : Nat} (n : Nat) (v1 : Int32) (M : Mm) {z : Mm}  (h : Tp_append n v1 M = some z) : CK G l (d + 0) md_Tp_append [.ref 1, .int v1] M SS (none) z SS := by
  refine ck_of mk_Tp_append (Nat.le_of_ble_eq_true rfl) ⟨Nat.le_refl _, Nat.le_refl _⟩ (fun X hX hT hS hr hl => ?_)
  subst hl
  unfold Tp_append at h
  show WR G X (mQ G X (none) z SS) 0 [.ref 1, .int v1, vU] [] M SS
  refine r_bipush (v := (24 : Int32)) hX dX5_append_0 (by decide) ?_
  refine r_istore_n (L1 := [.ref 1, .int v1, .int (24 : Int32)]) hX dX5_append_2 (Nat.le_of_ble_eq_true rfl) rfl ?_
  obtain ⟨y4, h1, h⟩ := bnd_s h
  refine loop_ok (P := fun s1 : Int32 × Mm => WR G X (mQ G X (none) z SS) 3 [.ref 1, .int v1, .int s1.1] [] s1.2 SS) (E := fun x1 : Mm => WR G X (mQ G X (none) z SS) 49 [.ref 1, vU, vU] [] x1 SS) (fun s1 o1 g1 g2 g3 => ok_Tp_append_b3 n s1.1 s1.2  hX hT hr g2 g3 g1) n ((24 : Int32), M) y4 h1 ?_
  show WR G X (mQ G X (none) z SS) 49 [.ref 1, vU, vU] [] y4 SS
  obtain rfl := Option.some.inj h
  exact r_vret hX hT dX5_append_49
def Tr_draw (v1 : Int32) (M : Mm) : Option (Int32 × Mm) :=
  if v1 ≤ (0 : Int32) then
    some ((0 : Int32), ((up2 M.1 93 2 (irm (((25173 : Int32) * (M.1 93 2)) + (13849 : Int32)) (65536 : Int32))), M.2))
  else
    grd (nz v1) (
    some (irm ((up2 M.1 93 2 (irm (((25173 : Int32) * (M.1 93 2)) + (13849 : Int32)) (65536 : Int32))) 93 2) v1, ((up2 M.1 93 2 (irm (((25173 : Int32) * (M.1 93 2)) + (13849 : Int32)) (65536 : Int32))), M.2)))
set_option maxRecDepth 100000 in
theorem ok_Tr_draw {G : Gm} {l : Launch} {d : Nat} (v1 : Int32) (M : Mm) {z : Int32 × Mm}  (h : Tr_draw v1 M = some z) : CK G l (d + 0) md_Tr_draw [.ref 93, .int v1] M SS (some (.int z.1)) z.2 SS := by
  refine ck_of mk_Tr_draw (Nat.le_of_ble_eq_true rfl) ⟨Nat.le_refl _, Nat.le_refl _⟩ (fun X hX hT hS hr hl => ?_)
  subst hl
  unfold Tr_draw at h
  show WR G X (mQ G X (some (.int z.1)) z.2 SS) 0 [.ref 93, .int v1] [] M SS
  refine r_aload_n hX dX6_draw_0 rfl ?_
  refine r_sipush (v := (25173 : Int32)) hX dX6_draw_1 (by decide) ?_
  refine r_aload_n hX dX6_draw_4 rfl ?_
  refine r_getf (v := .int (M.1 93 2)) hX dX6_draw_5 fl_6_9 rfl (by decide) (by decide) rfl ?_
  refine r_imul hX dX6_draw_8 ?_
  refine r_sipush (v := (13849 : Int32)) hX dX6_draw_9 (by decide) ?_
  refine r_iadd hX dX6_draw_12 ?_
  refine r_ldc hX dX6_draw_13 ki_6_106 ?_
  refine r_irem hX dX6_draw_15 (by decide) ?_
  refine r_putI hX dX6_draw_16 fl_6_9 rfl (by decide) (by decide) (okI_int _) ?_
  refine r_iload_n hX dX6_draw_19 rfl ?_
  refine r_if_le (tgt := 32) hX dX6_draw_20 (by decide) (fun g1 => ?_) (fun g1 => ?_)
  · have h := (if_pos g1).symm.trans h
    refine r_iconst (v := (0 : Int32)) hX dX6_draw_32 (by decide) ?_
    obtain rfl := Option.some.inj h
    exact r_iret hX hT dX6_draw_33 rfl
  · have h := (if_neg g1).symm.trans h
    refine r_aload_n hX dX6_draw_23 rfl ?_
    refine r_getf (v := .int ((up2 M.1 93 2 (irm (((25173 : Int32) * (M.1 93 2)) + (13849 : Int32)) (65536 : Int32))) 93 2)) hX dX6_draw_24 fl_6_9 rfl (by decide) (by decide) rfl ?_
    refine r_iload_n hX dX6_draw_27 rfl ?_
    obtain ⟨k2, h⟩ := grd_s h
    refine r_irem hX dX6_draw_28 (nz_ne k2) ?_
    refine r_goto (tgt := 33) hX dX6_draw_29 (by decide) ?_
    obtain rfl := Option.some.inj h
    exact r_iret hX hT dX6_draw_33 rfl
def Tr_askAt (n : Nat) (v1 : Int32) (v2 : Int32) (v3 : Int32) (M : Mm) : Option (Mm) :=
  bnd (Tr_draw (imx (2 : Int32) (M.1 55 0)) M) (fun z1 =>
  bnd (Tr_draw ((imx (2 : Int32) (M.1 55 0)) - (1 : Int32)) z1.2) (fun z3 =>
  grd (nz (imx (2 : Int32) (M.1 55 0))) (
  bnd (Tr_draw v2 z3.2) (fun z6 =>
  bnd (Tr_draw (20 : Int32) z6.2) (fun z8 =>
  bnd (Fi_find n 54 z1.1 (irm ((z1.1 + (1 : Int32)) + z3.1) (imx (2 : Int32) (M.1 55 0))) ((1 : Int32) + z6.1) v3 z8.2) (fun z10 =>
  if z10.1 = true then
    bnd (St_put n 54 (irm v1 (40 : Int32)) (z10.2.1 12 2) (z10.2.1 12 3) (z10.2.1 12 4) z10.2) (fun z13 =>
    grd (inb (irm v1 (40 : Int32)) 40) (
    bnd (St_top n 54 ((up2 (up2 z13.1 65 (tn (irm v1 (40 : Int32))) ((v1 + (1 : Int32)) + z8.1)) 93 6 (((up2 z13.1 65 (tn (irm v1 (40 : Int32))) ((v1 + (1 : Int32)) + z8.1)) 93 6) + (1 : Int32))), z13.2)) (fun z16 =>
    some ((up2 (up2 (up2 z13.1 65 (tn (irm v1 (40 : Int32))) ((v1 + (1 : Int32)) + z8.1)) 93 6 (((up2 z13.1 65 (tn (irm v1 (40 : Int32))) ((v1 + (1 : Int32)) + z8.1)) 93 6) + (1 : Int32))) 93 5 (imx ((up2 (up2 z13.1 65 (tn (irm v1 (40 : Int32))) ((v1 + (1 : Int32)) + z8.1)) 93 6 (((up2 z13.1 65 (tn (irm v1 (40 : Int32))) ((v1 + (1 : Int32)) + z8.1)) 93 6) + (1 : Int32))) 93 5) z16)), z13.2))))
  else
    some ((up2 (up2 z10.2.1 93 3 ((z10.2.1 93 3) + (1 : Int32))) 93 4 (((up2 z10.2.1 93 3 ((z10.2.1 93 3) + (1 : Int32))) 93 4) + ((1 : Int32) + z6.1))), z10.2.2)))))))
set_option maxRecDepth 100000 in
theorem ok_Tr_askAt {G : Gm} {l : Launch} {d : Nat} (n : Nat) (v1 : Int32) (v2 : Int32) (v3 : Int32) (M : Mm) {z : Mm}  (h : Tr_askAt n v1 v2 v3 M = some z) : CK G l (d + 13) md_Tr_askAt [.ref 93, .int v1, .int v2, .int v3] M SS (none) z SS := by
  refine ck_of mk_Tr_askAt (Nat.le_of_ble_eq_true rfl) ⟨Nat.le_refl _, Nat.le_refl _⟩ (fun X hX hT hS hr hl => ?_)
  subst hl
  unfold Tr_askAt at h
  show WR G X (mQ G X (none) z SS) 0 [.ref 93, .int v1, .int v2, .int v3, vU, vU, vU, vU, vU, vU] [] M SS
  refine r_iconst (v := (2 : Int32)) hX dX6_askAt_0 (by decide) ?_
  refine r_aload_n hX dX6_askAt_1 rfl ?_
  refine r_getf (v := .ref 54) hX dX6_askAt_2 fl_6_27 rfl (by decide) (by decide) rfl ?_
  refine r_getf (v := .ref 55) hX dX6_askAt_5 fl_6_64 rfl (by decide) (by decide) rfl ?_
  refine r_getf (v := .int (M.1 55 0)) hX dX6_askAt_8 fl_6_68 rfl (by decide) (by decide) rfl ?_
  refine r_max hX dX6_askAt_11 ml_6_73 rfl (Nat.le_of_ble_eq_true rfl) hr ?_
  refine r_istore (L1 := [.ref 93, .int v1, .int v2, .int v3, .int (imx (2 : Int32) (M.1 55 0)), vU, vU, vU, vU, vU]) hX dX6_askAt_14 (Nat.le_of_ble_eq_true rfl) rfl ?_
  refine r_aload_n hX dX6_askAt_16 rfl ?_
  refine r_iload hX dX6_askAt_17 rfl ?_
  obtain ⟨z1, p2, h⟩ := bnd_s h
  refine r_callV (As := [.int (imx (2 : Int32) (M.1 55 0))]) hX dX6_askAt_19 mk_Tr_draw mi_Tr_draw ml_6_79 rfl rfl rfl rfl (by decide) (by decide) (Nat.le_of_ble_eq_true rfl) hr (ok_Tr_draw (d := d + 12) (imx (2 : Int32) (M.1 55 0)) M p2) ?_
  refine r_istore (L1 := [.ref 93, .int v1, .int v2, .int v3, .int (imx (2 : Int32) (M.1 55 0)), .int z1.1, vU, vU, vU, vU]) hX dX6_askAt_22 (Nat.le_of_ble_eq_true rfl) rfl ?_
  refine r_iload hX dX6_askAt_24 rfl ?_
  refine r_iconst (v := (1 : Int32)) hX dX6_askAt_26 (by decide) ?_
  refine r_iadd hX dX6_askAt_27 ?_
  refine r_aload_n hX dX6_askAt_28 rfl ?_
  refine r_iload hX dX6_askAt_29 rfl ?_
  refine r_iconst (v := (1 : Int32)) hX dX6_askAt_31 (by decide) ?_
  refine r_isub hX dX6_askAt_32 ?_
  obtain ⟨z3, p4, h⟩ := bnd_s h
  refine r_callV (As := [.int ((imx (2 : Int32) (M.1 55 0)) - (1 : Int32))]) hX dX6_askAt_33 mk_Tr_draw mi_Tr_draw ml_6_79 rfl rfl rfl rfl (by decide) (by decide) (Nat.le_of_ble_eq_true rfl) hr (ok_Tr_draw (d := d + 12) ((imx (2 : Int32) (M.1 55 0)) - (1 : Int32)) z1.2 p4) ?_
  refine r_iadd hX dX6_askAt_36 ?_
  refine r_iload hX dX6_askAt_37 rfl ?_
  obtain ⟨k5, h⟩ := grd_s h
  refine r_irem hX dX6_askAt_39 (nz_ne k5) ?_
  refine r_istore (L1 := [.ref 93, .int v1, .int v2, .int v3, .int (imx (2 : Int32) (M.1 55 0)), .int z1.1, .int (irm ((z1.1 + (1 : Int32)) + z3.1) (imx (2 : Int32) (M.1 55 0))), vU, vU, vU]) hX dX6_askAt_40 (Nat.le_of_ble_eq_true rfl) rfl ?_
  refine r_iconst (v := (1 : Int32)) hX dX6_askAt_42 (by decide) ?_
  refine r_aload_n hX dX6_askAt_43 rfl ?_
  refine r_iload_n hX dX6_askAt_44 rfl ?_
  obtain ⟨z6, p7, h⟩ := bnd_s h
  refine r_callV (As := [.int v2]) hX dX6_askAt_45 mk_Tr_draw mi_Tr_draw ml_6_79 rfl rfl rfl rfl (by decide) (by decide) (Nat.le_of_ble_eq_true rfl) hr (ok_Tr_draw (d := d + 12) v2 z3.2 p7) ?_
  refine r_iadd hX dX6_askAt_48 ?_
  refine r_istore (L1 := [.ref 93, .int v1, .int v2, .int v3, .int (imx (2 : Int32) (M.1 55 0)), .int z1.1, .int (irm ((z1.1 + (1 : Int32)) + z3.1) (imx (2 : Int32) (M.1 55 0))), .int ((1 : Int32) + z6.1), vU, vU]) hX dX6_askAt_49 (Nat.le_of_ble_eq_true rfl) rfl ?_
  refine r_iload_n hX dX6_askAt_51 rfl ?_
  refine r_iconst (v := (1 : Int32)) hX dX6_askAt_52 (by decide) ?_
  refine r_iadd hX dX6_askAt_53 ?_
  refine r_aload_n hX dX6_askAt_54 rfl ?_
  refine r_bipush (v := (20 : Int32)) hX dX6_askAt_55 (by decide) ?_
  obtain ⟨z8, p9, h⟩ := bnd_s h
  refine r_callV (As := [.int (20 : Int32)]) hX dX6_askAt_57 mk_Tr_draw mi_Tr_draw ml_6_79 rfl rfl rfl rfl (by decide) (by decide) (Nat.le_of_ble_eq_true rfl) hr (ok_Tr_draw (d := d + 12) (20 : Int32) z6.2 p9) ?_
  refine r_iadd hX dX6_askAt_60 ?_
  refine r_istore (L1 := [.ref 93, .int v1, .int v2, .int v3, .int (imx (2 : Int32) (M.1 55 0)), .int z1.1, .int (irm ((z1.1 + (1 : Int32)) + z3.1) (imx (2 : Int32) (M.1 55 0))), .int ((1 : Int32) + z6.1), .int ((v1 + (1 : Int32)) + z8.1), vU]) hX dX6_askAt_61 (Nat.le_of_ble_eq_true rfl) rfl ?_
  refine r_aload_n hX dX6_askAt_63 rfl ?_
  refine r_getf (v := .ref 12) hX dX6_askAt_64 fl_6_31 rfl (by decide) (by decide) rfl ?_
  refine r_aload_n hX dX6_askAt_67 rfl ?_
  refine r_getf (v := .ref 54) hX dX6_askAt_68 fl_6_27 rfl (by decide) (by decide) rfl ?_
  refine r_iload hX dX6_askAt_71 rfl ?_
  refine r_iload hX dX6_askAt_73 rfl ?_
  refine r_iload hX dX6_askAt_75 rfl ?_
  refine r_iload_n hX dX6_askAt_77 rfl ?_
  obtain ⟨z10, p11, h⟩ := bnd_s h
  refine r_callV (As := [.ref 54, .int z1.1, .int (irm ((z1.1 + (1 : Int32)) + z3.1) (imx (2 : Int32) (M.1 55 0))), .int ((1 : Int32) + z6.1), .int v3]) hX dX6_askAt_78 mk_Fi_find mi_Fi_find ml_6_83 rfl rfl rfl rfl (by decide) (by decide) (Nat.le_of_ble_eq_true rfl) hr (ok_Fi_find (d := d + 0) n 54 z1.1 (irm ((z1.1 + (1 : Int32)) + z3.1) (imx (2 : Int32) (M.1 55 0))) ((1 : Int32) + z6.1) v3 z8.2 st54 p11) ?_
  refine r_ifb_ne (tgt := 106) hX dX6_askAt_81 (by decide) (fun g12 => ?_) (fun g12 => ?_)
  · have h := (if_pos g12).symm.trans h
    refine r_iload_n hX dX6_askAt_106 rfl ?_
    refine r_bipush (v := (40 : Int32)) hX dX6_askAt_107 (by decide) ?_
    refine r_irem hX dX6_askAt_109 (by decide) ?_
    refine r_istore (L1 := [.ref 93, .int v1, .int v2, .int v3, .int (imx (2 : Int32) (M.1 55 0)), .int z1.1, .int (irm ((z1.1 + (1 : Int32)) + z3.1) (imx (2 : Int32) (M.1 55 0))), .int ((1 : Int32) + z6.1), .int ((v1 + (1 : Int32)) + z8.1), .int (irm v1 (40 : Int32))]) hX dX6_askAt_110 (Nat.le_of_ble_eq_true rfl) rfl ?_
    refine r_aload_n hX dX6_askAt_112 rfl ?_
    refine r_getf (v := .ref 54) hX dX6_askAt_113 fl_6_27 rfl (by decide) (by decide) rfl ?_
    refine r_iload hX dX6_askAt_116 rfl ?_
    refine r_aload_n hX dX6_askAt_118 rfl ?_
    refine r_getf (v := .ref 12) hX dX6_askAt_119 fl_6_31 rfl (by decide) (by decide) rfl ?_
    refine r_getf (v := .int (z10.2.1 12 2)) hX dX6_askAt_122 fl_6_89 rfl (by decide) (by decide) rfl ?_
    refine r_aload_n hX dX6_askAt_125 rfl ?_
    refine r_getf (v := .ref 12) hX dX6_askAt_126 fl_6_31 rfl (by decide) (by decide) rfl ?_
    refine r_getf (v := .int (z10.2.1 12 3)) hX dX6_askAt_129 fl_6_92 rfl (by decide) (by decide) rfl ?_
    refine r_aload_n hX dX6_askAt_132 rfl ?_
    refine r_getf (v := .ref 12) hX dX6_askAt_133 fl_6_31 rfl (by decide) (by decide) rfl ?_
    refine r_getf (v := .int (z10.2.1 12 4)) hX dX6_askAt_136 fl_6_95 rfl (by decide) (by decide) rfl ?_
    obtain ⟨z13, p14, h⟩ := bnd_s h
    refine r_callV (As := [.int (irm v1 (40 : Int32)), .int (z10.2.1 12 2), .int (z10.2.1 12 3), .int (z10.2.1 12 4)]) hX dX6_askAt_139 mk_St_put mi_St_put ml_6_98 rfl rfl rfl rfl (by decide) (by decide) (Nat.le_of_ble_eq_true rfl) hr (ok_St_put (d := d + 11) n 54 (irm v1 (40 : Int32)) (z10.2.1 12 2) (z10.2.1 12 3) (z10.2.1 12 4) z10.2 st54 p14) ?_
    refine r_aload_n hX dX6_askAt_142 rfl ?_
    refine r_getf (v := .ref 54) hX dX6_askAt_143 fl_6_27 rfl (by decide) (by decide) rfl ?_
    refine r_getf (v := .ref 65) hX dX6_askAt_146 fl_6_57 rfl (by decide) (by decide) rfl ?_
    refine r_iload hX dX6_askAt_149 rfl ?_
    refine r_iload hX dX6_askAt_151 rfl ?_
    obtain ⟨k15, h⟩ := grd_s h
    refine r_iast hX dX6_askAt_153 rfl (by decide) (inb_at rfl k15) ?_
    refine r_aload_n hX dX6_askAt_154 rfl ?_
    refine r_dup hX dX6_askAt_155 rfl ?_
    refine r_getf (v := .int ((up2 z13.1 65 (tn (irm v1 (40 : Int32))) ((v1 + (1 : Int32)) + z8.1)) 93 6)) hX dX6_askAt_156 fl_6_24 rfl (by decide) (by decide) rfl ?_
    refine r_iconst (v := (1 : Int32)) hX dX6_askAt_159 (by decide) ?_
    refine r_iadd hX dX6_askAt_160 ?_
    refine r_putI' hX dX6_askAt_161 fl_6_24 rfl (by decide) (by decide) (okI_int _) ?_
    refine r_aload_n hX dX6_askAt_164 rfl ?_
    refine r_aload_n hX dX6_askAt_165 rfl ?_
    refine r_getf (v := .int ((up2 (up2 z13.1 65 (tn (irm v1 (40 : Int32))) ((v1 + (1 : Int32)) + z8.1)) 93 6 (((up2 z13.1 65 (tn (irm v1 (40 : Int32))) ((v1 + (1 : Int32)) + z8.1)) 93 6) + (1 : Int32))) 93 5)) hX dX6_askAt_166 fl_6_21 rfl (by decide) (by decide) rfl ?_
    refine r_aload_n hX dX6_askAt_169 rfl ?_
    refine r_getf (v := .ref 54) hX dX6_askAt_170 fl_6_27 rfl (by decide) (by decide) rfl ?_
    obtain ⟨z16, p17, h⟩ := bnd_s h
    refine r_callV (As := []) hX dX6_askAt_173 mk_St_top mi_St_top ml_6_102 rfl rfl rfl rfl (by decide) (by decide) (Nat.le_of_ble_eq_true rfl) hr (ok_St_top (d := d + 10) n 54 ((up2 (up2 z13.1 65 (tn (irm v1 (40 : Int32))) ((v1 + (1 : Int32)) + z8.1)) 93 6 (((up2 z13.1 65 (tn (irm v1 (40 : Int32))) ((v1 + (1 : Int32)) + z8.1)) 93 6) + (1 : Int32))), z13.2) st54 p17) ?_
    refine r_max hX dX6_askAt_176 ml_6_73 rfl (Nat.le_of_ble_eq_true rfl) hr ?_
    refine r_putI' hX dX6_askAt_179 fl_6_21 rfl (by decide) (by decide) (okI_int _) ?_
    obtain rfl := Option.some.inj h
    exact r_vret hX hT dX6_askAt_182
  · have h := (if_neg (show ¬ z10.1 = true from fun e => by rw [g12] at e; cases e)).symm.trans h
    refine r_aload_n hX dX6_askAt_84 rfl ?_
    refine r_dup hX dX6_askAt_85 rfl ?_
    refine r_getf (v := .int (z10.2.1 93 3)) hX dX6_askAt_86 fl_6_15 rfl (by decide) (by decide) rfl ?_
    refine r_iconst (v := (1 : Int32)) hX dX6_askAt_89 (by decide) ?_
    refine r_iadd hX dX6_askAt_90 ?_
    refine r_putI hX dX6_askAt_91 fl_6_15 rfl (by decide) (by decide) (okI_int _) ?_
    refine r_aload_n hX dX6_askAt_94 rfl ?_
    refine r_dup hX dX6_askAt_95 rfl ?_
    refine r_getf (v := .int ((up2 z10.2.1 93 3 ((z10.2.1 93 3) + (1 : Int32))) 93 4)) hX dX6_askAt_96 fl_6_18 rfl (by decide) (by decide) rfl ?_
    refine r_iload hX dX6_askAt_99 rfl ?_
    refine r_iadd hX dX6_askAt_101 ?_
    refine r_putI' hX dX6_askAt_102 fl_6_18 rfl (by decide) (by decide) (okI_int _) ?_
    obtain rfl := Option.some.inj h
    exact r_vret hX hT dX6_askAt_105
def Tr_endThoseOf_j52 (v2 : Int32) (M : Mm) : Option ((Int32 × Mm) ⊕ (Mm)) :=
  some (.inl (v2 + (1 : Int32), M))
def Tr_endThoseOf_b2 (n : Nat) (c1 : Int32) (v2 : Int32) (M : Mm) : Option ((Int32 × Mm) ⊕ (Mm)) :=
  if (40 : Int32) ≤ v2 then
    some (.inr M)
  else
    grd (inb v2 40) (
    if (M.1 64 (tn v2)) = (0 : Int32) then
      grd (inb v2 40) (
      if (M.1 65 (tn v2)) = c1 then
        bnd (St_takeOff n 54 v2 (3 : Int32) M) (fun z6 =>
        Tr_endThoseOf_j52 v2 ((up2 z6.1 93 6 ((z6.1 93 6) - (1 : Int32))), z6.2))
      else
        Tr_endThoseOf_j52 v2 M)
    else
      Tr_endThoseOf_j52 v2 M)
def Tr_endThoseOf (n : Nat) (v1 : Int32) (M : Mm) : Option (Mm) :=
  bnd (loop (fun s1 : Int32 × Mm => Tr_endThoseOf_b2 n v1 s1.1 s1.2) n ((0 : Int32), M)) (fun y8 =>
  some y8)
set_option maxRecDepth 100000 in
theorem ok_Tr_endThoseOf_j52 (n : Nat) (v2 : Int32) (M : Mm) {c1 : Int32} {z : Mm} {oo : (Int32 × Mm) ⊕ (Mm)} {G : Gm} {X : Cx} {d : Nat}  (hX : XK G X 6 cX6_endThoseOf 3 (d + 1)) (hT : XT X (none) "endThoseOf") (hr : XR X SS) (hc : ∀ s1 : Int32 × Mm, oo = .inl s1 → WR G X (mQ G X (none) z SS) 2 [.ref 93, .int c1, .int s1.1] [] s1.2 SS) (hx : ∀ x1 : Mm, oo = .inr x1 → WR G X (mQ G X (none) z SS) 58 [.ref 93, vU, vU] [] x1 SS) (h : Tr_endThoseOf_j52 v2 M = some oo) : WR G X (mQ G X (none) z SS) 52 [.ref 93, .int c1, .int v2] [] M SS := by
  unfold Tr_endThoseOf_j52 at h
  refine r_iinc (v := v2 + (1 : Int32)) (L1 := [.ref 93, .int c1, .int (v2 + (1 : Int32))]) hX dX6_endThoseOf_52 rfl rfl rfl ?_
  refine r_goto (tgt := 2) hX dX6_endThoseOf_55 (by decide) ?_
  exact hc (v2 + (1 : Int32), M) (Option.some.inj h).symm
set_option maxRecDepth 100000 in
theorem ok_Tr_endThoseOf_b2 (n : Nat) (v2 : Int32) (M : Mm) {c1 : Int32} {z : Mm} {oo : (Int32 × Mm) ⊕ (Mm)} {G : Gm} {X : Cx} {d : Nat}  (hX : XK G X 6 cX6_endThoseOf 3 (d + 1)) (hT : XT X (none) "endThoseOf") (hr : XR X SS) (hc : ∀ s1 : Int32 × Mm, oo = .inl s1 → WR G X (mQ G X (none) z SS) 2 [.ref 93, .int c1, .int s1.1] [] s1.2 SS) (hx : ∀ x1 : Mm, oo = .inr x1 → WR G X (mQ G X (none) z SS) 58 [.ref 93, vU, vU] [] x1 SS) (h : Tr_endThoseOf_b2 n c1 v2 M = some oo) : WR G X (mQ G X (none) z SS) 2 [.ref 93, .int c1, .int v2] [] M SS := by
  unfold Tr_endThoseOf_b2 at h
  refine r_iload_n hX dX6_endThoseOf_2 rfl ?_
  refine r_bipush (v := (40 : Int32)) hX dX6_endThoseOf_3 (by decide) ?_
  refine r_icmp_ge (tgt := 58) hX dX6_endThoseOf_5 (by decide) (fun g1 => ?_) (fun g1 => ?_)
  · have h := (if_pos g1).symm.trans h
    refine WR.fg (L' := [.ref 93, vU, vU]) ⟨Or.inr rfl, Or.inl rfl, Or.inl rfl, trivial⟩ ?_
    exact hx _ (Option.some.inj h).symm
  · have h := (if_neg g1).symm.trans h
    refine r_aload_n hX dX6_endThoseOf_8 rfl ?_
    refine r_getf (v := .ref 54) hX dX6_endThoseOf_9 fl_6_27 rfl (by decide) (by decide) rfl ?_
    refine r_getf (v := .ref 64) hX dX6_endThoseOf_12 fl_6_53 rfl (by decide) (by decide) rfl ?_
    refine r_iload_n hX dX6_endThoseOf_15 rfl ?_
    obtain ⟨k2, h⟩ := grd_s h
    refine r_iald hX dX6_endThoseOf_16 rfl (by decide) (inb_at rfl k2) ?_
    refine r_if_ne (tgt := 52) hX dX6_endThoseOf_17 (by decide) (fun g3 => ?_) (fun g3 => ?_)
    · have h := (if_neg g3).symm.trans h
      exact ok_Tr_endThoseOf_j52 n v2 M   hX hT hr hc hx h
    · have h := (if_pos g3).symm.trans h
      refine r_aload_n hX dX6_endThoseOf_20 rfl ?_
      refine r_getf (v := .ref 54) hX dX6_endThoseOf_21 fl_6_27 rfl (by decide) (by decide) rfl ?_
      refine r_getf (v := .ref 65) hX dX6_endThoseOf_24 fl_6_57 rfl (by decide) (by decide) rfl ?_
      refine r_iload_n hX dX6_endThoseOf_27 rfl ?_
      obtain ⟨k4, h⟩ := grd_s h
      refine r_iald hX dX6_endThoseOf_28 rfl (by decide) (inb_at rfl k4) ?_
      refine r_iload_n hX dX6_endThoseOf_29 rfl ?_
      refine r_icmp_ne (tgt := 52) hX dX6_endThoseOf_30 (by decide) (fun g5 => ?_) (fun g5 => ?_)
      · have h := (if_neg g5).symm.trans h
        exact ok_Tr_endThoseOf_j52 n v2 M   hX hT hr hc hx h
      · have h := (if_pos g5).symm.trans h
        refine r_aload_n hX dX6_endThoseOf_33 rfl ?_
        refine r_getf (v := .ref 54) hX dX6_endThoseOf_34 fl_6_27 rfl (by decide) (by decide) rfl ?_
        refine r_iload_n hX dX6_endThoseOf_37 rfl ?_
        refine r_iconst (v := (3 : Int32)) hX dX6_endThoseOf_38 (by decide) ?_
        obtain ⟨z6, p7, h⟩ := bnd_s h
        refine r_callV (As := [.int v2, .int (3 : Int32)]) hX dX6_endThoseOf_39 mk_St_takeOff mi_St_takeOff ml_6_60 rfl rfl rfl rfl (by decide) (by decide) (Nat.le_of_ble_eq_true rfl) hr (ok_St_takeOff (d := d + 0) n 54 v2 (3 : Int32) M st54 p7) ?_
        refine r_aload_n hX dX6_endThoseOf_42 rfl ?_
        refine r_dup hX dX6_endThoseOf_43 rfl ?_
        refine r_getf (v := .int (z6.1 93 6)) hX dX6_endThoseOf_44 fl_6_24 rfl (by decide) (by decide) rfl ?_
        refine r_iconst (v := (1 : Int32)) hX dX6_endThoseOf_47 (by decide) ?_
        refine r_isub hX dX6_endThoseOf_48 ?_
        refine r_putI hX dX6_endThoseOf_49 fl_6_24 rfl (by decide) (by decide) (okI_int _) ?_
        exact ok_Tr_endThoseOf_j52 n v2 ((up2 z6.1 93 6 ((z6.1 93 6) - (1 : Int32))), z6.2)   hX hT hr hc hx h
set_option maxRecDepth 100000 in
theorem ok_Tr_endThoseOf {G : Gm} {l : Launch} {d : Nat} (n : Nat) (v1 : Int32) (M : Mm) {z : Mm}  (h : Tr_endThoseOf n v1 M = some z) : CK G l (d + 1) md_Tr_endThoseOf [.ref 93, .int v1] M SS (none) z SS := by
  refine ck_of mk_Tr_endThoseOf (Nat.le_of_ble_eq_true rfl) ⟨Nat.le_refl _, Nat.le_refl _⟩ (fun X hX hT hS hr hl => ?_)
  subst hl
  unfold Tr_endThoseOf at h
  show WR G X (mQ G X (none) z SS) 0 [.ref 93, .int v1, vU] [] M SS
  refine r_iconst (v := (0 : Int32)) hX dX6_endThoseOf_0 (by decide) ?_
  refine r_istore_n (L1 := [.ref 93, .int v1, .int (0 : Int32)]) hX dX6_endThoseOf_1 (Nat.le_of_ble_eq_true rfl) rfl ?_
  obtain ⟨y8, h1, h⟩ := bnd_s h
  refine loop_ok (P := fun s1 : Int32 × Mm => WR G X (mQ G X (none) z SS) 2 [.ref 93, .int v1, .int s1.1] [] s1.2 SS) (E := fun x1 : Mm => WR G X (mQ G X (none) z SS) 58 [.ref 93, vU, vU] [] x1 SS) (fun s1 o1 g1 g2 g3 => ok_Tr_endThoseOf_b2 n s1.1 s1.2  hX hT hr g2 g3 g1) n ((0 : Int32), M) y8 h1 ?_
  show WR G X (mQ G X (none) z SS) 58 [.ref 93, vU, vU] [] y8 SS
  obtain rfl := Option.some.inj h
  exact r_vret hX hT dX6_endThoseOf_58
def Tr_run_b46 (n : Nat) (c2 : Int32) (c3 : Int32) (c4 : Int32) (v5 : Int32) (M : Mm) : Option ((Int32 × Mm) ⊕ (Mm)) :=
  if c2 ≤ v5 then
    some (.inr M)
  else
    bnd (Tr_endThoseOf n v5 M) (fun z6 =>
    bnd (Tr_askAt n v5 c3 c4 z6) (fun z8 =>
    some (.inl (v5 + (1 : Int32), z8))))
def Tr_run (n : Nat) (o : Nat) (v2 : Int32) (v3 : Int32) (v4 : Int32) (M : Mm) : Option (Mm) :=
  bnd (St_copy 54 o M) (fun z1 =>
  bnd (St_clearDemands n 54 z1) (fun z3 =>
  bnd (loop (fun s1 : Int32 × Mm => Tr_run_b46 n v2 v3 v4 s1.1 s1.2) n ((0 : Int32), ((up2 (up2 (up2 (up2 (up2 z3.1 93 2 (z3.1 o 3)) 93 3 (0 : Int32)) 93 4 (0 : Int32)) 93 5 (-1 : Int32)) 93 6 (0 : Int32)), z3.2))) (fun y10 =>
  some y10)))
set_option maxRecDepth 100000 in
theorem ok_Tr_run_b46 (n : Nat) (o : Nat) (v5 : Int32) (M : Mm) {c2 : Int32} {c3 : Int32} {c4 : Int32} {z : Mm} {oo : (Int32 × Mm) ⊕ (Mm)} {G : Gm} {X : Cx} {d : Nat} (ho : isSt o) (hX : XK G X 6 cX6_run 6 (d + 14)) (hT : XT X (none) "run") (hr : XR X SS) (hc : ∀ s1 : Int32 × Mm, oo = .inl s1 → WR G X (mQ G X (none) z SS) 46 [.ref 93, vU, .int c2, .int c3, .int c4, .int s1.1] [] s1.2 SS) (hx : ∀ x1 : Mm, oo = .inr x1 → WR G X (mQ G X (none) z SS) 73 [.ref 93, vU, vU, vU, vU, vU] [] x1 SS) (h : Tr_run_b46 n c2 c3 c4 v5 M = some oo) : WR G X (mQ G X (none) z SS) 46 [.ref 93, vU, .int c2, .int c3, .int c4, .int v5] [] M SS := by
  unfold Tr_run_b46 at h
  refine r_iload hX dX6_run_46 rfl ?_
  refine r_iload_n hX dX6_run_48 rfl ?_
  refine r_icmp_ge (tgt := 73) hX dX6_run_49 (by decide) (fun g5 => ?_) (fun g5 => ?_)
  · have h := (if_pos g5).symm.trans h
    refine WR.fg (L' := [.ref 93, vU, vU, vU, vU, vU]) ⟨Or.inr rfl, Or.inl rfl, Or.inl rfl, Or.inl rfl, Or.inl rfl, Or.inl rfl, trivial⟩ ?_
    exact hx _ (Option.some.inj h).symm
  · have h := (if_neg g5).symm.trans h
    refine r_aload_n hX dX6_run_52 rfl ?_
    refine r_iload hX dX6_run_53 rfl ?_
    obtain ⟨z6, p7, h⟩ := bnd_s h
    refine r_callV (As := [.int v5]) hX dX6_run_55 mk_Tr_endThoseOf mi_Tr_endThoseOf ml_6_45 rfl rfl rfl rfl (by decide) (by decide) (Nat.le_of_ble_eq_true rfl) hr (ok_Tr_endThoseOf (d := d + 12) n v5 M p7) ?_
    refine r_aload_n hX dX6_run_58 rfl ?_
    refine r_iload hX dX6_run_59 rfl ?_
    refine r_iload_n hX dX6_run_61 rfl ?_
    refine r_iload hX dX6_run_62 rfl ?_
    obtain ⟨z8, p9, h⟩ := bnd_s h
    refine r_callV (As := [.int v5, .int c3, .int c4]) hX dX6_run_64 mk_Tr_askAt mi_Tr_askAt ml_6_49 rfl rfl rfl rfl (by decide) (by decide) (Nat.le_of_ble_eq_true rfl) hr (ok_Tr_askAt (d := d + 0) n v5 c3 c4 z6 p9) ?_
    refine r_iinc (v := v5 + (1 : Int32)) (L1 := [.ref 93, vU, .int c2, .int c3, .int c4, .int (v5 + (1 : Int32))]) hX dX6_run_67 rfl rfl rfl ?_
    refine r_goto (tgt := 46) hX dX6_run_70 (by decide) ?_
    exact hc (v5 + (1 : Int32), z8) (Option.some.inj h).symm
set_option maxRecDepth 100000 in
theorem ok_Tr_run {G : Gm} {l : Launch} {d : Nat} (n : Nat) (o : Nat) (v2 : Int32) (v3 : Int32) (v4 : Int32) (M : Mm) {z : Mm} (ho : isSt o) (h : Tr_run n o v2 v3 v4 M = some z) : CK G l (d + 14) md_Tr_run [.ref 93, .ref o, .int v2, .int v3, .int v4] M SS (none) z SS := by
  refine ck_of mk_Tr_run (Nat.le_of_ble_eq_true rfl) ⟨Nat.le_refl _, Nat.le_refl _⟩ (fun X hX hT hS hr hl => ?_)
  subst hl
  unfold Tr_run at h
  show WR G X (mQ G X (none) z SS) 0 [.ref 93, .ref o, .int v2, .int v3, .int v4, vU] [] M SS
  refine r_aload_n hX dX6_run_0 rfl ?_
  refine r_getf (v := .ref 54) hX dX6_run_1 fl_6_27 rfl (by decide) (by decide) rfl ?_
  refine r_aload_n hX dX6_run_4 rfl ?_
  obtain ⟨z1, p2, h⟩ := bnd_s h
  refine r_callV (As := [.ref o]) hX dX6_run_5 mk_St_copy mi_St_copy ml_6_35 rfl rfl rfl rfl (by decide) (by decide) (Nat.le_of_ble_eq_true rfl) hr (ok_St_copy (d := d + 12) 54 o M st54 ho p2) ?_
  refine r_aload_n hX dX6_run_8 rfl ?_
  refine r_getf (v := .ref 54) hX dX6_run_9 fl_6_27 rfl (by decide) (by decide) rfl ?_
  obtain ⟨z3, p4, h⟩ := bnd_s h
  refine r_callV (As := []) hX dX6_run_12 mk_St_clearDemands mi_St_clearDemands ml_6_41 rfl rfl rfl rfl (by decide) (by decide) (Nat.le_of_ble_eq_true rfl) hr (ok_St_clearDemands (d := d + 12) n 54 z1 st54 p4) ?_
  refine r_aload_n hX dX6_run_15 rfl ?_
  refine r_aload_n hX dX6_run_16 rfl ?_
  refine r_getf (v := .int (z3.1 o 3)) hX dX6_run_17 fl_6_44 (kdS0 ho) (by decide) (ltS0 ho) rfl ?_
  refine r_putI hX dX6_run_20 fl_6_9 rfl (by decide) (by decide) (okI_int _) ?_
  refine r_aload_n hX dX6_run_23 rfl ?_
  refine r_iconst (v := (0 : Int32)) hX dX6_run_24 (by decide) ?_
  refine r_putI' hX dX6_run_25 fl_6_15 rfl (by decide) (by decide) (okI_int _) ?_
  refine r_aload_n hX dX6_run_28 rfl ?_
  refine r_iconst (v := (0 : Int32)) hX dX6_run_29 (by decide) ?_
  refine r_putI' hX dX6_run_30 fl_6_18 rfl (by decide) (by decide) (okI_int _) ?_
  refine r_aload_n hX dX6_run_33 rfl ?_
  refine r_iconst (v := (-1 : Int32)) hX dX6_run_34 (by decide) ?_
  refine r_putI' hX dX6_run_35 fl_6_21 rfl (by decide) (by decide) (okI_int _) ?_
  refine r_aload_n hX dX6_run_38 rfl ?_
  refine r_iconst (v := (0 : Int32)) hX dX6_run_39 (by decide) ?_
  refine r_putI' hX dX6_run_40 fl_6_24 rfl (by decide) (by decide) (okI_int _) ?_
  refine r_iconst (v := (0 : Int32)) hX dX6_run_43 (by decide) ?_
  refine r_istore (L1 := [.ref 93, .ref o, .int v2, .int v3, .int v4, .int (0 : Int32)]) hX dX6_run_44 (Nat.le_of_ble_eq_true rfl) rfl ?_
  refine WR.fg (L' := [.ref 93, vU, .int v2, .int v3, .int v4, .int (0 : Int32)]) ⟨Or.inr rfl, Or.inl rfl, Or.inr rfl, Or.inr rfl, Or.inr rfl, Or.inr rfl, trivial⟩ ?_
  obtain ⟨y10, h1, h⟩ := bnd_s h
  refine loop_ok (P := fun s1 : Int32 × Mm => WR G X (mQ G X (none) z SS) 46 [.ref 93, vU, .int v2, .int v3, .int v4, .int s1.1] [] s1.2 SS) (E := fun x1 : Mm => WR G X (mQ G X (none) z SS) 73 [.ref 93, vU, vU, vU, vU, vU] [] x1 SS) (fun s1 o1 g1 g2 g3 => ok_Tr_run_b46 n o s1.1 s1.2 ho hX hT hr g2 g3 g1) n ((0 : Int32), ((up2 (up2 (up2 (up2 (up2 z3.1 93 2 (z3.1 o 3)) 93 3 (0 : Int32)) 93 4 (0 : Int32)) 93 5 (-1 : Int32)) 93 6 (0 : Int32)), z3.2)) y10 h1 ?_
  show WR G X (mQ G X (none) z SS) 73 [.ref 93, vU, vU, vU, vU, vU] [] y10 SS
  obtain rfl := Option.some.inj h
  exact r_vret hX hT dX6_run_73
def Fg_feed (n : Nat) (v1 : Int32) (v2 : Int32) (v3 : Int32) (v4 : Int32) (v5 : Int32) (M : Mm) : Option (Int32 × Mm) :=
  if ((M.1 1 1) + (20 : Int32)) ≤ (240 : Int32) then
    bnd (Tp_append n v1 M) (fun z2 =>
    bnd (Tp_append n v2 z2) (fun z4 =>
    bnd (Tp_append n v3 z4) (fun z6 =>
    bnd (Tp_append n v4 z6) (fun z8 =>
    bnd (Tp_append n v5 z8) (fun z10 =>
    some (z10.1 1 1, z10))))))
  else
    some ((-1 : Int32), M)
set_option maxRecDepth 100000 in
theorem ok_Fg_feed {G : Gm} {l : Launch} {d : Nat} (n : Nat) (v1 : Int32) (v2 : Int32) (v3 : Int32) (v4 : Int32) (v5 : Int32) (M : Mm) {z : Int32 × Mm}  (h : Fg_feed n v1 v2 v3 v4 v5 M = some z) : CK G l (d + 1) md_Fg_feed [.ref 0, .int v1, .int v2, .int v3, .int v4, .int v5] M SS (some (.int z.1)) z.2 SS := by
  refine ck_of mk_Fg_feed (Nat.le_of_ble_eq_true rfl) ⟨Nat.le_refl _, Nat.le_refl _⟩ (fun X hX hT hS hr hl => ?_)
  subst hl
  unfold Fg_feed at h
  show WR G X (mQ G X (some (.int z.1)) z.2 SS) 0 [.ref 0, .int v1, .int v2, .int v3, .int v4, .int v5] [] M SS
  refine r_aload_n hX dX8_feed_0 rfl ?_
  refine r_getf (v := .ref 1) hX dX8_feed_1 fl_8_10 rfl (by decide) (by decide) rfl ?_
  refine r_getf (v := .int (M.1 1 1)) hX dX8_feed_4 fl_8_65 rfl (by decide) (by decide) rfl ?_
  refine r_bipush (v := (20 : Int32)) hX dX8_feed_7 (by decide) ?_
  refine r_iadd hX dX8_feed_9 ?_
  refine r_sipush (v := (240 : Int32)) hX dX8_feed_10 (by decide) ?_
  refine r_icmp_le (tgt := 18) hX dX8_feed_13 (by decide) (fun g1 => ?_) (fun g1 => ?_)
  · have h := (if_pos g1).symm.trans h
    refine r_aload_n hX dX8_feed_18 rfl ?_
    refine r_getf (v := .ref 1) hX dX8_feed_19 fl_8_10 rfl (by decide) (by decide) rfl ?_
    refine r_iload_n hX dX8_feed_22 rfl ?_
    obtain ⟨z2, p3, h⟩ := bnd_s h
    refine r_callV (As := [.int v1]) hX dX8_feed_23 mk_Tp_append mi_Tp_append ml_8_69 rfl rfl rfl rfl (by decide) (by decide) (Nat.le_of_ble_eq_true rfl) hr (ok_Tp_append (d := d + 0) n v1 M p3) ?_
    refine r_aload_n hX dX8_feed_26 rfl ?_
    refine r_getf (v := .ref 1) hX dX8_feed_27 fl_8_10 rfl (by decide) (by decide) rfl ?_
    refine r_iload_n hX dX8_feed_30 rfl ?_
    obtain ⟨z4, p5, h⟩ := bnd_s h
    refine r_callV (As := [.int v2]) hX dX8_feed_31 mk_Tp_append mi_Tp_append ml_8_69 rfl rfl rfl rfl (by decide) (by decide) (Nat.le_of_ble_eq_true rfl) hr (ok_Tp_append (d := d + 0) n v2 z2 p5) ?_
    refine r_aload_n hX dX8_feed_34 rfl ?_
    refine r_getf (v := .ref 1) hX dX8_feed_35 fl_8_10 rfl (by decide) (by decide) rfl ?_
    refine r_iload_n hX dX8_feed_38 rfl ?_
    obtain ⟨z6, p7, h⟩ := bnd_s h
    refine r_callV (As := [.int v3]) hX dX8_feed_39 mk_Tp_append mi_Tp_append ml_8_69 rfl rfl rfl rfl (by decide) (by decide) (Nat.le_of_ble_eq_true rfl) hr (ok_Tp_append (d := d + 0) n v3 z4 p7) ?_
    refine r_aload_n hX dX8_feed_42 rfl ?_
    refine r_getf (v := .ref 1) hX dX8_feed_43 fl_8_10 rfl (by decide) (by decide) rfl ?_
    refine r_iload hX dX8_feed_46 rfl ?_
    obtain ⟨z8, p9, h⟩ := bnd_s h
    refine r_callV (As := [.int v4]) hX dX8_feed_48 mk_Tp_append mi_Tp_append ml_8_69 rfl rfl rfl rfl (by decide) (by decide) (Nat.le_of_ble_eq_true rfl) hr (ok_Tp_append (d := d + 0) n v4 z6 p9) ?_
    refine r_aload_n hX dX8_feed_51 rfl ?_
    refine r_getf (v := .ref 1) hX dX8_feed_52 fl_8_10 rfl (by decide) (by decide) rfl ?_
    refine r_iload hX dX8_feed_55 rfl ?_
    obtain ⟨z10, p11, h⟩ := bnd_s h
    refine r_callV (As := [.int v5]) hX dX8_feed_57 mk_Tp_append mi_Tp_append ml_8_69 rfl rfl rfl rfl (by decide) (by decide) (Nat.le_of_ble_eq_true rfl) hr (ok_Tp_append (d := d + 0) n v5 z8 p11) ?_
    refine r_aload_n hX dX8_feed_60 rfl ?_
    refine r_getf (v := .ref 1) hX dX8_feed_61 fl_8_10 rfl (by decide) (by decide) rfl ?_
    refine r_getf (v := .int (z10.1 1 1)) hX dX8_feed_64 fl_8_65 rfl (by decide) (by decide) rfl ?_
    obtain rfl := Option.some.inj h
    exact r_iret hX hT dX8_feed_67 rfl
  · have h := (if_neg g1).symm.trans h
    refine r_iconst (v := (-1 : Int32)) hX dX8_feed_16 (by decide) ?_
    obtain rfl := Option.some.inj h
    exact r_iret hX hT dX8_feed_17 rfl
def Fg_isText (v1 : Int32) (M : Mm) : Option (Bool) :=
  if v1 < (1 : Int32) then
    some false
  else
    if (200 : Int32) < v1 then
      some false
    else
      if (M.1 1 1) < v1 then
        some false
      else
        some true
set_option maxRecDepth 100000 in
theorem ok_Fg_isText {G : Gm} {l : Launch} {d : Nat} (v1 : Int32) (M : Mm) {z : Bool}  (h : Fg_isText v1 M = some z) : CK G l (d + 0) md_Fg_isText [.ref 0, .int v1] M SS (some (.int (b2i z))) M SS := by
  refine ck_of mk_Fg_isText (Nat.le_of_ble_eq_true rfl) ⟨Nat.le_refl _, Nat.le_refl _⟩ (fun X hX hT hS hr hl => ?_)
  subst hl
  unfold Fg_isText at h
  show WR G X (mQ G X (some (.int (b2i z))) M SS) 0 [.ref 0, .int v1] [] M SS
  refine r_iload_n hX dX8_isText_0 rfl ?_
  refine r_iconst (v := (1 : Int32)) hX dX8_isText_1 (by decide) ?_
  refine r_icmp_lt (tgt := 27) hX dX8_isText_2 (by decide) (fun g1 => ?_) (fun g1 => ?_)
  · have h := (if_pos g1).symm.trans h
    refine r_iconst (v := (0 : Int32)) hX dX8_isText_27 (by decide) ?_
    obtain rfl := Option.some.inj h
    exact r_iret (v := b2i false) hX hT dX8_isText_28 (okI_b false).1
  · have h := (if_neg g1).symm.trans h
    refine r_iload_n hX dX8_isText_5 rfl ?_
    refine r_sipush (v := (200 : Int32)) hX dX8_isText_6 (by decide) ?_
    refine r_icmp_gt (tgt := 27) hX dX8_isText_9 (by decide) (fun g2 => ?_) (fun g2 => ?_)
    · have h := (if_pos g2).symm.trans h
      refine r_iconst (v := (0 : Int32)) hX dX8_isText_27 (by decide) ?_
      obtain rfl := Option.some.inj h
      exact r_iret (v := b2i false) hX hT dX8_isText_28 (okI_b false).1
    · have h := (if_neg g2).symm.trans h
      refine r_iload_n hX dX8_isText_12 rfl ?_
      refine r_aload_n hX dX8_isText_13 rfl ?_
      refine r_getf (v := .ref 1) hX dX8_isText_14 fl_8_10 rfl (by decide) (by decide) rfl ?_
      refine r_getf (v := .int (M.1 1 1)) hX dX8_isText_17 fl_8_65 rfl (by decide) (by decide) rfl ?_
      refine r_icmp_gt (tgt := 27) hX dX8_isText_20 (by decide) (fun g3 => ?_) (fun g3 => ?_)
      · have h := (if_pos g3).symm.trans h
        refine r_iconst (v := (0 : Int32)) hX dX8_isText_27 (by decide) ?_
        obtain rfl := Option.some.inj h
        exact r_iret (v := b2i false) hX hT dX8_isText_28 (okI_b false).1
      · have h := (if_neg g3).symm.trans h
        refine r_iconst (v := (1 : Int32)) hX dX8_isText_23 (by decide) ?_
        refine r_goto (tgt := 28) hX dX8_isText_24 (by decide) ?_
        obtain rfl := Option.some.inj h
        exact r_iret (v := b2i true) hX hT dX8_isText_28 (okI_b true).1
def Fg_grid (n : Nat) (v1 : Int32) (M : Mm) : Option (Int32 × Mm) :=
  bnd (Fg_isText v1 M) (fun z1 =>
  if z1 = true then
    bnd (Rd_readText n v1 true M) (fun z4 =>
    if z4.1 < (0 : Int32) then
      some (z4.1, ((up2 z4.2.1 1 1 (0 : Int32)), z4.2.2))
    else
      bnd (St_beginWith n 18 4 ((up2 z4.2.1 1 1 (0 : Int32)), z4.2.2)) (fun z7 =>
      bnd (Fi_forgetWays n z7) (fun z9 =>
      some (z4.1, z9))))
  else
    some ((-1 : Int32), M))
set_option maxRecDepth 100000 in
theorem ok_Fg_grid {G : Gm} {l : Launch} {d : Nat} (n : Nat) (v1 : Int32) (M : Mm) {z : Int32 × Mm}  (h : Fg_grid n v1 M = some z) : CK G l (d + 8) md_Fg_grid [.ref 0, .int v1] M SS (some (.int z.1)) z.2 SS := by
  refine ck_of mk_Fg_grid (Nat.le_of_ble_eq_true rfl) ⟨Nat.le_refl _, Nat.le_refl _⟩ (fun X hX hT hS hr hl => ?_)
  subst hl
  unfold Fg_grid at h
  show WR G X (mQ G X (some (.int z.1)) z.2 SS) 0 [.ref 0, .int v1, vU] [] M SS
  refine r_aload_n hX dX8_grid_0 rfl ?_
  refine r_iload_n hX dX8_grid_1 rfl ?_
  obtain ⟨z1, p2, h⟩ := bnd_s h
  refine r_callV (As := [.int v1]) hX dX8_grid_2 mk_Fg_isText mi_Fg_isText ml_8_73 rfl rfl rfl rfl (by decide) (by decide) (Nat.le_of_ble_eq_true rfl) hr (ok_Fg_isText (d := d + 7) v1 M p2) ?_
  refine r_ifb_ne (tgt := 10) hX dX8_grid_5 (by decide) (fun g3 => ?_) (fun g3 => ?_)
  · have h := (if_pos g3).symm.trans h
    refine r_aload_n hX dX8_grid_10 rfl ?_
    refine r_getf (v := .ref 3) hX dX8_grid_11 fl_8_21 rfl (by decide) (by decide) rfl ?_
    refine r_iload_n hX dX8_grid_14 rfl ?_
    refine r_iconst (v := (1 : Int32)) hX dX8_grid_15 (by decide) ?_
    obtain ⟨z4, p5, h⟩ := bnd_s h
    refine r_callV (As := [.int v1, .int (1 : Int32)]) hX dX8_grid_16 mk_Rd_readText mi_Rd_readText ml_8_77 rfl rfl rfl rfl (by decide) (by decide) (Nat.le_of_ble_eq_true rfl) hr (ok_Rd_readText (d := d + 0) n v1 true M p5) ?_
    refine r_istore_n (L1 := [.ref 0, .int v1, .int z4.1]) hX dX8_grid_19 (Nat.le_of_ble_eq_true rfl) rfl ?_
    refine r_aload_n hX dX8_grid_20 rfl ?_
    refine r_getf (v := .ref 1) hX dX8_grid_21 fl_8_10 rfl (by decide) (by decide) rfl ?_
    refine r_iconst (v := (0 : Int32)) hX dX8_grid_24 (by decide) ?_
    refine r_putI hX dX8_grid_25 fl_8_65 rfl (by decide) (by decide) (okI_int _) ?_
    refine r_iload_n hX dX8_grid_28 rfl ?_
    refine r_if_lt (tgt := 53) hX dX8_grid_29 (by decide) (fun g6 => ?_) (fun g6 => ?_)
    · have h := (if_pos g6).symm.trans h
      refine r_iload_n hX dX8_grid_53 rfl ?_
      obtain rfl := Option.some.inj h
      exact r_iret hX hT dX8_grid_54 rfl
    · have h := (if_neg g6).symm.trans h
      refine r_aload_n hX dX8_grid_32 rfl ?_
      refine r_getf (v := .ref 18) hX dX8_grid_33 fl_8_35 rfl (by decide) (by decide) rfl ?_
      refine r_aload_n hX dX8_grid_36 rfl ?_
      refine r_getf (v := .ref 3) hX dX8_grid_37 fl_8_21 rfl (by decide) (by decide) rfl ?_
      refine r_getf (v := .ref 4) hX dX8_grid_40 fl_8_81 rfl (by decide) (by decide) rfl ?_
      obtain ⟨z7, p8, h⟩ := bnd_s h
      refine r_callV (As := [.ref 4]) hX dX8_grid_43 mk_St_beginWith mi_St_beginWith ml_8_85 rfl rfl rfl rfl (by decide) (by decide) (Nat.le_of_ble_eq_true rfl) hr (ok_St_beginWith (d := d + 5) n 18 4 ((up2 z4.2.1 1 1 (0 : Int32)), z4.2.2) st18 nt4 p8) ?_
      refine r_aload_n hX dX8_grid_46 rfl ?_
      refine r_getf (v := .ref 12) hX dX8_grid_47 fl_8_28 rfl (by decide) (by decide) rfl ?_
      obtain ⟨z9, p10, h⟩ := bnd_s h
      refine r_callV (As := []) hX dX8_grid_50 mk_Fi_forgetWays mi_Fi_forgetWays ml_8_89 rfl rfl rfl rfl (by decide) (by decide) (Nat.le_of_ble_eq_true rfl) hr (ok_Fi_forgetWays (d := d + 6) n z7 p10) ?_
      refine r_iload_n hX dX8_grid_53 rfl ?_
      obtain rfl := Option.some.inj h
      exact r_iret hX hT dX8_grid_54 rfl
  · have h := (if_neg (show ¬ z1 = true from fun e => by rw [g3] at e; cases e)).symm.trans h
    refine r_iconst (v := (-1 : Int32)) hX dX8_grid_8 (by decide) ?_
    obtain rfl := Option.some.inj h
    exact r_iret hX hT dX8_grid_9 rfl
def Fg_isRule (v0 : Int32) (M : Mm) : Option (Bool) :=
  if v0 < (0 : Int32) then
    some false
  else
    if (3 : Int32) < v0 then
      some false
    else
      some true
set_option maxRecDepth 100000 in
theorem ok_Fg_isRule {G : Gm} {l : Launch} {d : Nat} (v0 : Int32) (M : Mm) {z : Bool}  (h : Fg_isRule v0 M = some z) : CK G l (d + 0) md_Fg_isRule [.int v0] M SS (some (.int (b2i z))) M SS := by
  refine ck_of mk_Fg_isRule (Nat.le_of_ble_eq_true rfl) ⟨Nat.le_refl _, Nat.le_refl _⟩ (fun X hX hT hS hr hl => ?_)
  subst hl
  unfold Fg_isRule at h
  show WR G X (mQ G X (some (.int (b2i z))) M SS) 0 [.int v0] [] M SS
  refine r_iload_n hX dX8_isRule_0 rfl ?_
  refine r_if_lt (tgt := 13) hX dX8_isRule_1 (by decide) (fun g1 => ?_) (fun g1 => ?_)
  · have h := (if_pos g1).symm.trans h
    refine r_iconst (v := (0 : Int32)) hX dX8_isRule_13 (by decide) ?_
    obtain rfl := Option.some.inj h
    exact r_iret (v := b2i false) hX hT dX8_isRule_14 (okI_b false).1
  · have h := (if_neg g1).symm.trans h
    refine r_iload_n hX dX8_isRule_4 rfl ?_
    refine r_iconst (v := (3 : Int32)) hX dX8_isRule_5 (by decide) ?_
    refine r_icmp_gt (tgt := 13) hX dX8_isRule_6 (by decide) (fun g2 => ?_) (fun g2 => ?_)
    · have h := (if_pos g2).symm.trans h
      refine r_iconst (v := (0 : Int32)) hX dX8_isRule_13 (by decide) ?_
      obtain rfl := Option.some.inj h
      exact r_iret (v := b2i false) hX hT dX8_isRule_14 (okI_b false).1
    · have h := (if_neg g2).symm.trans h
      refine r_iconst (v := (1 : Int32)) hX dX8_isRule_9 (by decide) ?_
      refine r_goto (tgt := 14) hX dX8_isRule_10 (by decide) ?_
      obtain rfl := Option.some.inj h
      exact r_iret (v := b2i true) hX hT dX8_isRule_14 (okI_b true).1
def Fg_arePlaces (v1 : Int32) (v2 : Int32) (M : Mm) : Option (Bool) :=
  if v1 < (0 : Int32) then
    some false
  else
    if (M.1 19 0) ≤ v1 then
      some false
    else
      if v2 < (0 : Int32) then
        some false
      else
        if (M.1 19 0) ≤ v2 then
          some false
        else
          if v1 = v2 then
            some false
          else
            some true
set_option maxRecDepth 100000 in
theorem ok_Fg_arePlaces {G : Gm} {l : Launch} {d : Nat} (v1 : Int32) (v2 : Int32) (M : Mm) {z : Bool}  (h : Fg_arePlaces v1 v2 M = some z) : CK G l (d + 0) md_Fg_arePlaces [.ref 0, .int v1, .int v2] M SS (some (.int (b2i z))) M SS := by
  refine ck_of mk_Fg_arePlaces (Nat.le_of_ble_eq_true rfl) ⟨Nat.le_refl _, Nat.le_refl _⟩ (fun X hX hT hS hr hl => ?_)
  subst hl
  unfold Fg_arePlaces at h
  show WR G X (mQ G X (some (.int (b2i z))) M SS) 0 [.ref 0, .int v1, .int v2, vU] [] M SS
  refine r_aload_n hX dX8_arePlaces_0 rfl ?_
  refine r_getf (v := .ref 18) hX dX8_arePlaces_1 fl_8_35 rfl (by decide) (by decide) rfl ?_
  refine r_getf (v := .ref 19) hX dX8_arePlaces_4 fl_8_204 rfl (by decide) (by decide) rfl ?_
  refine r_getf (v := .int (M.1 19 0)) hX dX8_arePlaces_7 fl_8_268 rfl (by decide) (by decide) rfl ?_
  refine r_istore_n (L1 := [.ref 0, .int v1, .int v2, .int (M.1 19 0)]) hX dX8_arePlaces_10 (Nat.le_of_ble_eq_true rfl) rfl ?_
  refine r_iload_n hX dX8_arePlaces_11 rfl ?_
  refine r_if_lt (tgt := 38) hX dX8_arePlaces_12 (by decide) (fun g1 => ?_) (fun g1 => ?_)
  · have h := (if_pos g1).symm.trans h
    refine r_iconst (v := (0 : Int32)) hX dX8_arePlaces_38 (by decide) ?_
    obtain rfl := Option.some.inj h
    exact r_iret (v := b2i false) hX hT dX8_arePlaces_39 (okI_b false).1
  · have h := (if_neg g1).symm.trans h
    refine r_iload_n hX dX8_arePlaces_15 rfl ?_
    refine r_iload_n hX dX8_arePlaces_16 rfl ?_
    refine r_icmp_ge (tgt := 38) hX dX8_arePlaces_17 (by decide) (fun g2 => ?_) (fun g2 => ?_)
    · have h := (if_pos g2).symm.trans h
      refine r_iconst (v := (0 : Int32)) hX dX8_arePlaces_38 (by decide) ?_
      obtain rfl := Option.some.inj h
      exact r_iret (v := b2i false) hX hT dX8_arePlaces_39 (okI_b false).1
    · have h := (if_neg g2).symm.trans h
      refine r_iload_n hX dX8_arePlaces_20 rfl ?_
      refine r_if_lt (tgt := 38) hX dX8_arePlaces_21 (by decide) (fun g3 => ?_) (fun g3 => ?_)
      · have h := (if_pos g3).symm.trans h
        refine r_iconst (v := (0 : Int32)) hX dX8_arePlaces_38 (by decide) ?_
        obtain rfl := Option.some.inj h
        exact r_iret (v := b2i false) hX hT dX8_arePlaces_39 (okI_b false).1
      · have h := (if_neg g3).symm.trans h
        refine r_iload_n hX dX8_arePlaces_24 rfl ?_
        refine r_iload_n hX dX8_arePlaces_25 rfl ?_
        refine r_icmp_ge (tgt := 38) hX dX8_arePlaces_26 (by decide) (fun g4 => ?_) (fun g4 => ?_)
        · have h := (if_pos g4).symm.trans h
          refine r_iconst (v := (0 : Int32)) hX dX8_arePlaces_38 (by decide) ?_
          obtain rfl := Option.some.inj h
          exact r_iret (v := b2i false) hX hT dX8_arePlaces_39 (okI_b false).1
        · have h := (if_neg g4).symm.trans h
          refine r_iload_n hX dX8_arePlaces_29 rfl ?_
          refine r_iload_n hX dX8_arePlaces_30 rfl ?_
          refine r_icmp_eq (tgt := 38) hX dX8_arePlaces_31 (by decide) (fun g5 => ?_) (fun g5 => ?_)
          · have h := (if_pos g5).symm.trans h
            refine r_iconst (v := (0 : Int32)) hX dX8_arePlaces_38 (by decide) ?_
            obtain rfl := Option.some.inj h
            exact r_iret (v := b2i false) hX hT dX8_arePlaces_39 (okI_b false).1
          · have h := (if_neg g5).symm.trans h
            refine r_iconst (v := (1 : Int32)) hX dX8_arePlaces_34 (by decide) ?_
            refine r_goto (tgt := 39) hX dX8_arePlaces_35 (by decide) ?_
            obtain rfl := Option.some.inj h
            exact r_iret (v := b2i true) hX hT dX8_arePlaces_39 (okI_b true).1
def Fg_isWish (v1 : Int32) (v2 : Int32) (v3 : Int32) (M : Mm) : Option (Bool) :=
  bnd (Fg_arePlaces v1 v2 M) (fun z1 =>
  if z1 = true then
    if v3 < (1 : Int32) then
      some false
    else
      if (64 : Int32) < v3 then
        some false
      else
        some true
  else
    some false)
set_option maxRecDepth 100000 in
theorem ok_Fg_isWish {G : Gm} {l : Launch} {d : Nat} (v1 : Int32) (v2 : Int32) (v3 : Int32) (M : Mm) {z : Bool}  (h : Fg_isWish v1 v2 v3 M = some z) : CK G l (d + 1) md_Fg_isWish [.ref 0, .int v1, .int v2, .int v3] M SS (some (.int (b2i z))) M SS := by
  refine ck_of mk_Fg_isWish (Nat.le_of_ble_eq_true rfl) ⟨Nat.le_refl _, Nat.le_refl _⟩ (fun X hX hT hS hr hl => ?_)
  subst hl
  unfold Fg_isWish at h
  show WR G X (mQ G X (some (.int (b2i z))) M SS) 0 [.ref 0, .int v1, .int v2, .int v3] [] M SS
  refine r_aload_n hX dX8_isWish_0 rfl ?_
  refine r_iload_n hX dX8_isWish_1 rfl ?_
  refine r_iload_n hX dX8_isWish_2 rfl ?_
  obtain ⟨z1, p2, h⟩ := bnd_s h
  refine r_callV (As := [.int v1, .int v2]) hX dX8_isWish_3 mk_Fg_arePlaces mi_Fg_arePlaces ml_8_343 rfl rfl rfl rfl (by decide) (by decide) (Nat.le_of_ble_eq_true rfl) hr (ok_Fg_arePlaces (d := d + 0) v1 v2 M p2) ?_
  refine r_ifb_eq (tgt := 24) hX dX8_isWish_6 (by decide) (fun g3 => ?_) (fun g3 => ?_)
  · have h := (if_neg (show ¬ z1 = true from fun e => by rw [g3] at e; cases e)).symm.trans h
    refine r_iconst (v := (0 : Int32)) hX dX8_isWish_24 (by decide) ?_
    obtain rfl := Option.some.inj h
    exact r_iret (v := b2i false) hX hT dX8_isWish_25 (okI_b false).1
  · have h := (if_pos g3).symm.trans h
    refine r_iload_n hX dX8_isWish_9 rfl ?_
    refine r_iconst (v := (1 : Int32)) hX dX8_isWish_10 (by decide) ?_
    refine r_icmp_lt (tgt := 24) hX dX8_isWish_11 (by decide) (fun g4 => ?_) (fun g4 => ?_)
    · have h := (if_pos g4).symm.trans h
      refine r_iconst (v := (0 : Int32)) hX dX8_isWish_24 (by decide) ?_
      obtain rfl := Option.some.inj h
      exact r_iret (v := b2i false) hX hT dX8_isWish_25 (okI_b false).1
    · have h := (if_neg g4).symm.trans h
      refine r_iload_n hX dX8_isWish_14 rfl ?_
      refine r_bipush (v := (64 : Int32)) hX dX8_isWish_15 (by decide) ?_
      refine r_icmp_gt (tgt := 24) hX dX8_isWish_17 (by decide) (fun g5 => ?_) (fun g5 => ?_)
      · have h := (if_pos g5).symm.trans h
        refine r_iconst (v := (0 : Int32)) hX dX8_isWish_24 (by decide) ?_
        obtain rfl := Option.some.inj h
        exact r_iret (v := b2i false) hX hT dX8_isWish_25 (okI_b false).1
      · have h := (if_neg g5).symm.trans h
        refine r_iconst (v := (1 : Int32)) hX dX8_isWish_20 (by decide) ?_
        refine r_goto (tgt := 25) hX dX8_isWish_21 (by decide) ?_
        obtain rfl := Option.some.inj h
        exact r_iret (v := b2i true) hX hT dX8_isWish_25 (okI_b true).1
def Fg_ask (n : Nat) (v1 : Int32) (v2 : Int32) (v3 : Int32) (v4 : Int32) (M : Mm) : Option (Int32 × Mm) :=
  bnd (Fg_isWish v1 v2 v3 M) (fun z1 =>
  if z1 = true then
    bnd (Fg_isRule v4 M) (fun z4 =>
    if z4 = true then
      if (M.1 18 4) < (40 : Int32) then
        bnd (St_add 18 v1 v2 v3 M) (fun z8 =>
        bnd (Fi_find n 18 v1 v2 v3 v4 z8.2) (fun z10 =>
        if z10.1 = true then
          bnd (St_put n 18 z8.1 (z10.2.1 12 2) (z10.2.1 12 3) (z10.2.1 12 4) z10.2) (fun z13 =>
          some (z8.1, z13))
        else
          some ((-2 : Int32), z10.2)))
      else
        some ((-3 : Int32), M)
    else
      some ((-1 : Int32), M))
  else
    some ((-1 : Int32), M))
set_option maxRecDepth 100000 in
theorem ok_Fg_ask {G : Gm} {l : Launch} {d : Nat} (n : Nat) (v1 : Int32) (v2 : Int32) (v3 : Int32) (v4 : Int32) (M : Mm) {z : Int32 × Mm}  (h : Fg_ask n v1 v2 v3 v4 M = some z) : CK G l (d + 13) md_Fg_ask [.ref 0, .int v1, .int v2, .int v3, .int v4] M SS (some (.int z.1)) z.2 SS := by
  refine ck_of mk_Fg_ask (Nat.le_of_ble_eq_true rfl) ⟨Nat.le_refl _, Nat.le_refl _⟩ (fun X hX hT hS hr hl => ?_)
  subst hl
  unfold Fg_ask at h
  show WR G X (mQ G X (some (.int z.1)) z.2 SS) 0 [.ref 0, .int v1, .int v2, .int v3, .int v4, vU] [] M SS
  refine r_aload_n hX dX8_ask_0 rfl ?_
  refine r_iload_n hX dX8_ask_1 rfl ?_
  refine r_iload_n hX dX8_ask_2 rfl ?_
  refine r_iload_n hX dX8_ask_3 rfl ?_
  obtain ⟨z1, p2, h⟩ := bnd_s h
  refine r_callV (As := [.int v1, .int v2, .int v3]) hX dX8_ask_4 mk_Fg_isWish mi_Fg_isWish ml_8_138 rfl rfl rfl rfl (by decide) (by decide) (Nat.le_of_ble_eq_true rfl) hr (ok_Fg_isWish (d := d + 11) v1 v2 v3 M p2) ?_
  refine r_ifb_eq (tgt := 18) hX dX8_ask_7 (by decide) (fun g3 => ?_) (fun g3 => ?_)
  · have h := (if_neg (show ¬ z1 = true from fun e => by rw [g3] at e; cases e)).symm.trans h
    refine r_iconst (v := (-1 : Int32)) hX dX8_ask_18 (by decide) ?_
    obtain rfl := Option.some.inj h
    exact r_iret hX hT dX8_ask_19 rfl
  · have h := (if_pos g3).symm.trans h
    refine r_iload hX dX8_ask_10 rfl ?_
    obtain ⟨z4, p5, h⟩ := bnd_s h
    refine r_callS (As := [.int v4]) hX dX8_ask_12 mk_Fg_isRule ms_Fg_isRule ml_8_142 rfl rfl rfl (Nat.le_of_ble_eq_true rfl) hr (ok_Fg_isRule (d := d + 12) v4 M p5) ?_
    refine r_ifb_ne (tgt := 20) hX dX8_ask_15 (by decide) (fun g6 => ?_) (fun g6 => ?_)
    · have h := (if_pos g6).symm.trans h
      refine r_aload_n hX dX8_ask_20 rfl ?_
      refine r_getf (v := .ref 18) hX dX8_ask_21 fl_8_35 rfl (by decide) (by decide) rfl ?_
      refine r_getf (v := .int (M.1 18 4)) hX dX8_ask_24 fl_8_145 rfl (by decide) (by decide) rfl ?_
      refine r_bipush (v := (40 : Int32)) hX dX8_ask_27 (by decide) ?_
      refine r_icmp_lt (tgt := 35) hX dX8_ask_29 (by decide) (fun g7 => ?_) (fun g7 => ?_)
      · have h := (if_pos g7).symm.trans h
        refine r_aload_n hX dX8_ask_35 rfl ?_
        refine r_getf (v := .ref 18) hX dX8_ask_36 fl_8_35 rfl (by decide) (by decide) rfl ?_
        refine r_iload_n hX dX8_ask_39 rfl ?_
        refine r_iload_n hX dX8_ask_40 rfl ?_
        refine r_iload_n hX dX8_ask_41 rfl ?_
        obtain ⟨z8, p9, h⟩ := bnd_s h
        refine r_callV (As := [.int v1, .int v2, .int v3]) hX dX8_ask_42 mk_St_add mi_St_add ml_8_148 rfl rfl rfl rfl (by decide) (by decide) (Nat.le_of_ble_eq_true rfl) hr (ok_St_add (d := d + 12) 18 v1 v2 v3 M st18 p9) ?_
        refine r_istore (L1 := [.ref 0, .int v1, .int v2, .int v3, .int v4, .int z8.1]) hX dX8_ask_45 (Nat.le_of_ble_eq_true rfl) rfl ?_
        refine r_aload_n hX dX8_ask_47 rfl ?_
        refine r_getf (v := .ref 12) hX dX8_ask_48 fl_8_28 rfl (by decide) (by decide) rfl ?_
        refine r_aload_n hX dX8_ask_51 rfl ?_
        refine r_getf (v := .ref 18) hX dX8_ask_52 fl_8_35 rfl (by decide) (by decide) rfl ?_
        refine r_iload_n hX dX8_ask_55 rfl ?_
        refine r_iload_n hX dX8_ask_56 rfl ?_
        refine r_iload_n hX dX8_ask_57 rfl ?_
        refine r_iload hX dX8_ask_58 rfl ?_
        obtain ⟨z10, p11, h⟩ := bnd_s h
        refine r_callV (As := [.ref 18, .int v1, .int v2, .int v3, .int v4]) hX dX8_ask_60 mk_Fi_find mi_Fi_find ml_8_152 rfl rfl rfl rfl (by decide) (by decide) (Nat.le_of_ble_eq_true rfl) hr (ok_Fi_find (d := d + 0) n 18 v1 v2 v3 v4 z8.2 st18 p11) ?_
        refine r_ifb_ne (tgt := 69) hX dX8_ask_63 (by decide) (fun g12 => ?_) (fun g12 => ?_)
        · have h := (if_pos g12).symm.trans h
          refine r_aload_n hX dX8_ask_69 rfl ?_
          refine r_getf (v := .ref 18) hX dX8_ask_70 fl_8_35 rfl (by decide) (by decide) rfl ?_
          refine r_iload hX dX8_ask_73 rfl ?_
          refine r_aload_n hX dX8_ask_75 rfl ?_
          refine r_getf (v := .ref 12) hX dX8_ask_76 fl_8_28 rfl (by decide) (by decide) rfl ?_
          refine r_getf (v := .int (z10.2.1 12 2)) hX dX8_ask_79 fl_8_156 rfl (by decide) (by decide) rfl ?_
          refine r_aload_n hX dX8_ask_82 rfl ?_
          refine r_getf (v := .ref 12) hX dX8_ask_83 fl_8_28 rfl (by decide) (by decide) rfl ?_
          refine r_getf (v := .int (z10.2.1 12 3)) hX dX8_ask_86 fl_8_159 rfl (by decide) (by decide) rfl ?_
          refine r_aload_n hX dX8_ask_89 rfl ?_
          refine r_getf (v := .ref 12) hX dX8_ask_90 fl_8_28 rfl (by decide) (by decide) rfl ?_
          refine r_getf (v := .int (z10.2.1 12 4)) hX dX8_ask_93 fl_8_162 rfl (by decide) (by decide) rfl ?_
          obtain ⟨z13, p14, h⟩ := bnd_s h
          refine r_callV (As := [.int z8.1, .int (z10.2.1 12 2), .int (z10.2.1 12 3), .int (z10.2.1 12 4)]) hX dX8_ask_96 mk_St_put mi_St_put ml_8_165 rfl rfl rfl rfl (by decide) (by decide) (Nat.le_of_ble_eq_true rfl) hr (ok_St_put (d := d + 11) n 18 z8.1 (z10.2.1 12 2) (z10.2.1 12 3) (z10.2.1 12 4) z10.2 st18 p14) ?_
          refine r_iload hX dX8_ask_99 rfl ?_
          obtain rfl := Option.some.inj h
          exact r_iret hX hT dX8_ask_101 rfl
        · have h := (if_neg (show ¬ z10.1 = true from fun e => by rw [g12] at e; cases e)).symm.trans h
          refine r_bipush (v := (-2 : Int32)) hX dX8_ask_66 (by decide) ?_
          obtain rfl := Option.some.inj h
          exact r_iret hX hT dX8_ask_68 rfl
      · have h := (if_neg g7).symm.trans h
        refine r_bipush (v := (-3 : Int32)) hX dX8_ask_32 (by decide) ?_
        obtain rfl := Option.some.inj h
        exact r_iret hX hT dX8_ask_34 rfl
    · have h := (if_neg (show ¬ z4 = true from fun e => by rw [g6] at e; cases e)).symm.trans h
      refine r_iconst (v := (-1 : Int32)) hX dX8_ask_18 (by decide) ?_
      obtain rfl := Option.some.inj h
      exact r_iret hX hT dX8_ask_19 rfl
def Fg_cut (n : Nat) (v1 : Int32) (M : Mm) : Option (Int32 × Mm) :=
  bnd (St_hasLink 18 v1 M) (fun z1 =>
  if z1 = true then
    bnd (St_isUp 18 v1 M) (fun z4 =>
    if z4 = true then
      bnd (St_sever n 18 v1 M) (fun z7 =>
      some (z7.1, z7.2))
    else
      some ((-2 : Int32), M))
  else
    some ((-1 : Int32), M))
set_option maxRecDepth 100000 in
theorem ok_Fg_cut {G : Gm} {l : Launch} {d : Nat} (n : Nat) (v1 : Int32) (M : Mm) {z : Int32 × Mm}  (h : Fg_cut n v1 M = some z) : CK G l (d + 2) md_Fg_cut [.ref 0, .int v1] M SS (some (.int z.1)) z.2 SS := by
  refine ck_of mk_Fg_cut (Nat.le_of_ble_eq_true rfl) ⟨Nat.le_refl _, Nat.le_refl _⟩ (fun X hX hT hS hr hl => ?_)
  subst hl
  unfold Fg_cut at h
  show WR G X (mQ G X (some (.int z.1)) z.2 SS) 0 [.ref 0, .int v1] [] M SS
  refine r_aload_n hX dX8_cut_0 rfl ?_
  refine r_getf (v := .ref 18) hX dX8_cut_1 fl_8_35 rfl (by decide) (by decide) rfl ?_
  refine r_iload_n hX dX8_cut_4 rfl ?_
  obtain ⟨z1, p2, h⟩ := bnd_s h
  refine r_callV (As := [.int v1]) hX dX8_cut_5 mk_St_hasLink mi_St_hasLink ml_8_216 rfl rfl rfl rfl (by decide) (by decide) (Nat.le_of_ble_eq_true rfl) hr (ok_St_hasLink (d := d + 1) 18 v1 M st18 p2) ?_
  refine r_ifb_ne (tgt := 13) hX dX8_cut_8 (by decide) (fun g3 => ?_) (fun g3 => ?_)
  · have h := (if_pos g3).symm.trans h
    refine r_aload_n hX dX8_cut_13 rfl ?_
    refine r_getf (v := .ref 18) hX dX8_cut_14 fl_8_35 rfl (by decide) (by decide) rfl ?_
    refine r_iload_n hX dX8_cut_17 rfl ?_
    obtain ⟨z4, p5, h⟩ := bnd_s h
    refine r_callV (As := [.int v1]) hX dX8_cut_18 mk_St_isUp mi_St_isUp ml_8_219 rfl rfl rfl rfl (by decide) (by decide) (Nat.le_of_ble_eq_true rfl) hr (ok_St_isUp (d := d + 1) 18 v1 M st18 p5) ?_
    refine r_ifb_ne (tgt := 27) hX dX8_cut_21 (by decide) (fun g6 => ?_) (fun g6 => ?_)
    · have h := (if_pos g6).symm.trans h
      refine r_aload_n hX dX8_cut_27 rfl ?_
      refine r_getf (v := .ref 18) hX dX8_cut_28 fl_8_35 rfl (by decide) (by decide) rfl ?_
      refine r_iload_n hX dX8_cut_31 rfl ?_
      obtain ⟨z7, p8, h⟩ := bnd_s h
      refine r_callV (As := [.int v1]) hX dX8_cut_32 mk_St_sever mi_St_sever ml_8_222 rfl rfl rfl rfl (by decide) (by decide) (Nat.le_of_ble_eq_true rfl) hr (ok_St_sever (d := d + 0) n 18 v1 M st18 p8) ?_
      obtain rfl := Option.some.inj h
      exact r_iret hX hT dX8_cut_35 rfl
    · have h := (if_neg (show ¬ z4 = true from fun e => by rw [g6] at e; cases e)).symm.trans h
      refine r_bipush (v := (-2 : Int32)) hX dX8_cut_24 (by decide) ?_
      obtain rfl := Option.some.inj h
      exact r_iret hX hT dX8_cut_26 rfl
  · have h := (if_neg (show ¬ z1 = true from fun e => by rw [g3] at e; cases e)).symm.trans h
    refine r_iconst (v := (-1 : Int32)) hX dX8_cut_11 (by decide) ?_
    obtain rfl := Option.some.inj h
    exact r_iret hX hT dX8_cut_12 rfl
def Fg_drop (n : Nat) (v1 : Int32) (M : Mm) : Option (Bool × Mm) :=
  bnd (St_has 18 v1 M) (fun z1 =>
  if z1 = true then
    grd (inb v1 40) (
    if (M.1 28 (tn v1)) = (3 : Int32) then
      some (false, M)
    else
      bnd (St_takeOff n 18 v1 (3 : Int32) M) (fun z6 =>
      some (true, z6)))
  else
    some (false, M))
set_option maxRecDepth 100000 in
theorem ok_Fg_drop {G : Gm} {l : Launch} {d : Nat} (n : Nat) (v1 : Int32) (M : Mm) {z : Bool × Mm}  (h : Fg_drop n v1 M = some z) : CK G l (d + 1) md_Fg_drop [.ref 0, .int v1] M SS (some (.int (b2i z.1))) z.2 SS := by
  refine ck_of mk_Fg_drop (Nat.le_of_ble_eq_true rfl) ⟨Nat.le_refl _, Nat.le_refl _⟩ (fun X hX hT hS hr hl => ?_)
  subst hl
  unfold Fg_drop at h
  show WR G X (mQ G X (some (.int (b2i z.1))) z.2 SS) 0 [.ref 0, .int v1] [] M SS
  refine r_aload_n hX dX8_drop_0 rfl ?_
  refine r_getf (v := .ref 18) hX dX8_drop_1 fl_8_35 rfl (by decide) (by decide) rfl ?_
  refine r_iload_n hX dX8_drop_4 rfl ?_
  obtain ⟨z1, p2, h⟩ := bnd_s h
  refine r_callV (As := [.int v1]) hX dX8_drop_5 mk_St_has mi_St_has ml_8_169 rfl rfl rfl rfl (by decide) (by decide) (Nat.le_of_ble_eq_true rfl) hr (ok_St_has (d := d + 0) 18 v1 M st18 p2) ?_
  refine r_ifb_eq (tgt := 24) hX dX8_drop_8 (by decide) (fun g3 => ?_) (fun g3 => ?_)
  · have h := (if_neg (show ¬ z1 = true from fun e => by rw [g3] at e; cases e)).symm.trans h
    refine r_iconst (v := (0 : Int32)) hX dX8_drop_24 (by decide) ?_
    obtain rfl := Option.some.inj h
    exact r_iret (v := b2i false) hX hT dX8_drop_25 (okI_b false).1
  · have h := (if_pos g3).symm.trans h
    refine r_aload_n hX dX8_drop_11 rfl ?_
    refine r_getf (v := .ref 18) hX dX8_drop_12 fl_8_35 rfl (by decide) (by decide) rfl ?_
    refine r_getf (v := .ref 28) hX dX8_drop_15 fl_8_172 rfl (by decide) (by decide) rfl ?_
    refine r_iload_n hX dX8_drop_18 rfl ?_
    obtain ⟨k4, h⟩ := grd_s h
    refine r_iald hX dX8_drop_19 rfl (by decide) (inb_at rfl k4) ?_
    refine r_iconst (v := (3 : Int32)) hX dX8_drop_20 (by decide) ?_
    refine r_icmp_ne (tgt := 26) hX dX8_drop_21 (by decide) (fun g5 => ?_) (fun g5 => ?_)
    · have h := (if_neg g5).symm.trans h
      refine r_aload_n hX dX8_drop_26 rfl ?_
      refine r_getf (v := .ref 18) hX dX8_drop_27 fl_8_35 rfl (by decide) (by decide) rfl ?_
      refine r_iload_n hX dX8_drop_30 rfl ?_
      refine r_iconst (v := (3 : Int32)) hX dX8_drop_31 (by decide) ?_
      obtain ⟨z6, p7, h⟩ := bnd_s h
      refine r_callV (As := [.int v1, .int (3 : Int32)]) hX dX8_drop_32 mk_St_takeOff mi_St_takeOff ml_8_176 rfl rfl rfl rfl (by decide) (by decide) (Nat.le_of_ble_eq_true rfl) hr (ok_St_takeOff (d := d + 0) n 18 v1 (3 : Int32) M st18 p7) ?_
      refine r_iconst (v := (1 : Int32)) hX dX8_drop_35 (by decide) ?_
      obtain rfl := Option.some.inj h
      exact r_iret (v := b2i true) hX hT dX8_drop_36 (okI_b true).1
    · have h := (if_pos g5).symm.trans h
      refine r_iconst (v := (0 : Int32)) hX dX8_drop_24 (by decide) ?_
      obtain rfl := Option.some.inj h
      exact r_iret (v := b2i false) hX hT dX8_drop_25 (okI_b false).1
def Fg_jump_j29 (M : Mm) : Option (Int32 × Mm) :=
  some ((-1000 : Int32), M)
def Fg_jump (n : Nat) (v1 : Int32) (v2 : Int32) (M : Mm) : Option (Int32 × Mm) :=
  bnd (St_isLit 18 v1 M) (fun z1 =>
  if z1 = true then
    if v2 < (0 : Int32) then
      Fg_jump_j29 M
    else
      if v2 < (M.1 19 1) then
        grd (inb v1 40) (
        if (v2 + (M.1 32 (tn v1))) ≤ (M.1 19 1) then
          bnd (St_landings n 18 v1 M) (fun z8 =>
          if ((lushr z8 v2) &&& (1 : Int64)) = (0 : Int64) then
            some ((-1001 : Int32), M)
          else
            grd (inb v1 40) (
            grd (inb v1 40) (
            bnd (St_move n 18 v1 (M.1 30 (tn v1)) v2 (M.1 32 (tn v1)) M) (fun z13 =>
            some ((M.1 31 (tn v1)) - v2, z13)))))
        else
          some ((-1000 : Int32), M))
      else
        Fg_jump_j29 M
  else
    Fg_jump_j29 M)
set_option maxRecDepth 100000 in
theorem ok_Fg_jump_j29 (n : Nat) (M : Mm) {z : Int32 × Mm} {G : Gm} {X : Cx} {d : Nat}  (hX : XK G X 8 cX8_jump 5 (d + 3)) (hT : XT X (some .int) "jump") (hr : XR X SS) (h : Fg_jump_j29 M = some z) : WR G X (mQ G X (some (.int z.1)) z.2 SS) 29 [.ref 0, vU, vU, vU, vU] [] M SS := by
  unfold Fg_jump_j29 at h
  refine r_sipush (v := (-1000 : Int32)) hX dX8_jump_29 (by decide) ?_
  obtain rfl := Option.some.inj h
  exact r_iret hX hT dX8_jump_32 rfl
set_option maxRecDepth 100000 in
theorem ok_Fg_jump {G : Gm} {l : Launch} {d : Nat} (n : Nat) (v1 : Int32) (v2 : Int32) (M : Mm) {z : Int32 × Mm}  (h : Fg_jump n v1 v2 M = some z) : CK G l (d + 3) md_Fg_jump [.ref 0, .int v1, .int v2] M SS (some (.int z.1)) z.2 SS := by
  refine ck_of mk_Fg_jump (Nat.le_of_ble_eq_true rfl) ⟨Nat.le_refl _, Nat.le_refl _⟩ (fun X hX hT hS hr hl => ?_)
  subst hl
  unfold Fg_jump at h
  show WR G X (mQ G X (some (.int z.1)) z.2 SS) 0 [.ref 0, .int v1, .int v2, vU, vU] [] M SS
  refine r_aload_n hX dX8_jump_0 rfl ?_
  refine r_getf (v := .ref 18) hX dX8_jump_1 fl_8_35 rfl (by decide) (by decide) rfl ?_
  refine r_iload_n hX dX8_jump_4 rfl ?_
  obtain ⟨z1, p2, h⟩ := bnd_s h
  refine r_callV (As := [.int v1]) hX dX8_jump_5 mk_St_isLit mi_St_isLit ml_8_180 rfl rfl rfl rfl (by decide) (by decide) (Nat.le_of_ble_eq_true rfl) hr (ok_St_isLit (d := d + 1) 18 v1 M st18 p2) ?_
  refine r_ifb_eq (tgt := 29) hX dX8_jump_8 (by decide) (fun g3 => ?_) (fun g3 => ?_)
  · have h := (if_neg (show ¬ z1 = true from fun e => by rw [g3] at e; cases e)).symm.trans h
    refine WR.fg (L' := [.ref 0, vU, vU, vU, vU]) ⟨Or.inr rfl, Or.inl rfl, Or.inl rfl, Or.inl rfl, Or.inl rfl, trivial⟩ ?_
    exact ok_Fg_jump_j29 n M   hX hT hr h
  · have h := (if_pos g3).symm.trans h
    refine r_iload_n hX dX8_jump_11 rfl ?_
    refine r_if_lt (tgt := 29) hX dX8_jump_12 (by decide) (fun g4 => ?_) (fun g4 => ?_)
    · have h := (if_pos g4).symm.trans h
      refine WR.fg (L' := [.ref 0, vU, vU, vU, vU]) ⟨Or.inr rfl, Or.inl rfl, Or.inl rfl, Or.inl rfl, Or.inl rfl, trivial⟩ ?_
      exact ok_Fg_jump_j29 n M   hX hT hr h
    · have h := (if_neg g4).symm.trans h
      refine r_iload_n hX dX8_jump_15 rfl ?_
      refine r_aload_n hX dX8_jump_16 rfl ?_
      refine r_getf (v := .ref 18) hX dX8_jump_17 fl_8_35 rfl (by decide) (by decide) rfl ?_
      refine r_getf (v := .ref 19) hX dX8_jump_20 fl_8_204 rfl (by decide) (by decide) rfl ?_
      refine r_getf (v := .int (M.1 19 1)) hX dX8_jump_23 fl_8_207 rfl (by decide) (by decide) rfl ?_
      refine r_icmp_lt (tgt := 33) hX dX8_jump_26 (by decide) (fun g5 => ?_) (fun g5 => ?_)
      · have h := (if_pos g5).symm.trans h
        refine r_aload_n hX dX8_jump_33 rfl ?_
        refine r_getf (v := .ref 18) hX dX8_jump_34 fl_8_35 rfl (by decide) (by decide) rfl ?_
        refine r_getf (v := .ref 32) hX dX8_jump_37 fl_8_193 rfl (by decide) (by decide) rfl ?_
        refine r_iload_n hX dX8_jump_40 rfl ?_
        obtain ⟨k6, h⟩ := grd_s h
        refine r_iald hX dX8_jump_41 rfl (by decide) (inb_at rfl k6) ?_
        refine r_istore_n (L1 := [.ref 0, .int v1, .int v2, .int (M.1 32 (tn v1)), vU]) hX dX8_jump_42 (Nat.le_of_ble_eq_true rfl) rfl ?_
        refine r_iload_n hX dX8_jump_43 rfl ?_
        refine r_iload_n hX dX8_jump_44 rfl ?_
        refine r_iadd hX dX8_jump_45 ?_
        refine r_aload_n hX dX8_jump_46 rfl ?_
        refine r_getf (v := .ref 18) hX dX8_jump_47 fl_8_35 rfl (by decide) (by decide) rfl ?_
        refine r_getf (v := .ref 19) hX dX8_jump_50 fl_8_204 rfl (by decide) (by decide) rfl ?_
        refine r_getf (v := .int (M.1 19 1)) hX dX8_jump_53 fl_8_207 rfl (by decide) (by decide) rfl ?_
        refine r_icmp_le (tgt := 63) hX dX8_jump_56 (by decide) (fun g7 => ?_) (fun g7 => ?_)
        · have h := (if_pos g7).symm.trans h
          refine r_aload_n hX dX8_jump_63 rfl ?_
          refine r_getf (v := .ref 18) hX dX8_jump_64 fl_8_35 rfl (by decide) (by decide) rfl ?_
          refine r_iload_n hX dX8_jump_67 rfl ?_
          obtain ⟨z8, p9, h⟩ := bnd_s h
          refine r_callV (As := [.int v1]) hX dX8_jump_68 mk_St_landings mi_St_landings ml_8_212 rfl rfl rfl rfl (by decide) (by decide) (Nat.le_of_ble_eq_true rfl) hr (ok_St_landings (d := d + 0) n 18 v1 M st18 p9) ?_
          refine r_iload_n hX dX8_jump_71 rfl ?_
          refine r_lushr hX dX8_jump_72 ?_
          refine r_lconst (v := (1 : Int64)) hX dX8_jump_73 (by decide) ?_
          refine r_land hX dX8_jump_74 ?_
          refine r_lconst (v := (0 : Int64)) hX dX8_jump_75 (by decide) ?_
          refine r_lcmp_ne (tgt := 84) hX dX8_jump_76 dX8_jump_77 (by decide) (fun g10 => ?_) (fun g10 => ?_)
          · have h := (if_neg g10).symm.trans h
            refine r_aload_n hX dX8_jump_84 rfl ?_
            refine r_getf (v := .ref 18) hX dX8_jump_85 fl_8_35 rfl (by decide) (by decide) rfl ?_
            refine r_getf (v := .ref 31) hX dX8_jump_88 fl_8_191 rfl (by decide) (by decide) rfl ?_
            refine r_iload_n hX dX8_jump_91 rfl ?_
            obtain ⟨k11, h⟩ := grd_s h
            refine r_iald hX dX8_jump_92 rfl (by decide) (inb_at rfl k11) ?_
            refine r_iload_n hX dX8_jump_93 rfl ?_
            refine r_isub hX dX8_jump_94 ?_
            refine r_istore (L1 := [.ref 0, .int v1, .int v2, .int (M.1 32 (tn v1)), .int ((M.1 31 (tn v1)) - v2)]) hX dX8_jump_95 (Nat.le_of_ble_eq_true rfl) rfl ?_
            refine r_aload_n hX dX8_jump_97 rfl ?_
            refine r_getf (v := .ref 18) hX dX8_jump_98 fl_8_35 rfl (by decide) (by decide) rfl ?_
            refine r_iload_n hX dX8_jump_101 rfl ?_
            refine r_aload_n hX dX8_jump_102 rfl ?_
            refine r_getf (v := .ref 18) hX dX8_jump_103 fl_8_35 rfl (by decide) (by decide) rfl ?_
            refine r_getf (v := .ref 30) hX dX8_jump_106 fl_8_189 rfl (by decide) (by decide) rfl ?_
            refine r_iload_n hX dX8_jump_109 rfl ?_
            obtain ⟨k12, h⟩ := grd_s h
            refine r_iald hX dX8_jump_110 rfl (by decide) (inb_at rfl k12) ?_
            refine r_iload_n hX dX8_jump_111 rfl ?_
            refine r_iload_n hX dX8_jump_112 rfl ?_
            obtain ⟨z13, p14, h⟩ := bnd_s h
            refine r_callV (As := [.int v1, .int (M.1 30 (tn v1)), .int v2, .int (M.1 32 (tn v1))]) hX dX8_jump_113 mk_St_move mi_St_move ml_8_195 rfl rfl rfl rfl (by decide) (by decide) (Nat.le_of_ble_eq_true rfl) hr (ok_St_move (d := d + 0) n 18 v1 (M.1 30 (tn v1)) v2 (M.1 32 (tn v1)) M st18 p14) ?_
            refine r_iload hX dX8_jump_116 rfl ?_
            obtain rfl := Option.some.inj h
            exact r_iret hX hT dX8_jump_118 rfl
          · have h := (if_pos g10).symm.trans h
            refine r_sipush (v := (-1001 : Int32)) hX dX8_jump_80 (by decide) ?_
            obtain rfl := Option.some.inj h
            exact r_iret hX hT dX8_jump_83 rfl
        · have h := (if_neg g7).symm.trans h
          refine r_sipush (v := (-1000 : Int32)) hX dX8_jump_59 (by decide) ?_
          obtain rfl := Option.some.inj h
          exact r_iret hX hT dX8_jump_62 rfl
      · have h := (if_neg g5).symm.trans h
        refine WR.fg (L' := [.ref 0, vU, vU, vU, vU]) ⟨Or.inr rfl, Or.inl rfl, Or.inl rfl, Or.inl rfl, Or.inl rfl, trivial⟩ ?_
        exact ok_Fg_jump_j29 n M   hX hT hr h
