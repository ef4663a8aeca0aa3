def Wy_forget_b2 (v1 : Int32) (M : Mm) : Option ((Int32 × Mm) ⊕ (Mm)) :=
  if (64 : Int32) ≤ v1 then
    some (.inr M)
  else
    grd (inb v1 64) (
    some (.inl (v1 + (1 : Int32), ((up2 M.1 15 (tn v1) (-1 : Int32)), M.2))))
def Wy_forget (n : Nat) (M : Mm) : Option (Mm) :=
  bnd (loop (fun s1 : Int32 × Mm => Wy_forget_b2 s1.1 s1.2) n ((0 : Int32), M)) (fun y3 =>
  some y3)
set_option maxRecDepth 100000 in
theorem ok_Wy_forget_b2 (n : Nat) (v1 : Int32) (M : Mm)  {z : Mm} {oo : (Int32 × Mm) ⊕ (Mm)} {G : Gm} {X : Cx} {d : Nat}  (hX : XK G X 7 cX7_forget 2 (d + 0)) (hT : XT X (none) "forget") (hr : XR X SS) (hc : ∀ s1 : Int32 × Mm, oo = .inl s1 → WR G X (mQ G X (none) z SS) 2 [.ref 13, .int s1.1] [] s1.2 SS) (hx : ∀ x1 : Mm, oo = .inr x1 → WR G X (mQ G X (none) z SS) 24 [.ref 13, vU] [] x1 SS) (h : Wy_forget_b2 v1 M = some oo) : WR G X (mQ G X (none) z SS) 2 [.ref 13, .int v1] [] M SS := by
  unfold Wy_forget_b2 at h
  refine r_iload_n hX dX7_forget_2 rfl ?_
  refine r_aload_n hX dX7_forget_3 rfl ?_
  refine r_getf (v := .ref 15) hX dX7_forget_4 fl_7_15 rfl (by decide) (by decide) rfl ?_
  refine r_alen (v := (64 : Int32)) hX dX7_forget_7 rfl (by decide) (by decide) rfl ?_
  refine r_icmp_ge (tgt := 24) hX dX7_forget_8 (by decide) (fun g1 => ?_) (fun g1 => ?_)
  · have h := (if_pos g1).symm.trans h
    refine WR.fg (L' := [.ref 13, vU]) ⟨Or.inr rfl, Or.inl rfl, trivial⟩ ?_
    exact hx _ (Option.some.inj h).symm
  · have h := (if_neg g1).symm.trans h
    refine r_aload_n hX dX7_forget_11 rfl ?_
    refine r_getf (v := .ref 15) hX dX7_forget_12 fl_7_15 rfl (by decide) (by decide) rfl ?_
    refine r_iload_n hX dX7_forget_15 rfl ?_
    refine r_iconst (v := (-1 : Int32)) hX dX7_forget_16 (by decide) ?_
    obtain ⟨k2, h⟩ := grd_s h
    refine r_iast hX dX7_forget_17 rfl (by decide) (inb_at rfl k2) ?_
    refine r_iinc (v := v1 + (1 : Int32)) (L1 := [.ref 13, .int (v1 + (1 : Int32))]) hX dX7_forget_18 rfl rfl rfl ?_
    refine r_goto (tgt := 2) hX dX7_forget_21 (by decide) ?_
    exact hc (v1 + (1 : Int32), ((up2 M.1 15 (tn v1) (-1 : Int32)), M.2)) (Option.some.inj h).symm
set_option maxRecDepth 100000 in
theorem ok_Wy_forget {G : Gm} {l : Launch} {d : Nat} (n : Nat) (M : Mm) {z : Mm}  (h : Wy_forget n M = some z) : CK G l (d + 0) md_Wy_forget [.ref 13] M SS (none) z SS := by
  refine ck_of mk_Wy_forget (Nat.le_of_ble_eq_true rfl) ⟨Nat.le_refl _, Nat.le_refl _⟩ (fun X hX hT hS hr hl => ?_)
  subst hl
  unfold Wy_forget at h
  show WR G X (mQ G X (none) z SS) 0 [.ref 13, vU] [] M SS
  refine r_iconst (v := (0 : Int32)) hX dX7_forget_0 (by decide) ?_
  refine r_istore_n (L1 := [.ref 13, .int (0 : Int32)]) hX dX7_forget_1 (Nat.le_of_ble_eq_true rfl) rfl ?_
  obtain ⟨y3, h1, h⟩ := bnd_s h
  refine loop_ok (P := fun s1 : Int32 × Mm => WR G X (mQ G X (none) z SS) 2 [.ref 13, .int s1.1] [] s1.2 SS) (E := fun x1 : Mm => WR G X (mQ G X (none) z SS) 24 [.ref 13, vU] [] x1 SS) (fun s1 o1 g1 g2 g3 => ok_Wy_forget_b2 n s1.1 s1.2  hX hT hr g2 g3 g1) n ((0 : Int32), M) y3 h1 ?_
  show WR G X (mQ G X (none) z SS) 24 [.ref 13, vU] [] y3 SS
  obtain rfl := Option.some.inj h
  exact r_vret hX hT dX7_forget_24
def Fi_forgetWays (n : Nat) (M : Mm) : Option (Mm) :=
  bnd (Wy_forget n M) (fun z1 =>
  some z1)
set_option maxRecDepth 100000 in
theorem ok_Fi_forgetWays {G : Gm} {l : Launch} {d : Nat} (n : Nat) (M : Mm) {z : Mm}  (h : Fi_forgetWays n M = some z) : CK G l (d + 1) md_Fi_forgetWays [.ref 12] M SS (none) z SS := by
  refine ck_of mk_Fi_forgetWays (Nat.le_of_ble_eq_true rfl) ⟨Nat.le_refl _, Nat.le_refl _⟩ (fun X hX hT hS hr hl => ?_)
  subst hl
  unfold Fi_forgetWays at h
  show WR G X (mQ G X (none) z SS) 0 [.ref 12] [] M SS
  refine r_aload_n hX dX0_forgetWays_0 rfl ?_
  refine r_getf (v := .ref 13) hX dX0_forgetWays_1 fl_0_12 rfl (by decide) (by decide) rfl ?_
  obtain ⟨z1, p2, h⟩ := bnd_s h
  refine r_callV (As := []) hX dX0_forgetWays_4 mk_Wy_forget mi_Wy_forget ml_0_34 rfl rfl rfl rfl (by decide) (by decide) (Nat.le_of_ble_eq_true rfl) hr (ok_Wy_forget (d := d + 0) n M p2) ?_
  obtain rfl := Option.some.inj h
  exact r_vret hX hT dX0_forgetWays_7
def Jl_bitCount (v0 : Int64) (M : Mm) : Option (Int32) :=
  some ((((((((((v0 - ((lushr v0 (1 : Int32)) &&& (6148914691236517205 : Int64))) &&& (3689348814741910323 : Int64)) + ((lushr (v0 - ((lushr v0 (1 : Int32)) &&& (6148914691236517205 : Int64))) (2 : Int32)) &&& (3689348814741910323 : Int64))) + (lushr (((v0 - ((lushr v0 (1 : Int32)) &&& (6148914691236517205 : Int64))) &&& (3689348814741910323 : Int64)) + ((lushr (v0 - ((lushr v0 (1 : Int32)) &&& (6148914691236517205 : Int64))) (2 : Int32)) &&& (3689348814741910323 : Int64))) (4 : Int32))) &&& (1085102592571150095 : Int64)) + (lushr (((((v0 - ((lushr v0 (1 : Int32)) &&& (6148914691236517205 : Int64))) &&& (3689348814741910323 : Int64)) + ((lushr (v0 - ((lushr v0 (1 : Int32)) &&& (6148914691236517205 : Int64))) (2 : Int32)) &&& (3689348814741910323 : Int64))) + (lushr (((v0 - ((lushr v0 (1 : Int32)) &&& (6148914691236517205 : Int64))) &&& (3689348814741910323 : Int64)) + ((lushr (v0 - ((lushr v0 (1 : Int32)) &&& (6148914691236517205 : Int64))) (2 : Int32)) &&& (3689348814741910323 : Int64))) (4 : Int32))) &&& (1085102592571150095 : Int64)) (8 : Int32))) + (lushr ((((((v0 - ((lushr v0 (1 : Int32)) &&& (6148914691236517205 : Int64))) &&& (3689348814741910323 : Int64)) + ((lushr (v0 - ((lushr v0 (1 : Int32)) &&& (6148914691236517205 : Int64))) (2 : Int32)) &&& (3689348814741910323 : Int64))) + (lushr (((v0 - ((lushr v0 (1 : Int32)) &&& (6148914691236517205 : Int64))) &&& (3689348814741910323 : Int64)) + ((lushr (v0 - ((lushr v0 (1 : Int32)) &&& (6148914691236517205 : Int64))) (2 : Int32)) &&& (3689348814741910323 : Int64))) (4 : Int32))) &&& (1085102592571150095 : Int64)) + (lushr (((((v0 - ((lushr v0 (1 : Int32)) &&& (6148914691236517205 : Int64))) &&& (3689348814741910323 : Int64)) + ((lushr (v0 - ((lushr v0 (1 : Int32)) &&& (6148914691236517205 : Int64))) (2 : Int32)) &&& (3689348814741910323 : Int64))) + (lushr (((v0 - ((lushr v0 (1 : Int32)) &&& (6148914691236517205 : Int64))) &&& (3689348814741910323 : Int64)) + ((lushr (v0 - ((lushr v0 (1 : Int32)) &&& (6148914691236517205 : Int64))) (2 : Int32)) &&& (3689348814741910323 : Int64))) (4 : Int32))) &&& (1085102592571150095 : Int64)) (8 : Int32))) (16 : Int32))) + (lushr (((((((v0 - ((lushr v0 (1 : Int32)) &&& (6148914691236517205 : Int64))) &&& (3689348814741910323 : Int64)) + ((lushr (v0 - ((lushr v0 (1 : Int32)) &&& (6148914691236517205 : Int64))) (2 : Int32)) &&& (3689348814741910323 : Int64))) + (lushr (((v0 - ((lushr v0 (1 : Int32)) &&& (6148914691236517205 : Int64))) &&& (3689348814741910323 : Int64)) + ((lushr (v0 - ((lushr v0 (1 : Int32)) &&& (6148914691236517205 : Int64))) (2 : Int32)) &&& (3689348814741910323 : Int64))) (4 : Int32))) &&& (1085102592571150095 : Int64)) + (lushr (((((v0 - ((lushr v0 (1 : Int32)) &&& (6148914691236517205 : Int64))) &&& (3689348814741910323 : Int64)) + ((lushr (v0 - ((lushr v0 (1 : Int32)) &&& (6148914691236517205 : Int64))) (2 : Int32)) &&& (3689348814741910323 : Int64))) + (lushr (((v0 - ((lushr v0 (1 : Int32)) &&& (6148914691236517205 : Int64))) &&& (3689348814741910323 : Int64)) + ((lushr (v0 - ((lushr v0 (1 : Int32)) &&& (6148914691236517205 : Int64))) (2 : Int32)) &&& (3689348814741910323 : Int64))) (4 : Int32))) &&& (1085102592571150095 : Int64)) (8 : Int32))) + (lushr ((((((v0 - ((lushr v0 (1 : Int32)) &&& (6148914691236517205 : Int64))) &&& (3689348814741910323 : Int64)) + ((lushr (v0 - ((lushr v0 (1 : Int32)) &&& (6148914691236517205 : Int64))) (2 : Int32)) &&& (3689348814741910323 : Int64))) + (lushr (((v0 - ((lushr v0 (1 : Int32)) &&& (6148914691236517205 : Int64))) &&& (3689348814741910323 : Int64)) + ((lushr (v0 - ((lushr v0 (1 : Int32)) &&& (6148914691236517205 : Int64))) (2 : Int32)) &&& (3689348814741910323 : Int64))) (4 : Int32))) &&& (1085102592571150095 : Int64)) + (lushr (((((v0 - ((lushr v0 (1 : Int32)) &&& (6148914691236517205 : Int64))) &&& (3689348814741910323 : Int64)) + ((lushr (v0 - ((lushr v0 (1 : Int32)) &&& (6148914691236517205 : Int64))) (2 : Int32)) &&& (3689348814741910323 : Int64))) + (lushr (((v0 - ((lushr v0 (1 : Int32)) &&& (6148914691236517205 : Int64))) &&& (3689348814741910323 : Int64)) + ((lushr (v0 - ((lushr v0 (1 : Int32)) &&& (6148914691236517205 : Int64))) (2 : Int32)) &&& (3689348814741910323 : Int64))) (4 : Int32))) &&& (1085102592571150095 : Int64)) (8 : Int32))) (16 : Int32))) (32 : Int32))).toInt32) &&& (127 : Int32))
set_option maxRecDepth 100000 in
theorem ok_Jl_bitCount {G : Gm} {l : Launch} {d : Nat} (v0 : Int64) (M : Mm) {z : Int32}  (h : Jl_bitCount v0 M = some z) : CK G l (d + 0) md_Jl_bitCount [.long v0] M SS (some (.int z)) M SS := by
  refine ck_of mk_Jl_bitCount (Nat.le_of_ble_eq_true rfl) ⟨Nat.le_refl _, Nat.le_refl _⟩ (fun X hX hT hS hr hl => ?_)
  subst hl
  unfold Jl_bitCount at h
  show WR G X (mQ G X (some (.int z)) M SS) 0 [.long v0, vU] [] M SS
  refine r_lload_n hX dJ13_bitCount_95d88_0 rfl ?_
  refine r_lload_n hX dJ13_bitCount_95d88_1 rfl ?_
  refine r_iconst (v := (1 : Int32)) hX dJ13_bitCount_95d88_2 (by decide) ?_
  refine r_lushr hX dJ13_bitCount_95d88_3 ?_
  refine r_ldc2 hX dJ13_bitCount_95d88_4 kl_11_314 ?_
  refine r_land hX dJ13_bitCount_95d88_7 ?_
  refine r_lsub hX dJ13_bitCount_95d88_8 ?_
  refine r_lstore_n (L1 := [.long (v0 - ((lushr v0 (1 : Int32)) &&& (6148914691236517205 : Int64))), vU]) hX dJ13_bitCount_95d88_9 (Nat.le_of_ble_eq_true rfl) rfl ?_
  refine r_lload_n hX dJ13_bitCount_95d88_10 rfl ?_
  refine r_ldc2 hX dJ13_bitCount_95d88_11 kl_11_316 ?_
  refine r_land hX dJ13_bitCount_95d88_14 ?_
  refine r_lload_n hX dJ13_bitCount_95d88_15 rfl ?_
  refine r_iconst (v := (2 : Int32)) hX dJ13_bitCount_95d88_16 (by decide) ?_
  refine r_lushr hX dJ13_bitCount_95d88_17 ?_
  refine r_ldc2 hX dJ13_bitCount_95d88_18 kl_11_316 ?_
  refine r_land hX dJ13_bitCount_95d88_21 ?_
  refine r_ladd hX dJ13_bitCount_95d88_22 ?_
  refine r_lstore_n (L1 := [.long (((v0 - ((lushr v0 (1 : Int32)) &&& (6148914691236517205 : Int64))) &&& (3689348814741910323 : Int64)) + ((lushr (v0 - ((lushr v0 (1 : Int32)) &&& (6148914691236517205 : Int64))) (2 : Int32)) &&& (3689348814741910323 : Int64))), vU]) hX dJ13_bitCount_95d88_23 (Nat.le_of_ble_eq_true rfl) rfl ?_
  refine r_lload_n hX dJ13_bitCount_95d88_24 rfl ?_
  refine r_lload_n hX dJ13_bitCount_95d88_25 rfl ?_
  refine r_iconst (v := (4 : Int32)) hX dJ13_bitCount_95d88_26 (by decide) ?_
  refine r_lushr hX dJ13_bitCount_95d88_27 ?_
  refine r_ladd hX dJ13_bitCount_95d88_28 ?_
  refine r_ldc2 hX dJ13_bitCount_95d88_29 kl_11_318 ?_
  refine r_land hX dJ13_bitCount_95d88_32 ?_
  refine r_lstore_n (L1 := [.long (((((v0 - ((lushr v0 (1 : Int32)) &&& (6148914691236517205 : Int64))) &&& (3689348814741910323 : Int64)) + ((lushr (v0 - ((lushr v0 (1 : Int32)) &&& (6148914691236517205 : Int64))) (2 : Int32)) &&& (3689348814741910323 : Int64))) + (lushr (((v0 - ((lushr v0 (1 : Int32)) &&& (6148914691236517205 : Int64))) &&& (3689348814741910323 : Int64)) + ((lushr (v0 - ((lushr v0 (1 : Int32)) &&& (6148914691236517205 : Int64))) (2 : Int32)) &&& (3689348814741910323 : Int64))) (4 : Int32))) &&& (1085102592571150095 : Int64)), vU]) hX dJ13_bitCount_95d88_33 (Nat.le_of_ble_eq_true rfl) rfl ?_
  refine r_lload_n hX dJ13_bitCount_95d88_34 rfl ?_
  refine r_lload_n hX dJ13_bitCount_95d88_35 rfl ?_
  refine r_bipush (v := (8 : Int32)) hX dJ13_bitCount_95d88_36 (by decide) ?_
  refine r_lushr hX dJ13_bitCount_95d88_38 ?_
  refine r_ladd hX dJ13_bitCount_95d88_39 ?_
  refine r_lstore_n (L1 := [.long ((((((v0 - ((lushr v0 (1 : Int32)) &&& (6148914691236517205 : Int64))) &&& (3689348814741910323 : Int64)) + ((lushr (v0 - ((lushr v0 (1 : Int32)) &&& (6148914691236517205 : Int64))) (2 : Int32)) &&& (3689348814741910323 : Int64))) + (lushr (((v0 - ((lushr v0 (1 : Int32)) &&& (6148914691236517205 : Int64))) &&& (3689348814741910323 : Int64)) + ((lushr (v0 - ((lushr v0 (1 : Int32)) &&& (6148914691236517205 : Int64))) (2 : Int32)) &&& (3689348814741910323 : Int64))) (4 : Int32))) &&& (1085102592571150095 : Int64)) + (lushr (((((v0 - ((lushr v0 (1 : Int32)) &&& (6148914691236517205 : Int64))) &&& (3689348814741910323 : Int64)) + ((lushr (v0 - ((lushr v0 (1 : Int32)) &&& (6148914691236517205 : Int64))) (2 : Int32)) &&& (3689348814741910323 : Int64))) + (lushr (((v0 - ((lushr v0 (1 : Int32)) &&& (6148914691236517205 : Int64))) &&& (3689348814741910323 : Int64)) + ((lushr (v0 - ((lushr v0 (1 : Int32)) &&& (6148914691236517205 : Int64))) (2 : Int32)) &&& (3689348814741910323 : Int64))) (4 : Int32))) &&& (1085102592571150095 : Int64)) (8 : Int32))), vU]) hX dJ13_bitCount_95d88_40 (Nat.le_of_ble_eq_true rfl) rfl ?_
  refine r_lload_n hX dJ13_bitCount_95d88_41 rfl ?_
  refine r_lload_n hX dJ13_bitCount_95d88_42 rfl ?_
  refine r_bipush (v := (16 : Int32)) hX dJ13_bitCount_95d88_43 (by decide) ?_
  refine r_lushr hX dJ13_bitCount_95d88_45 ?_
  refine r_ladd hX dJ13_bitCount_95d88_46 ?_
  refine r_lstore_n (L1 := [.long (((((((v0 - ((lushr v0 (1 : Int32)) &&& (6148914691236517205 : Int64))) &&& (3689348814741910323 : Int64)) + ((lushr (v0 - ((lushr v0 (1 : Int32)) &&& (6148914691236517205 : Int64))) (2 : Int32)) &&& (3689348814741910323 : Int64))) + (lushr (((v0 - ((lushr v0 (1 : Int32)) &&& (6148914691236517205 : Int64))) &&& (3689348814741910323 : Int64)) + ((lushr (v0 - ((lushr v0 (1 : Int32)) &&& (6148914691236517205 : Int64))) (2 : Int32)) &&& (3689348814741910323 : Int64))) (4 : Int32))) &&& (1085102592571150095 : Int64)) + (lushr (((((v0 - ((lushr v0 (1 : Int32)) &&& (6148914691236517205 : Int64))) &&& (3689348814741910323 : Int64)) + ((lushr (v0 - ((lushr v0 (1 : Int32)) &&& (6148914691236517205 : Int64))) (2 : Int32)) &&& (3689348814741910323 : Int64))) + (lushr (((v0 - ((lushr v0 (1 : Int32)) &&& (6148914691236517205 : Int64))) &&& (3689348814741910323 : Int64)) + ((lushr (v0 - ((lushr v0 (1 : Int32)) &&& (6148914691236517205 : Int64))) (2 : Int32)) &&& (3689348814741910323 : Int64))) (4 : Int32))) &&& (1085102592571150095 : Int64)) (8 : Int32))) + (lushr ((((((v0 - ((lushr v0 (1 : Int32)) &&& (6148914691236517205 : Int64))) &&& (3689348814741910323 : Int64)) + ((lushr (v0 - ((lushr v0 (1 : Int32)) &&& (6148914691236517205 : Int64))) (2 : Int32)) &&& (3689348814741910323 : Int64))) + (lushr (((v0 - ((lushr v0 (1 : Int32)) &&& (6148914691236517205 : Int64))) &&& (3689348814741910323 : Int64)) + ((lushr (v0 - ((lushr v0 (1 : Int32)) &&& (6148914691236517205 : Int64))) (2 : Int32)) &&& (3689348814741910323 : Int64))) (4 : Int32))) &&& (1085102592571150095 : Int64)) + (lushr (((((v0 - ((lushr v0 (1 : Int32)) &&& (6148914691236517205 : Int64))) &&& (3689348814741910323 : Int64)) + ((lushr (v0 - ((lushr v0 (1 : Int32)) &&& (6148914691236517205 : Int64))) (2 : Int32)) &&& (3689348814741910323 : Int64))) + (lushr (((v0 - ((lushr v0 (1 : Int32)) &&& (6148914691236517205 : Int64))) &&& (3689348814741910323 : Int64)) + ((lushr (v0 - ((lushr v0 (1 : Int32)) &&& (6148914691236517205 : Int64))) (2 : Int32)) &&& (3689348814741910323 : Int64))) (4 : Int32))) &&& (1085102592571150095 : Int64)) (8 : Int32))) (16 : Int32))), vU]) hX dJ13_bitCount_95d88_47 (Nat.le_of_ble_eq_true rfl) rfl ?_
  refine r_lload_n hX dJ13_bitCount_95d88_48 rfl ?_
  refine r_lload_n hX dJ13_bitCount_95d88_49 rfl ?_
  refine r_bipush (v := (32 : Int32)) hX dJ13_bitCount_95d88_50 (by decide) ?_
  refine r_lushr hX dJ13_bitCount_95d88_52 ?_
  refine r_ladd hX dJ13_bitCount_95d88_53 ?_
  refine r_lstore_n (L1 := [.long ((((((((v0 - ((lushr v0 (1 : Int32)) &&& (6148914691236517205 : Int64))) &&& (3689348814741910323 : Int64)) + ((lushr (v0 - ((lushr v0 (1 : Int32)) &&& (6148914691236517205 : Int64))) (2 : Int32)) &&& (3689348814741910323 : Int64))) + (lushr (((v0 - ((lushr v0 (1 : Int32)) &&& (6148914691236517205 : Int64))) &&& (3689348814741910323 : Int64)) + ((lushr (v0 - ((lushr v0 (1 : Int32)) &&& (6148914691236517205 : Int64))) (2 : Int32)) &&& (3689348814741910323 : Int64))) (4 : Int32))) &&& (1085102592571150095 : Int64)) + (lushr (((((v0 - ((lushr v0 (1 : Int32)) &&& (6148914691236517205 : Int64))) &&& (3689348814741910323 : Int64)) + ((lushr (v0 - ((lushr v0 (1 : Int32)) &&& (6148914691236517205 : Int64))) (2 : Int32)) &&& (3689348814741910323 : Int64))) + (lushr (((v0 - ((lushr v0 (1 : Int32)) &&& (6148914691236517205 : Int64))) &&& (3689348814741910323 : Int64)) + ((lushr (v0 - ((lushr v0 (1 : Int32)) &&& (6148914691236517205 : Int64))) (2 : Int32)) &&& (3689348814741910323 : Int64))) (4 : Int32))) &&& (1085102592571150095 : Int64)) (8 : Int32))) + (lushr ((((((v0 - ((lushr v0 (1 : Int32)) &&& (6148914691236517205 : Int64))) &&& (3689348814741910323 : Int64)) + ((lushr (v0 - ((lushr v0 (1 : Int32)) &&& (6148914691236517205 : Int64))) (2 : Int32)) &&& (3689348814741910323 : Int64))) + (lushr (((v0 - ((lushr v0 (1 : Int32)) &&& (6148914691236517205 : Int64))) &&& (3689348814741910323 : Int64)) + ((lushr (v0 - ((lushr v0 (1 : Int32)) &&& (6148914691236517205 : Int64))) (2 : Int32)) &&& (3689348814741910323 : Int64))) (4 : Int32))) &&& (1085102592571150095 : Int64)) + (lushr (((((v0 - ((lushr v0 (1 : Int32)) &&& (6148914691236517205 : Int64))) &&& (3689348814741910323 : Int64)) + ((lushr (v0 - ((lushr v0 (1 : Int32)) &&& (6148914691236517205 : Int64))) (2 : Int32)) &&& (3689348814741910323 : Int64))) + (lushr (((v0 - ((lushr v0 (1 : Int32)) &&& (6148914691236517205 : Int64))) &&& (3689348814741910323 : Int64)) + ((lushr (v0 - ((lushr v0 (1 : Int32)) &&& (6148914691236517205 : Int64))) (2 : Int32)) &&& (3689348814741910323 : Int64))) (4 : Int32))) &&& (1085102592571150095 : Int64)) (8 : Int32))) (16 : Int32))) + (lushr (((((((v0 - ((lushr v0 (1 : Int32)) &&& (6148914691236517205 : Int64))) &&& (3689348814741910323 : Int64)) + ((lushr (v0 - ((lushr v0 (1 : Int32)) &&& (6148914691236517205 : Int64))) (2 : Int32)) &&& (3689348814741910323 : Int64))) + (lushr (((v0 - ((lushr v0 (1 : Int32)) &&& (6148914691236517205 : Int64))) &&& (3689348814741910323 : Int64)) + ((lushr (v0 - ((lushr v0 (1 : Int32)) &&& (6148914691236517205 : Int64))) (2 : Int32)) &&& (3689348814741910323 : Int64))) (4 : Int32))) &&& (1085102592571150095 : Int64)) + (lushr (((((v0 - ((lushr v0 (1 : Int32)) &&& (6148914691236517205 : Int64))) &&& (3689348814741910323 : Int64)) + ((lushr (v0 - ((lushr v0 (1 : Int32)) &&& (6148914691236517205 : Int64))) (2 : Int32)) &&& (3689348814741910323 : Int64))) + (lushr (((v0 - ((lushr v0 (1 : Int32)) &&& (6148914691236517205 : Int64))) &&& (3689348814741910323 : Int64)) + ((lushr (v0 - ((lushr v0 (1 : Int32)) &&& (6148914691236517205 : Int64))) (2 : Int32)) &&& (3689348814741910323 : Int64))) (4 : Int32))) &&& (1085102592571150095 : Int64)) (8 : Int32))) + (lushr ((((((v0 - ((lushr v0 (1 : Int32)) &&& (6148914691236517205 : Int64))) &&& (3689348814741910323 : Int64)) + ((lushr (v0 - ((lushr v0 (1 : Int32)) &&& (6148914691236517205 : Int64))) (2 : Int32)) &&& (3689348814741910323 : Int64))) + (lushr (((v0 - ((lushr v0 (1 : Int32)) &&& (6148914691236517205 : Int64))) &&& (3689348814741910323 : Int64)) + ((lushr (v0 - ((lushr v0 (1 : Int32)) &&& (6148914691236517205 : Int64))) (2 : Int32)) &&& (3689348814741910323 : Int64))) (4 : Int32))) &&& (1085102592571150095 : Int64)) + (lushr (((((v0 - ((lushr v0 (1 : Int32)) &&& (6148914691236517205 : Int64))) &&& (3689348814741910323 : Int64)) + ((lushr (v0 - ((lushr v0 (1 : Int32)) &&& (6148914691236517205 : Int64))) (2 : Int32)) &&& (3689348814741910323 : Int64))) + (lushr (((v0 - ((lushr v0 (1 : Int32)) &&& (6148914691236517205 : Int64))) &&& (3689348814741910323 : Int64)) + ((lushr (v0 - ((lushr v0 (1 : Int32)) &&& (6148914691236517205 : Int64))) (2 : Int32)) &&& (3689348814741910323 : Int64))) (4 : Int32))) &&& (1085102592571150095 : Int64)) (8 : Int32))) (16 : Int32))) (32 : Int32))), vU]) hX dJ13_bitCount_95d88_54 (Nat.le_of_ble_eq_true rfl) rfl ?_
  refine r_lload_n hX dJ13_bitCount_95d88_55 rfl ?_
  refine r_l2i hX dJ13_bitCount_95d88_56 ?_
  refine r_bipush (v := (127 : Int32)) hX dJ13_bitCount_95d88_57 (by decide) ?_
  refine r_iand hX dJ13_bitCount_95d88_59 ?_
  obtain rfl := Option.some.inj h
  exact r_iret hX hT dJ13_bitCount_95d88_60 rfl
def Fg_highest_b5 (v2 : Int64) (v4 : Int32) : Option ((Int64 × Int32) ⊕ (Int64)) :=
  if (64 : Int32) ≤ v4 then
    some (.inr v2)
  else
    some (.inl (v2 ||| (lushr v2 v4), v4 * (2 : Int32)))
def Fg_highest (n : Nat) (v0 : Int64) (M : Mm) : Option (Int32) :=
  bnd (loop (fun s1 : Int64 × Int32 => Fg_highest_b5 s1.1 s1.2) n (v0, (1 : Int32))) (fun y2 =>
  bnd (Jl_bitCount y2 M) (fun z3 =>
  some (z3 - (1 : Int32))))
set_option maxRecDepth 100000 in
theorem ok_Fg_highest_b5 (n : Nat) (v2 : Int64) (v4 : Int32)  {Mc : Mm} {z : Int32} {oo : (Int64 × Int32) ⊕ (Int64)} {G : Gm} {X : Cx} {d : Nat}  (hX : XK G X 8 cX8_highest 5 (d + 1)) (hT : XT X (some .int) "highest") (hr : XR X SS) (hc : ∀ s1 : Int64 × Int32, oo = .inl s1 → WR G X (mQ G X (some (.int z)) Mc SS) 5 [vU, vU, .long s1.1, vU, .int s1.2] [] Mc SS) (hx : ∀ x1 : Int64, oo = .inr x1 → WR G X (mQ G X (some (.int z)) Mc SS) 28 [vU, vU, .long x1, vU, vU] [] Mc SS) (h : Fg_highest_b5 v2 v4 = some oo) : WR G X (mQ G X (some (.int z)) Mc SS) 5 [vU, vU, .long v2, vU, .int v4] [] Mc SS := by
  unfold Fg_highest_b5 at h
  refine r_iload hX dX8_highest_5 rfl ?_
  refine r_bipush (v := (64 : Int32)) hX dX8_highest_7 (by decide) ?_
  refine r_icmp_ge (tgt := 28) hX dX8_highest_9 (by decide) (fun g1 => ?_) (fun g1 => ?_)
  · have h := (if_pos g1).symm.trans h
    refine WR.fg (L' := [vU, vU, .long v2, vU, vU]) ⟨Or.inl rfl, Or.inl rfl, Or.inr rfl, Or.inl rfl, Or.inl rfl, trivial⟩ ?_
    exact hx _ (Option.some.inj h).symm
  · have h := (if_neg g1).symm.trans h
    refine r_lload_n hX dX8_highest_12 rfl ?_
    refine r_lload_n hX dX8_highest_13 rfl ?_
    refine r_iload hX dX8_highest_14 rfl ?_
    refine r_lushr hX dX8_highest_16 ?_
    refine r_lor hX dX8_highest_17 ?_
    refine r_lstore_n (L1 := [vU, vU, .long (v2 ||| (lushr v2 v4)), vU, .int v4]) hX dX8_highest_18 (Nat.le_of_ble_eq_true rfl) rfl ?_
    refine r_iload hX dX8_highest_19 rfl ?_
    refine r_iconst (v := (2 : Int32)) hX dX8_highest_21 (by decide) ?_
    refine r_imul hX dX8_highest_22 ?_
    refine r_istore (L1 := [vU, vU, .long (v2 ||| (lushr v2 v4)), vU, .int (v4 * (2 : Int32))]) hX dX8_highest_23 (Nat.le_of_ble_eq_true rfl) rfl ?_
    refine r_goto (tgt := 5) hX dX8_highest_25 (by decide) ?_
    exact hc (v2 ||| (lushr v2 v4), v4 * (2 : Int32)) (Option.some.inj h).symm
set_option maxRecDepth 100000 in
theorem ok_Fg_highest {G : Gm} {l : Launch} {d : Nat} (n : Nat) (v0 : Int64) (M : Mm) {z : Int32}  (h : Fg_highest n v0 M = some z) : CK G l (d + 1) md_Fg_highest [.long v0] M SS (some (.int z)) M SS := by
  refine ck_of mk_Fg_highest (Nat.le_of_ble_eq_true rfl) ⟨Nat.le_refl _, Nat.le_refl _⟩ (fun X hX hT hS hr hl => ?_)
  subst hl
  unfold Fg_highest at h
  show WR G X (mQ G X (some (.int z)) M SS) 0 [.long v0, vU, vU, vU, vU] [] M SS
  refine r_lload_n hX dX8_highest_0 rfl ?_
  refine r_lstore_n (L1 := [.long v0, vU, .long v0, vU, vU]) hX dX8_highest_1 (Nat.le_of_ble_eq_true rfl) rfl ?_
  refine r_iconst (v := (1 : Int32)) hX dX8_highest_2 (by decide) ?_
  refine r_istore (L1 := [.long v0, vU, .long v0, vU, .int (1 : Int32)]) hX dX8_highest_3 (Nat.le_of_ble_eq_true rfl) rfl ?_
  refine WR.fg (L' := [vU, vU, .long v0, vU, .int (1 : Int32)]) ⟨Or.inl rfl, Or.inl rfl, Or.inr rfl, Or.inl rfl, Or.inr rfl, trivial⟩ ?_
  obtain ⟨y2, h1, h⟩ := bnd_s h
  refine loop_ok (P := fun s1 : Int64 × Int32 => WR G X (mQ G X (some (.int z)) M SS) 5 [vU, vU, .long s1.1, vU, .int s1.2] [] M SS) (E := fun x1 : Int64 => WR G X (mQ G X (some (.int z)) M SS) 28 [vU, vU, .long x1, vU, vU] [] M SS) (fun s1 o1 g1 g2 g3 => ok_Fg_highest_b5 n s1.1 s1.2  hX hT hr g2 g3 g1) n (v0, (1 : Int32)) y2 h1 ?_
  show WR G X (mQ G X (some (.int z)) M SS) 28 [vU, vU, .long y2, vU, vU] [] M SS
  refine r_lload_n hX dX8_highest_28 rfl ?_
  obtain ⟨z3, p4, h⟩ := bnd_s h
  refine r_callS (As := [.long y2]) hX dX8_highest_29 mk_Jl_bitCount ms_Jl_bitCount ml_8_295 rfl rfl rfl (Nat.le_of_ble_eq_true rfl) hr (ok_Jl_bitCount (d := d + 0) y2 M p4) ?_
  refine r_iconst (v := (1 : Int32)) hX dX8_highest_32 (by decide) ?_
  refine r_isub hX dX8_highest_33 ?_
  obtain rfl := Option.some.inj h
  exact r_iret hX hT dX8_highest_34 rfl
def Fg_lowest (v0 : Int64) (M : Mm) : Option (Int32) :=
  bnd (Jl_bitCount ((v0 &&& (-v0)) - (1 : Int64)) M) (fun z1 =>
  some z1)
set_option maxRecDepth 100000 in
theorem ok_Fg_lowest {G : Gm} {l : Launch} {d : Nat} (v0 : Int64) (M : Mm) {z : Int32}  (h : Fg_lowest v0 M = some z) : CK G l (d + 1) md_Fg_lowest [.long v0] M SS (some (.int z)) M SS := by
  refine ck_of mk_Fg_lowest (Nat.le_of_ble_eq_true rfl) ⟨Nat.le_refl _, Nat.le_refl _⟩ (fun X hX hT hS hr hl => ?_)
  subst hl
  unfold Fg_lowest at h
  show WR G X (mQ G X (some (.int z)) M SS) 0 [.long v0, vU] [] M SS
  refine r_lload_n hX dX8_lowest_0 rfl ?_
  refine r_lload_n hX dX8_lowest_1 rfl ?_
  refine r_lneg hX dX8_lowest_2 ?_
  refine r_land hX dX8_lowest_3 ?_
  refine r_lconst (v := (1 : Int64)) hX dX8_lowest_4 (by decide) ?_
  refine r_lsub hX dX8_lowest_5 ?_
  obtain ⟨z1, p2, h⟩ := bnd_s h
  refine r_callS (As := [.long ((v0 &&& (-v0)) - (1 : Int64))]) hX dX8_lowest_6 mk_Jl_bitCount ms_Jl_bitCount ml_8_295 rfl rfl rfl (Nat.le_of_ble_eq_true rfl) hr (ok_Jl_bitCount (d := d + 0) ((v0 &&& (-v0)) - (1 : Int64)) M p2) ?_
  obtain rfl := Option.some.inj h
  exact r_iret hX hT dX8_lowest_9 rfl
def Fi_choose (v1 : Int32) (v2 : Int32) (v3 : Int32) (v4 : Int32) (M : Mm) : Option (Mm) :=
  some ((up2 (up2 (up2 (up2 M.1 12 1 v1) 12 2 v2) 12 3 v3) 12 4 v4), M.2)
set_option maxRecDepth 100000 in
theorem ok_Fi_choose {G : Gm} {l : Launch} {d : Nat} (v1 : Int32) (v2 : Int32) (v3 : Int32) (v4 : Int32) (M : Mm) {z : Mm}  (h : Fi_choose v1 v2 v3 v4 M = some z) : CK G l (d + 0) md_Fi_choose [.ref 12, .int v1, .int v2, .int v3, .int v4] M SS (none) z SS := by
  refine ck_of mk_Fi_choose (Nat.le_of_ble_eq_true rfl) ⟨Nat.le_refl _, Nat.le_refl _⟩ (fun X hX hT hS hr hl => ?_)
  subst hl
  unfold Fi_choose at h
  show WR G X (mQ G X (none) z SS) 0 [.ref 12, .int v1, .int v2, .int v3, .int v4] [] M SS
  refine r_aload_n hX dX0_choose_0 rfl ?_
  refine r_iload_n hX dX0_choose_1 rfl ?_
  refine r_putI hX dX0_choose_2 fl_0_18 rfl (by decide) (by decide) (okI_int _) ?_
  refine r_aload_n hX dX0_choose_5 rfl ?_
  refine r_iload_n hX dX0_choose_6 rfl ?_
  refine r_putI' hX dX0_choose_7 fl_0_22 rfl (by decide) (by decide) (okI_int _) ?_
  refine r_aload_n hX dX0_choose_10 rfl ?_
  refine r_iload_n hX dX0_choose_11 rfl ?_
  refine r_putI' hX dX0_choose_12 fl_0_25 rfl (by decide) (by decide) (okI_int _) ?_
  refine r_aload_n hX dX0_choose_15 rfl ?_
  refine r_iload hX dX0_choose_16 rfl ?_
  refine r_putI' hX dX0_choose_18 fl_0_28 rfl (by decide) (by decide) (okI_int _) ?_
  obtain rfl := Option.some.inj h
  exact r_vret hX hT dX0_choose_21
def Fg_span (v0 : Int32) (v1 : Int32) (M : Mm) : Option (Int64) :=
  some ((lshl (1 : Int64) v1) - (lshl (1 : Int64) v0))
set_option maxRecDepth 100000 in
theorem ok_Fg_span {G : Gm} {l : Launch} {d : Nat} (v0 : Int32) (v1 : Int32) (M : Mm) {z : Int64}  (h : Fg_span v0 v1 M = some z) : CK G l (d + 0) md_Fg_span [.int v0, .int v1] M SS (some (.long z)) M SS := by
  refine ck_of mk_Fg_span (Nat.le_of_ble_eq_true rfl) ⟨Nat.le_refl _, Nat.le_refl _⟩ (fun X hX hT hS hr hl => ?_)
  subst hl
  unfold Fg_span at h
  show WR G X (mQ G X (some (.long z)) M SS) 0 [.int v0, .int v1] [] M SS
  refine r_lconst (v := (1 : Int64)) hX dX8_span_0 (by decide) ?_
  refine r_iload_n hX dX8_span_1 rfl ?_
  refine r_lshl hX dX8_span_2 ?_
  refine r_lconst (v := (1 : Int64)) hX dX8_span_3 (by decide) ?_
  refine r_iload_n hX dX8_span_4 rfl ?_
  refine r_lshl hX dX8_span_5 ?_
  refine r_lsub hX dX8_span_6 ?_
  obtain rfl := Option.some.inj h
  exact r_lret hX hT dX8_span_7
def St_busy_j115 (v4 : Int64) (v6 : Int32) : Option ((Int64 × Int32) ⊕ (Int64)) :=
  some (.inl (v4, v6 + (1 : Int32)))
def St_busy_j112 (v6 : Int32) (w0 : Int64) (w1 : Int64) : Option ((Int64 × Int32) ⊕ (Int64)) :=
  St_busy_j115 (w1 ||| w0) v6
def St_busy_j75 (s : Nat) (c2 : Int32) (v4 : Int64) (v6 : Int32) (w0 : Int32) (Mc : Mm) : Option ((Int64 × Int32) ⊕ (Int64)) :=
  if w0 = (0 : Int32) then
    grd (inb v6 14) (
    St_busy_j112 v6 (Mc.2 (s + 16) (tn v6)) v4)
  else
    grd (inb v6 14) (
    grd (inb c2 40) (
    St_busy_j112 v6 ((Mc.2 (s + 16) (tn v6)) &&& ((Mc.2 (s + 15) (tn c2)) ^^^ (-1 : Int64))) v4))
def St_busy_j74 (s : Nat) (c2 : Int32) (v4 : Int64) (v6 : Int32) (Mc : Mm) : Option ((Int64 × Int32) ⊕ (Int64)) :=
  St_busy_j75 s c2 v4 v6 (0 : Int32) Mc
def St_busy_b31 (s : Nat) (c1 : Int32) (c2 : Int32) (c3 : Int32) (Mc : Mm) (v4 : Int64) (v6 : Int32) : Option ((Int64 × Int32) ⊕ (Int64)) :=
  if (Mc.1 (s + 1) 3) ≤ v6 then
    some (.inr v4)
  else
    if ((ushr c1 v6) &&& (1 : Int32)) = (0 : Int32) then
      St_busy_j115 v4 v6
    else
      if c3 = (0 : Int32) then
        St_busy_j74 s c2 v4 v6 Mc
      else
        grd (inb c2 40) (
        if ((ushr (Mc.1 (s + 12) (tn c2)) v6) &&& (1 : Int32)) = (0 : Int32) then
          St_busy_j74 s c2 v4 v6 Mc
        else
          St_busy_j75 s c2 v4 v6 (1 : Int32) Mc)
def St_busy_j24 (n : Nat) (s : Nat) (v1 : Int32) (v2 : Int32) (w0 : Int32) (M : Mm) : Option (Int64) :=
  bnd (loop (fun s1 : Int64 × Int32 => St_busy_b31 s v1 v2 w0 M s1.1 s1.2) n ((0 : Int64), (0 : Int32))) (fun y11 =>
  some y11)
def St_busy_j23 (n : Nat) (s : Nat) (v1 : Int32) (v2 : Int32) (M : Mm) : Option (Int64) :=
  St_busy_j24 n s v1 v2 (0 : Int32) M
def St_busy (n : Nat) (s : Nat) (v1 : Int32) (v2 : Int32) (M : Mm) : Option (Int64) :=
  if v2 < (0 : Int32) then
    St_busy_j23 n s v1 v2 M
  else
    if (40 : Int32) ≤ v2 then
      St_busy_j23 n s v1 v2 M
    else
      grd (inb v2 40) (
      if (M.1 (s + 10) (tn v2)) = (0 : Int32) then
        St_busy_j24 n s v1 v2 (1 : Int32) M
      else
        St_busy_j23 n s v1 v2 M)
set_option maxRecDepth 100000 in
theorem ok_St_busy_j115 (n : Nat) (s : Nat) (v4 : Int64) (v6 : Int32) {c1 : Int32} {c2 : Int32} {c3 : Int32} {Mc : Mm} {z : Int64} {oo : (Int64 × Int32) ⊕ (Int64)} {G : Gm} {X : Cx} {d : Nat} (hs : isSt s) (hX : XK G X 4 cX4_busy 8 (d + 0)) (hT : XT X (some .long) "busy") (hr : XR X SS) (hc : ∀ s1 : Int64 × Int32, oo = .inl s1 → WR G X (mQ G X (some (.long z)) Mc SS) 31 [.ref s, .int c1, .int c2, .int c3, .long s1.1, vU, .int s1.2, vU] [] Mc SS) (hx : ∀ x1 : Int64, oo = .inr x1 → WR G X (mQ G X (some (.long z)) Mc SS) 121 [.ref s, vU, vU, vU, .long x1, vU, vU, vU] [] Mc SS) (h : St_busy_j115 v4 v6 = some oo) : WR G X (mQ G X (some (.long z)) Mc SS) 115 [.ref s, .int c1, .int c2, .int c3, .long v4, vU, .int v6, vU] [] Mc SS := by
  unfold St_busy_j115 at h
  refine r_iinc (v := v6 + (1 : Int32)) (L1 := [.ref s, .int c1, .int c2, .int c3, .long v4, vU, .int (v6 + (1 : Int32)), vU]) hX dX4_busy_115 rfl rfl rfl ?_
  refine r_goto (tgt := 31) hX dX4_busy_118 (by decide) ?_
  exact hc (v4, v6 + (1 : Int32)) (Option.some.inj h).symm
set_option maxRecDepth 100000 in
theorem ok_St_busy_j112 (n : Nat) (s : Nat) (v6 : Int32) (w0 : Int64) (w1 : Int64) {c1 : Int32} {c2 : Int32} {c3 : Int32} {Mc : Mm} {z : Int64} {oo : (Int64 × Int32) ⊕ (Int64)} {G : Gm} {X : Cx} {d : Nat} (hs : isSt s) (hX : XK G X 4 cX4_busy 8 (d + 0)) (hT : XT X (some .long) "busy") (hr : XR X SS) (hc : ∀ s1 : Int64 × Int32, oo = .inl s1 → WR G X (mQ G X (some (.long z)) Mc SS) 31 [.ref s, .int c1, .int c2, .int c3, .long s1.1, vU, .int s1.2, vU] [] Mc SS) (hx : ∀ x1 : Int64, oo = .inr x1 → WR G X (mQ G X (some (.long z)) Mc SS) 121 [.ref s, vU, vU, vU, .long x1, vU, vU, vU] [] Mc SS) (h : St_busy_j112 v6 w0 w1 = some oo) : WR G X (mQ G X (some (.long z)) Mc SS) 112 [.ref s, .int c1, .int c2, .int c3, vU, vU, .int v6, vU] [.long w0, .long w1] Mc SS := by
  unfold St_busy_j112 at h
  refine r_lor hX dX4_busy_112 ?_
  refine r_lstore (L1 := [.ref s, .int c1, .int c2, .int c3, .long (w1 ||| w0), vU, .int v6, vU]) hX dX4_busy_113 (Nat.le_of_ble_eq_true rfl) rfl ?_
  exact ok_St_busy_j115 n s (w1 ||| w0) v6  hs hX hT hr hc hx h
set_option maxRecDepth 100000 in
theorem ok_St_busy_j75 (n : Nat) (s : Nat) (v4 : Int64) (v6 : Int32) (w0 : Int32) {c1 : Int32} {c2 : Int32} {c3 : Int32} {Mc : Mm} {z : Int64} {oo : (Int64 × Int32) ⊕ (Int64)} {G : Gm} {X : Cx} {d : Nat} (hs : isSt s) (hX : XK G X 4 cX4_busy 8 (d + 0)) (hT : XT X (some .long) "busy") (hr : XR X SS) (hc : ∀ s1 : Int64 × Int32, oo = .inl s1 → WR G X (mQ G X (some (.long z)) Mc SS) 31 [.ref s, .int c1, .int c2, .int c3, .long s1.1, vU, .int s1.2, vU] [] Mc SS) (hx : ∀ x1 : Int64, oo = .inr x1 → WR G X (mQ G X (some (.long z)) Mc SS) 121 [.ref s, vU, vU, vU, .long x1, vU, vU, vU] [] Mc SS) (h : St_busy_j75 s c2 v4 v6 w0 Mc = some oo) : WR G X (mQ G X (some (.long z)) Mc SS) 75 [.ref s, .int c1, .int c2, .int c3, .long v4, vU, .int v6, vU] [.int w0] Mc SS := by
  unfold St_busy_j75 at h
  refine r_istore (L1 := [.ref s, .int c1, .int c2, .int c3, .long v4, vU, .int v6, .int w0]) hX dX4_busy_75 (Nat.le_of_ble_eq_true rfl) rfl ?_
  refine r_lload hX dX4_busy_77 rfl ?_
  refine r_iload hX dX4_busy_79 rfl ?_
  refine r_if_eq (tgt := 105) hX dX4_busy_81 (by decide) (fun g5 => ?_) (fun g5 => ?_)
  · have h := (if_pos g5).symm.trans h
    refine r_aload_n hX dX4_busy_105 rfl ?_
    refine r_getf (v := .ref (s + 16)) hX dX4_busy_106 fl_4_60 (kdS0 hs) (by decide) (ltS0 hs) (rfS14 hs) ?_
    refine r_iload hX dX4_busy_109 rfl ?_
    obtain ⟨k6, h⟩ := grd_s h
    refine r_lald hX dX4_busy_111 (kdS16 hs) (ltS16 hs) (inb_at (lnS16 hs) k6) ?_
    refine WR.fg (L' := [.ref s, .int c1, .int c2, .int c3, vU, vU, .int v6, vU]) ⟨Or.inr rfl, Or.inr rfl, Or.inr rfl, Or.inr rfl, Or.inl rfl, Or.inl rfl, Or.inr rfl, Or.inl rfl, trivial⟩ ?_
    exact ok_St_busy_j112 n s v6 (Mc.2 (s + 16) (tn v6)) v4  hs hX hT hr hc hx h
  · have h := (if_neg g5).symm.trans h
    refine r_aload_n hX dX4_busy_84 rfl ?_
    refine r_getf (v := .ref (s + 16)) hX dX4_busy_85 fl_4_60 (kdS0 hs) (by decide) (ltS0 hs) (rfS14 hs) ?_
    refine r_iload hX dX4_busy_88 rfl ?_
    obtain ⟨k7, h⟩ := grd_s h
    refine r_lald hX dX4_busy_90 (kdS16 hs) (ltS16 hs) (inb_at (lnS16 hs) k7) ?_
    refine r_aload_n hX dX4_busy_91 rfl ?_
    refine r_getf (v := .ref (s + 15)) hX dX4_busy_92 fl_4_56 (kdS0 hs) (by decide) (ltS0 hs) (rfS13 hs) ?_
    refine r_iload_n hX dX4_busy_95 rfl ?_
    obtain ⟨k8, h⟩ := grd_s h
    refine r_lald hX dX4_busy_96 (kdS15 hs) (ltS15 hs) (inb_at (lnS15 hs) k8) ?_
    refine r_ldc2 hX dX4_busy_97 kl_4_96 ?_
    refine r_lxor hX dX4_busy_100 ?_
    refine r_land hX dX4_busy_101 ?_
    refine r_goto (tgt := 112) hX dX4_busy_102 (by decide) ?_
    refine WR.fg (L' := [.ref s, .int c1, .int c2, .int c3, vU, vU, .int v6, vU]) ⟨Or.inr rfl, Or.inr rfl, Or.inr rfl, Or.inr rfl, Or.inl rfl, Or.inl rfl, Or.inr rfl, Or.inl rfl, trivial⟩ ?_
    exact ok_St_busy_j112 n s v6 ((Mc.2 (s + 16) (tn v6)) &&& ((Mc.2 (s + 15) (tn c2)) ^^^ (-1 : Int64))) v4  hs hX hT hr hc hx h
set_option maxRecDepth 100000 in
theorem ok_St_busy_j74 (n : Nat) (s : Nat) (v4 : Int64) (v6 : Int32) {c1 : Int32} {c2 : Int32} {c3 : Int32} {Mc : Mm} {z : Int64} {oo : (Int64 × Int32) ⊕ (Int64)} {G : Gm} {X : Cx} {d : Nat} (hs : isSt s) (hX : XK G X 4 cX4_busy 8 (d + 0)) (hT : XT X (some .long) "busy") (hr : XR X SS) (hc : ∀ s1 : Int64 × Int32, oo = .inl s1 → WR G X (mQ G X (some (.long z)) Mc SS) 31 [.ref s, .int c1, .int c2, .int c3, .long s1.1, vU, .int s1.2, vU] [] Mc SS) (hx : ∀ x1 : Int64, oo = .inr x1 → WR G X (mQ G X (some (.long z)) Mc SS) 121 [.ref s, vU, vU, vU, .long x1, vU, vU, vU] [] Mc SS) (h : St_busy_j74 s c2 v4 v6 Mc = some oo) : WR G X (mQ G X (some (.long z)) Mc SS) 74 [.ref s, .int c1, .int c2, .int c3, .long v4, vU, .int v6, vU] [] Mc SS := by
  unfold St_busy_j74 at h
  refine r_iconst (v := (0 : Int32)) hX dX4_busy_74 (by decide) ?_
  exact ok_St_busy_j75 n s v4 v6 (0 : Int32)  hs hX hT hr hc hx h
set_option maxRecDepth 100000 in
theorem ok_St_busy_b31 (n : Nat) (s : Nat) (v4 : Int64) (v6 : Int32) {c1 : Int32} {c2 : Int32} {c3 : Int32} {Mc : Mm} {z : Int64} {oo : (Int64 × Int32) ⊕ (Int64)} {G : Gm} {X : Cx} {d : Nat} (hs : isSt s) (hX : XK G X 4 cX4_busy 8 (d + 0)) (hT : XT X (some .long) "busy") (hr : XR X SS) (hc : ∀ s1 : Int64 × Int32, oo = .inl s1 → WR G X (mQ G X (some (.long z)) Mc SS) 31 [.ref s, .int c1, .int c2, .int c3, .long s1.1, vU, .int s1.2, vU] [] Mc SS) (hx : ∀ x1 : Int64, oo = .inr x1 → WR G X (mQ G X (some (.long z)) Mc SS) 121 [.ref s, vU, vU, vU, .long x1, vU, vU, vU] [] Mc SS) (h : St_busy_b31 s c1 c2 c3 Mc v4 v6 = some oo) : WR G X (mQ G X (some (.long z)) Mc SS) 31 [.ref s, .int c1, .int c2, .int c3, .long v4, vU, .int v6, vU] [] Mc SS := by
  unfold St_busy_b31 at h
  refine r_iload hX dX4_busy_31 rfl ?_
  refine r_aload_n hX dX4_busy_33 rfl ?_
  refine r_getf (v := .ref (s + 1)) hX dX4_busy_34 fl_4_12 (kdS0 hs) (by decide) (ltS0 hs) (rfS0 hs) ?_
  refine r_getf (v := .int (Mc.1 (s + 1) 3)) hX dX4_busy_37 fl_4_70 (kdS1 hs) (by decide) (ltS1 hs) rfl ?_
  refine r_icmp_ge (tgt := 121) hX dX4_busy_40 (by decide) (fun g2 => ?_) (fun g2 => ?_)
  · have h := (if_pos g2).symm.trans h
    refine WR.fg (L' := [.ref s, vU, vU, vU, .long v4, vU, vU, vU]) ⟨Or.inr rfl, Or.inl rfl, Or.inl rfl, Or.inl rfl, Or.inr rfl, Or.inl rfl, Or.inl rfl, Or.inl rfl, trivial⟩ ?_
    exact hx _ (Option.some.inj h).symm
  · have h := (if_neg g2).symm.trans h
    refine r_iload_n hX dX4_busy_43 rfl ?_
    refine r_iload hX dX4_busy_44 rfl ?_
    refine r_iushr hX dX4_busy_46 ?_
    refine r_iconst (v := (1 : Int32)) hX dX4_busy_47 (by decide) ?_
    refine r_iand hX dX4_busy_48 ?_
    refine r_if_eq (tgt := 115) hX dX4_busy_49 (by decide) (fun g3 => ?_) (fun g3 => ?_)
    · have h := (if_pos g3).symm.trans h
      exact ok_St_busy_j115 n s v4 v6  hs hX hT hr hc hx h
    · have h := (if_neg g3).symm.trans h
      refine r_iload_n hX dX4_busy_52 rfl ?_
      refine r_if_eq (tgt := 74) hX dX4_busy_53 (by decide) (fun g4 => ?_) (fun g4 => ?_)
      · have h := (if_pos g4).symm.trans h
        exact ok_St_busy_j74 n s v4 v6  hs hX hT hr hc hx h
      · have h := (if_neg g4).symm.trans h
        refine r_aload_n hX dX4_busy_56 rfl ?_
        refine r_getf (v := .ref (s + 12)) hX dX4_busy_57 fl_4_47 (kdS0 hs) (by decide) (ltS0 hs) (rfS10 hs) ?_
        refine r_iload_n hX dX4_busy_60 rfl ?_
        obtain ⟨k9, h⟩ := grd_s h
        refine r_iald hX dX4_busy_61 (kdS12 hs) (ltS12 hs) (inb_at (lnS12 hs) k9) ?_
        refine r_iload hX dX4_busy_62 rfl ?_
        refine r_iushr hX dX4_busy_64 ?_
        refine r_iconst (v := (1 : Int32)) hX dX4_busy_65 (by decide) ?_
        refine r_iand hX dX4_busy_66 ?_
        refine r_if_eq (tgt := 74) hX dX4_busy_67 (by decide) (fun g10 => ?_) (fun g10 => ?_)
        · have h := (if_pos g10).symm.trans h
          exact ok_St_busy_j74 n s v4 v6  hs hX hT hr hc hx h
        · have h := (if_neg g10).symm.trans h
          refine r_iconst (v := (1 : Int32)) hX dX4_busy_70 (by decide) ?_
          refine r_goto (tgt := 75) hX dX4_busy_71 (by decide) ?_
          exact ok_St_busy_j75 n s v4 v6 (1 : Int32)  hs hX hT hr hc hx h
set_option maxRecDepth 100000 in
theorem ok_St_busy_j24 (n : Nat) (s : Nat) (v1 : Int32) (v2 : Int32) (w0 : Int32) (M : Mm) {z : Int64} {G : Gm} {X : Cx} {d : Nat} (hs : isSt s) (hX : XK G X 4 cX4_busy 8 (d + 0)) (hT : XT X (some .long) "busy") (hr : XR X SS) (h : St_busy_j24 n s v1 v2 w0 M = some z) : WR G X (mQ G X (some (.long z)) M SS) 24 [.ref s, .int v1, .int v2, vU, vU, vU, vU, vU] [.int w0] M SS := by
  unfold St_busy_j24 at h
  refine r_istore_n (L1 := [.ref s, .int v1, .int v2, .int w0, vU, vU, vU, vU]) hX dX4_busy_24 (Nat.le_of_ble_eq_true rfl) rfl ?_
  refine r_lconst (v := (0 : Int64)) hX dX4_busy_25 (by decide) ?_
  refine r_lstore (L1 := [.ref s, .int v1, .int v2, .int w0, .long (0 : Int64), vU, vU, vU]) hX dX4_busy_26 (Nat.le_of_ble_eq_true rfl) rfl ?_
  refine r_iconst (v := (0 : Int32)) hX dX4_busy_28 (by decide) ?_
  refine r_istore (L1 := [.ref s, .int v1, .int v2, .int w0, .long (0 : Int64), vU, .int (0 : Int32), vU]) hX dX4_busy_29 (Nat.le_of_ble_eq_true rfl) rfl ?_
  obtain ⟨y11, h1, h⟩ := bnd_s h
  refine loop_ok (P := fun s1 : Int64 × Int32 => WR G X (mQ G X (some (.long z)) M SS) 31 [.ref s, .int v1, .int v2, .int w0, .long s1.1, vU, .int s1.2, vU] [] M SS) (E := fun x1 : Int64 => WR G X (mQ G X (some (.long z)) M SS) 121 [.ref s, vU, vU, vU, .long x1, vU, vU, vU] [] M SS) (fun s1 o1 g1 g2 g3 => ok_St_busy_b31 n s s1.1 s1.2 hs hX hT hr g2 g3 g1) n ((0 : Int64), (0 : Int32)) y11 h1 ?_
  show WR G X (mQ G X (some (.long z)) M SS) 121 [.ref s, vU, vU, vU, .long y11, vU, vU, vU] [] M SS
  refine r_lload hX dX4_busy_121 rfl ?_
  obtain rfl := Option.some.inj h
  exact r_lret hX hT dX4_busy_123
set_option maxRecDepth 100000 in
theorem ok_St_busy_j23 (n : Nat) (s : Nat) (v1 : Int32) (v2 : Int32) (M : Mm) {z : Int64} {G : Gm} {X : Cx} {d : Nat} (hs : isSt s) (hX : XK G X 4 cX4_busy 8 (d + 0)) (hT : XT X (some .long) "busy") (hr : XR X SS) (h : St_busy_j23 n s v1 v2 M = some z) : WR G X (mQ G X (some (.long z)) M SS) 23 [.ref s, .int v1, .int v2, vU, vU, vU, vU, vU] [] M SS := by
  unfold St_busy_j23 at h
  refine r_iconst (v := (0 : Int32)) hX dX4_busy_23 (by decide) ?_
  exact ok_St_busy_j24 n s v1 v2 (0 : Int32) M  hs hX hT hr h
set_option maxRecDepth 100000 in
theorem ok_St_busy {G : Gm} {l : Launch} {d : Nat} (n : Nat) (s : Nat) (v1 : Int32) (v2 : Int32) (M : Mm) {z : Int64} (hs : isSt s) (h : St_busy n s v1 v2 M = some z) : CK G l (d + 0) md_St_busy [.ref s, .int v1, .int v2] M SS (some (.long z)) M SS := by
  refine ck_of mk_St_busy (Nat.le_of_ble_eq_true rfl) ⟨Nat.le_refl _, Nat.le_refl _⟩ (fun X hX hT hS hr hl => ?_)
  subst hl
  unfold St_busy at h
  show WR G X (mQ G X (some (.long z)) M SS) 0 [.ref s, .int v1, .int v2, vU, vU, vU, vU, vU] [] M SS
  refine r_iload_n hX dX4_busy_0 rfl ?_
  refine r_if_lt (tgt := 23) hX dX4_busy_1 (by decide) (fun g1 => ?_) (fun g1 => ?_)
  · have h := (if_pos g1).symm.trans h
    exact ok_St_busy_j23 n s v1 v2 M  hs hX hT hr h
  · have h := (if_neg g1).symm.trans h
    refine r_iload_n hX dX4_busy_4 rfl ?_
    refine r_bipush (v := (40 : Int32)) hX dX4_busy_5 (by decide) ?_
    refine r_icmp_ge (tgt := 23) hX dX4_busy_7 (by decide) (fun g12 => ?_) (fun g12 => ?_)
    · have h := (if_pos g12).symm.trans h
      exact ok_St_busy_j23 n s v1 v2 M  hs hX hT hr h
    · have h := (if_neg g12).symm.trans h
      refine r_aload_n hX dX4_busy_10 rfl ?_
      refine r_getf (v := .ref (s + 10)) hX dX4_busy_11 fl_4_41 (kdS0 hs) (by decide) (ltS0 hs) (rfS8 hs) ?_
      refine r_iload_n hX dX4_busy_14 rfl ?_
      obtain ⟨k13, h⟩ := grd_s h
      refine r_iald hX dX4_busy_15 (kdS10 hs) (ltS10 hs) (inb_at (lnS10 hs) k13) ?_
      refine r_if_ne (tgt := 23) hX dX4_busy_16 (by decide) (fun g14 => ?_) (fun g14 => ?_)
      · have h := (if_neg g14).symm.trans h
        exact ok_St_busy_j23 n s v1 v2 M  hs hX hT hr h
      · have h := (if_pos g14).symm.trans h
        refine r_iconst (v := (1 : Int32)) hX dX4_busy_19 (by decide) ?_
        refine r_goto (tgt := 24) hX dX4_busy_20 (by decide) ?_
        exact ok_St_busy_j24 n s v1 v2 (1 : Int32) M  hs hX hT hr h
def Fi_weighRows_j116 (v9 : Int32) (v10 : Int32) (M : Mm) : Option ((Int32 × Int32 × Mm) ⊕ (Mm)) :=
  some (.inl (v9, v10 + (1 : Int32), M))
def Fi_weighRows_j110 (v10 : Int32) (M : Mm) : Option ((Int32 × Int32 × Mm) ⊕ (Mm)) :=
  Fi_weighRows_j116 (v10 + (1 : Int32)) v10 M
def Fi_weighRows_j88 (c2 : Int32) (c3 : Int32) (c4 : Int32) (v9 : Int32) (v10 : Int32) (v11 : Int64) (M : Mm) : Option ((Int32 × Int32 × Mm) ⊕ (Mm)) :=
  bnd (Fg_lowest v11 M) (fun z9 =>
  bnd (Fi_choose c2 c3 z9 c4 M) (fun z11 =>
  Fi_weighRows_j110 v10 ((up2 z11.1 12 5 (v10 - v9)), z11.2)))
def Fi_weighRows_j50 (c2 : Int32) (c3 : Int32) (c4 : Int32) (c5 : Int64) (v9 : Int32) (v10 : Int32) (M : Mm) : Option ((Int32 × Int32 × Mm) ⊕ (Mm)) :=
  bnd (Fg_span v9 v10 M) (fun z5 =>
  if (c5 &&& z5) = (0 : Int64) then
    Fi_weighRows_j110 v10 M
  else
    if (M.1 12 1) < (0 : Int32) then
      Fi_weighRows_j88 c2 c3 c4 v9 v10 (c5 &&& z5) M
    else
      if (M.1 12 5) ≤ (v10 - v9) then
        Fi_weighRows_j110 v10 M
      else
        Fi_weighRows_j88 c2 c3 c4 v9 v10 (c5 &&& z5) M)
def Fi_weighRows_b14 (o : Nat) (c2 : Int32) (c3 : Int32) (c4 : Int32) (c5 : Int64) (c7 : Int64) (v9 : Int32) (v10 : Int32) (M : Mm) : Option ((Int32 × Int32 × Mm) ⊕ (Mm)) :=
  if (M.1 (o + 1) 1) < v10 then
    some (.inr M)
  else
    if v10 = (M.1 (o + 1) 1) then
      Fi_weighRows_j50 c2 c3 c4 c5 v9 v10 M
    else
      if ((lushr c7 v10) &&& (1 : Int64)) = (0 : Int64) then
        Fi_weighRows_j116 v9 v10 M
      else
        Fi_weighRows_j50 c2 c3 c4 c5 v9 v10 M
def Fi_weighRows (n : Nat) (o : Nat) (v2 : Int32) (v3 : Int32) (v4 : Int32) (v5 : Int64) (M : Mm) : Option (Mm) :=
  bnd (St_busy n o v3 (-1 : Int32) M) (fun z1 =>
  bnd (loop (fun s1 : Int32 × Int32 × Mm => Fi_weighRows_b14 o v2 v3 v4 v5 z1 s1.1 s1.2.1 s1.2.2) n ((0 : Int32), (0 : Int32), M)) (fun y15 =>
  some y15))
set_option maxRecDepth 100000 in
theorem ok_Fi_weighRows_j116 (n : Nat) (o : Nat) (v9 : Int32) (v10 : Int32) (M : Mm) {c2 : Int32} {c3 : Int32} {c4 : Int32} {c5 : Int64} {c7 : Int64} {z : Mm} {oo : (Int32 × Int32 × Mm) ⊕ (Mm)} {G : Gm} {X : Cx} {d : Nat} (ho : isSt o) (hX : XK G X 0 cX0_weighRows 13 (d + 2)) (hT : XT X (none) "weighRows") (hr : XR X SS) (hc : ∀ s1 : Int32 × Int32 × Mm, oo = .inl s1 → WR G X (mQ G X (none) z SS) 14 [.ref 12, .ref o, .int c2, .int c3, .int c4, .long c5, vU, .long c7, vU, .int s1.1, .int s1.2.1, vU, vU] [] s1.2.2 SS) (hx : ∀ x1 : Mm, oo = .inr x1 → WR G X (mQ G X (none) z SS) 122 [.ref 12, vU, vU, vU, vU, vU, vU, vU, vU, vU, vU, vU, vU] [] x1 SS) (h : Fi_weighRows_j116 v9 v10 M = some oo) : WR G X (mQ G X (none) z SS) 116 [.ref 12, .ref o, .int c2, .int c3, .int c4, .long c5, vU, .long c7, vU, .int v9, .int v10, vU, vU] [] M SS := by
  unfold Fi_weighRows_j116 at h
  refine r_iinc (v := v10 + (1 : Int32)) (L1 := [.ref 12, .ref o, .int c2, .int c3, .int c4, .long c5, vU, .long c7, vU, .int v9, .int (v10 + (1 : Int32)), vU, vU]) hX dX0_weighRows_116 rfl rfl rfl ?_
  refine r_goto (tgt := 14) hX dX0_weighRows_119 (by decide) ?_
  exact hc (v9, v10 + (1 : Int32), M) (Option.some.inj h).symm
set_option maxRecDepth 100000 in
theorem ok_Fi_weighRows_j110 (n : Nat) (o : Nat) (v10 : Int32) (M : Mm) {c2 : Int32} {c3 : Int32} {c4 : Int32} {c5 : Int64} {c7 : Int64} {z : Mm} {oo : (Int32 × Int32 × Mm) ⊕ (Mm)} {G : Gm} {X : Cx} {d : Nat} (ho : isSt o) (hX : XK G X 0 cX0_weighRows 13 (d + 2)) (hT : XT X (none) "weighRows") (hr : XR X SS) (hc : ∀ s1 : Int32 × Int32 × Mm, oo = .inl s1 → WR G X (mQ G X (none) z SS) 14 [.ref 12, .ref o, .int c2, .int c3, .int c4, .long c5, vU, .long c7, vU, .int s1.1, .int s1.2.1, vU, vU] [] s1.2.2 SS) (hx : ∀ x1 : Mm, oo = .inr x1 → WR G X (mQ G X (none) z SS) 122 [.ref 12, vU, vU, vU, vU, vU, vU, vU, vU, vU, vU, vU, vU] [] x1 SS) (h : Fi_weighRows_j110 v10 M = some oo) : WR G X (mQ G X (none) z SS) 110 [.ref 12, .ref o, .int c2, .int c3, .int c4, .long c5, vU, .long c7, vU, vU, .int v10, vU, vU] [] M SS := by
  unfold Fi_weighRows_j110 at h
  refine r_iload hX dX0_weighRows_110 rfl ?_
  refine r_iconst (v := (1 : Int32)) hX dX0_weighRows_112 (by decide) ?_
  refine r_iadd hX dX0_weighRows_113 ?_
  refine r_istore (L1 := [.ref 12, .ref o, .int c2, .int c3, .int c4, .long c5, vU, .long c7, vU, .int (v10 + (1 : Int32)), .int v10, vU, vU]) hX dX0_weighRows_114 (Nat.le_of_ble_eq_true rfl) rfl ?_
  exact ok_Fi_weighRows_j116 n o (v10 + (1 : Int32)) v10 M  ho hX hT hr hc hx h
set_option maxRecDepth 100000 in
theorem ok_Fi_weighRows_j88 (n : Nat) (o : Nat) (v9 : Int32) (v10 : Int32) (v11 : Int64) (M : Mm) {c2 : Int32} {c3 : Int32} {c4 : Int32} {c5 : Int64} {c7 : Int64} {z : Mm} {oo : (Int32 × Int32 × Mm) ⊕ (Mm)} {G : Gm} {X : Cx} {d : Nat} (ho : isSt o) (hX : XK G X 0 cX0_weighRows 13 (d + 2)) (hT : XT X (none) "weighRows") (hr : XR X SS) (hc : ∀ s1 : Int32 × Int32 × Mm, oo = .inl s1 → WR G X (mQ G X (none) z SS) 14 [.ref 12, .ref o, .int c2, .int c3, .int c4, .long c5, vU, .long c7, vU, .int s1.1, .int s1.2.1, vU, vU] [] s1.2.2 SS) (hx : ∀ x1 : Mm, oo = .inr x1 → WR G X (mQ G X (none) z SS) 122 [.ref 12, vU, vU, vU, vU, vU, vU, vU, vU, vU, vU, vU, vU] [] x1 SS) (h : Fi_weighRows_j88 c2 c3 c4 v9 v10 v11 M = some oo) : WR G X (mQ G X (none) z SS) 88 [.ref 12, .ref o, .int c2, .int c3, .int c4, .long c5, vU, .long c7, vU, .int v9, .int v10, .long v11, vU] [] M SS := by
  unfold Fi_weighRows_j88 at h
  refine r_aload_n hX dX0_weighRows_88 rfl ?_
  refine r_iload_n hX dX0_weighRows_89 rfl ?_
  refine r_iload_n hX dX0_weighRows_90 rfl ?_
  refine r_lload hX dX0_weighRows_91 rfl ?_
  obtain ⟨z9, p10, h⟩ := bnd_s h
  refine r_callSN (As := [.long v11]) hX dX0_weighRows_93 mk_Fg_lowest ms_Fg_lowest mn_0_74 rfl rfl rfl (Nat.le_of_ble_eq_true rfl) hr (ok_Fg_lowest (d := d + 0) v11 M p10) ?_
  refine r_iload hX dX0_weighRows_96 rfl ?_
  obtain ⟨z11, p12, h⟩ := bnd_s h
  refine r_callV (As := [.int c2, .int c3, .int z9, .int c4]) hX dX0_weighRows_98 mk_Fi_choose mi_Fi_choose ml_0_77 rfl rfl rfl rfl (by decide) (by decide) (Nat.le_of_ble_eq_true rfl) hr (ok_Fi_choose (d := d + 1) c2 c3 z9 c4 M p12) ?_
  refine r_aload_n hX dX0_weighRows_101 rfl ?_
  refine r_iload hX dX0_weighRows_102 rfl ?_
  refine r_iload hX dX0_weighRows_104 rfl ?_
  refine r_isub hX dX0_weighRows_106 ?_
  refine r_putI hX dX0_weighRows_107 fl_0_31 rfl (by decide) (by decide) (okI_int _) ?_
  refine WR.fg (L' := [.ref 12, .ref o, .int c2, .int c3, .int c4, .long c5, vU, .long c7, vU, vU, .int v10, vU, vU]) ⟨Or.inr rfl, Or.inr rfl, Or.inr rfl, Or.inr rfl, Or.inr rfl, Or.inr rfl, Or.inl rfl, Or.inr rfl, Or.inl rfl, Or.inl rfl, Or.inr rfl, Or.inl rfl, Or.inl rfl, trivial⟩ ?_
  exact ok_Fi_weighRows_j110 n o v10 ((up2 z11.1 12 5 (v10 - v9)), z11.2)  ho hX hT hr hc hx h
set_option maxRecDepth 100000 in
theorem ok_Fi_weighRows_j50 (n : Nat) (o : Nat) (v9 : Int32) (v10 : Int32) (M : Mm) {c2 : Int32} {c3 : Int32} {c4 : Int32} {c5 : Int64} {c7 : Int64} {z : Mm} {oo : (Int32 × Int32 × Mm) ⊕ (Mm)} {G : Gm} {X : Cx} {d : Nat} (ho : isSt o) (hX : XK G X 0 cX0_weighRows 13 (d + 2)) (hT : XT X (none) "weighRows") (hr : XR X SS) (hc : ∀ s1 : Int32 × Int32 × Mm, oo = .inl s1 → WR G X (mQ G X (none) z SS) 14 [.ref 12, .ref o, .int c2, .int c3, .int c4, .long c5, vU, .long c7, vU, .int s1.1, .int s1.2.1, vU, vU] [] s1.2.2 SS) (hx : ∀ x1 : Mm, oo = .inr x1 → WR G X (mQ G X (none) z SS) 122 [.ref 12, vU, vU, vU, vU, vU, vU, vU, vU, vU, vU, vU, vU] [] x1 SS) (h : Fi_weighRows_j50 c2 c3 c4 c5 v9 v10 M = some oo) : WR G X (mQ G X (none) z SS) 50 [.ref 12, .ref o, .int c2, .int c3, .int c4, .long c5, vU, .long c7, vU, .int v9, .int v10, vU, vU] [] M SS := by
  unfold Fi_weighRows_j50 at h
  refine r_lload hX dX0_weighRows_50 rfl ?_
  refine r_iload hX dX0_weighRows_52 rfl ?_
  refine r_iload hX dX0_weighRows_54 rfl ?_
  obtain ⟨z5, p6, h⟩ := bnd_s h
  refine r_callSN (As := [.int v9, .int v10]) hX dX0_weighRows_56 mk_Fg_span ms_Fg_span mn_0_88 rfl rfl rfl (Nat.le_of_ble_eq_true rfl) hr (ok_Fg_span (d := d + 1) v9 v10 M p6) ?_
  refine r_land hX dX0_weighRows_59 ?_
  refine r_lstore (L1 := [.ref 12, .ref o, .int c2, .int c3, .int c4, .long c5, vU, .long c7, vU, .int v9, .int v10, .long (c5 &&& z5), vU]) hX dX0_weighRows_60 (Nat.le_of_ble_eq_true rfl) rfl ?_
  refine r_lload hX dX0_weighRows_62 rfl ?_
  refine r_lconst (v := (0 : Int64)) hX dX0_weighRows_64 (by decide) ?_
  refine r_lcmp_eq (tgt := 110) hX dX0_weighRows_65 dX0_weighRows_66 (by decide) (fun g7 => ?_) (fun g7 => ?_)
  · have h := (if_pos g7).symm.trans h
    refine WR.fg (L' := [.ref 12, .ref o, .int c2, .int c3, .int c4, .long c5, vU, .long c7, vU, vU, .int v10, vU, vU]) ⟨Or.inr rfl, Or.inr rfl, Or.inr rfl, Or.inr rfl, Or.inr rfl, Or.inr rfl, Or.inl rfl, Or.inr rfl, Or.inl rfl, Or.inl rfl, Or.inr rfl, Or.inl rfl, Or.inl rfl, trivial⟩ ?_
    exact ok_Fi_weighRows_j110 n o v10 M  ho hX hT hr hc hx h
  · have h := (if_neg g7).symm.trans h
    refine r_aload_n hX dX0_weighRows_69 rfl ?_
    refine r_getf (v := .int (M.1 12 1)) hX dX0_weighRows_70 fl_0_18 rfl (by decide) (by decide) rfl ?_
    refine r_if_lt (tgt := 88) hX dX0_weighRows_73 (by decide) (fun g8 => ?_) (fun g8 => ?_)
    · have h := (if_pos g8).symm.trans h
      exact ok_Fi_weighRows_j88 n o v9 v10 (c5 &&& z5) M  ho hX hT hr hc hx h
    · have h := (if_neg g8).symm.trans h
      refine r_iload hX dX0_weighRows_76 rfl ?_
      refine r_iload hX dX0_weighRows_78 rfl ?_
      refine r_isub hX dX0_weighRows_80 ?_
      refine r_aload_n hX dX0_weighRows_81 rfl ?_
      refine r_getf (v := .int (M.1 12 5)) hX dX0_weighRows_82 fl_0_31 rfl (by decide) (by decide) rfl ?_
      refine r_icmp_ge (tgt := 110) hX dX0_weighRows_85 (by decide) (fun g13 => ?_) (fun g13 => ?_)
      · have h := (if_pos g13).symm.trans h
        refine WR.fg (L' := [.ref 12, .ref o, .int c2, .int c3, .int c4, .long c5, vU, .long c7, vU, vU, .int v10, vU, vU]) ⟨Or.inr rfl, Or.inr rfl, Or.inr rfl, Or.inr rfl, Or.inr rfl, Or.inr rfl, Or.inl rfl, Or.inr rfl, Or.inl rfl, Or.inl rfl, Or.inr rfl, Or.inl rfl, Or.inl rfl, trivial⟩ ?_
        exact ok_Fi_weighRows_j110 n o v10 M  ho hX hT hr hc hx h
      · have h := (if_neg g13).symm.trans h
        exact ok_Fi_weighRows_j88 n o v9 v10 (c5 &&& z5) M  ho hX hT hr hc hx h
set_option maxRecDepth 100000 in
theorem ok_Fi_weighRows_b14 (n : Nat) (o : Nat) (v9 : Int32) (v10 : Int32) (M : Mm) {c2 : Int32} {c3 : Int32} {c4 : Int32} {c5 : Int64} {c7 : Int64} {z : Mm} {oo : (Int32 × Int32 × Mm) ⊕ (Mm)} {G : Gm} {X : Cx} {d : Nat} (ho : isSt o) (hX : XK G X 0 cX0_weighRows 13 (d + 2)) (hT : XT X (none) "weighRows") (hr : XR X SS) (hc : ∀ s1 : Int32 × Int32 × Mm, oo = .inl s1 → WR G X (mQ G X (none) z SS) 14 [.ref 12, .ref o, .int c2, .int c3, .int c4, .long c5, vU, .long c7, vU, .int s1.1, .int s1.2.1, vU, vU] [] s1.2.2 SS) (hx : ∀ x1 : Mm, oo = .inr x1 → WR G X (mQ G X (none) z SS) 122 [.ref 12, vU, vU, vU, vU, vU, vU, vU, vU, vU, vU, vU, vU] [] x1 SS) (h : Fi_weighRows_b14 o c2 c3 c4 c5 c7 v9 v10 M = some oo) : WR G X (mQ G X (none) z SS) 14 [.ref 12, .ref o, .int c2, .int c3, .int c4, .long c5, vU, .long c7, vU, .int v9, .int v10, vU, vU] [] M SS := by
  unfold Fi_weighRows_b14 at h
  refine r_iload hX dX0_weighRows_14 rfl ?_
  refine r_aload_n hX dX0_weighRows_16 rfl ?_
  refine r_getf (v := .ref (o + 1)) hX dX0_weighRows_17 fl_0_47 (kdS0 ho) (by decide) (ltS0 ho) (rfS0 ho) ?_
  refine r_getf (v := .int (M.1 (o + 1) 1)) hX dX0_weighRows_20 fl_0_85 (kdS1 ho) (by decide) (ltS1 ho) rfl ?_
  refine r_icmp_gt (tgt := 122) hX dX0_weighRows_23 (by decide) (fun g3 => ?_) (fun g3 => ?_)
  · have h := (if_pos g3).symm.trans h
    refine WR.fg (L' := [.ref 12, vU, vU, vU, vU, vU, vU, vU, vU, vU, vU, vU, vU]) ⟨Or.inr rfl, Or.inl rfl, Or.inl rfl, Or.inl rfl, Or.inl rfl, Or.inl rfl, Or.inl rfl, Or.inl rfl, Or.inl rfl, Or.inl rfl, Or.inl rfl, Or.inl rfl, Or.inl rfl, trivial⟩ ?_
    exact hx _ (Option.some.inj h).symm
  · have h := (if_neg g3).symm.trans h
    refine r_iload hX dX0_weighRows_26 rfl ?_
    refine r_aload_n hX dX0_weighRows_28 rfl ?_
    refine r_getf (v := .ref (o + 1)) hX dX0_weighRows_29 fl_0_47 (kdS0 ho) (by decide) (ltS0 ho) (rfS0 ho) ?_
    refine r_getf (v := .int (M.1 (o + 1) 1)) hX dX0_weighRows_32 fl_0_85 (kdS1 ho) (by decide) (ltS1 ho) rfl ?_
    refine r_icmp_eq (tgt := 50) hX dX0_weighRows_35 (by decide) (fun g4 => ?_) (fun g4 => ?_)
    · have h := (if_pos g4).symm.trans h
      exact ok_Fi_weighRows_j50 n o v9 v10 M  ho hX hT hr hc hx h
    · have h := (if_neg g4).symm.trans h
      refine r_lload hX dX0_weighRows_38 rfl ?_
      refine r_iload hX dX0_weighRows_40 rfl ?_
      refine r_lushr hX dX0_weighRows_42 ?_
      refine r_lconst (v := (1 : Int64)) hX dX0_weighRows_43 (by decide) ?_
      refine r_land hX dX0_weighRows_44 ?_
      refine r_lconst (v := (0 : Int64)) hX dX0_weighRows_45 (by decide) ?_
      refine r_lcmp_eq (tgt := 116) hX dX0_weighRows_46 dX0_weighRows_47 (by decide) (fun g14 => ?_) (fun g14 => ?_)
      · have h := (if_pos g14).symm.trans h
        exact ok_Fi_weighRows_j116 n o v9 v10 M  ho hX hT hr hc hx h
      · have h := (if_neg g14).symm.trans h
        exact ok_Fi_weighRows_j50 n o v9 v10 M  ho hX hT hr hc hx h
set_option maxRecDepth 100000 in
theorem ok_Fi_weighRows {G : Gm} {l : Launch} {d : Nat} (n : Nat) (o : Nat) (v2 : Int32) (v3 : Int32) (v4 : Int32) (v5 : Int64) (M : Mm) {z : Mm} (ho : isSt o) (h : Fi_weighRows n o v2 v3 v4 v5 M = some z) : CK G l (d + 2) md_Fi_weighRows [.ref 12, .ref o, .int v2, .int v3, .int v4, .long v5] M SS (none) z SS := by
  refine ck_of mk_Fi_weighRows (Nat.le_of_ble_eq_true rfl) ⟨Nat.le_refl _, Nat.le_refl _⟩ (fun X hX hT hS hr hl => ?_)
  subst hl
  unfold Fi_weighRows at h
  show WR G X (mQ G X (none) z SS) 0 [.ref 12, .ref o, .int v2, .int v3, .int v4, .long v5, vU, vU, vU, vU, vU, vU, vU] [] M SS
  refine r_aload_n hX dX0_weighRows_0 rfl ?_
  refine r_iload_n hX dX0_weighRows_1 rfl ?_
  refine r_iconst (v := (-1 : Int32)) hX dX0_weighRows_2 (by decide) ?_
  obtain ⟨z1, p2, h⟩ := bnd_s h
  refine r_callV (As := [.int v3, .int (-1 : Int32)]) hX dX0_weighRows_3 mk_St_busy mi_St_busy ml_0_81 rfl rfl rfl (kdS0 ho) (by decide) (ltS0 ho) (Nat.le_of_ble_eq_true rfl) hr (ok_St_busy (d := d + 1) n o v3 (-1 : Int32) M ho p2) ?_
  refine r_lstore (L1 := [.ref 12, .ref o, .int v2, .int v3, .int v4, .long v5, vU, .long z1, vU, vU, vU, vU, vU]) hX dX0_weighRows_6 (Nat.le_of_ble_eq_true rfl) rfl ?_
  refine r_iconst (v := (0 : Int32)) hX dX0_weighRows_8 (by decide) ?_
  refine r_istore (L1 := [.ref 12, .ref o, .int v2, .int v3, .int v4, .long v5, vU, .long z1, vU, .int (0 : Int32), vU, vU, vU]) hX dX0_weighRows_9 (Nat.le_of_ble_eq_true rfl) rfl ?_
  refine r_iconst (v := (0 : Int32)) hX dX0_weighRows_11 (by decide) ?_
  refine r_istore (L1 := [.ref 12, .ref o, .int v2, .int v3, .int v4, .long v5, vU, .long z1, vU, .int (0 : Int32), .int (0 : Int32), vU, vU]) hX dX0_weighRows_12 (Nat.le_of_ble_eq_true rfl) rfl ?_
  obtain ⟨y15, h1, h⟩ := bnd_s h
  refine loop_ok (P := fun s1 : Int32 × Int32 × Mm => WR G X (mQ G X (none) z SS) 14 [.ref 12, .ref o, .int v2, .int v3, .int v4, .long v5, vU, .long z1, vU, .int s1.1, .int s1.2.1, vU, vU] [] s1.2.2 SS) (E := fun x1 : Mm => WR G X (mQ G X (none) z SS) 122 [.ref 12, vU, vU, vU, vU, vU, vU, vU, vU, vU, vU, vU, vU] [] x1 SS) (fun s1 o1 g1 g2 g3 => ok_Fi_weighRows_b14 n o s1.1 s1.2.1 s1.2.2 ho hX hT hr g2 g3 g1) n ((0 : Int32), (0 : Int32), M) y15 h1 ?_
  show WR G X (mQ G X (none) z SS) 122 [.ref 12, vU, vU, vU, vU, vU, vU, vU, vU, vU, vU, vU, vU] [] y15 SS
  obtain rfl := Option.some.inj h
  exact r_vret hX hT dX0_weighRows_122
def Nt_formatOf_b2 (a : Nat) (c1 : Int32) (Mc : Mm) (v2 : Int32) : Option ((Int32) ⊕ ((Unit) ⊕ (Int32))) :=
  if v2 < (0 : Int32) then
    some (.inr (.inl ()))
  else
    grd (inb v2 4) (
    if (Mc.1 (a + 1) (tn v2)) < c1 then
      some (.inl (v2 + (-1 : Int32)))
    else
      some (.inr (.inr v2)))
def Nt_formatOf (n : Nat) (a : Nat) (v1 : Int32) (M : Mm) : Option (Int32) :=
  bnd (loop (fun s1 : Int32 => Nt_formatOf_b2 a v1 M s1) n (3 : Int32)) (fun y4 =>
  elS y4 (fun x5 =>
    some (-1 : Int32))
    (fun e6 => some e6))
set_option maxRecDepth 100000 in
theorem ok_Nt_formatOf_b2 (n : Nat) (a : Nat) (v2 : Int32) {c1 : Int32} {Mc : Mm} {z : Int32} {oo : (Int32) ⊕ ((Unit) ⊕ (Int32))} {G : Gm} {X : Cx} {d : Nat} (ha : isNt a) (hX : XK G X 1 cX1_formatOf 3 (d + 0)) (hT : XT X (some .int) "formatOf") (hr : XR X SS) (hc : ∀ s1 : Int32, oo = .inl s1 → WR G X (mQ G X (some (.int z)) Mc SS) 2 [.ref a, .int c1, .int s1] [] Mc SS) (hx : ∀ x1 : (Unit) ⊕ (Int32), oo = .inr x1 → elS x1 (fun x2 => WR G X (mQ G X (some (.int z)) Mc SS) 24 [.ref a, vU, vU] [] Mc SS) (fun y1 => y1 = z)) (h : Nt_formatOf_b2 a c1 Mc v2 = some oo) : WR G X (mQ G X (some (.int z)) Mc SS) 2 [.ref a, .int c1, .int v2] [] Mc SS := by
  unfold Nt_formatOf_b2 at h
  refine r_iload_n hX dX1_formatOf_2 rfl ?_
  refine r_if_lt (tgt := 24) hX dX1_formatOf_3 (by decide) (fun g1 => ?_) (fun g1 => ?_)
  · have h := (if_pos g1).symm.trans h
    refine WR.fg (L' := [.ref a, vU, vU]) ⟨Or.inr rfl, Or.inl rfl, Or.inl rfl, trivial⟩ ?_
    exact hx _ (Option.some.inj h).symm
  · have h := (if_neg g1).symm.trans h
    refine r_aload_n hX dX1_formatOf_6 rfl ?_
    refine r_getf (v := .ref (a + 1)) hX dX1_formatOf_7 fl_1_9 (kdN0 ha) (by decide) (ltN0 ha) (rfN5 ha) ?_
    refine r_iload_n hX dX1_formatOf_10 rfl ?_
    obtain ⟨k2, h⟩ := grd_s h
    refine r_iald hX dX1_formatOf_11 (kdN1 ha) (ltN1 ha) (inb_at (lnN1 ha) k2) ?_
    refine r_iload_n hX dX1_formatOf_12 rfl ?_
    refine r_icmp_lt (tgt := 18) hX dX1_formatOf_13 (by decide) (fun g3 => ?_) (fun g3 => ?_)
    · have h := (if_pos g3).symm.trans h
      refine r_iinc (v := v2 + (-1 : Int32)) (L1 := [.ref a, .int c1, .int (v2 + (-1 : Int32))]) hX dX1_formatOf_18 rfl rfl rfl ?_
      refine r_goto (tgt := 2) hX dX1_formatOf_21 (by decide) ?_
      exact hc (v2 + (-1 : Int32)) (Option.some.inj h).symm
    · have h := (if_neg g3).symm.trans h
      refine r_iload_n hX dX1_formatOf_16 rfl ?_
      obtain rfl := hx _ (Option.some.inj h).symm
      exact r_iret hX hT dX1_formatOf_17 rfl
set_option maxRecDepth 100000 in
theorem ok_Nt_formatOf {G : Gm} {l : Launch} {d : Nat} (n : Nat) (a : Nat) (v1 : Int32) (M : Mm) {z : Int32} (ha : isNt a) (h : Nt_formatOf n a v1 M = some z) : CK G l (d + 0) md_Nt_formatOf [.ref a, .int v1] M SS (some (.int z)) M SS := by
  refine ck_of mk_Nt_formatOf (Nat.le_of_ble_eq_true rfl) ⟨Nat.le_refl _, Nat.le_refl _⟩ (fun X hX hT hS hr hl => ?_)
  subst hl
  unfold Nt_formatOf at h
  show WR G X (mQ G X (some (.int z)) M SS) 0 [.ref a, .int v1, vU] [] M SS
  refine r_iconst (v := (3 : Int32)) hX dX1_formatOf_0 (by decide) ?_
  refine r_istore_n (L1 := [.ref a, .int v1, .int (3 : Int32)]) hX dX1_formatOf_1 (Nat.le_of_ble_eq_true rfl) rfl ?_
  obtain ⟨y4, h1, h⟩ := bnd_s h
  refine loop_ok (P := fun s1 : Int32 => WR G X (mQ G X (some (.int z)) M SS) 2 [.ref a, .int v1, .int s1] [] M SS) (E := fun x1 : (Unit) ⊕ (Int32) => elS x1 (fun x2 => WR G X (mQ G X (some (.int z)) M SS) 24 [.ref a, vU, vU] [] M SS) (fun y1 => y1 = z)) (fun s1 o1 g1 g2 g3 => ok_Nt_formatOf_b2 n a s1 ha hX hT hr g2 g3 g1) n (3 : Int32) y4 h1 ?_
  cases y4 with
  | inr e6 =>
    exact Option.some.inj h
  | inl x5 =>
    show WR G X (mQ G X (some (.int z)) M SS) 24 [.ref a, vU, vU] [] M SS
    refine r_iconst (v := (-1 : Int32)) hX dX1_formatOf_24 (by decide) ?_
    obtain rfl := Option.some.inj h
    exact r_iret hX hT dX1_formatOf_25 rfl
def Nt_widthOf (n : Nat) (a : Nat) (v1 : Int32) (v2 : Int32) (M : Mm) : Option (Int32) :=
  bnd (Nt_formatOf n a v2 M) (fun z1 =>
  if (0 : Int32) < (z1 + (1 : Int32)) then
    grd (nz (z1 + (1 : Int32))) (
    some (((v1 + (z1 + (1 : Int32))) - (1 : Int32)) / (z1 + (1 : Int32))))
  else
    some (0 : Int32))
set_option maxRecDepth 100000 in
theorem ok_Nt_widthOf {G : Gm} {l : Launch} {d : Nat} (n : Nat) (a : Nat) (v1 : Int32) (v2 : Int32) (M : Mm) {z : Int32} (ha : isNt a) (h : Nt_widthOf n a v1 v2 M = some z) : CK G l (d + 1) md_Nt_widthOf [.ref a, .int v1, .int v2] M SS (some (.int z)) M SS := by
  refine ck_of mk_Nt_widthOf (Nat.le_of_ble_eq_true rfl) ⟨Nat.le_refl _, Nat.le_refl _⟩ (fun X hX hT hS hr hl => ?_)
  subst hl
  unfold Nt_widthOf at h
  show WR G X (mQ G X (some (.int z)) M SS) 0 [.ref a, .int v1, .int v2, vU] [] M SS
  refine r_aload_n hX dX1_widthOf_0 rfl ?_
  refine r_iload_n hX dX1_widthOf_1 rfl ?_
  obtain ⟨z1, p2, h⟩ := bnd_s h
  refine r_callV (As := [.int v2]) hX dX1_widthOf_2 mk_Nt_formatOf mi_Nt_formatOf ml_1_52 rfl rfl rfl (kdN0 ha) (by decide) (ltN0 ha) (Nat.le_of_ble_eq_true rfl) hr (ok_Nt_formatOf (d := d + 0) n a v2 M ha p2) ?_
  refine r_iconst (v := (1 : Int32)) hX dX1_widthOf_5 (by decide) ?_
  refine r_iadd hX dX1_widthOf_6 ?_
  refine r_istore_n (L1 := [.ref a, .int v1, .int v2, .int (z1 + (1 : Int32))]) hX dX1_widthOf_7 (Nat.le_of_ble_eq_true rfl) rfl ?_
  refine r_iload_n hX dX1_widthOf_8 rfl ?_
  refine r_if_gt (tgt := 16) hX dX1_widthOf_9 (by decide) (fun g3 => ?_) (fun g3 => ?_)
  · have h := (if_pos g3).symm.trans h
    refine r_iload_n hX dX1_widthOf_16 rfl ?_
    refine r_iload_n hX dX1_widthOf_17 rfl ?_
    refine r_iadd hX dX1_widthOf_18 ?_
    refine r_iconst (v := (1 : Int32)) hX dX1_widthOf_19 (by decide) ?_
    refine r_isub hX dX1_widthOf_20 ?_
    refine r_iload_n hX dX1_widthOf_21 rfl ?_
    obtain ⟨k4, h⟩ := grd_s h
    refine r_idiv hX dX1_widthOf_22 (nz_ne k4) ?_
    obtain rfl := Option.some.inj h
    exact r_iret hX hT dX1_widthOf_23 rfl
  · have h := (if_neg g3).symm.trans h
    refine r_iconst (v := (0 : Int32)) hX dX1_widthOf_12 (by decide) ?_
    refine r_goto (tgt := 23) hX dX1_widthOf_13 (by decide) ?_
    obtain rfl := Option.some.inj h
    exact r_iret hX hT dX1_widthOf_23 rfl
def Fg_rowStarts_b5 (c0 : Int64) (c2 : Int32) (v3 : Int64) (v5 : Int32) : Option ((Int64 × Int32) ⊕ (Int64)) :=
  if c2 ≤ v5 then
    some (.inr v3)
  else
    some (.inl (v3 &&& (lushr c0 v5), v5 + (1 : Int32)))
def Fg_rowStarts (n : Nat) (v0 : Int64) (v2 : Int32) (M : Mm) : Option (Int64) :=
  bnd (loop (fun s1 : Int64 × Int32 => Fg_rowStarts_b5 v0 v2 s1.1 s1.2) n (v0, (1 : Int32))) (fun y2 =>
  some y2)
set_option maxRecDepth 100000 in
theorem ok_Fg_rowStarts_b5 (n : Nat) (v3 : Int64) (v5 : Int32) {c0 : Int64} {c2 : Int32} {Mc : Mm} {z : Int64} {oo : (Int64 × Int32) ⊕ (Int64)} {G : Gm} {X : Cx} {d : Nat}  (hX : XK G X 8 cX8_rowStarts 6 (d + 0)) (hT : XT X (some .long) "rowStarts") (hr : XR X SS) (hc : ∀ s1 : Int64 × Int32, oo = .inl s1 → WR G X (mQ G X (some (.long z)) Mc SS) 5 [.long c0, vU, .int c2, .long s1.1, vU, .int s1.2] [] Mc SS) (hx : ∀ x1 : Int64, oo = .inr x1 → WR G X (mQ G X (some (.long z)) Mc SS) 24 [vU, vU, vU, .long x1, vU, vU] [] Mc SS) (h : Fg_rowStarts_b5 c0 c2 v3 v5 = some oo) : WR G X (mQ G X (some (.long z)) Mc SS) 5 [.long c0, vU, .int c2, .long v3, vU, .int v5] [] Mc SS := by
  unfold Fg_rowStarts_b5 at h
  refine r_iload hX dX8_rowStarts_5 rfl ?_
  refine r_iload_n hX dX8_rowStarts_7 rfl ?_
  refine r_icmp_ge (tgt := 24) hX dX8_rowStarts_8 (by decide) (fun g1 => ?_) (fun g1 => ?_)
  · have h := (if_pos g1).symm.trans h
    refine WR.fg (L' := [vU, vU, vU, .long v3, vU, vU]) ⟨Or.inl rfl, Or.inl rfl, Or.inl rfl, Or.inr rfl, Or.inl rfl, Or.inl rfl, trivial⟩ ?_
    exact hx _ (Option.some.inj h).symm
  · have h := (if_neg g1).symm.trans h
    refine r_lload_n hX dX8_rowStarts_11 rfl ?_
    refine r_lload_n hX dX8_rowStarts_12 rfl ?_
    refine r_iload hX dX8_rowStarts_13 rfl ?_
    refine r_lushr hX dX8_rowStarts_15 ?_
    refine r_land hX dX8_rowStarts_16 ?_
    refine r_lstore_n (L1 := [.long c0, vU, .int c2, .long (v3 &&& (lushr c0 v5)), vU, .int v5]) hX dX8_rowStarts_17 (Nat.le_of_ble_eq_true rfl) rfl ?_
    refine r_iinc (v := v5 + (1 : Int32)) (L1 := [.long c0, vU, .int c2, .long (v3 &&& (lushr c0 v5)), vU, .int (v5 + (1 : Int32))]) hX dX8_rowStarts_18 rfl rfl rfl ?_
    refine r_goto (tgt := 5) hX dX8_rowStarts_21 (by decide) ?_
    exact hc (v3 &&& (lushr c0 v5), v5 + (1 : Int32)) (Option.some.inj h).symm
set_option maxRecDepth 100000 in
theorem ok_Fg_rowStarts {G : Gm} {l : Launch} {d : Nat} (n : Nat) (v0 : Int64) (v2 : Int32) (M : Mm) {z : Int64}  (h : Fg_rowStarts n v0 v2 M = some z) : CK G l (d + 0) md_Fg_rowStarts [.long v0, .int v2] M SS (some (.long z)) M SS := by
  refine ck_of mk_Fg_rowStarts (Nat.le_of_ble_eq_true rfl) ⟨Nat.le_refl _, Nat.le_refl _⟩ (fun X hX hT hS hr hl => ?_)
  subst hl
  unfold Fg_rowStarts at h
  show WR G X (mQ G X (some (.long z)) M SS) 0 [.long v0, vU, .int v2, vU, vU, vU] [] M SS
  refine r_lload_n hX dX8_rowStarts_0 rfl ?_
  refine r_lstore_n (L1 := [.long v0, vU, .int v2, .long v0, vU, vU]) hX dX8_rowStarts_1 (Nat.le_of_ble_eq_true rfl) rfl ?_
  refine r_iconst (v := (1 : Int32)) hX dX8_rowStarts_2 (by decide) ?_
  refine r_istore (L1 := [.long v0, vU, .int v2, .long v0, vU, .int (1 : Int32)]) hX dX8_rowStarts_3 (Nat.le_of_ble_eq_true rfl) rfl ?_
  obtain ⟨y2, h1, h⟩ := bnd_s h
  refine loop_ok (P := fun s1 : Int64 × Int32 => WR G X (mQ G X (some (.long z)) M SS) 5 [.long v0, vU, .int v2, .long s1.1, vU, .int s1.2] [] M SS) (E := fun x1 : Int64 => WR G X (mQ G X (some (.long z)) M SS) 24 [vU, vU, vU, .long x1, vU, vU] [] M SS) (fun s1 o1 g1 g2 g3 => ok_Fg_rowStarts_b5 n s1.1 s1.2  hX hT hr g2 g3 g1) n (v0, (1 : Int32)) y2 h1 ?_
  show WR G X (mQ G X (some (.long z)) M SS) 24 [vU, vU, vU, .long y2, vU, vU] [] M SS
  refine r_lload_n hX dX8_rowStarts_24 rfl ?_
  obtain rfl := Option.some.inj h
  exact r_lret hX hT dX8_rowStarts_25
def Nt_allSlots (a : Nat) (M : Mm) : Option (Int64) :=
  some ((lshl (1 : Int64) (M.1 a 1)) - (1 : Int64))
set_option maxRecDepth 100000 in
theorem ok_Nt_allSlots {G : Gm} {l : Launch} {d : Nat} (a : Nat) (M : Mm) {z : Int64} (ha : isNt a) (h : Nt_allSlots a M = some z) : CK G l (d + 0) md_Nt_allSlots [.ref a] M SS (some (.long z)) M SS := by
  refine ck_of mk_Nt_allSlots (Nat.le_of_ble_eq_true rfl) ⟨Nat.le_refl _, Nat.le_refl _⟩ (fun X hX hT hS hr hl => ?_)
  subst hl
  unfold Nt_allSlots at h
  show WR G X (mQ G X (some (.long z)) M SS) 0 [.ref a] [] M SS
  refine r_lconst (v := (1 : Int64)) hX dX1_allSlots_0 (by decide) ?_
  refine r_aload_n hX dX1_allSlots_1 rfl ?_
  refine r_getf (v := .int (M.1 a 1)) hX dX1_allSlots_2 fl_1_34 (kdN0 ha) (by decide) (ltN0 ha) rfl ?_
  refine r_lshl hX dX1_allSlots_5 ?_
  refine r_lconst (v := (1 : Int64)) hX dX1_allSlots_6 (by decide) ?_
  refine r_lsub hX dX1_allSlots_7 ?_
  obtain rfl := Option.some.inj h
  exact r_lret hX hT dX1_allSlots_8
def St_fitting_b15 (s : Nat) (c4 : Int64) (Mc : Mm) (v6 : Int64) (v8 : Int32) : Option ((Int64 × Int32) ⊕ (Int64)) :=
  if (Mc.1 (s + 1) 2) < v8 then
    some (.inr v6)
  else
    some (.inl (v6 ||| ((lshl c4 v8) ||| (lushr c4 v8)), v8 + (1 : Int32)))
def St_fitting (n : Nat) (s : Nat) (v1 : Int32) (v2 : Int32) (v3 : Int32) (M : Mm) : Option (Int64) :=
  bnd (St_busy n s v1 v3 M) (fun z1 =>
  bnd (loop (fun s1 : Int64 × Int32 => St_fitting_b15 s z1 M s1.1 s1.2) n (z1, (1 : Int32))) (fun y4 =>
  bnd (Nt_allSlots (s + 1) M) (fun z5 =>
  bnd (Fg_rowStarts n (z5 &&& (y4 ^^^ (-1 : Int64))) v2 M) (fun z7 =>
  some z7))))
set_option maxRecDepth 100000 in
theorem ok_St_fitting_b15 (n : Nat) (s : Nat) (v6 : Int64) (v8 : Int32) {c2 : Int32} {c4 : Int64} {Mc : Mm} {z : Int64} {oo : (Int64 × Int32) ⊕ (Int64)} {G : Gm} {X : Cx} {d : Nat} (hs : isSt s) (hX : XK G X 4 cX4_fitting 9 (d + 1)) (hT : XT X (some .long) "fitting") (hr : XR X SS) (hc : ∀ s1 : Int64 × Int32, oo = .inl s1 → WR G X (mQ G X (some (.long z)) Mc SS) 15 [.ref s, vU, .int c2, vU, .long c4, vU, .long s1.1, vU, .int s1.2] [] Mc SS) (hx : ∀ x1 : Int64, oo = .inr x1 → WR G X (mQ G X (some (.long z)) Mc SS) 49 [.ref s, vU, .int c2, vU, vU, vU, .long x1, vU, vU] [] Mc SS) (h : St_fitting_b15 s c4 Mc v6 v8 = some oo) : WR G X (mQ G X (some (.long z)) Mc SS) 15 [.ref s, vU, .int c2, vU, .long c4, vU, .long v6, vU, .int v8] [] Mc SS := by
  unfold St_fitting_b15 at h
  refine r_iload hX dX4_fitting_15 rfl ?_
  refine r_aload_n hX dX4_fitting_17 rfl ?_
  refine r_getf (v := .ref (s + 1)) hX dX4_fitting_18 fl_4_12 (kdS0 hs) (by decide) (ltS0 hs) (rfS0 hs) ?_
  refine r_getf (v := .int (Mc.1 (s + 1) 2)) hX dX4_fitting_21 fl_4_109 (kdS1 hs) (by decide) (ltS1 hs) rfl ?_
  refine r_icmp_gt (tgt := 49) hX dX4_fitting_24 (by decide) (fun g3 => ?_) (fun g3 => ?_)
  · have h := (if_pos g3).symm.trans h
    refine WR.fg (L' := [.ref s, vU, .int c2, vU, vU, vU, .long v6, vU, vU]) ⟨Or.inr rfl, Or.inl rfl, Or.inr rfl, Or.inl rfl, Or.inl rfl, Or.inl rfl, Or.inr rfl, Or.inl rfl, Or.inl rfl, trivial⟩ ?_
    exact hx _ (Option.some.inj h).symm
  · have h := (if_neg g3).symm.trans h
    refine r_lload hX dX4_fitting_27 rfl ?_
    refine r_lload hX dX4_fitting_29 rfl ?_
    refine r_iload hX dX4_fitting_31 rfl ?_
    refine r_lshl hX dX4_fitting_33 ?_
    refine r_lload hX dX4_fitting_34 rfl ?_
    refine r_iload hX dX4_fitting_36 rfl ?_
    refine r_lushr hX dX4_fitting_38 ?_
    refine r_lor hX dX4_fitting_39 ?_
    refine r_lor hX dX4_fitting_40 ?_
    refine r_lstore (L1 := [.ref s, vU, .int c2, vU, .long c4, vU, .long (v6 ||| ((lshl c4 v8) ||| (lushr c4 v8))), vU, .int v8]) hX dX4_fitting_41 (Nat.le_of_ble_eq_true rfl) rfl ?_
    refine r_iinc (v := v8 + (1 : Int32)) (L1 := [.ref s, vU, .int c2, vU, .long c4, vU, .long (v6 ||| ((lshl c4 v8) ||| (lushr c4 v8))), vU, .int (v8 + (1 : Int32))]) hX dX4_fitting_43 rfl rfl rfl ?_
    refine r_goto (tgt := 15) hX dX4_fitting_46 (by decide) ?_
    exact hc (v6 ||| ((lshl c4 v8) ||| (lushr c4 v8)), v8 + (1 : Int32)) (Option.some.inj h).symm
set_option maxRecDepth 100000 in
theorem ok_St_fitting {G : Gm} {l : Launch} {d : Nat} (n : Nat) (s : Nat) (v1 : Int32) (v2 : Int32) (v3 : Int32) (M : Mm) {z : Int64} (hs : isSt s) (h : St_fitting n s v1 v2 v3 M = some z) : CK G l (d + 1) md_St_fitting [.ref s, .int v1, .int v2, .int v3] M SS (some (.long z)) M SS := by
  refine ck_of mk_St_fitting (Nat.le_of_ble_eq_true rfl) ⟨Nat.le_refl _, Nat.le_refl _⟩ (fun X hX hT hS hr hl => ?_)
  subst hl
  unfold St_fitting at h
  show WR G X (mQ G X (some (.long z)) M SS) 0 [.ref s, .int v1, .int v2, .int v3, vU, vU, vU, vU, vU] [] M SS
  refine r_aload_n hX dX4_fitting_0 rfl ?_
  refine r_iload_n hX dX4_fitting_1 rfl ?_
  refine r_iload_n hX dX4_fitting_2 rfl ?_
  obtain ⟨z1, p2, h⟩ := bnd_s h
  refine r_callV (As := [.int v1, .int v3]) hX dX4_fitting_3 mk_St_busy mi_St_busy ml_4_106 rfl rfl rfl (kdS0 hs) (by decide) (ltS0 hs) (Nat.le_of_ble_eq_true rfl) hr (ok_St_busy (d := d + 0) n s v1 v3 M hs p2) ?_
  refine r_lstore (L1 := [.ref s, .int v1, .int v2, .int v3, .long z1, vU, vU, vU, vU]) hX dX4_fitting_6 (Nat.le_of_ble_eq_true rfl) rfl ?_
  refine r_lload hX dX4_fitting_8 rfl ?_
  refine r_lstore (L1 := [.ref s, .int v1, .int v2, .int v3, .long z1, vU, .long z1, vU, vU]) hX dX4_fitting_10 (Nat.le_of_ble_eq_true rfl) rfl ?_
  refine r_iconst (v := (1 : Int32)) hX dX4_fitting_12 (by decide) ?_
  refine r_istore (L1 := [.ref s, .int v1, .int v2, .int v3, .long z1, vU, .long z1, vU, .int (1 : Int32)]) hX dX4_fitting_13 (Nat.le_of_ble_eq_true rfl) rfl ?_
  refine WR.fg (L' := [.ref s, vU, .int v2, vU, .long z1, vU, .long z1, vU, .int (1 : Int32)]) ⟨Or.inr rfl, Or.inl rfl, Or.inr rfl, Or.inl rfl, Or.inr rfl, Or.inl rfl, Or.inr rfl, Or.inl rfl, Or.inr rfl, trivial⟩ ?_
  obtain ⟨y4, h1, h⟩ := bnd_s h
  refine loop_ok (P := fun s1 : Int64 × Int32 => WR G X (mQ G X (some (.long z)) M SS) 15 [.ref s, vU, .int v2, vU, .long z1, vU, .long s1.1, vU, .int s1.2] [] M SS) (E := fun x1 : Int64 => WR G X (mQ G X (some (.long z)) M SS) 49 [.ref s, vU, .int v2, vU, vU, vU, .long x1, vU, vU] [] M SS) (fun s1 o1 g1 g2 g3 => ok_St_fitting_b15 n s s1.1 s1.2 hs hX hT hr g2 g3 g1) n (z1, (1 : Int32)) y4 h1 ?_
  show WR G X (mQ G X (some (.long z)) M SS) 49 [.ref s, vU, .int v2, vU, vU, vU, .long y4, vU, vU] [] M SS
  refine r_aload_n hX dX4_fitting_49 rfl ?_
  refine r_getf (v := .ref (s + 1)) hX dX4_fitting_50 fl_4_12 (kdS0 hs) (by decide) (ltS0 hs) (rfS0 hs) ?_
  obtain ⟨z5, p6, h⟩ := bnd_s h
  refine r_callV (As := []) hX dX4_fitting_53 mk_Nt_allSlots mi_Nt_allSlots ml_4_112 rfl rfl rfl (kdS1 hs) (by decide) (ltS1 hs) (Nat.le_of_ble_eq_true rfl) hr (ok_Nt_allSlots (d := d + 0) (s + 1) M (nt_st hs) p6) ?_
  refine r_lload hX dX4_fitting_56 rfl ?_
  refine r_ldc2 hX dX4_fitting_58 kl_4_96 ?_
  refine r_lxor hX dX4_fitting_61 ?_
  refine r_land hX dX4_fitting_62 ?_
  refine r_iload_n hX dX4_fitting_63 rfl ?_
  obtain ⟨z7, p8, h⟩ := bnd_s h
  refine r_callSN (As := [.long (z5 &&& (y4 ^^^ (-1 : Int64))), .int v2]) hX dX4_fitting_64 mk_Fg_rowStarts ms_Fg_rowStarts mn_4_116 rfl rfl rfl (Nat.le_of_ble_eq_true rfl) hr (ok_Fg_rowStarts (d := d + 0) n (z5 &&& (y4 ^^^ (-1 : Int64))) v2 M p8) ?_
  obtain rfl := Option.some.inj h
  exact r_lret hX hT dX4_fitting_67
def Wy_offer_j144 (v5 : Int32) (M : Mm) : Option ((Int32 × Mm) ⊕ (Int32 × Mm)) :=
  some (.inl (v5 + (-1 : Int32), M))
def Wy_offer_j72 (c4 : Int32) (v5 : Int32) (M : Mm) : Option ((Int32 × Mm) ⊕ (Int32 × Mm)) :=
  if (4 : Int32) ≤ v5 then
    Wy_offer_j144 v5 M
  else
    grd (inb ((c4 + v5) - (1 : Int32)) 256) (
    grd (inb (c4 + v5) 256) (
    grd (inb ((c4 + v5) - (1 : Int32)) 256) (
    grd (inb (c4 + v5) 256) (
    grd (inb ((c4 + v5) - (1 : Int32)) 256) (
    grd (inb (c4 + v5) 256) (
    Wy_offer_j144 v5 ((up2 (up2 (up2 M.1 16 (tn (c4 + v5)) (M.1 16 (tn ((c4 + v5) - (1 : Int32))))) 17 (tn (c4 + v5)) ((up2 M.1 16 (tn (c4 + v5)) (M.1 16 (tn ((c4 + v5) - (1 : Int32))))) 17 (tn ((c4 + v5) - (1 : Int32))))) 115 (tn (c4 + v5)) ((up2 (up2 M.1 16 (tn (c4 + v5)) (M.1 16 (tn ((c4 + v5) - (1 : Int32))))) 17 (tn (c4 + v5)) ((up2 M.1 16 (tn (c4 + v5)) (M.1 16 (tn ((c4 + v5) - (1 : Int32))))) 17 (tn ((c4 + v5) - (1 : Int32))))) 115 (tn ((c4 + v5) - (1 : Int32))))), M.2)))))))
def Wy_offer_b19 (c2 : Int32) (c3 : Int32) (c4 : Int32) (v5 : Int32) (M : Mm) : Option ((Int32 × Mm) ⊕ (Int32 × Mm)) :=
  if v5 ≤ (0 : Int32) then
    some (.inr (v5, M))
  else
    grd (inb ((c4 + v5) - (1 : Int32)) 256) (
    if c2 < (M.1 17 (tn ((c4 + v5) - (1 : Int32)))) then
      Wy_offer_j72 c4 v5 M
    else
      grd (inb ((c4 + v5) - (1 : Int32)) 256) (
      if c2 = (M.1 17 (tn ((c4 + v5) - (1 : Int32)))) then
        grd (inb ((c4 + v5) - (1 : Int32)) 256) (
        if (M.1 115 (tn ((c4 + v5) - (1 : Int32)))) ≤ c3 then
          some (.inr (v5, M))
        else
          Wy_offer_j72 c4 v5 M)
      else
        some (.inr (v5, M))))
def Wy_offer_j150 (v1 : Int32) (v2 : Int32) (v3 : Int32) (v4 : Int32) (v5 : Int32) (M : Mm) : Option (Mm) :=
  if (4 : Int32) ≤ v5 then
    some M
  else
    grd (inb (v4 + v5) 256) (
    grd (inb (v4 + v5) 256) (
    grd (inb (v4 + v5) 256) (
    grd (inb ((up2 (up2 (up2 M.1 16 (tn (v4 + v5)) v1) 17 (tn (v4 + v5)) v2) 115 (tn (v4 + v5)) v3) 13 5) 64) (
    if (4 : Int32) ≤ ((up2 (up2 (up2 M.1 16 (tn (v4 + v5)) v1) 17 (tn (v4 + v5)) v2) 115 (tn (v4 + v5)) v3) 14 (tn ((up2 (up2 (up2 M.1 16 (tn (v4 + v5)) v1) 17 (tn (v4 + v5)) v2) 115 (tn (v4 + v5)) v3) 13 5))) then
      some ((up2 (up2 (up2 M.1 16 (tn (v4 + v5)) v1) 17 (tn (v4 + v5)) v2) 115 (tn (v4 + v5)) v3), M.2)
    else
      grd (inb ((up2 (up2 (up2 M.1 16 (tn (v4 + v5)) v1) 17 (tn (v4 + v5)) v2) 115 (tn (v4 + v5)) v3) 13 5) 64) (
      grd (inb ((up2 (up2 (up2 M.1 16 (tn (v4 + v5)) v1) 17 (tn (v4 + v5)) v2) 115 (tn (v4 + v5)) v3) 13 5) 64) (
      some ((up2 (up2 (up2 (up2 M.1 16 (tn (v4 + v5)) v1) 17 (tn (v4 + v5)) v2) 115 (tn (v4 + v5)) v3) 14 (tn ((up2 (up2 (up2 M.1 16 (tn (v4 + v5)) v1) 17 (tn (v4 + v5)) v2) 115 (tn (v4 + v5)) v3) 13 5)) (((up2 (up2 (up2 M.1 16 (tn (v4 + v5)) v1) 17 (tn (v4 + v5)) v2) 115 (tn (v4 + v5)) v3) 14 (tn ((up2 (up2 (up2 M.1 16 (tn (v4 + v5)) v1) 17 (tn (v4 + v5)) v2) 115 (tn (v4 + v5)) v3) 13 5))) + (1 : Int32))), M.2)))))))
def Wy_offer (n : Nat) (v1 : Int32) (v2 : Int32) (v3 : Int32) (M : Mm) : Option (Mm) :=
  grd (inb (M.1 13 5) 64) (
  bnd (loop (fun s1 : Int32 × Mm => Wy_offer_b19 v2 v3 ((M.1 13 5) * (4 : Int32)) s1.1 s1.2) n (M.1 14 (tn (M.1 13 5)), M)) (fun y16 =>
  Wy_offer_j150 v1 v2 v3 ((M.1 13 5) * (4 : Int32)) y16.1 y16.2))
set_option maxRecDepth 100000 in
theorem ok_Wy_offer_j144 (n : Nat) (v5 : Int32) (M : Mm) {c1 : Int32} {c2 : Int32} {c3 : Int32} {c4 : Int32} {z : Mm} {oo : (Int32 × Mm) ⊕ (Int32 × Mm)} {G : Gm} {X : Cx} {d : Nat}  (hX : XK G X 7 cX7_offer 6 (d + 0)) (hT : XT X (none) "offer") (hr : XR X SS) (hc : ∀ s1 : Int32 × Mm, oo = .inl s1 → WR G X (mQ G X (none) z SS) 19 [.ref 13, .int c1, .int c2, .int c3, .int c4, .int s1.1] [] s1.2 SS) (hx : ∀ x1 : Int32 × Mm, oo = .inr x1 → WR G X (mQ G X (none) z SS) 150 [.ref 13, .int c1, .int c2, .int c3, .int c4, .int x1.1] [] x1.2 SS) (h : Wy_offer_j144 v5 M = some oo) : WR G X (mQ G X (none) z SS) 144 [.ref 13, .int c1, .int c2, .int c3, .int c4, .int v5] [] M SS := by
  unfold Wy_offer_j144 at h
  refine r_iinc (v := v5 + (-1 : Int32)) (L1 := [.ref 13, .int c1, .int c2, .int c3, .int c4, .int (v5 + (-1 : Int32))]) hX dX7_offer_144 rfl rfl rfl ?_
  refine r_goto (tgt := 19) hX dX7_offer_147 (by decide) ?_
  exact hc (v5 + (-1 : Int32), M) (Option.some.inj h).symm
set_option maxRecDepth 100000 in
theorem ok_Wy_offer_j72 (n : Nat) (v5 : Int32) (M : Mm) {c1 : Int32} {c2 : Int32} {c3 : Int32} {c4 : Int32} {z : Mm} {oo : (Int32 × Mm) ⊕ (Int32 × Mm)} {G : Gm} {X : Cx} {d : Nat}  (hX : XK G X 7 cX7_offer 6 (d + 0)) (hT : XT X (none) "offer") (hr : XR X SS) (hc : ∀ s1 : Int32 × Mm, oo = .inl s1 → WR G X (mQ G X (none) z SS) 19 [.ref 13, .int c1, .int c2, .int c3, .int c4, .int s1.1] [] s1.2 SS) (hx : ∀ x1 : Int32 × Mm, oo = .inr x1 → WR G X (mQ G X (none) z SS) 150 [.ref 13, .int c1, .int c2, .int c3, .int c4, .int x1.1] [] x1.2 SS) (h : Wy_offer_j72 c4 v5 M = some oo) : WR G X (mQ G X (none) z SS) 72 [.ref 13, .int c1, .int c2, .int c3, .int c4, .int v5] [] M SS := by
  unfold Wy_offer_j72 at h
  refine r_iload hX dX7_offer_72 rfl ?_
  refine r_iconst (v := (4 : Int32)) hX dX7_offer_74 (by decide) ?_
  refine r_icmp_ge (tgt := 144) hX dX7_offer_75 (by decide) (fun g5 => ?_) (fun g5 => ?_)
  · have h := (if_pos g5).symm.trans h
    exact ok_Wy_offer_j144 n v5 M   hX hT hr hc hx h
  · have h := (if_neg g5).symm.trans h
    refine r_aload_n hX dX7_offer_78 rfl ?_
    refine r_getf (v := .ref 16) hX dX7_offer_79 fl_7_18 rfl (by decide) (by decide) rfl ?_
    refine r_iload hX dX7_offer_82 rfl ?_
    refine r_iload hX dX7_offer_84 rfl ?_
    refine r_iadd hX dX7_offer_86 ?_
    refine r_aload_n hX dX7_offer_87 rfl ?_
    refine r_getf (v := .ref 16) hX dX7_offer_88 fl_7_18 rfl (by decide) (by decide) rfl ?_
    refine r_iload hX dX7_offer_91 rfl ?_
    refine r_iload hX dX7_offer_93 rfl ?_
    refine r_iadd hX dX7_offer_95 ?_
    refine r_iconst (v := (1 : Int32)) hX dX7_offer_96 (by decide) ?_
    refine r_isub hX dX7_offer_97 ?_
    obtain ⟨k6, h⟩ := grd_s h
    refine r_iald hX dX7_offer_98 rfl (by decide) (inb_at rfl k6) ?_
    obtain ⟨k7, h⟩ := grd_s h
    refine r_iast hX dX7_offer_99 rfl (by decide) (inb_at rfl k7) ?_
    refine r_aload_n hX dX7_offer_100 rfl ?_
    refine r_getf (v := .ref 17) hX dX7_offer_101 fl_7_21 rfl (by decide) (by decide) rfl ?_
    refine r_iload hX dX7_offer_104 rfl ?_
    refine r_iload hX dX7_offer_106 rfl ?_
    refine r_iadd hX dX7_offer_108 ?_
    refine r_aload_n hX dX7_offer_109 rfl ?_
    refine r_getf (v := .ref 17) hX dX7_offer_110 fl_7_21 rfl (by decide) (by decide) rfl ?_
    refine r_iload hX dX7_offer_113 rfl ?_
    refine r_iload hX dX7_offer_115 rfl ?_
    refine r_iadd hX dX7_offer_117 ?_
    refine r_iconst (v := (1 : Int32)) hX dX7_offer_118 (by decide) ?_
    refine r_isub hX dX7_offer_119 ?_
    obtain ⟨k8, h⟩ := grd_s h
    refine r_iald' hX dX7_offer_120 rfl (by decide) (inb_at rfl k8) ?_
    obtain ⟨k9, h⟩ := grd_s h
    refine r_iast' hX dX7_offer_121 rfl (by decide) (inb_at rfl k9) ?_
    refine r_aload_n hX dX7_offer_122 rfl ?_
    refine r_getf (v := .ref 115) hX dX7_offer_123 fl_7_24 rfl (by decide) (by decide) rfl ?_
    refine r_iload hX dX7_offer_126 rfl ?_
    refine r_iload hX dX7_offer_128 rfl ?_
    refine r_iadd hX dX7_offer_130 ?_
    refine r_aload_n hX dX7_offer_131 rfl ?_
    refine r_getf (v := .ref 115) hX dX7_offer_132 fl_7_24 rfl (by decide) (by decide) rfl ?_
    refine r_iload hX dX7_offer_135 rfl ?_
    refine r_iload hX dX7_offer_137 rfl ?_
    refine r_iadd hX dX7_offer_139 ?_
    refine r_iconst (v := (1 : Int32)) hX dX7_offer_140 (by decide) ?_
    refine r_isub hX dX7_offer_141 ?_
    obtain ⟨k10, h⟩ := grd_s h
    refine r_iald' hX dX7_offer_142 rfl (by decide) (inb_at rfl k10) ?_
    obtain ⟨k11, h⟩ := grd_s h
    refine r_iast' hX dX7_offer_143 rfl (by decide) (inb_at rfl k11) ?_
    exact ok_Wy_offer_j144 n v5 ((up2 (up2 (up2 M.1 16 (tn (c4 + v5)) (M.1 16 (tn ((c4 + v5) - (1 : Int32))))) 17 (tn (c4 + v5)) ((up2 M.1 16 (tn (c4 + v5)) (M.1 16 (tn ((c4 + v5) - (1 : Int32))))) 17 (tn ((c4 + v5) - (1 : Int32))))) 115 (tn (c4 + v5)) ((up2 (up2 M.1 16 (tn (c4 + v5)) (M.1 16 (tn ((c4 + v5) - (1 : Int32))))) 17 (tn (c4 + v5)) ((up2 M.1 16 (tn (c4 + v5)) (M.1 16 (tn ((c4 + v5) - (1 : Int32))))) 17 (tn ((c4 + v5) - (1 : Int32))))) 115 (tn ((c4 + v5) - (1 : Int32))))), M.2)   hX hT hr hc hx h
set_option maxRecDepth 100000 in
theorem ok_Wy_offer_b19 (n : Nat) (v5 : Int32) (M : Mm) {c1 : Int32} {c2 : Int32} {c3 : Int32} {c4 : Int32} {z : Mm} {oo : (Int32 × Mm) ⊕ (Int32 × Mm)} {G : Gm} {X : Cx} {d : Nat}  (hX : XK G X 7 cX7_offer 6 (d + 0)) (hT : XT X (none) "offer") (hr : XR X SS) (hc : ∀ s1 : Int32 × Mm, oo = .inl s1 → WR G X (mQ G X (none) z SS) 19 [.ref 13, .int c1, .int c2, .int c3, .int c4, .int s1.1] [] s1.2 SS) (hx : ∀ x1 : Int32 × Mm, oo = .inr x1 → WR G X (mQ G X (none) z SS) 150 [.ref 13, .int c1, .int c2, .int c3, .int c4, .int x1.1] [] x1.2 SS) (h : Wy_offer_b19 c2 c3 c4 v5 M = some oo) : WR G X (mQ G X (none) z SS) 19 [.ref 13, .int c1, .int c2, .int c3, .int c4, .int v5] [] M SS := by
  unfold Wy_offer_b19 at h
  refine r_iload hX dX7_offer_19 rfl ?_
  refine r_if_le (tgt := 150) hX dX7_offer_21 (by decide) (fun g2 => ?_) (fun g2 => ?_)
  · have h := (if_pos g2).symm.trans h
    exact hx _ (Option.some.inj h).symm
  · have h := (if_neg g2).symm.trans h
    refine r_iload_n hX dX7_offer_24 rfl ?_
    refine r_aload_n hX dX7_offer_25 rfl ?_
    refine r_getf (v := .ref 17) hX dX7_offer_26 fl_7_21 rfl (by decide) (by decide) rfl ?_
    refine r_iload hX dX7_offer_29 rfl ?_
    refine r_iload hX dX7_offer_31 rfl ?_
    refine r_iadd hX dX7_offer_33 ?_
    refine r_iconst (v := (1 : Int32)) hX dX7_offer_34 (by decide) ?_
    refine r_isub hX dX7_offer_35 ?_
    obtain ⟨k3, h⟩ := grd_s h
    refine r_iald hX dX7_offer_36 rfl (by decide) (inb_at rfl k3) ?_
    refine r_icmp_lt (tgt := 72) hX dX7_offer_37 (by decide) (fun g4 => ?_) (fun g4 => ?_)
    · have h := (if_pos g4).symm.trans h
      exact ok_Wy_offer_j72 n v5 M   hX hT hr hc hx h
    · have h := (if_neg g4).symm.trans h
      refine r_iload_n hX dX7_offer_40 rfl ?_
      refine r_aload_n hX dX7_offer_41 rfl ?_
      refine r_getf (v := .ref 17) hX dX7_offer_42 fl_7_21 rfl (by decide) (by decide) rfl ?_
      refine r_iload hX dX7_offer_45 rfl ?_
      refine r_iload hX dX7_offer_47 rfl ?_
      refine r_iadd hX dX7_offer_49 ?_
      refine r_iconst (v := (1 : Int32)) hX dX7_offer_50 (by decide) ?_
      refine r_isub hX dX7_offer_51 ?_
      obtain ⟨k12, h⟩ := grd_s h
      refine r_iald hX dX7_offer_52 rfl (by decide) (inb_at rfl k12) ?_
      refine r_icmp_ne (tgt := 150) hX dX7_offer_53 (by decide) (fun g13 => ?_) (fun g13 => ?_)
      · have h := (if_neg g13).symm.trans h
        exact hx _ (Option.some.inj h).symm
      · have h := (if_pos g13).symm.trans h
        refine r_iload_n hX dX7_offer_56 rfl ?_
        refine r_aload_n hX dX7_offer_57 rfl ?_
        refine r_getf (v := .ref 115) hX dX7_offer_58 fl_7_24 rfl (by decide) (by decide) rfl ?_
        refine r_iload hX dX7_offer_61 rfl ?_
        refine r_iload hX dX7_offer_63 rfl ?_
        refine r_iadd hX dX7_offer_65 ?_
        refine r_iconst (v := (1 : Int32)) hX dX7_offer_66 (by decide) ?_
        refine r_isub hX dX7_offer_67 ?_
        obtain ⟨k14, h⟩ := grd_s h
        refine r_iald hX dX7_offer_68 rfl (by decide) (inb_at rfl k14) ?_
        refine r_icmp_ge (tgt := 150) hX dX7_offer_69 (by decide) (fun g15 => ?_) (fun g15 => ?_)
        · have h := (if_pos g15).symm.trans h
          exact hx _ (Option.some.inj h).symm
        · have h := (if_neg g15).symm.trans h
          exact ok_Wy_offer_j72 n v5 M   hX hT hr hc hx h
set_option maxRecDepth 100000 in
theorem ok_Wy_offer_j150 (n : Nat) (v1 : Int32) (v2 : Int32) (v3 : Int32) (v4 : Int32) (v5 : Int32) (M : Mm) {z : Mm} {G : Gm} {X : Cx} {d : Nat}  (hX : XK G X 7 cX7_offer 6 (d + 0)) (hT : XT X (none) "offer") (hr : XR X SS) (h : Wy_offer_j150 v1 v2 v3 v4 v5 M = some z) : WR G X (mQ G X (none) z SS) 150 [.ref 13, .int v1, .int v2, .int v3, .int v4, .int v5] [] M SS := by
  unfold Wy_offer_j150 at h
  refine r_iload hX dX7_offer_150 rfl ?_
  refine r_iconst (v := (4 : Int32)) hX dX7_offer_152 (by decide) ?_
  refine r_icmp_ge (tgt := 215) hX dX7_offer_153 (by decide) (fun g17 => ?_) (fun g17 => ?_)
  · have h := (if_pos g17).symm.trans h
    obtain rfl := Option.some.inj h
    exact r_vret hX hT dX7_offer_215
  · have h := (if_neg g17).symm.trans h
    refine r_aload_n hX dX7_offer_156 rfl ?_
    refine r_getf (v := .ref 16) hX dX7_offer_157 fl_7_18 rfl (by decide) (by decide) rfl ?_
    refine r_iload hX dX7_offer_160 rfl ?_
    refine r_iload hX dX7_offer_162 rfl ?_
    refine r_iadd hX dX7_offer_164 ?_
    refine r_iload_n hX dX7_offer_165 rfl ?_
    obtain ⟨k18, h⟩ := grd_s h
    refine r_iast hX dX7_offer_166 rfl (by decide) (inb_at rfl k18) ?_
    refine r_aload_n hX dX7_offer_167 rfl ?_
    refine r_getf (v := .ref 17) hX dX7_offer_168 fl_7_21 rfl (by decide) (by decide) rfl ?_
    refine r_iload hX dX7_offer_171 rfl ?_
    refine r_iload hX dX7_offer_173 rfl ?_
    refine r_iadd hX dX7_offer_175 ?_
    refine r_iload_n hX dX7_offer_176 rfl ?_
    obtain ⟨k19, h⟩ := grd_s h
    refine r_iast' hX dX7_offer_177 rfl (by decide) (inb_at rfl k19) ?_
    refine r_aload_n hX dX7_offer_178 rfl ?_
    refine r_getf (v := .ref 115) hX dX7_offer_179 fl_7_24 rfl (by decide) (by decide) rfl ?_
    refine r_iload hX dX7_offer_182 rfl ?_
    refine r_iload hX dX7_offer_184 rfl ?_
    refine r_iadd hX dX7_offer_186 ?_
    refine r_iload_n hX dX7_offer_187 rfl ?_
    obtain ⟨k20, h⟩ := grd_s h
    refine r_iast' hX dX7_offer_188 rfl (by decide) (inb_at rfl k20) ?_
    refine r_aload_n hX dX7_offer_189 rfl ?_
    refine r_getf (v := .ref 14) hX dX7_offer_190 fl_7_9 rfl (by decide) (by decide) rfl ?_
    refine r_aload_n hX dX7_offer_193 rfl ?_
    refine r_getf (v := .int ((up2 (up2 (up2 M.1 16 (tn (v4 + v5)) v1) 17 (tn (v4 + v5)) v2) 115 (tn (v4 + v5)) v3) 13 5)) hX dX7_offer_194 fl_7_27 rfl (by decide) (by decide) rfl ?_
    obtain ⟨k21, h⟩ := grd_s h
    refine r_iald' hX dX7_offer_197 rfl (by decide) (inb_at rfl k21) ?_
    refine r_iconst (v := (4 : Int32)) hX dX7_offer_198 (by decide) ?_
    refine r_icmp_ge (tgt := 215) hX dX7_offer_199 (by decide) (fun g22 => ?_) (fun g22 => ?_)
    · have h := (if_pos g22).symm.trans h
      obtain rfl := Option.some.inj h
      exact r_vret hX hT dX7_offer_215
    · have h := (if_neg g22).symm.trans h
      refine r_aload_n hX dX7_offer_202 rfl ?_
      refine r_getf (v := .ref 14) hX dX7_offer_203 fl_7_9 rfl (by decide) (by decide) rfl ?_
      refine r_aload_n hX dX7_offer_206 rfl ?_
      refine r_getf (v := .int ((up2 (up2 (up2 M.1 16 (tn (v4 + v5)) v1) 17 (tn (v4 + v5)) v2) 115 (tn (v4 + v5)) v3) 13 5)) hX dX7_offer_207 fl_7_27 rfl (by decide) (by decide) rfl ?_
      refine r_dup2 hX dX7_offer_210 rfl rfl ?_
      obtain ⟨k23, h⟩ := grd_s h
      refine r_iald' hX dX7_offer_211 rfl (by decide) (inb_at rfl k23) ?_
      refine r_iconst (v := (1 : Int32)) hX dX7_offer_212 (by decide) ?_
      refine r_iadd hX dX7_offer_213 ?_
      obtain ⟨k24, h⟩ := grd_s h
      refine r_iast' hX dX7_offer_214 rfl (by decide) (inb_at rfl k24) ?_
      obtain rfl := Option.some.inj h
      exact r_vret hX hT dX7_offer_215
set_option maxRecDepth 100000 in
theorem ok_Wy_offer {G : Gm} {l : Launch} {d : Nat} (n : Nat) (v1 : Int32) (v2 : Int32) (v3 : Int32) (M : Mm) {z : Mm}  (h : Wy_offer n v1 v2 v3 M = some z) : CK G l (d + 0) md_Wy_offer [.ref 13, .int v1, .int v2, .int v3] M SS (none) z SS := by
  refine ck_of mk_Wy_offer (Nat.le_of_ble_eq_true rfl) ⟨Nat.le_refl _, Nat.le_refl _⟩ (fun X hX hT hS hr hl => ?_)
  subst hl
  unfold Wy_offer at h
  show WR G X (mQ G X (none) z SS) 0 [.ref 13, .int v1, .int v2, .int v3, vU, vU] [] M SS
  refine r_aload_n hX dX7_offer_0 rfl ?_
  refine r_getf (v := .int (M.1 13 5)) hX dX7_offer_1 fl_7_27 rfl (by decide) (by decide) rfl ?_
  refine r_iconst (v := (4 : Int32)) hX dX7_offer_4 (by decide) ?_
  refine r_imul hX dX7_offer_5 ?_
  refine r_istore (L1 := [.ref 13, .int v1, .int v2, .int v3, .int ((M.1 13 5) * (4 : Int32)), vU]) hX dX7_offer_6 (Nat.le_of_ble_eq_true rfl) rfl ?_
  refine r_aload_n hX dX7_offer_8 rfl ?_
  refine r_getf (v := .ref 14) hX dX7_offer_9 fl_7_9 rfl (by decide) (by decide) rfl ?_
  refine r_aload_n hX dX7_offer_12 rfl ?_
  refine r_getf (v := .int (M.1 13 5)) hX dX7_offer_13 fl_7_27 rfl (by decide) (by decide) rfl ?_
  obtain ⟨k1, h⟩ := grd_s h
  refine r_iald hX dX7_offer_16 rfl (by decide) (inb_at rfl k1) ?_
  refine r_istore (L1 := [.ref 13, .int v1, .int v2, .int v3, .int ((M.1 13 5) * (4 : Int32)), .int (M.1 14 (tn (M.1 13 5)))]) hX dX7_offer_17 (Nat.le_of_ble_eq_true rfl) rfl ?_
  obtain ⟨y16, h1, h⟩ := bnd_s h
  refine loop_ok (P := fun s1 : Int32 × Mm => WR G X (mQ G X (none) z SS) 19 [.ref 13, .int v1, .int v2, .int v3, .int ((M.1 13 5) * (4 : Int32)), .int s1.1] [] s1.2 SS) (E := fun x1 : Int32 × Mm => WR G X (mQ G X (none) z SS) 150 [.ref 13, .int v1, .int v2, .int v3, .int ((M.1 13 5) * (4 : Int32)), .int x1.1] [] x1.2 SS) (fun s1 o1 g1 g2 g3 => ok_Wy_offer_b19 n s1.1 s1.2  hX hT hr g2 g3 g1) n (M.1 14 (tn (M.1 13 5)), M) y16 h1 ?_
  show WR G X (mQ G X (none) z SS) 150 [.ref 13, .int v1, .int v2, .int v3, .int ((M.1 13 5) * (4 : Int32)), .int y16.1] [] y16.2 SS
  exact ok_Wy_offer_j150 n v1 v2 v3 ((M.1 13 5) * (4 : Int32)) y16.1 y16.2   hX hT hr h
def Wy_walk_j113 (v7 : Int32) (M : Mm) : Option ((Int32 × Mm) ⊕ (Mm)) :=
  some (.inl (v7 + (1 : Int32), M))
def Wy_walk_b30 (o : Nat) (rc : Nat → Int32 → Int32 → Int32 → Int32 → Int32 → Mm → Option Mm) (c2 : Int32) (c3 : Int32) (c4 : Int32) (c5 : Int32) (c6 : Int32) (v7 : Int32) (M : Mm) : Option ((Int32 × Mm) ⊕ (Mm)) :=
  if (M.1 o 0) ≤ v7 then
    some (.inr M)
  else
    grd (inb ((c2 * (8 : Int32)) + v7) 64) (
    if (M.1 (o + 5) (tn ((c2 * (8 : Int32)) + v7))) < (0 : Int32) then
      Wy_walk_j113 v7 M
    else
      if ((ushr (M.1 13 7) (M.1 (o + 5) (tn ((c2 * (8 : Int32)) + v7)))) &&& (1 : Int32)) = (0 : Int32) then
        Wy_walk_j113 v7 M
      else
        if ((ushr c3 v7) &&& (1 : Int32)) = (0 : Int32) then
          grd (inb (M.1 (o + 5) (tn ((c2 * (8 : Int32)) + v7))) 14) (
          bnd (rc o v7 (c3 ||| ((1 : Int32) <<< (v7 &&& 31))) (c4 ||| ((1 : Int32) <<< ((M.1 (o + 5) (tn ((c2 * (8 : Int32)) + v7))) &&& 31))) (c5 + (M.1 (o + 4) (tn (M.1 (o + 5) (tn ((c2 * (8 : Int32)) + v7)))))) (c6 + (1 : Int32)) M) (fun z9 =>
          Wy_walk_j113 v7 z9))
        else
          Wy_walk_j113 v7 M)
def Wy_walkB (n : Nat) (o : Nat) (rc : Nat → Int32 → Int32 → Int32 → Int32 → Int32 → Mm → Option Mm) (v2 : Int32) (v3 : Int32) (v4 : Int32) (v5 : Int32) (v6 : Int32) (M : Mm) : Option (Mm) :=
  if v2 = (M.1 13 6) then
    bnd (Wy_offer n v4 v5 v6 M) (fun z12 =>
    some z12)
  else
    if v6 < (7 : Int32) then
      bnd (loop (fun s1 : Int32 × Mm => Wy_walk_b30 o rc v2 v3 v4 v5 v6 s1.1 s1.2) n ((0 : Int32), M)) (fun y11 =>
      some y11)
    else
      some M
def Wy_walk (n : Nat) : Nat → Nat → Int32 → Int32 → Int32 → Int32 → Int32 → Mm → Option Mm
  | 0, _, _, _, _, _, _, _ => none
  | e + 1, o, v2, v3, v4, v5, v6, M => Wy_walkB n o (Wy_walk n e) v2 v3 v4 v5 v6 M
set_option maxRecDepth 100000 in
theorem ok_Wy_walk_j113 (n : Nat) (o : Nat) (rc : Nat → Int32 → Int32 → Int32 → Int32 → Int32 → Mm → Option Mm) (v7 : Int32) (M : Mm) {c2 : Int32} {c3 : Int32} {c4 : Int32} {c5 : Int32} {c6 : Int32} {z : Mm} {oo : (Int32 × Mm) ⊕ (Mm)} {G : Gm} {X : Cx} {d : Nat} (ho : isNt o) (hrc : ∀ (o : Nat) (v2 v3 v4 v5 v6 : Int32) (M z : Mm), isNt o → rc o v2 v3 v4 v5 v6 M = some z → CK G X.2.1 (d + 0) md_Wy_walk [.ref 13, .ref o, .int v2, .int v3, .int v4, .int v5, .int v6] M SS none z SS) (hX : XK G X 7 cX7_walk 9 (d + 1)) (hT : XT X (none) "walk") (hr : XR X SS) (hc : ∀ s1 : Int32 × Mm, oo = .inl s1 → WR G X (mQ G X (none) z SS) 30 [.ref 13, .ref o, .int c2, .int c3, .int c4, .int c5, .int c6, .int s1.1, vU] [] s1.2 SS) (hx : ∀ x1 : Mm, oo = .inr x1 → WR G X (mQ G X (none) z SS) 119 [vU, vU, vU, vU, vU, vU, vU, vU, vU] [] x1 SS) (h : Wy_walk_j113 v7 M = some oo) : WR G X (mQ G X (none) z SS) 113 [.ref 13, .ref o, .int c2, .int c3, .int c4, .int c5, .int c6, .int v7, vU] [] M SS := by
  unfold Wy_walk_j113 at h
  refine r_iinc (v := v7 + (1 : Int32)) (L1 := [.ref 13, .ref o, .int c2, .int c3, .int c4, .int c5, .int c6, .int (v7 + (1 : Int32)), vU]) hX dX7_walk_113 rfl rfl rfl ?_
  refine r_goto (tgt := 30) hX dX7_walk_116 (by decide) ?_
  exact hc (v7 + (1 : Int32), M) (Option.some.inj h).symm
set_option maxRecDepth 100000 in
theorem ok_Wy_walk_b30 (n : Nat) (o : Nat) (rc : Nat → Int32 → Int32 → Int32 → Int32 → Int32 → Mm → Option Mm) (v7 : Int32) (M : Mm) {c2 : Int32} {c3 : Int32} {c4 : Int32} {c5 : Int32} {c6 : Int32} {z : Mm} {oo : (Int32 × Mm) ⊕ (Mm)} {G : Gm} {X : Cx} {d : Nat} (ho : isNt o) (hrc : ∀ (o : Nat) (v2 v3 v4 v5 v6 : Int32) (M z : Mm), isNt o → rc o v2 v3 v4 v5 v6 M = some z → CK G X.2.1 (d + 0) md_Wy_walk [.ref 13, .ref o, .int v2, .int v3, .int v4, .int v5, .int v6] M SS none z SS) (hX : XK G X 7 cX7_walk 9 (d + 1)) (hT : XT X (none) "walk") (hr : XR X SS) (hc : ∀ s1 : Int32 × Mm, oo = .inl s1 → WR G X (mQ G X (none) z SS) 30 [.ref 13, .ref o, .int c2, .int c3, .int c4, .int c5, .int c6, .int s1.1, vU] [] s1.2 SS) (hx : ∀ x1 : Mm, oo = .inr x1 → WR G X (mQ G X (none) z SS) 119 [vU, vU, vU, vU, vU, vU, vU, vU, vU] [] x1 SS) (h : Wy_walk_b30 o rc c2 c3 c4 c5 c6 v7 M = some oo) : WR G X (mQ G X (none) z SS) 30 [.ref 13, .ref o, .int c2, .int c3, .int c4, .int c5, .int c6, .int v7, vU] [] M SS := by
  unfold Wy_walk_b30 at h
  refine r_iload hX dX7_walk_30 rfl ?_
  refine r_aload_n hX dX7_walk_32 rfl ?_
  refine r_getf (v := .int (M.1 o 0)) hX dX7_walk_33 fl_7_55 (kdN0 ho) (by decide) (ltN0 ho) rfl ?_
  refine r_icmp_ge (tgt := 119) hX dX7_walk_36 (by decide) (fun g3 => ?_) (fun g3 => ?_)
  · have h := (if_pos g3).symm.trans h
    refine WR.fg (L' := [vU, vU, vU, vU, vU, vU, vU, vU, vU]) ⟨Or.inl rfl, Or.inl rfl, Or.inl rfl, Or.inl rfl, Or.inl rfl, Or.inl rfl, Or.inl rfl, Or.inl rfl, Or.inl rfl, trivial⟩ ?_
    exact hx _ (Option.some.inj h).symm
  · have h := (if_neg g3).symm.trans h
    refine r_aload_n hX dX7_walk_39 rfl ?_
    refine r_getf (v := .ref (o + 5)) hX dX7_walk_40 fl_7_60 (kdN0 ho) (by decide) (ltN0 ho) (rfN9 ho) ?_
    refine r_iload_n hX dX7_walk_43 rfl ?_
    refine r_bipush (v := (8 : Int32)) hX dX7_walk_44 (by decide) ?_
    refine r_imul hX dX7_walk_46 ?_
    refine r_iload hX dX7_walk_47 rfl ?_
    refine r_iadd hX dX7_walk_49 ?_
    obtain ⟨k4, h⟩ := grd_s h
    refine r_iald hX dX7_walk_50 (kdN5 ho) (ltN5 ho) (inb_at (lnN5 ho) k4) ?_
    refine r_istore (L1 := [.ref 13, .ref o, .int c2, .int c3, .int c4, .int c5, .int c6, .int v7, .int (M.1 (o + 5) (tn ((c2 * (8 : Int32)) + v7)))]) hX dX7_walk_51 (Nat.le_of_ble_eq_true rfl) rfl ?_
    refine r_iload hX dX7_walk_53 rfl ?_
    refine r_if_lt (tgt := 113) hX dX7_walk_55 (by decide) (fun g5 => ?_) (fun g5 => ?_)
    · have h := (if_pos g5).symm.trans h
      refine WR.fg (L' := [.ref 13, .ref o, .int c2, .int c3, .int c4, .int c5, .int c6, .int v7, vU]) ⟨Or.inr rfl, Or.inr rfl, Or.inr rfl, Or.inr rfl, Or.inr rfl, Or.inr rfl, Or.inr rfl, Or.inr rfl, Or.inl rfl, trivial⟩ ?_
      exact ok_Wy_walk_j113 n o rc v7 M  ho hrc hX hT hr hc hx h
    · have h := (if_neg g5).symm.trans h
      refine r_aload_n hX dX7_walk_58 rfl ?_
      refine r_getf (v := .int (M.1 13 7)) hX dX7_walk_59 fl_7_34 rfl (by decide) (by decide) rfl ?_
      refine r_iload hX dX7_walk_62 rfl ?_
      refine r_iushr hX dX7_walk_64 ?_
      refine r_iconst (v := (1 : Int32)) hX dX7_walk_65 (by decide) ?_
      refine r_iand hX dX7_walk_66 ?_
      refine r_if_eq (tgt := 113) hX dX7_walk_67 (by decide) (fun g6 => ?_) (fun g6 => ?_)
      · have h := (if_pos g6).symm.trans h
        refine WR.fg (L' := [.ref 13, .ref o, .int c2, .int c3, .int c4, .int c5, .int c6, .int v7, vU]) ⟨Or.inr rfl, Or.inr rfl, Or.inr rfl, Or.inr rfl, Or.inr rfl, Or.inr rfl, Or.inr rfl, Or.inr rfl, Or.inl rfl, trivial⟩ ?_
        exact ok_Wy_walk_j113 n o rc v7 M  ho hrc hX hT hr hc hx h
      · have h := (if_neg g6).symm.trans h
        refine r_iload_n hX dX7_walk_70 rfl ?_
        refine r_iload hX dX7_walk_71 rfl ?_
        refine r_iushr hX dX7_walk_73 ?_
        refine r_iconst (v := (1 : Int32)) hX dX7_walk_74 (by decide) ?_
        refine r_iand hX dX7_walk_75 ?_
        refine r_if_ne (tgt := 113) hX dX7_walk_76 (by decide) (fun g7 => ?_) (fun g7 => ?_)
        · have h := (if_neg g7).symm.trans h
          refine WR.fg (L' := [.ref 13, .ref o, .int c2, .int c3, .int c4, .int c5, .int c6, .int v7, vU]) ⟨Or.inr rfl, Or.inr rfl, Or.inr rfl, Or.inr rfl, Or.inr rfl, Or.inr rfl, Or.inr rfl, Or.inr rfl, Or.inl rfl, trivial⟩ ?_
          exact ok_Wy_walk_j113 n o rc v7 M  ho hrc hX hT hr hc hx h
        · have h := (if_pos g7).symm.trans h
          refine r_aload_n hX dX7_walk_79 rfl ?_
          refine r_aload_n hX dX7_walk_80 rfl ?_
          refine r_iload hX dX7_walk_81 rfl ?_
          refine r_iload_n hX dX7_walk_83 rfl ?_
          refine r_iconst (v := (1 : Int32)) hX dX7_walk_84 (by decide) ?_
          refine r_iload hX dX7_walk_85 rfl ?_
          refine r_ishl hX dX7_walk_87 ?_
          refine r_ior hX dX7_walk_88 ?_
          refine r_iload hX dX7_walk_89 rfl ?_
          refine r_iconst (v := (1 : Int32)) hX dX7_walk_91 (by decide) ?_
          refine r_iload hX dX7_walk_92 rfl ?_
          refine r_ishl hX dX7_walk_94 ?_
          refine r_ior hX dX7_walk_95 ?_
          refine r_iload hX dX7_walk_96 rfl ?_
          refine r_aload_n hX dX7_walk_98 rfl ?_
          refine r_getf (v := .ref (o + 4)) hX dX7_walk_99 fl_7_63 (kdN0 ho) (by decide) (ltN0 ho) (rfN8 ho) ?_
          refine r_iload hX dX7_walk_102 rfl ?_
          obtain ⟨k8, h⟩ := grd_s h
          refine r_iald hX dX7_walk_104 (kdN4 ho) (ltN4 ho) (inb_at (lnN4 ho) k8) ?_
          refine r_iadd hX dX7_walk_105 ?_
          refine r_iload hX dX7_walk_106 rfl ?_
          refine r_iconst (v := (1 : Int32)) hX dX7_walk_108 (by decide) ?_
          refine r_iadd hX dX7_walk_109 ?_
          obtain ⟨z9, p10, h⟩ := bnd_s h
          refine r_callS (As := [.ref 13, .ref o, .int v7, .int (c3 ||| ((1 : Int32) <<< (v7 &&& 31))), .int (c4 ||| ((1 : Int32) <<< ((M.1 (o + 5) (tn ((c2 * (8 : Int32)) + v7))) &&& 31))), .int (c5 + (M.1 (o + 4) (tn (M.1 (o + 5) (tn ((c2 * (8 : Int32)) + v7)))))), .int (c6 + (1 : Int32))]) hX dX7_walk_110 mk_Wy_walk ms_Wy_walk ml_7_47 rfl rfl rfl (Nat.le_of_ble_eq_true rfl) hr (hrc o v7 (c3 ||| ((1 : Int32) <<< (v7 &&& 31))) (c4 ||| ((1 : Int32) <<< ((M.1 (o + 5) (tn ((c2 * (8 : Int32)) + v7))) &&& 31))) (c5 + (M.1 (o + 4) (tn (M.1 (o + 5) (tn ((c2 * (8 : Int32)) + v7)))))) (c6 + (1 : Int32)) M z9 ho p10) ?_
          refine WR.fg (L' := [.ref 13, .ref o, .int c2, .int c3, .int c4, .int c5, .int c6, .int v7, vU]) ⟨Or.inr rfl, Or.inr rfl, Or.inr rfl, Or.inr rfl, Or.inr rfl, Or.inr rfl, Or.inr rfl, Or.inr rfl, Or.inl rfl, trivial⟩ ?_
          exact ok_Wy_walk_j113 n o rc v7 z9  ho hrc hX hT hr hc hx h
set_option maxRecDepth 100000 in
theorem ok_Wy_walkB {G : Gm} {l : Launch} {d : Nat} (n : Nat) (o : Nat) (rc : Nat → Int32 → Int32 → Int32 → Int32 → Int32 → Mm → Option Mm) (v2 : Int32) (v3 : Int32) (v4 : Int32) (v5 : Int32) (v6 : Int32) (M : Mm) {z : Mm} (ho : isNt o) (hrc : ∀ (o : Nat) (v2 v3 v4 v5 v6 : Int32) (M z : Mm), isNt o → rc o v2 v3 v4 v5 v6 M = some z → CK G l (d + 0) md_Wy_walk [.ref 13, .ref o, .int v2, .int v3, .int v4, .int v5, .int v6] M SS none z SS) (h : Wy_walkB n o rc v2 v3 v4 v5 v6 M = some z) : CK G l (d + 1) md_Wy_walk [.ref 13, .ref o, .int v2, .int v3, .int v4, .int v5, .int v6] M SS (none) z SS := by
  refine ck_of mk_Wy_walk (Nat.le_of_ble_eq_true rfl) ⟨Nat.le_refl _, Nat.le_refl _⟩ (fun X hX hT hS hr hl => ?_)
  subst hl
  unfold Wy_walkB at h
  show WR G X (mQ G X (none) z SS) 0 [.ref 13, .ref o, .int v2, .int v3, .int v4, .int v5, .int v6, vU, vU] [] M SS
  refine r_iload_n hX dX7_walk_0 rfl ?_
  refine r_aload_n hX dX7_walk_1 rfl ?_
  refine r_getf (v := .int (M.1 13 6)) hX dX7_walk_2 fl_7_31 rfl (by decide) (by decide) rfl ?_
  refine r_icmp_ne (tgt := 19) hX dX7_walk_5 (by decide) (fun g1 => ?_) (fun g1 => ?_)
  · have h := (if_neg g1).symm.trans h
    refine r_iload hX dX7_walk_19 rfl ?_
    refine r_bipush (v := (7 : Int32)) hX dX7_walk_21 (by decide) ?_
    refine r_icmp_lt (tgt := 27) hX dX7_walk_23 (by decide) (fun g2 => ?_) (fun g2 => ?_)
    · have h := (if_pos g2).symm.trans h
      refine r_iconst (v := (0 : Int32)) hX dX7_walk_27 (by decide) ?_
      refine r_istore (L1 := [.ref 13, .ref o, .int v2, .int v3, .int v4, .int v5, .int v6, .int (0 : Int32), vU]) hX dX7_walk_28 (Nat.le_of_ble_eq_true rfl) rfl ?_
      obtain ⟨y11, h1, h⟩ := bnd_s h
      refine loop_ok (P := fun s1 : Int32 × Mm => WR G X (mQ G X (none) z SS) 30 [.ref 13, .ref o, .int v2, .int v3, .int v4, .int v5, .int v6, .int s1.1, vU] [] s1.2 SS) (E := fun x1 : Mm => WR G X (mQ G X (none) z SS) 119 [vU, vU, vU, vU, vU, vU, vU, vU, vU] [] x1 SS) (fun s1 o1 g1 g2 g3 => ok_Wy_walk_b30 n o rc s1.1 s1.2 ho hrc hX hT hr g2 g3 g1) n ((0 : Int32), M) y11 h1 ?_
      show WR G X (mQ G X (none) z SS) 119 [vU, vU, vU, vU, vU, vU, vU, vU, vU] [] y11 SS
      obtain rfl := Option.some.inj h
      exact r_vret hX hT dX7_walk_119
    · have h := (if_neg g2).symm.trans h
      obtain rfl := Option.some.inj h
      exact r_vret hX hT dX7_walk_26
  · have h := (if_pos g1).symm.trans h
    refine r_aload_n hX dX7_walk_8 rfl ?_
    refine r_iload hX dX7_walk_9 rfl ?_
    refine r_iload hX dX7_walk_11 rfl ?_
    refine r_iload hX dX7_walk_13 rfl ?_
    obtain ⟨z12, p13, h⟩ := bnd_s h
    refine r_callV (As := [.int v4, .int v5, .int v6]) hX dX7_walk_15 mk_Wy_offer mi_Wy_offer ml_7_51 rfl rfl rfl rfl (by decide) (by decide) (Nat.le_of_ble_eq_true rfl) hr (ok_Wy_offer (d := d + 0) n v4 v5 v6 M p13) ?_
    obtain rfl := Option.some.inj h
    exact r_vret hX hT dX7_walk_18
theorem ok_Wy_walkE {G : Gm} {l : Launch} {d : Nat} (n : Nat) : ∀ (e : Nat) (o : Nat) (v2 v3 v4 v5 v6 : Int32) (M : Mm) {z : Mm}, isNt o → Wy_walk n e o v2 v3 v4 v5 v6 M = some z → CK G l (d + e + 1) md_Wy_walk [.ref 13, .ref o, .int v2, .int v3, .int v4, .int v5, .int v6] M SS none z SS
  | 0, _, _, _, _, _, _, _, _, _, h => by cases h
  | e + 1, o, v2, v3, v4, v5, v6, M, z, ho, h => ok_Wy_walkB (d := d + e + 1) n o (Wy_walk n e) v2 v3 v4 v5 v6 M ho (fun o v2 v3 v4 v5 v6 M z ho h => ok_Wy_walkE n e o v2 v3 v4 v5 v6 M ho h) h
theorem ok_Wy_walk {G : Gm} {l : Launch} {d : Nat} (n : Nat) (o : Nat) (v2 v3 v4 v5 v6 : Int32) (M : Mm) {z : Mm} (ho : isNt o) (h : Wy_walk n 9 o v2 v3 v4 v5 v6 M = some z) : CK G l (d + 10) md_Wy_walk [.ref 13, .ref o, .int v2, .int v3, .int v4, .int v5, .int v6] M SS none z SS := by
  exact ok_Wy_walkE n 9 o v2 v3 v4 v5 v6 M ho h
def Wy_pairOf_j77 (M : Mm) : Option (Int32 × Mm) :=
  some (M.1 13 5, M)
def Wy_pairOf (n : Nat) (o : Nat) (v2 : Int32) (v3 : Int32) (M : Mm) : Option (Int32 × Mm) :=
  grd (inb ((up2 M.1 13 5 ((v2 * (8 : Int32)) + v3)) 13 5) 64) (
  if ((up2 M.1 13 5 ((v2 * (8 : Int32)) + v3)) 15 (tn ((up2 M.1 13 5 ((v2 * (8 : Int32)) + v3)) 13 5))) = ((up2 M.1 13 5 ((v2 * (8 : Int32)) + v3)) o 1) then
    Wy_pairOf_j77 ((up2 M.1 13 5 ((v2 * (8 : Int32)) + v3)), M.2)
  else
    grd (inb ((up2 M.1 13 5 ((v2 * (8 : Int32)) + v3)) 13 5) 64) (
    grd (inb ((up2 (up2 M.1 13 5 ((v2 * (8 : Int32)) + v3)) 14 (tn ((up2 M.1 13 5 ((v2 * (8 : Int32)) + v3)) 13 5)) (0 : Int32)) 13 5) 64) (
    bnd (Wy_walk n 9 (o + 1) v2 ((1 : Int32) <<< (v2 &&& 31)) (0 : Int32) (0 : Int32) (0 : Int32) ((up2 (up2 (up2 (up2 (up2 M.1 13 5 ((v2 * (8 : Int32)) + v3)) 14 (tn ((up2 M.1 13 5 ((v2 * (8 : Int32)) + v3)) 13 5)) (0 : Int32)) 15 (tn ((up2 (up2 M.1 13 5 ((v2 * (8 : Int32)) + v3)) 14 (tn ((up2 M.1 13 5 ((v2 * (8 : Int32)) + v3)) 13 5)) (0 : Int32)) 13 5)) ((up2 (up2 M.1 13 5 ((v2 * (8 : Int32)) + v3)) 14 (tn ((up2 M.1 13 5 ((v2 * (8 : Int32)) + v3)) 13 5)) (0 : Int32)) o 1)) 13 7 ((up2 (up2 (up2 M.1 13 5 ((v2 * (8 : Int32)) + v3)) 14 (tn ((up2 M.1 13 5 ((v2 * (8 : Int32)) + v3)) 13 5)) (0 : Int32)) 15 (tn ((up2 (up2 M.1 13 5 ((v2 * (8 : Int32)) + v3)) 14 (tn ((up2 M.1 13 5 ((v2 * (8 : Int32)) + v3)) 13 5)) (0 : Int32)) 13 5)) ((up2 (up2 M.1 13 5 ((v2 * (8 : Int32)) + v3)) 14 (tn ((up2 M.1 13 5 ((v2 * (8 : Int32)) + v3)) 13 5)) (0 : Int32)) o 1)) o 1)) 13 6 v3), M.2)) (fun z5 =>
    Wy_pairOf_j77 z5))))
set_option maxRecDepth 100000 in
theorem ok_Wy_pairOf_j77 (n : Nat) (o : Nat) (M : Mm) {z : Int32 × Mm} {G : Gm} {X : Cx} {d : Nat} (ho : isSt o) (hX : XK G X 7 cX7_pairOf 4 (d + 11)) (hT : XT X (some .int) "pairOf") (hr : XR X SS) (h : Wy_pairOf_j77 M = some z) : WR G X (mQ G X (some (.int z.1)) z.2 SS) 77 [.ref 13, vU, vU, vU] [] M SS := by
  unfold Wy_pairOf_j77 at h
  refine r_aload_n hX dX7_pairOf_77 rfl ?_
  refine r_getf (v := .int (M.1 13 5)) hX dX7_pairOf_78 fl_7_27 rfl (by decide) (by decide) rfl ?_
  obtain rfl := Option.some.inj h
  exact r_iret hX hT dX7_pairOf_81 rfl
set_option maxRecDepth 100000 in
theorem ok_Wy_pairOf {G : Gm} {l : Launch} {d : Nat} (n : Nat) (o : Nat) (v2 : Int32) (v3 : Int32) (M : Mm) {z : Int32 × Mm} (ho : isSt o) (h : Wy_pairOf n o v2 v3 M = some z) : CK G l (d + 11) md_Wy_pairOf [.ref 13, .ref o, .int v2, .int v3] M SS (some (.int z.1)) z.2 SS := by
  refine ck_of mk_Wy_pairOf (Nat.le_of_ble_eq_true rfl) ⟨Nat.le_refl _, Nat.le_refl _⟩ (fun X hX hT hS hr hl => ?_)
  subst hl
  unfold Wy_pairOf at h
  show WR G X (mQ G X (some (.int z.1)) z.2 SS) 0 [.ref 13, .ref o, .int v2, .int v3] [] M SS
  refine r_aload_n hX dX7_pairOf_0 rfl ?_
  refine r_iload_n hX dX7_pairOf_1 rfl ?_
  refine r_bipush (v := (8 : Int32)) hX dX7_pairOf_2 (by decide) ?_
  refine r_imul hX dX7_pairOf_4 ?_
  refine r_iload_n hX dX7_pairOf_5 rfl ?_
  refine r_iadd hX dX7_pairOf_6 ?_
  refine r_putI hX dX7_pairOf_7 fl_7_27 rfl (by decide) (by decide) (okI_int _) ?_
  refine r_aload_n hX dX7_pairOf_10 rfl ?_
  refine r_getf (v := .ref 15) hX dX7_pairOf_11 fl_7_15 rfl (by decide) (by decide) rfl ?_
  refine r_aload_n hX dX7_pairOf_14 rfl ?_
  refine r_getf (v := .int ((up2 M.1 13 5 ((v2 * (8 : Int32)) + v3)) 13 5)) hX dX7_pairOf_15 fl_7_27 rfl (by decide) (by decide) rfl ?_
  obtain ⟨k1, h⟩ := grd_s h
  refine r_iald' hX dX7_pairOf_18 rfl (by decide) (inb_at rfl k1) ?_
  refine r_aload_n hX dX7_pairOf_19 rfl ?_
  refine r_getf (v := .int ((up2 M.1 13 5 ((v2 * (8 : Int32)) + v3)) o 1)) hX dX7_pairOf_20 fl_7_40 (kdS0 ho) (by decide) (ltS0 ho) rfl ?_
  refine r_icmp_eq (tgt := 77) hX dX7_pairOf_23 (by decide) (fun g2 => ?_) (fun g2 => ?_)
  · have h := (if_pos g2).symm.trans h
    refine WR.fg (L' := [.ref 13, vU, vU, vU]) ⟨Or.inr rfl, Or.inl rfl, Or.inl rfl, Or.inl rfl, trivial⟩ ?_
    exact ok_Wy_pairOf_j77 n o ((up2 M.1 13 5 ((v2 * (8 : Int32)) + v3)), M.2)  ho hX hT hr h
  · have h := (if_neg g2).symm.trans h
    refine r_aload_n hX dX7_pairOf_26 rfl ?_
    refine r_getf (v := .ref 14) hX dX7_pairOf_27 fl_7_9 rfl (by decide) (by decide) rfl ?_
    refine r_aload_n hX dX7_pairOf_30 rfl ?_
    refine r_getf (v := .int ((up2 M.1 13 5 ((v2 * (8 : Int32)) + v3)) 13 5)) hX dX7_pairOf_31 fl_7_27 rfl (by decide) (by decide) rfl ?_
    refine r_iconst (v := (0 : Int32)) hX dX7_pairOf_34 (by decide) ?_
    obtain ⟨k3, h⟩ := grd_s h
    refine r_iast' hX dX7_pairOf_35 rfl (by decide) (inb_at rfl k3) ?_
    refine r_aload_n hX dX7_pairOf_36 rfl ?_
    refine r_getf (v := .ref 15) hX dX7_pairOf_37 fl_7_15 rfl (by decide) (by decide) rfl ?_
    refine r_aload_n hX dX7_pairOf_40 rfl ?_
    refine r_getf (v := .int ((up2 (up2 M.1 13 5 ((v2 * (8 : Int32)) + v3)) 14 (tn ((up2 M.1 13 5 ((v2 * (8 : Int32)) + v3)) 13 5)) (0 : Int32)) 13 5)) hX dX7_pairOf_41 fl_7_27 rfl (by decide) (by decide) rfl ?_
    refine r_aload_n hX dX7_pairOf_44 rfl ?_
    refine r_getf (v := .int ((up2 (up2 M.1 13 5 ((v2 * (8 : Int32)) + v3)) 14 (tn ((up2 M.1 13 5 ((v2 * (8 : Int32)) + v3)) 13 5)) (0 : Int32)) o 1)) hX dX7_pairOf_45 fl_7_40 (kdS0 ho) (by decide) (ltS0 ho) rfl ?_
    obtain ⟨k4, h⟩ := grd_s h
    refine r_iast' hX dX7_pairOf_48 rfl (by decide) (inb_at rfl k4) ?_
    refine r_aload_n hX dX7_pairOf_49 rfl ?_
    refine r_aload_n hX dX7_pairOf_50 rfl ?_
    refine r_getf (v := .int ((up2 (up2 (up2 M.1 13 5 ((v2 * (8 : Int32)) + v3)) 14 (tn ((up2 M.1 13 5 ((v2 * (8 : Int32)) + v3)) 13 5)) (0 : Int32)) 15 (tn ((up2 (up2 M.1 13 5 ((v2 * (8 : Int32)) + v3)) 14 (tn ((up2 M.1 13 5 ((v2 * (8 : Int32)) + v3)) 13 5)) (0 : Int32)) 13 5)) ((up2 (up2 M.1 13 5 ((v2 * (8 : Int32)) + v3)) 14 (tn ((up2 M.1 13 5 ((v2 * (8 : Int32)) + v3)) 13 5)) (0 : Int32)) o 1)) o 1)) hX dX7_pairOf_51 fl_7_40 (kdS0 ho) (by decide) (ltS0 ho) rfl ?_
    refine r_putI' hX dX7_pairOf_54 fl_7_34 rfl (by decide) (by decide) (okI_int _) ?_
    refine r_aload_n hX dX7_pairOf_57 rfl ?_
    refine r_iload_n hX dX7_pairOf_58 rfl ?_
    refine r_putI' hX dX7_pairOf_59 fl_7_31 rfl (by decide) (by decide) (okI_int _) ?_
    refine r_aload_n hX dX7_pairOf_62 rfl ?_
    refine r_aload_n hX dX7_pairOf_63 rfl ?_
    refine r_getf (v := .ref (o + 1)) hX dX7_pairOf_64 fl_7_43 (kdS0 ho) (by decide) (ltS0 ho) (rfS0 ho) ?_
    refine r_iload_n hX dX7_pairOf_67 rfl ?_
    refine r_iconst (v := (1 : Int32)) hX dX7_pairOf_68 (by decide) ?_
    refine r_iload_n hX dX7_pairOf_69 rfl ?_
    refine r_ishl hX dX7_pairOf_70 ?_
    refine r_iconst (v := (0 : Int32)) hX dX7_pairOf_71 (by decide) ?_
    refine r_iconst (v := (0 : Int32)) hX dX7_pairOf_72 (by decide) ?_
    refine r_iconst (v := (0 : Int32)) hX dX7_pairOf_73 (by decide) ?_
    obtain ⟨z5, p6, h⟩ := bnd_s h
    refine r_callS (As := [.ref 13, .ref (o + 1), .int v2, .int ((1 : Int32) <<< (v2 &&& 31)), .int (0 : Int32), .int (0 : Int32), .int (0 : Int32)]) hX dX7_pairOf_74 mk_Wy_walk ms_Wy_walk ml_7_47 rfl rfl rfl (Nat.le_of_ble_eq_true rfl) hr (ok_Wy_walk (d := d + 0) n (o + 1) v2 ((1 : Int32) <<< (v2 &&& 31)) (0 : Int32) (0 : Int32) (0 : Int32) ((up2 (up2 (up2 (up2 (up2 M.1 13 5 ((v2 * (8 : Int32)) + v3)) 14 (tn ((up2 M.1 13 5 ((v2 * (8 : Int32)) + v3)) 13 5)) (0 : Int32)) 15 (tn ((up2 (up2 M.1 13 5 ((v2 * (8 : Int32)) + v3)) 14 (tn ((up2 M.1 13 5 ((v2 * (8 : Int32)) + v3)) 13 5)) (0 : Int32)) 13 5)) ((up2 (up2 M.1 13 5 ((v2 * (8 : Int32)) + v3)) 14 (tn ((up2 M.1 13 5 ((v2 * (8 : Int32)) + v3)) 13 5)) (0 : Int32)) o 1)) 13 7 ((up2 (up2 (up2 M.1 13 5 ((v2 * (8 : Int32)) + v3)) 14 (tn ((up2 M.1 13 5 ((v2 * (8 : Int32)) + v3)) 13 5)) (0 : Int32)) 15 (tn ((up2 (up2 M.1 13 5 ((v2 * (8 : Int32)) + v3)) 14 (tn ((up2 M.1 13 5 ((v2 * (8 : Int32)) + v3)) 13 5)) (0 : Int32)) 13 5)) ((up2 (up2 M.1 13 5 ((v2 * (8 : Int32)) + v3)) 14 (tn ((up2 M.1 13 5 ((v2 * (8 : Int32)) + v3)) 13 5)) (0 : Int32)) o 1)) o 1)) 13 6 v3), M.2) (nt_st ho) p6) ?_
    refine WR.fg (L' := [.ref 13, vU, vU, vU]) ⟨Or.inr rfl, Or.inl rfl, Or.inl rfl, Or.inl rfl, trivial⟩ ?_
    exact ok_Wy_pairOf_j77 n o z5  ho hX hT hr h
def Fi_find_j213 (v8 : Int32) (M : Mm) : Option ((Int32 × Mm) ⊕ (Mm)) :=
  some (.inl (v8 + (1 : Int32), M))
def Fi_find_j201 (v8 : Int32) (v9 : Int32) (v10 : Int32) (v13 : Int32) (M : Mm) : Option ((Int32 × Mm) ⊕ (Mm)) :=
  bnd (Fi_choose v8 v9 v13 v10 M) (fun z18 =>
  Fi_find_j213 v8 z18)
def Fi_find_j183 (v8 : Int32) (v9 : Int32) (v10 : Int32) (w0 : Int32) (M : Mm) : Option ((Int32 × Mm) ⊕ (Mm)) :=
  if (M.1 12 1) < (0 : Int32) then
    Fi_find_j201 v8 v9 v10 w0 M
  else
    if (M.1 12 3) ≤ w0 then
      Fi_find_j213 v8 M
    else
      Fi_find_j201 v8 v9 v10 w0 M
def Fi_find_j157 (n : Nat) (c5 : Int32) (v8 : Int32) (v9 : Int32) (v10 : Int32) (v11 : Int64) (M : Mm) : Option ((Int32 × Mm) ⊕ (Mm)) :=
  if v11 = (0 : Int64) then
    Fi_find_j213 v8 M
  else
    if c5 = (3 : Int32) then
      bnd (Fg_highest n v11 M) (fun z21 =>
      Fi_find_j183 v8 v9 v10 z21 M)
    else
      bnd (Fg_lowest v11 M) (fun z15 =>
      Fi_find_j183 v8 v9 v10 z15 M)
def Fi_find_j126 (n : Nat) (o : Nat) (c5 : Int32) (v8 : Int32) (v9 : Int32) (v10 : Int32) (w0 : Int64) (M : Mm) : Option ((Int32 × Mm) ⊕ (Mm)) :=
  if w0 = (0 : Int64) then
    Fi_find_j157 n c5 v8 v9 v10 w0 M
  else
    if c5 = (2 : Int32) then
      bnd (Fi_weighRows n o v8 v9 v10 w0 M) (fun z24 =>
      Fi_find_j213 v8 z24)
    else
      Fi_find_j157 n c5 v8 v9 v10 w0 M
def Fi_find_j65 (n : Nat) (o : Nat) (c4 : Int32) (c5 : Int32) (c6 : Int32) (v8 : Int32) (M : Mm) : Option ((Int32 × Mm) ⊕ (Mm)) :=
  grd (inb ((c6 * (4 : Int32)) + v8) 256) (
  grd (inb ((c6 * (4 : Int32)) + v8) 256) (
  bnd (Nt_widthOf n (o + 1) c4 (M.1 17 (tn ((c6 * (4 : Int32)) + v8))) M) (fun z9 =>
  if z9 ≤ (0 : Int32) then
    Fi_find_j126 n o c5 v8 (M.1 16 (tn ((c6 * (4 : Int32)) + v8))) z9 (0 : Int64) M
  else
    bnd (St_fitting n o (M.1 16 (tn ((c6 * (4 : Int32)) + v8))) z9 (-1 : Int32) M) (fun z26 =>
    Fi_find_j126 n o c5 v8 (M.1 16 (tn ((c6 * (4 : Int32)) + v8))) z9 z26 M))))
def Fi_find_b38 (n : Nat) (o : Nat) (c4 : Int32) (c5 : Int32) (c6 : Int32) (c7 : Int32) (v8 : Int32) (M : Mm) : Option ((Int32 × Mm) ⊕ (Mm)) :=
  grd (inb c6 64) (
  if (M.1 14 (tn c6)) ≤ v8 then
    some (.inr M)
  else
    if c7 = (0 : Int32) then
      Fi_find_j65 n o c4 c5 c6 v8 M
    else
      if (0 : Int32) ≤ (M.1 12 1) then
        some (.inr M)
      else
        Fi_find_j65 n o c4 c5 c6 v8 M)
def Fi_find_j219 (M : Mm) : Option (Bool × Mm) :=
  if (M.1 12 1) < (0 : Int32) then
    some (false, M)
  else
    some (true, M)
def Fi_find_j28 (n : Nat) (o : Nat) (v4 : Int32) (v5 : Int32) (v6 : Int32) (w0 : Int32) (M : Mm) : Option (Bool × Mm) :=
  bnd (loop (fun s1 : Int32 × Mm => Fi_find_b38 n o v4 v5 v6 w0 s1.1 s1.2) n ((0 : Int32), ((up2 M.1 12 1 (-1 : Int32)), M.2))) (fun y29 =>
  Fi_find_j219 y29)
def Fi_find_j23 (n : Nat) (o : Nat) (v4 : Int32) (v5 : Int32) (v6 : Int32) (M : Mm) : Option (Bool × Mm) :=
  Fi_find_j28 n o v4 v5 v6 (1 : Int32) M
def Fi_find (n : Nat) (o : Nat) (v2 : Int32) (v3 : Int32) (v4 : Int32) (v5 : Int32) (M : Mm) : Option (Bool × Mm) :=
  bnd (Wy_pairOf n o v2 v3 M) (fun z1 =>
  if v5 = (0 : Int32) then
    Fi_find_j23 n o v4 v5 z1.1 z1.2
  else
    if v5 = (3 : Int32) then
      Fi_find_j23 n o v4 v5 z1.1 z1.2
    else
      Fi_find_j28 n o v4 v5 z1.1 (0 : Int32) z1.2)
set_option maxRecDepth 100000 in
theorem ok_Fi_find_j213 (n : Nat) (o : Nat) (v8 : Int32) (M : Mm) {c4 : Int32} {c5 : Int32} {c6 : Int32} {c7 : Int32} {z : Bool × Mm} {oo : (Int32 × Mm) ⊕ (Mm)} {G : Gm} {X : Cx} {d : Nat} (ho : isSt o) (hX : XK G X 0 cX0_find 14 (d + 12)) (hT : XT X (some .boolean) "find") (hr : XR X SS) (hc : ∀ s1 : Int32 × Mm, oo = .inl s1 → WR G X (mQ G X (some (.int (b2i z.1))) z.2 SS) 38 [.ref 12, .ref o, vU, vU, .int c4, .int c5, .int c6, .int c7, .int s1.1, vU, vU, vU, vU, vU] [] s1.2 SS) (hx : ∀ x1 : Mm, oo = .inr x1 → WR G X (mQ G X (some (.int (b2i z.1))) z.2 SS) 219 [.ref 12, vU, vU, vU, vU, vU, vU, vU, vU, vU, vU, vU, vU, vU] [] x1 SS) (h : Fi_find_j213 v8 M = some oo) : WR G X (mQ G X (some (.int (b2i z.1))) z.2 SS) 213 [.ref 12, .ref o, vU, vU, .int c4, .int c5, .int c6, .int c7, .int v8, vU, vU, vU, vU, vU] [] M SS := by
  unfold Fi_find_j213 at h
  refine r_iinc (v := v8 + (1 : Int32)) (L1 := [.ref 12, .ref o, vU, vU, .int c4, .int c5, .int c6, .int c7, .int (v8 + (1 : Int32)), vU, vU, vU, vU, vU]) hX dX0_find_213 rfl rfl rfl ?_
  refine r_goto (tgt := 38) hX dX0_find_216 (by decide) ?_
  exact hc (v8 + (1 : Int32), M) (Option.some.inj h).symm
set_option maxRecDepth 100000 in
theorem ok_Fi_find_j201 (n : Nat) (o : Nat) (v8 : Int32) (v9 : Int32) (v10 : Int32) (v13 : Int32) (M : Mm) {c4 : Int32} {c5 : Int32} {c6 : Int32} {c7 : Int32} {z : Bool × Mm} {oo : (Int32 × Mm) ⊕ (Mm)} {G : Gm} {X : Cx} {d : Nat} (ho : isSt o) (hX : XK G X 0 cX0_find 14 (d + 12)) (hT : XT X (some .boolean) "find") (hr : XR X SS) (hc : ∀ s1 : Int32 × Mm, oo = .inl s1 → WR G X (mQ G X (some (.int (b2i z.1))) z.2 SS) 38 [.ref 12, .ref o, vU, vU, .int c4, .int c5, .int c6, .int c7, .int s1.1, vU, vU, vU, vU, vU] [] s1.2 SS) (hx : ∀ x1 : Mm, oo = .inr x1 → WR G X (mQ G X (some (.int (b2i z.1))) z.2 SS) 219 [.ref 12, vU, vU, vU, vU, vU, vU, vU, vU, vU, vU, vU, vU, vU] [] x1 SS) (h : Fi_find_j201 v8 v9 v10 v13 M = some oo) : WR G X (mQ G X (some (.int (b2i z.1))) z.2 SS) 201 [.ref 12, .ref o, vU, vU, .int c4, .int c5, .int c6, .int c7, .int v8, .int v9, .int v10, vU, vU, .int v13] [] M SS := by
  unfold Fi_find_j201 at h
  refine r_aload_n hX dX0_find_201 rfl ?_
  refine r_iload hX dX0_find_202 rfl ?_
  refine r_iload hX dX0_find_204 rfl ?_
  refine r_iload hX dX0_find_206 rfl ?_
  refine r_iload hX dX0_find_208 rfl ?_
  obtain ⟨z18, p19, h⟩ := bnd_s h
  refine r_callV (As := [.int v8, .int v9, .int v13, .int v10]) hX dX0_find_210 mk_Fi_choose mi_Fi_choose ml_0_77 rfl rfl rfl rfl (by decide) (by decide) (Nat.le_of_ble_eq_true rfl) hr (ok_Fi_choose (d := d + 11) v8 v9 v13 v10 M p19) ?_
  refine WR.fg (L' := [.ref 12, .ref o, vU, vU, .int c4, .int c5, .int c6, .int c7, .int v8, vU, vU, vU, vU, vU]) ⟨Or.inr rfl, Or.inr rfl, Or.inl rfl, Or.inl rfl, Or.inr rfl, Or.inr rfl, Or.inr rfl, Or.inr rfl, Or.inr rfl, Or.inl rfl, Or.inl rfl, Or.inl rfl, Or.inl rfl, Or.inl rfl, trivial⟩ ?_
  exact ok_Fi_find_j213 n o v8 z18  ho hX hT hr hc hx h
set_option maxRecDepth 100000 in
theorem ok_Fi_find_j183 (n : Nat) (o : Nat) (v8 : Int32) (v9 : Int32) (v10 : Int32) (w0 : Int32) (M : Mm) {c4 : Int32} {c5 : Int32} {c6 : Int32} {c7 : Int32} {z : Bool × Mm} {oo : (Int32 × Mm) ⊕ (Mm)} {G : Gm} {X : Cx} {d : Nat} (ho : isSt o) (hX : XK G X 0 cX0_find 14 (d + 12)) (hT : XT X (some .boolean) "find") (hr : XR X SS) (hc : ∀ s1 : Int32 × Mm, oo = .inl s1 → WR G X (mQ G X (some (.int (b2i z.1))) z.2 SS) 38 [.ref 12, .ref o, vU, vU, .int c4, .int c5, .int c6, .int c7, .int s1.1, vU, vU, vU, vU, vU] [] s1.2 SS) (hx : ∀ x1 : Mm, oo = .inr x1 → WR G X (mQ G X (some (.int (b2i z.1))) z.2 SS) 219 [.ref 12, vU, vU, vU, vU, vU, vU, vU, vU, vU, vU, vU, vU, vU] [] x1 SS) (h : Fi_find_j183 v8 v9 v10 w0 M = some oo) : WR G X (mQ G X (some (.int (b2i z.1))) z.2 SS) 183 [.ref 12, .ref o, vU, vU, .int c4, .int c5, .int c6, .int c7, .int v8, .int v9, .int v10, vU, vU, vU] [.int w0] M SS := by
  unfold Fi_find_j183 at h
  refine r_istore (L1 := [.ref 12, .ref o, vU, vU, .int c4, .int c5, .int c6, .int c7, .int v8, .int v9, .int v10, vU, vU, .int w0]) hX dX0_find_183 (Nat.le_of_ble_eq_true rfl) rfl ?_
  refine r_aload_n hX dX0_find_185 rfl ?_
  refine r_getf (v := .int (M.1 12 1)) hX dX0_find_186 fl_0_18 rfl (by decide) (by decide) rfl ?_
  refine r_if_lt (tgt := 201) hX dX0_find_189 (by decide) (fun g17 => ?_) (fun g17 => ?_)
  · have h := (if_pos g17).symm.trans h
    exact ok_Fi_find_j201 n o v8 v9 v10 w0 M  ho hX hT hr hc hx h
  · have h := (if_neg g17).symm.trans h
    refine r_iload hX dX0_find_192 rfl ?_
    refine r_aload_n hX dX0_find_194 rfl ?_
    refine r_getf (v := .int (M.1 12 3)) hX dX0_find_195 fl_0_25 rfl (by decide) (by decide) rfl ?_
    refine r_icmp_ge (tgt := 213) hX dX0_find_198 (by decide) (fun g20 => ?_) (fun g20 => ?_)
    · have h := (if_pos g20).symm.trans h
      refine WR.fg (L' := [.ref 12, .ref o, vU, vU, .int c4, .int c5, .int c6, .int c7, .int v8, vU, vU, vU, vU, vU]) ⟨Or.inr rfl, Or.inr rfl, Or.inl rfl, Or.inl rfl, Or.inr rfl, Or.inr rfl, Or.inr rfl, Or.inr rfl, Or.inr rfl, Or.inl rfl, Or.inl rfl, Or.inl rfl, Or.inl rfl, Or.inl rfl, trivial⟩ ?_
      exact ok_Fi_find_j213 n o v8 M  ho hX hT hr hc hx h
    · have h := (if_neg g20).symm.trans h
      exact ok_Fi_find_j201 n o v8 v9 v10 w0 M  ho hX hT hr hc hx h
set_option maxRecDepth 100000 in
theorem ok_Fi_find_j157 (n : Nat) (o : Nat) (v8 : Int32) (v9 : Int32) (v10 : Int32) (v11 : Int64) (M : Mm) {c4 : Int32} {c5 : Int32} {c6 : Int32} {c7 : Int32} {z : Bool × Mm} {oo : (Int32 × Mm) ⊕ (Mm)} {G : Gm} {X : Cx} {d : Nat} (ho : isSt o) (hX : XK G X 0 cX0_find 14 (d + 12)) (hT : XT X (some .boolean) "find") (hr : XR X SS) (hc : ∀ s1 : Int32 × Mm, oo = .inl s1 → WR G X (mQ G X (some (.int (b2i z.1))) z.2 SS) 38 [.ref 12, .ref o, vU, vU, .int c4, .int c5, .int c6, .int c7, .int s1.1, vU, vU, vU, vU, vU] [] s1.2 SS) (hx : ∀ x1 : Mm, oo = .inr x1 → WR G X (mQ G X (some (.int (b2i z.1))) z.2 SS) 219 [.ref 12, vU, vU, vU, vU, vU, vU, vU, vU, vU, vU, vU, vU, vU] [] x1 SS) (h : Fi_find_j157 n c5 v8 v9 v10 v11 M = some oo) : WR G X (mQ G X (some (.int (b2i z.1))) z.2 SS) 157 [.ref 12, .ref o, vU, vU, .int c4, .int c5, .int c6, .int c7, .int v8, .int v9, .int v10, .long v11, vU, vU] [] M SS := by
  unfold Fi_find_j157 at h
  refine r_lload hX dX0_find_157 rfl ?_
  refine r_lconst (v := (0 : Int64)) hX dX0_find_159 (by decide) ?_
  refine r_lcmp_eq (tgt := 213) hX dX0_find_160 dX0_find_161 (by decide) (fun g13 => ?_) (fun g13 => ?_)
  · have h := (if_pos g13).symm.trans h
    refine WR.fg (L' := [.ref 12, .ref o, vU, vU, .int c4, .int c5, .int c6, .int c7, .int v8, vU, vU, vU, vU, vU]) ⟨Or.inr rfl, Or.inr rfl, Or.inl rfl, Or.inl rfl, Or.inr rfl, Or.inr rfl, Or.inr rfl, Or.inr rfl, Or.inr rfl, Or.inl rfl, Or.inl rfl, Or.inl rfl, Or.inl rfl, Or.inl rfl, trivial⟩ ?_
    exact ok_Fi_find_j213 n o v8 M  ho hX hT hr hc hx h
  · have h := (if_neg g13).symm.trans h
    refine r_iload hX dX0_find_164 rfl ?_
    refine r_iconst (v := (3 : Int32)) hX dX0_find_166 (by decide) ?_
    refine r_icmp_ne (tgt := 178) hX dX0_find_167 (by decide) (fun g14 => ?_) (fun g14 => ?_)
    · have h := (if_neg g14).symm.trans h
      refine r_lload hX dX0_find_178 rfl ?_
      obtain ⟨z15, p16, h⟩ := bnd_s h
      refine r_callSN (As := [.long v11]) hX dX0_find_180 mk_Fg_lowest ms_Fg_lowest mn_0_74 rfl rfl rfl (Nat.le_of_ble_eq_true rfl) hr (ok_Fg_lowest (d := d + 10) v11 M p16) ?_
      refine WR.fg (L' := [.ref 12, .ref o, vU, vU, .int c4, .int c5, .int c6, .int c7, .int v8, .int v9, .int v10, vU, vU, vU]) ⟨Or.inr rfl, Or.inr rfl, Or.inl rfl, Or.inl rfl, Or.inr rfl, Or.inr rfl, Or.inr rfl, Or.inr rfl, Or.inr rfl, Or.inr rfl, Or.inr rfl, Or.inl rfl, Or.inl rfl, Or.inl rfl, trivial⟩ ?_
      exact ok_Fi_find_j183 n o v8 v9 v10 z15 M  ho hX hT hr hc hx h
    · have h := (if_pos g14).symm.trans h
      refine r_lload hX dX0_find_170 rfl ?_
      obtain ⟨z21, p22, h⟩ := bnd_s h
      refine r_callSN (As := [.long v11]) hX dX0_find_172 mk_Fg_highest ms_Fg_highest mn_0_70 rfl rfl rfl (Nat.le_of_ble_eq_true rfl) hr (ok_Fg_highest (d := d + 10) n v11 M p22) ?_
      refine r_goto (tgt := 183) hX dX0_find_175 (by decide) ?_
      refine WR.fg (L' := [.ref 12, .ref o, vU, vU, .int c4, .int c5, .int c6, .int c7, .int v8, .int v9, .int v10, vU, vU, vU]) ⟨Or.inr rfl, Or.inr rfl, Or.inl rfl, Or.inl rfl, Or.inr rfl, Or.inr rfl, Or.inr rfl, Or.inr rfl, Or.inr rfl, Or.inr rfl, Or.inr rfl, Or.inl rfl, Or.inl rfl, Or.inl rfl, trivial⟩ ?_
      exact ok_Fi_find_j183 n o v8 v9 v10 z21 M  ho hX hT hr hc hx h
set_option maxRecDepth 100000 in
theorem ok_Fi_find_j126 (n : Nat) (o : Nat) (v8 : Int32) (v9 : Int32) (v10 : Int32) (w0 : Int64) (M : Mm) {c4 : Int32} {c5 : Int32} {c6 : Int32} {c7 : Int32} {z : Bool × Mm} {oo : (Int32 × Mm) ⊕ (Mm)} {G : Gm} {X : Cx} {d : Nat} (ho : isSt o) (hX : XK G X 0 cX0_find 14 (d + 12)) (hT : XT X (some .boolean) "find") (hr : XR X SS) (hc : ∀ s1 : Int32 × Mm, oo = .inl s1 → WR G X (mQ G X (some (.int (b2i z.1))) z.2 SS) 38 [.ref 12, .ref o, vU, vU, .int c4, .int c5, .int c6, .int c7, .int s1.1, vU, vU, vU, vU, vU] [] s1.2 SS) (hx : ∀ x1 : Mm, oo = .inr x1 → WR G X (mQ G X (some (.int (b2i z.1))) z.2 SS) 219 [.ref 12, vU, vU, vU, vU, vU, vU, vU, vU, vU, vU, vU, vU, vU] [] x1 SS) (h : Fi_find_j126 n o c5 v8 v9 v10 w0 M = some oo) : WR G X (mQ G X (some (.int (b2i z.1))) z.2 SS) 126 [.ref 12, .ref o, vU, vU, .int c4, .int c5, .int c6, .int c7, .int v8, .int v9, .int v10, vU, vU, vU] [.long w0] M SS := by
  unfold Fi_find_j126 at h
  refine r_lstore (L1 := [.ref 12, .ref o, vU, vU, .int c4, .int c5, .int c6, .int c7, .int v8, .int v9, .int v10, .long w0, vU, vU]) hX dX0_find_126 (Nat.le_of_ble_eq_true rfl) rfl ?_
  refine r_lload hX dX0_find_128 rfl ?_
  refine r_lconst (v := (0 : Int64)) hX dX0_find_130 (by decide) ?_
  refine r_lcmp_eq (tgt := 157) hX dX0_find_131 dX0_find_132 (by decide) (fun g12 => ?_) (fun g12 => ?_)
  · have h := (if_pos g12).symm.trans h
    exact ok_Fi_find_j157 n o v8 v9 v10 w0 M  ho hX hT hr hc hx h
  · have h := (if_neg g12).symm.trans h
    refine r_iload hX dX0_find_135 rfl ?_
    refine r_iconst (v := (2 : Int32)) hX dX0_find_137 (by decide) ?_
    refine r_icmp_ne (tgt := 157) hX dX0_find_138 (by decide) (fun g23 => ?_) (fun g23 => ?_)
    · have h := (if_neg g23).symm.trans h
      exact ok_Fi_find_j157 n o v8 v9 v10 w0 M  ho hX hT hr hc hx h
    · have h := (if_pos g23).symm.trans h
      refine r_aload_n hX dX0_find_141 rfl ?_
      refine r_aload_n hX dX0_find_142 rfl ?_
      refine r_iload hX dX0_find_143 rfl ?_
      refine r_iload hX dX0_find_145 rfl ?_
      refine r_iload hX dX0_find_147 rfl ?_
      refine r_lload hX dX0_find_149 rfl ?_
      obtain ⟨z24, p25, h⟩ := bnd_s h
      refine r_callV (As := [.ref o, .int v8, .int v9, .int v10, .long w0]) hX dX0_find_151 mk_Fi_weighRows mi_Fi_weighRows ml_0_66 rfl rfl rfl rfl (by decide) (by decide) (Nat.le_of_ble_eq_true rfl) hr (ok_Fi_weighRows (d := d + 9) n o v8 v9 v10 w0 M ho p25) ?_
      refine r_goto (tgt := 213) hX dX0_find_154 (by decide) ?_
      refine WR.fg (L' := [.ref 12, .ref o, vU, vU, .int c4, .int c5, .int c6, .int c7, .int v8, vU, vU, vU, vU, vU]) ⟨Or.inr rfl, Or.inr rfl, Or.inl rfl, Or.inl rfl, Or.inr rfl, Or.inr rfl, Or.inr rfl, Or.inr rfl, Or.inr rfl, Or.inl rfl, Or.inl rfl, Or.inl rfl, Or.inl rfl, Or.inl rfl, trivial⟩ ?_
      exact ok_Fi_find_j213 n o v8 z24  ho hX hT hr hc hx h
set_option maxRecDepth 100000 in
theorem ok_Fi_find_j65 (n : Nat) (o : Nat) (v8 : Int32) (M : Mm) {c4 : Int32} {c5 : Int32} {c6 : Int32} {c7 : Int32} {z : Bool × Mm} {oo : (Int32 × Mm) ⊕ (Mm)} {G : Gm} {X : Cx} {d : Nat} (ho : isSt o) (hX : XK G X 0 cX0_find 14 (d + 12)) (hT : XT X (some .boolean) "find") (hr : XR X SS) (hc : ∀ s1 : Int32 × Mm, oo = .inl s1 → WR G X (mQ G X (some (.int (b2i z.1))) z.2 SS) 38 [.ref 12, .ref o, vU, vU, .int c4, .int c5, .int c6, .int c7, .int s1.1, vU, vU, vU, vU, vU] [] s1.2 SS) (hx : ∀ x1 : Mm, oo = .inr x1 → WR G X (mQ G X (some (.int (b2i z.1))) z.2 SS) 219 [.ref 12, vU, vU, vU, vU, vU, vU, vU, vU, vU, vU, vU, vU, vU] [] x1 SS) (h : Fi_find_j65 n o c4 c5 c6 v8 M = some oo) : WR G X (mQ G X (some (.int (b2i z.1))) z.2 SS) 65 [.ref 12, .ref o, vU, vU, .int c4, .int c5, .int c6, .int c7, .int v8, vU, vU, vU, vU, vU] [] M SS := by
  unfold Fi_find_j65 at h
  refine r_aload_n hX dX0_find_65 rfl ?_
  refine r_getf (v := .ref 13) hX dX0_find_66 fl_0_12 rfl (by decide) (by decide) rfl ?_
  refine r_getf (v := .ref 16) hX dX0_find_69 fl_0_45 rfl (by decide) (by decide) rfl ?_
  refine r_iload hX dX0_find_72 rfl ?_
  refine r_iconst (v := (4 : Int32)) hX dX0_find_74 (by decide) ?_
  refine r_imul hX dX0_find_75 ?_
  refine r_iload hX dX0_find_76 rfl ?_
  refine r_iadd hX dX0_find_78 ?_
  obtain ⟨k7, h⟩ := grd_s h
  refine r_iald hX dX0_find_79 rfl (by decide) (inb_at rfl k7) ?_
  refine r_istore (L1 := [.ref 12, .ref o, vU, vU, .int c4, .int c5, .int c6, .int c7, .int v8, .int (M.1 16 (tn ((c6 * (4 : Int32)) + v8))), vU, vU, vU, vU]) hX dX0_find_80 (Nat.le_of_ble_eq_true rfl) rfl ?_
  refine r_aload_n hX dX0_find_82 rfl ?_
  refine r_getf (v := .ref (o + 1)) hX dX0_find_83 fl_0_47 (kdS0 ho) (by decide) (ltS0 ho) (rfS0 ho) ?_
  refine r_iload hX dX0_find_86 rfl ?_
  refine r_aload_n hX dX0_find_88 rfl ?_
  refine r_getf (v := .ref 13) hX dX0_find_89 fl_0_12 rfl (by decide) (by decide) rfl ?_
  refine r_getf (v := .ref 17) hX dX0_find_92 fl_0_53 rfl (by decide) (by decide) rfl ?_
  refine r_iload hX dX0_find_95 rfl ?_
  refine r_iconst (v := (4 : Int32)) hX dX0_find_97 (by decide) ?_
  refine r_imul hX dX0_find_98 ?_
  refine r_iload hX dX0_find_99 rfl ?_
  refine r_iadd hX dX0_find_101 ?_
  obtain ⟨k8, h⟩ := grd_s h
  refine r_iald hX dX0_find_102 rfl (by decide) (inb_at rfl k8) ?_
  obtain ⟨z9, p10, h⟩ := bnd_s h
  refine r_callV (As := [.int c4, .int (M.1 17 (tn ((c6 * (4 : Int32)) + v8)))]) hX dX0_find_103 mk_Nt_widthOf mi_Nt_widthOf ml_0_56 rfl rfl rfl (kdS1 ho) (by decide) (ltS1 ho) (Nat.le_of_ble_eq_true rfl) hr (ok_Nt_widthOf (d := d + 10) n (o + 1) c4 (M.1 17 (tn ((c6 * (4 : Int32)) + v8))) M (nt_st ho) p10) ?_
  refine r_istore (L1 := [.ref 12, .ref o, vU, vU, .int c4, .int c5, .int c6, .int c7, .int v8, .int (M.1 16 (tn ((c6 * (4 : Int32)) + v8))), .int z9, vU, vU, vU]) hX dX0_find_106 (Nat.le_of_ble_eq_true rfl) rfl ?_
  refine r_iload hX dX0_find_108 rfl ?_
  refine r_if_le (tgt := 125) hX dX0_find_110 (by decide) (fun g11 => ?_) (fun g11 => ?_)
  · have h := (if_pos g11).symm.trans h
    refine r_lconst (v := (0 : Int64)) hX dX0_find_125 (by decide) ?_
    exact ok_Fi_find_j126 n o v8 (M.1 16 (tn ((c6 * (4 : Int32)) + v8))) z9 (0 : Int64) M  ho hX hT hr hc hx h
  · have h := (if_neg g11).symm.trans h
    refine r_aload_n hX dX0_find_113 rfl ?_
    refine r_iload hX dX0_find_114 rfl ?_
    refine r_iload hX dX0_find_116 rfl ?_
    refine r_iconst (v := (-1 : Int32)) hX dX0_find_118 (by decide) ?_
    obtain ⟨z26, p27, h⟩ := bnd_s h
    refine r_callV (As := [.int (M.1 16 (tn ((c6 * (4 : Int32)) + v8))), .int z9, .int (-1 : Int32)]) hX dX0_find_119 mk_St_fitting mi_St_fitting ml_0_62 rfl rfl rfl (kdS0 ho) (by decide) (ltS0 ho) (Nat.le_of_ble_eq_true rfl) hr (ok_St_fitting (d := d + 10) n o (M.1 16 (tn ((c6 * (4 : Int32)) + v8))) z9 (-1 : Int32) M ho p27) ?_
    refine r_goto (tgt := 126) hX dX0_find_122 (by decide) ?_
    exact ok_Fi_find_j126 n o v8 (M.1 16 (tn ((c6 * (4 : Int32)) + v8))) z9 z26 M  ho hX hT hr hc hx h
set_option maxRecDepth 100000 in
theorem ok_Fi_find_b38 (n : Nat) (o : Nat) (v8 : Int32) (M : Mm) {c4 : Int32} {c5 : Int32} {c6 : Int32} {c7 : Int32} {z : Bool × Mm} {oo : (Int32 × Mm) ⊕ (Mm)} {G : Gm} {X : Cx} {d : Nat} (ho : isSt o) (hX : XK G X 0 cX0_find 14 (d + 12)) (hT : XT X (some .boolean) "find") (hr : XR X SS) (hc : ∀ s1 : Int32 × Mm, oo = .inl s1 → WR G X (mQ G X (some (.int (b2i z.1))) z.2 SS) 38 [.ref 12, .ref o, vU, vU, .int c4, .int c5, .int c6, .int c7, .int s1.1, vU, vU, vU, vU, vU] [] s1.2 SS) (hx : ∀ x1 : Mm, oo = .inr x1 → WR G X (mQ G X (some (.int (b2i z.1))) z.2 SS) 219 [.ref 12, vU, vU, vU, vU, vU, vU, vU, vU, vU, vU, vU, vU, vU] [] x1 SS) (h : Fi_find_b38 n o c4 c5 c6 c7 v8 M = some oo) : WR G X (mQ G X (some (.int (b2i z.1))) z.2 SS) 38 [.ref 12, .ref o, vU, vU, .int c4, .int c5, .int c6, .int c7, .int v8, vU, vU, vU, vU, vU] [] M SS := by
  unfold Fi_find_b38 at h
  refine r_iload hX dX0_find_38 rfl ?_
  refine r_aload_n hX dX0_find_40 rfl ?_
  refine r_getf (v := .ref 13) hX dX0_find_41 fl_0_12 rfl (by decide) (by decide) rfl ?_
  refine r_getf (v := .ref 14) hX dX0_find_44 fl_0_41 rfl (by decide) (by decide) rfl ?_
  refine r_iload hX dX0_find_47 rfl ?_
  obtain ⟨k4, h⟩ := grd_s h
  refine r_iald hX dX0_find_49 rfl (by decide) (inb_at rfl k4) ?_
  refine r_icmp_ge (tgt := 219) hX dX0_find_50 (by decide) (fun g5 => ?_) (fun g5 => ?_)
  · have h := (if_pos g5).symm.trans h
    refine WR.fg (L' := [.ref 12, vU, vU, vU, vU, vU, vU, vU, vU, vU, vU, vU, vU, vU]) ⟨Or.inr rfl, Or.inl rfl, Or.inl rfl, Or.inl rfl, Or.inl rfl, Or.inl rfl, Or.inl rfl, Or.inl rfl, Or.inl rfl, Or.inl rfl, Or.inl rfl, Or.inl rfl, Or.inl rfl, Or.inl rfl, trivial⟩ ?_
    exact hx _ (Option.some.inj h).symm
  · have h := (if_neg g5).symm.trans h
    refine r_iload hX dX0_find_53 rfl ?_
    refine r_if_eq (tgt := 65) hX dX0_find_55 (by decide) (fun g6 => ?_) (fun g6 => ?_)
    · have h := (if_pos g6).symm.trans h
      exact ok_Fi_find_j65 n o v8 M  ho hX hT hr hc hx h
    · have h := (if_neg g6).symm.trans h
      refine r_aload_n hX dX0_find_58 rfl ?_
      refine r_getf (v := .int (M.1 12 1)) hX dX0_find_59 fl_0_18 rfl (by decide) (by decide) rfl ?_
      refine r_if_ge (tgt := 219) hX dX0_find_62 (by decide) (fun g28 => ?_) (fun g28 => ?_)
      · have h := (if_pos g28).symm.trans h
        refine WR.fg (L' := [.ref 12, vU, vU, vU, vU, vU, vU, vU, vU, vU, vU, vU, vU, vU]) ⟨Or.inr rfl, Or.inl rfl, Or.inl rfl, Or.inl rfl, Or.inl rfl, Or.inl rfl, Or.inl rfl, Or.inl rfl, Or.inl rfl, Or.inl rfl, Or.inl rfl, Or.inl rfl, Or.inl rfl, Or.inl rfl, trivial⟩ ?_
        exact hx _ (Option.some.inj h).symm
      · have h := (if_neg g28).symm.trans h
        exact ok_Fi_find_j65 n o v8 M  ho hX hT hr hc hx h
set_option maxRecDepth 100000 in
theorem ok_Fi_find_j219 (n : Nat) (o : Nat) (M : Mm) {z : Bool × Mm} {G : Gm} {X : Cx} {d : Nat} (ho : isSt o) (hX : XK G X 0 cX0_find 14 (d + 12)) (hT : XT X (some .boolean) "find") (hr : XR X SS) (h : Fi_find_j219 M = some z) : WR G X (mQ G X (some (.int (b2i z.1))) z.2 SS) 219 [.ref 12, vU, vU, vU, vU, vU, vU, vU, vU, vU, vU, vU, vU, vU] [] M SS := by
  unfold Fi_find_j219 at h
  refine r_aload_n hX dX0_find_219 rfl ?_
  refine r_getf (v := .int (M.1 12 1)) hX dX0_find_220 fl_0_18 rfl (by decide) (by decide) rfl ?_
  refine r_if_lt (tgt := 230) hX dX0_find_223 (by decide) (fun g30 => ?_) (fun g30 => ?_)
  · have h := (if_pos g30).symm.trans h
    refine r_iconst (v := (0 : Int32)) hX dX0_find_230 (by decide) ?_
    obtain rfl := Option.some.inj h
    exact r_iret (v := b2i false) hX hT dX0_find_231 (okI_b false).1
  · have h := (if_neg g30).symm.trans h
    refine r_iconst (v := (1 : Int32)) hX dX0_find_226 (by decide) ?_
    refine r_goto (tgt := 231) hX dX0_find_227 (by decide) ?_
    obtain rfl := Option.some.inj h
    exact r_iret (v := b2i true) hX hT dX0_find_231 (okI_b true).1
set_option maxRecDepth 100000 in
theorem ok_Fi_find_j28 (n : Nat) (o : Nat) (v4 : Int32) (v5 : Int32) (v6 : Int32) (w0 : Int32) (M : Mm) {z : Bool × Mm} {G : Gm} {X : Cx} {d : Nat} (ho : isSt o) (hX : XK G X 0 cX0_find 14 (d + 12)) (hT : XT X (some .boolean) "find") (hr : XR X SS) (h : Fi_find_j28 n o v4 v5 v6 w0 M = some z) : WR G X (mQ G X (some (.int (b2i z.1))) z.2 SS) 28 [.ref 12, .ref o, vU, vU, .int v4, .int v5, .int v6, vU, vU, vU, vU, vU, vU, vU] [.int w0] M SS := by
  unfold Fi_find_j28 at h
  refine r_istore (L1 := [.ref 12, .ref o, vU, vU, .int v4, .int v5, .int v6, .int w0, vU, vU, vU, vU, vU, vU]) hX dX0_find_28 (Nat.le_of_ble_eq_true rfl) rfl ?_
  refine r_aload_n hX dX0_find_30 rfl ?_
  refine r_iconst (v := (-1 : Int32)) hX dX0_find_31 (by decide) ?_
  refine r_putI hX dX0_find_32 fl_0_18 rfl (by decide) (by decide) (okI_int _) ?_
  refine r_iconst (v := (0 : Int32)) hX dX0_find_35 (by decide) ?_
  refine r_istore (L1 := [.ref 12, .ref o, vU, vU, .int v4, .int v5, .int v6, .int w0, .int (0 : Int32), vU, vU, vU, vU, vU]) hX dX0_find_36 (Nat.le_of_ble_eq_true rfl) rfl ?_
  obtain ⟨y29, h1, h⟩ := bnd_s h
  refine loop_ok (P := fun s1 : Int32 × Mm => WR G X (mQ G X (some (.int (b2i z.1))) z.2 SS) 38 [.ref 12, .ref o, vU, vU, .int v4, .int v5, .int v6, .int w0, .int s1.1, vU, vU, vU, vU, vU] [] s1.2 SS) (E := fun x1 : Mm => WR G X (mQ G X (some (.int (b2i z.1))) z.2 SS) 219 [.ref 12, vU, vU, vU, vU, vU, vU, vU, vU, vU, vU, vU, vU, vU] [] x1 SS) (fun s1 o1 g1 g2 g3 => ok_Fi_find_b38 n o s1.1 s1.2 ho hX hT hr g2 g3 g1) n ((0 : Int32), ((up2 M.1 12 1 (-1 : Int32)), M.2)) y29 h1 ?_
  show WR G X (mQ G X (some (.int (b2i z.1))) z.2 SS) 219 [.ref 12, vU, vU, vU, vU, vU, vU, vU, vU, vU, vU, vU, vU, vU] [] y29 SS
  exact ok_Fi_find_j219 n o y29  ho hX hT hr h
set_option maxRecDepth 100000 in
theorem ok_Fi_find_j23 (n : Nat) (o : Nat) (v4 : Int32) (v5 : Int32) (v6 : Int32) (M : Mm) {z : Bool × Mm} {G : Gm} {X : Cx} {d : Nat} (ho : isSt o) (hX : XK G X 0 cX0_find 14 (d + 12)) (hT : XT X (some .boolean) "find") (hr : XR X SS) (h : Fi_find_j23 n o v4 v5 v6 M = some z) : WR G X (mQ G X (some (.int (b2i z.1))) z.2 SS) 23 [.ref 12, .ref o, vU, vU, .int v4, .int v5, .int v6, vU, vU, vU, vU, vU, vU, vU] [] M SS := by
  unfold Fi_find_j23 at h
  refine r_iconst (v := (1 : Int32)) hX dX0_find_23 (by decide) ?_
  refine r_goto (tgt := 28) hX dX0_find_24 (by decide) ?_
  exact ok_Fi_find_j28 n o v4 v5 v6 (1 : Int32) M  ho hX hT hr h
set_option maxRecDepth 100000 in
theorem ok_Fi_find {G : Gm} {l : Launch} {d : Nat} (n : Nat) (o : Nat) (v2 : Int32) (v3 : Int32) (v4 : Int32) (v5 : Int32) (M : Mm) {z : Bool × Mm} (ho : isSt o) (h : Fi_find n o v2 v3 v4 v5 M = some z) : CK G l (d + 12) md_Fi_find [.ref 12, .ref o, .int v2, .int v3, .int v4, .int v5] M SS (some (.int (b2i z.1))) z.2 SS := by
  refine ck_of mk_Fi_find (Nat.le_of_ble_eq_true rfl) ⟨Nat.le_refl _, Nat.le_refl _⟩ (fun X hX hT hS hr hl => ?_)
  subst hl
  unfold Fi_find at h
  show WR G X (mQ G X (some (.int (b2i z.1))) z.2 SS) 0 [.ref 12, .ref o, .int v2, .int v3, .int v4, .int v5, vU, vU, vU, vU, vU, vU, vU, vU] [] M SS
  refine r_aload_n hX dX0_find_0 rfl ?_
  refine r_getf (v := .ref 13) hX dX0_find_1 fl_0_12 rfl (by decide) (by decide) rfl ?_
  refine r_aload_n hX dX0_find_4 rfl ?_
  refine r_iload_n hX dX0_find_5 rfl ?_
  refine r_iload_n hX dX0_find_6 rfl ?_
  obtain ⟨z1, p2, h⟩ := bnd_s h
  refine r_callV (As := [.ref o, .int v2, .int v3]) hX dX0_find_7 mk_Wy_pairOf mi_Wy_pairOf ml_0_37 rfl rfl rfl rfl (by decide) (by decide) (Nat.le_of_ble_eq_true rfl) hr (ok_Wy_pairOf (d := d + 0) n o v2 v3 M ho p2) ?_
  refine r_istore (L1 := [.ref 12, .ref o, .int v2, .int v3, .int v4, .int v5, .int z1.1, vU, vU, vU, vU, vU, vU, vU]) hX dX0_find_10 (Nat.le_of_ble_eq_true rfl) rfl ?_
  refine r_iload hX dX0_find_12 rfl ?_
  refine r_if_eq (tgt := 23) hX dX0_find_14 (by decide) (fun g3 => ?_) (fun g3 => ?_)
  · have h := (if_pos g3).symm.trans h
    refine WR.fg (L' := [.ref 12, .ref o, vU, vU, .int v4, .int v5, .int z1.1, vU, vU, vU, vU, vU, vU, vU]) ⟨Or.inr rfl, Or.inr rfl, Or.inl rfl, Or.inl rfl, Or.inr rfl, Or.inr rfl, Or.inr rfl, Or.inl rfl, Or.inl rfl, Or.inl rfl, Or.inl rfl, Or.inl rfl, Or.inl rfl, Or.inl rfl, trivial⟩ ?_
    exact ok_Fi_find_j23 n o v4 v5 z1.1 z1.2  ho hX hT hr h
  · have h := (if_neg g3).symm.trans h
    refine r_iload hX dX0_find_17 rfl ?_
    refine r_iconst (v := (3 : Int32)) hX dX0_find_19 (by decide) ?_
    refine r_icmp_ne (tgt := 27) hX dX0_find_20 (by decide) (fun g31 => ?_) (fun g31 => ?_)
    · have h := (if_neg g31).symm.trans h
      refine r_iconst (v := (0 : Int32)) hX dX0_find_27 (by decide) ?_
      refine WR.fg (L' := [.ref 12, .ref o, vU, vU, .int v4, .int v5, .int z1.1, vU, vU, vU, vU, vU, vU, vU]) ⟨Or.inr rfl, Or.inr rfl, Or.inl rfl, Or.inl rfl, Or.inr rfl, Or.inr rfl, Or.inr rfl, Or.inl rfl, Or.inl rfl, Or.inl rfl, Or.inl rfl, Or.inl rfl, Or.inl rfl, Or.inl rfl, trivial⟩ ?_
      exact ok_Fi_find_j28 n o v4 v5 z1.1 (0 : Int32) z1.2  ho hX hT hr h
    · have h := (if_pos g31).symm.trans h
      refine WR.fg (L' := [.ref 12, .ref o, vU, vU, .int v4, .int v5, .int z1.1, vU, vU, vU, vU, vU, vU, vU]) ⟨Or.inr rfl, Or.inr rfl, Or.inl rfl, Or.inl rfl, Or.inr rfl, Or.inr rfl, Or.inr rfl, Or.inl rfl, Or.inl rfl, Or.inl rfl, Or.inl rfl, Or.inl rfl, Or.inl rfl, Or.inl rfl, trivial⟩ ?_
      exact ok_Fi_find_j23 n o v4 v5 z1.1 z1.2  ho hX hT hr h
def Nt_begin_b61 (a : Nat) (v1 : Int32) (M : Mm) : Option ((Int32 × Mm) ⊕ (Mm)) :=
  if (64 : Int32) ≤ v1 then
    some (.inr M)
  else
    grd (inb v1 64) (
    some (.inl (v1 + (1 : Int32), ((up2 M.1 (a + 5) (tn v1) (-1 : Int32)), M.2))))
def Nt_begin (n : Nat) (a : Nat) (M : Mm) : Option (Mm) :=
  grd (inb (0 : Int32) 4) (
  grd (inb (1 : Int32) 4) (
  grd (inb (2 : Int32) 4) (
  grd (inb (3 : Int32) 4) (
  bnd (loop (fun s1 : Int32 × Mm => Nt_begin_b61 a s1.1 s1.2) n ((0 : Int32), ((up2 (up2 (up2 (up2 (up2 (up2 (up2 (up2 (up2 M.1 a 0 (2 : Int32)) a 1 (40 : Int32)) a 2 (1 : Int32)) a 3 (0 : Int32)) a 4 (0 : Int32)) (a + 1) (tn (0 : Int32)) (200 : Int32)) (a + 1) (tn (1 : Int32)) (120 : Int32)) (a + 1) (tn (2 : Int32)) (80 : Int32)) (a + 1) (tn (3 : Int32)) (40 : Int32)), M.2))) (fun y7 =>
  some y7)))))
set_option maxRecDepth 100000 in
theorem ok_Nt_begin_b61 (n : Nat) (a : Nat) (v1 : Int32) (M : Mm)  {z : Mm} {oo : (Int32 × Mm) ⊕ (Mm)} {G : Gm} {X : Cx} {d : Nat} (ha : isNt a) (hX : XK G X 1 cX1_begin 2 (d + 0)) (hT : XT X (none) "begin") (hr : XR X SS) (hc : ∀ s1 : Int32 × Mm, oo = .inl s1 → WR G X (mQ G X (none) z SS) 61 [.ref a, .int s1.1] [] s1.2 SS) (hx : ∀ x1 : Mm, oo = .inr x1 → WR G X (mQ G X (none) z SS) 83 [.ref a, vU] [] x1 SS) (h : Nt_begin_b61 a v1 M = some oo) : WR G X (mQ G X (none) z SS) 61 [.ref a, .int v1] [] M SS := by
  unfold Nt_begin_b61 at h
  refine r_iload_n hX dX1_begin_61 rfl ?_
  refine r_aload_n hX dX1_begin_62 rfl ?_
  refine r_getf (v := .ref (a + 5)) hX dX1_begin_63 fl_1_24 (kdN0 ha) (by decide) (ltN0 ha) (rfN9 ha) ?_
  refine r_alen (v := (64 : Int32)) hX dX1_begin_66 (kdN5 ha) (by decide) (ltN5 ha) (by rw [(lnN5 ha)]; rfl) ?_
  refine r_icmp_ge (tgt := 83) hX dX1_begin_67 (by decide) (fun g5 => ?_) (fun g5 => ?_)
  · have h := (if_pos g5).symm.trans h
    refine WR.fg (L' := [.ref a, vU]) ⟨Or.inr rfl, Or.inl rfl, trivial⟩ ?_
    exact hx _ (Option.some.inj h).symm
  · have h := (if_neg g5).symm.trans h
    refine r_aload_n hX dX1_begin_70 rfl ?_
    refine r_getf (v := .ref (a + 5)) hX dX1_begin_71 fl_1_24 (kdN0 ha) (by decide) (ltN0 ha) (rfN9 ha) ?_
    refine r_iload_n hX dX1_begin_74 rfl ?_
    refine r_iconst (v := (-1 : Int32)) hX dX1_begin_75 (by decide) ?_
    obtain ⟨k6, h⟩ := grd_s h
    refine r_iast hX dX1_begin_76 (kdN5 ha) (ltN5 ha) (inb_at (lnN5 ha) k6) ?_
    refine r_iinc (v := v1 + (1 : Int32)) (L1 := [.ref a, .int (v1 + (1 : Int32))]) hX dX1_begin_77 rfl rfl rfl ?_
    refine r_goto (tgt := 61) hX dX1_begin_80 (by decide) ?_
    exact hc (v1 + (1 : Int32), ((up2 M.1 (a + 5) (tn v1) (-1 : Int32)), M.2)) (Option.some.inj h).symm
set_option maxRecDepth 100000 in
theorem ok_Nt_begin {G : Gm} {l : Launch} {d : Nat} (n : Nat) (a : Nat) (M : Mm) {z : Mm} (ha : isNt a) (h : Nt_begin n a M = some z) : CK G l (d + 0) md_Nt_begin [.ref a] M SS (none) z SS := by
  refine ck_of mk_Nt_begin (Nat.le_of_ble_eq_true rfl) ⟨Nat.le_refl _, Nat.le_refl _⟩ (fun X hX hT hS hr hl => ?_)
  subst hl
  unfold Nt_begin at h
  show WR G X (mQ G X (none) z SS) 0 [.ref a, vU] [] M SS
  refine r_aload_n hX dX1_begin_0 rfl ?_
  refine r_iconst (v := (2 : Int32)) hX dX1_begin_1 (by decide) ?_
  refine r_putI hX dX1_begin_2 fl_1_30 (kdN0 ha) (by decide) (ltN0 ha) (okI_int _) ?_
  refine r_aload_n hX dX1_begin_5 rfl ?_
  refine r_bipush (v := (40 : Int32)) hX dX1_begin_6 (by decide) ?_
  refine r_putI' hX dX1_begin_8 fl_1_34 (kdN0 ha) (by decide) (ltN0 ha) (okI_int _) ?_
  refine r_aload_n hX dX1_begin_11 rfl ?_
  refine r_iconst (v := (1 : Int32)) hX dX1_begin_12 (by decide) ?_
  refine r_putI' hX dX1_begin_13 fl_1_37 (kdN0 ha) (by decide) (ltN0 ha) (okI_int _) ?_
  refine r_aload_n hX dX1_begin_16 rfl ?_
  refine r_iconst (v := (0 : Int32)) hX dX1_begin_17 (by decide) ?_
  refine r_putI' hX dX1_begin_18 fl_1_40 (kdN0 ha) (by decide) (ltN0 ha) (okI_int _) ?_
  refine r_aload_n hX dX1_begin_21 rfl ?_
  refine r_iconst (v := (0 : Int32)) hX dX1_begin_22 (by decide) ?_
  refine r_putI' hX dX1_begin_23 fl_1_43 (kdN0 ha) (by decide) (ltN0 ha) (okI_int _) ?_
  refine r_aload_n hX dX1_begin_26 rfl ?_
  refine r_getf (v := .ref (a + 1)) hX dX1_begin_27 fl_1_9 (kdN0 ha) (by decide) (ltN0 ha) (rfN5 ha) ?_
  refine r_iconst (v := (0 : Int32)) hX dX1_begin_30 (by decide) ?_
  refine r_sipush (v := (200 : Int32)) hX dX1_begin_31 (by decide) ?_
  obtain ⟨k1, h⟩ := grd_s h
  refine r_iast' hX dX1_begin_34 (kdN1 ha) (ltN1 ha) (inb_at (lnN1 ha) k1) ?_
  refine r_aload_n hX dX1_begin_35 rfl ?_
  refine r_getf (v := .ref (a + 1)) hX dX1_begin_36 fl_1_9 (kdN0 ha) (by decide) (ltN0 ha) (rfN5 ha) ?_
  refine r_iconst (v := (1 : Int32)) hX dX1_begin_39 (by decide) ?_
  refine r_bipush (v := (120 : Int32)) hX dX1_begin_40 (by decide) ?_
  obtain ⟨k2, h⟩ := grd_s h
  refine r_iast' hX dX1_begin_42 (kdN1 ha) (ltN1 ha) (inb_at (lnN1 ha) k2) ?_
  refine r_aload_n hX dX1_begin_43 rfl ?_
  refine r_getf (v := .ref (a + 1)) hX dX1_begin_44 fl_1_9 (kdN0 ha) (by decide) (ltN0 ha) (rfN5 ha) ?_
  refine r_iconst (v := (2 : Int32)) hX dX1_begin_47 (by decide) ?_
  refine r_bipush (v := (80 : Int32)) hX dX1_begin_48 (by decide) ?_
  obtain ⟨k3, h⟩ := grd_s h
  refine r_iast' hX dX1_begin_50 (kdN1 ha) (ltN1 ha) (inb_at (lnN1 ha) k3) ?_
  refine r_aload_n hX dX1_begin_51 rfl ?_
  refine r_getf (v := .ref (a + 1)) hX dX1_begin_52 fl_1_9 (kdN0 ha) (by decide) (ltN0 ha) (rfN5 ha) ?_
  refine r_iconst (v := (3 : Int32)) hX dX1_begin_55 (by decide) ?_
  refine r_bipush (v := (40 : Int32)) hX dX1_begin_56 (by decide) ?_
  obtain ⟨k4, h⟩ := grd_s h
  refine r_iast' hX dX1_begin_58 (kdN1 ha) (ltN1 ha) (inb_at (lnN1 ha) k4) ?_
  refine r_iconst (v := (0 : Int32)) hX dX1_begin_59 (by decide) ?_
  refine r_istore_n (L1 := [.ref a, .int (0 : Int32)]) hX dX1_begin_60 (Nat.le_of_ble_eq_true rfl) rfl ?_
  obtain ⟨y7, h1, h⟩ := bnd_s h
  refine loop_ok (P := fun s1 : Int32 × Mm => WR G X (mQ G X (none) z SS) 61 [.ref a, .int s1.1] [] s1.2 SS) (E := fun x1 : Mm => WR G X (mQ G X (none) z SS) 83 [.ref a, vU] [] x1 SS) (fun s1 o1 g1 g2 g3 => ok_Nt_begin_b61 n a s1.1 s1.2 ha hX hT hr g2 g3 g1) n ((0 : Int32), ((up2 (up2 (up2 (up2 (up2 (up2 (up2 (up2 (up2 M.1 a 0 (2 : Int32)) a 1 (40 : Int32)) a 2 (1 : Int32)) a 3 (0 : Int32)) a 4 (0 : Int32)) (a + 1) (tn (0 : Int32)) (200 : Int32)) (a + 1) (tn (1 : Int32)) (120 : Int32)) (a + 1) (tn (2 : Int32)) (80 : Int32)) (a + 1) (tn (3 : Int32)) (40 : Int32)), M.2)) y7 h1 ?_
  show WR G X (mQ G X (none) z SS) 83 [.ref a, vU] [] y7 SS
  obtain rfl := Option.some.inj h
  exact r_vret hX hT dX1_begin_83
def Nt_copy (a : Nat) (o : Nat) (M : Mm) : Option (Mm) :=
  some ((cpy2 (cpy2 (cpy2 (cpy2 (cpy2 (up2 (up2 (up2 (up2 (up2 M.1 a 0 (M.1 o 0)) a 1 ((up2 M.1 a 0 (M.1 o 0)) o 1)) a 2 ((up2 (up2 M.1 a 0 (M.1 o 0)) a 1 ((up2 M.1 a 0 (M.1 o 0)) o 1)) o 2)) a 3 ((up2 (up2 (up2 M.1 a 0 (M.1 o 0)) a 1 ((up2 M.1 a 0 (M.1 o 0)) o 1)) a 2 ((up2 (up2 M.1 a 0 (M.1 o 0)) a 1 ((up2 M.1 a 0 (M.1 o 0)) o 1)) o 2)) o 3)) a 4 ((up2 (up2 (up2 (up2 M.1 a 0 (M.1 o 0)) a 1 ((up2 M.1 a 0 (M.1 o 0)) o 1)) a 2 ((up2 (up2 M.1 a 0 (M.1 o 0)) a 1 ((up2 M.1 a 0 (M.1 o 0)) o 1)) o 2)) a 3 ((up2 (up2 (up2 M.1 a 0 (M.1 o 0)) a 1 ((up2 M.1 a 0 (M.1 o 0)) o 1)) a 2 ((up2 (up2 M.1 a 0 (M.1 o 0)) a 1 ((up2 M.1 a 0 (M.1 o 0)) o 1)) o 2)) o 3)) o 4)) (o + 1) (a + 1) (tn (0 : Int32)) (tn (0 : Int32)) (tn (4 : Int32))) (o + 2) (a + 2) (tn (0 : Int32)) (tn (0 : Int32)) (tn (14 : Int32))) (o + 3) (a + 3) (tn (0 : Int32)) (tn (0 : Int32)) (tn (14 : Int32))) (o + 4) (a + 4) (tn (0 : Int32)) (tn (0 : Int32)) (tn (14 : Int32))) (o + 5) (a + 5) (tn (0 : Int32)) (tn (0 : Int32)) (tn (64 : Int32))), M.2)
set_option maxRecDepth 100000 in
theorem ok_Nt_copy {G : Gm} {l : Launch} {d : Nat} (a : Nat) (o : Nat) (M : Mm) {z : Mm} (ha : isNt a) (ho : isNt o) (h : Nt_copy a o M = some z) : CK G l (d + 0) md_Nt_copy [.ref a, .ref o] M SS (none) z SS := by
  refine ck_of mk_Nt_copy (Nat.le_of_ble_eq_true rfl) ⟨Nat.le_refl _, Nat.le_refl _⟩ (fun X hX hT hS hr hl => ?_)
  subst hl
  unfold Nt_copy at h
  show WR G X (mQ G X (none) z SS) 0 [.ref a, .ref o] [] M SS
  refine r_aload_n hX dX1_copy_0 rfl ?_
  refine r_aload_n hX dX1_copy_1 rfl ?_
  refine r_getf (v := .int (M.1 o 0)) hX dX1_copy_2 fl_1_30 (kdN0 ho) (by decide) (ltN0 ho) rfl ?_
  refine r_putI hX dX1_copy_5 fl_1_30 (kdN0 ha) (by decide) (ltN0 ha) (okI_int _) ?_
  refine r_aload_n hX dX1_copy_8 rfl ?_
  refine r_aload_n hX dX1_copy_9 rfl ?_
  refine r_getf (v := .int ((up2 M.1 a 0 (M.1 o 0)) o 1)) hX dX1_copy_10 fl_1_34 (kdN0 ho) (by decide) (ltN0 ho) rfl ?_
  refine r_putI' hX dX1_copy_13 fl_1_34 (kdN0 ha) (by decide) (ltN0 ha) (okI_int _) ?_
  refine r_aload_n hX dX1_copy_16 rfl ?_
  refine r_aload_n hX dX1_copy_17 rfl ?_
  refine r_getf (v := .int ((up2 (up2 M.1 a 0 (M.1 o 0)) a 1 ((up2 M.1 a 0 (M.1 o 0)) o 1)) o 2)) hX dX1_copy_18 fl_1_37 (kdN0 ho) (by decide) (ltN0 ho) rfl ?_
  refine r_putI' hX dX1_copy_21 fl_1_37 (kdN0 ha) (by decide) (ltN0 ha) (okI_int _) ?_
  refine r_aload_n hX dX1_copy_24 rfl ?_
  refine r_aload_n hX dX1_copy_25 rfl ?_
  refine r_getf (v := .int ((up2 (up2 (up2 M.1 a 0 (M.1 o 0)) a 1 ((up2 M.1 a 0 (M.1 o 0)) o 1)) a 2 ((up2 (up2 M.1 a 0 (M.1 o 0)) a 1 ((up2 M.1 a 0 (M.1 o 0)) o 1)) o 2)) o 3)) hX dX1_copy_26 fl_1_40 (kdN0 ho) (by decide) (ltN0 ho) rfl ?_
  refine r_putI' hX dX1_copy_29 fl_1_40 (kdN0 ha) (by decide) (ltN0 ha) (okI_int _) ?_
  refine r_aload_n hX dX1_copy_32 rfl ?_
  refine r_aload_n hX dX1_copy_33 rfl ?_
  refine r_getf (v := .int ((up2 (up2 (up2 (up2 M.1 a 0 (M.1 o 0)) a 1 ((up2 M.1 a 0 (M.1 o 0)) o 1)) a 2 ((up2 (up2 M.1 a 0 (M.1 o 0)) a 1 ((up2 M.1 a 0 (M.1 o 0)) o 1)) o 2)) a 3 ((up2 (up2 (up2 M.1 a 0 (M.1 o 0)) a 1 ((up2 M.1 a 0 (M.1 o 0)) o 1)) a 2 ((up2 (up2 M.1 a 0 (M.1 o 0)) a 1 ((up2 M.1 a 0 (M.1 o 0)) o 1)) o 2)) o 3)) o 4)) hX dX1_copy_34 fl_1_43 (kdN0 ho) (by decide) (ltN0 ho) rfl ?_
  refine r_putI' hX dX1_copy_37 fl_1_43 (kdN0 ha) (by decide) (ltN0 ha) (okI_int _) ?_
  refine r_aload_n hX dX1_copy_40 rfl ?_
  refine r_getf (v := .ref (o + 1)) hX dX1_copy_41 fl_1_9 (kdN0 ho) (by decide) (ltN0 ho) (rfN5 ho) ?_
  refine r_iconst (v := (0 : Int32)) hX dX1_copy_44 (by decide) ?_
  refine r_aload_n hX dX1_copy_45 rfl ?_
  refine r_getf (v := .ref (a + 1)) hX dX1_copy_46 fl_1_9 (kdN0 ha) (by decide) (ltN0 ha) (rfN5 ha) ?_
  refine r_iconst (v := (0 : Int32)) hX dX1_copy_49 (by decide) ?_
  refine r_iconst (v := (4 : Int32)) hX dX1_copy_50 (by decide) ?_
  refine r_copyi' hX dX1_copy_51 ml_1_46 rfl (Nat.le_of_ble_eq_true rfl) (kdN1 ho) (ltN1 ho) (kdN1 ha) (ltN1 ha) (by decide) (by rw [(lnN1 ho)]; decide) (by rw [(lnN1 ha)]; decide) ?_
  refine r_aload_n hX dX1_copy_54 rfl ?_
  refine r_getf (v := .ref (o + 2)) hX dX1_copy_55 fl_1_15 (kdN0 ho) (by decide) (ltN0 ho) (rfN6 ho) ?_
  refine r_iconst (v := (0 : Int32)) hX dX1_copy_58 (by decide) ?_
  refine r_aload_n hX dX1_copy_59 rfl ?_
  refine r_getf (v := .ref (a + 2)) hX dX1_copy_60 fl_1_15 (kdN0 ha) (by decide) (ltN0 ha) (rfN6 ha) ?_
  refine r_iconst (v := (0 : Int32)) hX dX1_copy_63 (by decide) ?_
  refine r_bipush (v := (14 : Int32)) hX dX1_copy_64 (by decide) ?_
  refine r_copyi' hX dX1_copy_66 ml_1_46 rfl (Nat.le_of_ble_eq_true rfl) (kdN2 ho) (ltN2 ho) (kdN2 ha) (ltN2 ha) (by decide) (by rw [(lnN2 ho)]; decide) (by rw [(lnN2 ha)]; decide) ?_
  refine r_aload_n hX dX1_copy_69 rfl ?_
  refine r_getf (v := .ref (o + 3)) hX dX1_copy_70 fl_1_18 (kdN0 ho) (by decide) (ltN0 ho) (rfN7 ho) ?_
  refine r_iconst (v := (0 : Int32)) hX dX1_copy_73 (by decide) ?_
  refine r_aload_n hX dX1_copy_74 rfl ?_
  refine r_getf (v := .ref (a + 3)) hX dX1_copy_75 fl_1_18 (kdN0 ha) (by decide) (ltN0 ha) (rfN7 ha) ?_
  refine r_iconst (v := (0 : Int32)) hX dX1_copy_78 (by decide) ?_
  refine r_bipush (v := (14 : Int32)) hX dX1_copy_79 (by decide) ?_
  refine r_copyi' hX dX1_copy_81 ml_1_46 rfl (Nat.le_of_ble_eq_true rfl) (kdN3 ho) (ltN3 ho) (kdN3 ha) (ltN3 ha) (by decide) (by rw [(lnN3 ho)]; decide) (by rw [(lnN3 ha)]; decide) ?_
  refine r_aload_n hX dX1_copy_84 rfl ?_
  refine r_getf (v := .ref (o + 4)) hX dX1_copy_85 fl_1_21 (kdN0 ho) (by decide) (ltN0 ho) (rfN8 ho) ?_
  refine r_iconst (v := (0 : Int32)) hX dX1_copy_88 (by decide) ?_
  refine r_aload_n hX dX1_copy_89 rfl ?_
  refine r_getf (v := .ref (a + 4)) hX dX1_copy_90 fl_1_21 (kdN0 ha) (by decide) (ltN0 ha) (rfN8 ha) ?_
  refine r_iconst (v := (0 : Int32)) hX dX1_copy_93 (by decide) ?_
  refine r_bipush (v := (14 : Int32)) hX dX1_copy_94 (by decide) ?_
  refine r_copyi' hX dX1_copy_96 ml_1_46 rfl (Nat.le_of_ble_eq_true rfl) (kdN4 ho) (ltN4 ho) (kdN4 ha) (ltN4 ha) (by decide) (by rw [(lnN4 ho)]; decide) (by rw [(lnN4 ha)]; decide) ?_
  refine r_aload_n hX dX1_copy_99 rfl ?_
  refine r_getf (v := .ref (o + 5)) hX dX1_copy_100 fl_1_24 (kdN0 ho) (by decide) (ltN0 ho) (rfN9 ho) ?_
  refine r_iconst (v := (0 : Int32)) hX dX1_copy_103 (by decide) ?_
  refine r_aload_n hX dX1_copy_104 rfl ?_
  refine r_getf (v := .ref (a + 5)) hX dX1_copy_105 fl_1_24 (kdN0 ha) (by decide) (ltN0 ha) (rfN9 ha) ?_
  refine r_iconst (v := (0 : Int32)) hX dX1_copy_108 (by decide) ?_
  refine r_bipush (v := (64 : Int32)) hX dX1_copy_109 (by decide) ?_
  refine r_copyi' hX dX1_copy_111 ml_1_46 rfl (Nat.le_of_ble_eq_true rfl) (kdN5 ho) (ltN5 ho) (kdN5 ha) (ltN5 ha) (by decide) (by rw [(lnN5 ho)]; decide) (by rw [(lnN5 ha)]; decide) ?_
  obtain rfl := Option.some.inj h
  exact r_vret hX hT dX1_copy_114
def Nt_join (a : Nat) (v1 : Int32) (v2 : Int32) (v3 : Int32) (M : Mm) : Option (Mm) :=
  if (M.1 a 3) < (14 : Int32) then
    grd (inb (M.1 a 3) 14) (
    grd (inb ((up2 M.1 (a + 2) (tn (M.1 a 3)) v1) a 3) 14) (
    grd (inb ((up2 (up2 M.1 (a + 2) (tn (M.1 a 3)) v1) (a + 3) (tn ((up2 M.1 (a + 2) (tn (M.1 a 3)) v1) a 3)) v2) a 3) 14) (
    grd (inb ((v1 * (8 : Int32)) + v2) 64) (
    grd (inb ((v2 * (8 : Int32)) + v1) 64) (
    some ((up2 (up2 (up2 (up2 (up2 (up2 M.1 (a + 2) (tn (M.1 a 3)) v1) (a + 3) (tn ((up2 M.1 (a + 2) (tn (M.1 a 3)) v1) a 3)) v2) (a + 4) (tn ((up2 (up2 M.1 (a + 2) (tn (M.1 a 3)) v1) (a + 3) (tn ((up2 M.1 (a + 2) (tn (M.1 a 3)) v1) a 3)) v2) a 3)) v3) (a + 5) (tn ((v1 * (8 : Int32)) + v2)) ((up2 (up2 (up2 M.1 (a + 2) (tn (M.1 a 3)) v1) (a + 3) (tn ((up2 M.1 (a + 2) (tn (M.1 a 3)) v1) a 3)) v2) (a + 4) (tn ((up2 (up2 M.1 (a + 2) (tn (M.1 a 3)) v1) (a + 3) (tn ((up2 M.1 (a + 2) (tn (M.1 a 3)) v1) a 3)) v2) a 3)) v3) a 3)) (a + 5) (tn ((v2 * (8 : Int32)) + v1)) ((up2 (up2 (up2 (up2 M.1 (a + 2) (tn (M.1 a 3)) v1) (a + 3) (tn ((up2 M.1 (a + 2) (tn (M.1 a 3)) v1) a 3)) v2) (a + 4) (tn ((up2 (up2 M.1 (a + 2) (tn (M.1 a 3)) v1) (a + 3) (tn ((up2 M.1 (a + 2) (tn (M.1 a 3)) v1) a 3)) v2) a 3)) v3) (a + 5) (tn ((v1 * (8 : Int32)) + v2)) ((up2 (up2 (up2 M.1 (a + 2) (tn (M.1 a 3)) v1) (a + 3) (tn ((up2 M.1 (a + 2) (tn (M.1 a 3)) v1) a 3)) v2) (a + 4) (tn ((up2 (up2 M.1 (a + 2) (tn (M.1 a 3)) v1) (a + 3) (tn ((up2 M.1 (a + 2) (tn (M.1 a 3)) v1) a 3)) v2) a 3)) v3) a 3)) a 3)) a 3 (((up2 (up2 (up2 (up2 (up2 M.1 (a + 2) (tn (M.1 a 3)) v1) (a + 3) (tn ((up2 M.1 (a + 2) (tn (M.1 a 3)) v1) a 3)) v2) (a + 4) (tn ((up2 (up2 M.1 (a + 2) (tn (M.1 a 3)) v1) (a + 3) (tn ((up2 M.1 (a + 2) (tn (M.1 a 3)) v1) a 3)) v2) a 3)) v3) (a + 5) (tn ((v1 * (8 : Int32)) + v2)) ((up2 (up2 (up2 M.1 (a + 2) (tn (M.1 a 3)) v1) (a + 3) (tn ((up2 M.1 (a + 2) (tn (M.1 a 3)) v1) a 3)) v2) (a + 4) (tn ((up2 (up2 M.1 (a + 2) (tn (M.1 a 3)) v1) (a + 3) (tn ((up2 M.1 (a + 2) (tn (M.1 a 3)) v1) a 3)) v2) a 3)) v3) a 3)) (a + 5) (tn ((v2 * (8 : Int32)) + v1)) ((up2 (up2 (up2 (up2 M.1 (a + 2) (tn (M.1 a 3)) v1) (a + 3) (tn ((up2 M.1 (a + 2) (tn (M.1 a 3)) v1) a 3)) v2) (a + 4) (tn ((up2 (up2 M.1 (a + 2) (tn (M.1 a 3)) v1) (a + 3) (tn ((up2 M.1 (a + 2) (tn (M.1 a 3)) v1) a 3)) v2) a 3)) v3) (a + 5) (tn ((v1 * (8 : Int32)) + v2)) ((up2 (up2 (up2 M.1 (a + 2) (tn (M.1 a 3)) v1) (a + 3) (tn ((up2 M.1 (a + 2) (tn (M.1 a 3)) v1) a 3)) v2) (a + 4) (tn ((up2 (up2 M.1 (a + 2) (tn (M.1 a 3)) v1) (a + 3) (tn ((up2 M.1 (a + 2) (tn (M.1 a 3)) v1) a 3)) v2) a 3)) v3) a 3)) a 3)) a 3) + (1 : Int32))), M.2))))))
  else
    some M
set_option maxRecDepth 100000 in
theorem ok_Nt_join {G : Gm} {l : Launch} {d : Nat} (a : Nat) (v1 : Int32) (v2 : Int32) (v3 : Int32) (M : Mm) {z : Mm} (ha : isNt a) (h : Nt_join a v1 v2 v3 M = some z) : CK G l (d + 0) md_Nt_join [.ref a, .int v1, .int v2, .int v3] M SS (none) z SS := by
  refine ck_of mk_Nt_join (Nat.le_of_ble_eq_true rfl) ⟨Nat.le_refl _, Nat.le_refl _⟩ (fun X hX hT hS hr hl => ?_)
  subst hl
  unfold Nt_join at h
  show WR G X (mQ G X (none) z SS) 0 [.ref a, .int v1, .int v2, .int v3] [] M SS
  refine r_aload_n hX dX1_join_0 rfl ?_
  refine r_getf (v := .int (M.1 a 3)) hX dX1_join_1 fl_1_40 (kdN0 ha) (by decide) (ltN0 ha) rfl ?_
  refine r_bipush (v := (14 : Int32)) hX dX1_join_4 (by decide) ?_
  refine r_icmp_lt (tgt := 10) hX dX1_join_6 (by decide) (fun g1 => ?_) (fun g1 => ?_)
  · have h := (if_pos g1).symm.trans h
    refine r_aload_n hX dX1_join_10 rfl ?_
    refine r_getf (v := .ref (a + 2)) hX dX1_join_11 fl_1_15 (kdN0 ha) (by decide) (ltN0 ha) (rfN6 ha) ?_
    refine r_aload_n hX dX1_join_14 rfl ?_
    refine r_getf (v := .int (M.1 a 3)) hX dX1_join_15 fl_1_40 (kdN0 ha) (by decide) (ltN0 ha) rfl ?_
    refine r_iload_n hX dX1_join_18 rfl ?_
    obtain ⟨k2, h⟩ := grd_s h
    refine r_iast hX dX1_join_19 (kdN2 ha) (ltN2 ha) (inb_at (lnN2 ha) k2) ?_
    refine r_aload_n hX dX1_join_20 rfl ?_
    refine r_getf (v := .ref (a + 3)) hX dX1_join_21 fl_1_18 (kdN0 ha) (by decide) (ltN0 ha) (rfN7 ha) ?_
    refine r_aload_n hX dX1_join_24 rfl ?_
    refine r_getf (v := .int ((up2 M.1 (a + 2) (tn (M.1 a 3)) v1) a 3)) hX dX1_join_25 fl_1_40 (kdN0 ha) (by decide) (ltN0 ha) rfl ?_
    refine r_iload_n hX dX1_join_28 rfl ?_
    obtain ⟨k3, h⟩ := grd_s h
    refine r_iast' hX dX1_join_29 (kdN3 ha) (ltN3 ha) (inb_at (lnN3 ha) k3) ?_
    refine r_aload_n hX dX1_join_30 rfl ?_
    refine r_getf (v := .ref (a + 4)) hX dX1_join_31 fl_1_21 (kdN0 ha) (by decide) (ltN0 ha) (rfN8 ha) ?_
    refine r_aload_n hX dX1_join_34 rfl ?_
    refine r_getf (v := .int ((up2 (up2 M.1 (a + 2) (tn (M.1 a 3)) v1) (a + 3) (tn ((up2 M.1 (a + 2) (tn (M.1 a 3)) v1) a 3)) v2) a 3)) hX dX1_join_35 fl_1_40 (kdN0 ha) (by decide) (ltN0 ha) rfl ?_
    refine r_iload_n hX dX1_join_38 rfl ?_
    obtain ⟨k4, h⟩ := grd_s h
    refine r_iast' hX dX1_join_39 (kdN4 ha) (ltN4 ha) (inb_at (lnN4 ha) k4) ?_
    refine r_aload_n hX dX1_join_40 rfl ?_
    refine r_getf (v := .ref (a + 5)) hX dX1_join_41 fl_1_24 (kdN0 ha) (by decide) (ltN0 ha) (rfN9 ha) ?_
    refine r_iload_n hX dX1_join_44 rfl ?_
    refine r_bipush (v := (8 : Int32)) hX dX1_join_45 (by decide) ?_
    refine r_imul hX dX1_join_47 ?_
    refine r_iload_n hX dX1_join_48 rfl ?_
    refine r_iadd hX dX1_join_49 ?_
    refine r_aload_n hX dX1_join_50 rfl ?_
    refine r_getf (v := .int ((up2 (up2 (up2 M.1 (a + 2) (tn (M.1 a 3)) v1) (a + 3) (tn ((up2 M.1 (a + 2) (tn (M.1 a 3)) v1) a 3)) v2) (a + 4) (tn ((up2 (up2 M.1 (a + 2) (tn (M.1 a 3)) v1) (a + 3) (tn ((up2 M.1 (a + 2) (tn (M.1 a 3)) v1) a 3)) v2) a 3)) v3) a 3)) hX dX1_join_51 fl_1_40 (kdN0 ha) (by decide) (ltN0 ha) rfl ?_
    obtain ⟨k5, h⟩ := grd_s h
    refine r_iast' hX dX1_join_54 (kdN5 ha) (ltN5 ha) (inb_at (lnN5 ha) k5) ?_
    refine r_aload_n hX dX1_join_55 rfl ?_
    refine r_getf (v := .ref (a + 5)) hX dX1_join_56 fl_1_24 (kdN0 ha) (by decide) (ltN0 ha) (rfN9 ha) ?_
    refine r_iload_n hX dX1_join_59 rfl ?_
    refine r_bipush (v := (8 : Int32)) hX dX1_join_60 (by decide) ?_
    refine r_imul hX dX1_join_62 ?_
    refine r_iload_n hX dX1_join_63 rfl ?_
    refine r_iadd hX dX1_join_64 ?_
    refine r_aload_n hX dX1_join_65 rfl ?_
    refine r_getf (v := .int ((up2 (up2 (up2 (up2 M.1 (a + 2) (tn (M.1 a 3)) v1) (a + 3) (tn ((up2 M.1 (a + 2) (tn (M.1 a 3)) v1) a 3)) v2) (a + 4) (tn ((up2 (up2 M.1 (a + 2) (tn (M.1 a 3)) v1) (a + 3) (tn ((up2 M.1 (a + 2) (tn (M.1 a 3)) v1) a 3)) v2) a 3)) v3) (a + 5) (tn ((v1 * (8 : Int32)) + v2)) ((up2 (up2 (up2 M.1 (a + 2) (tn (M.1 a 3)) v1) (a + 3) (tn ((up2 M.1 (a + 2) (tn (M.1 a 3)) v1) a 3)) v2) (a + 4) (tn ((up2 (up2 M.1 (a + 2) (tn (M.1 a 3)) v1) (a + 3) (tn ((up2 M.1 (a + 2) (tn (M.1 a 3)) v1) a 3)) v2) a 3)) v3) a 3)) a 3)) hX dX1_join_66 fl_1_40 (kdN0 ha) (by decide) (ltN0 ha) rfl ?_
    obtain ⟨k6, h⟩ := grd_s h
    refine r_iast' hX dX1_join_69 (kdN5 ha) (ltN5 ha) (inb_at (lnN5 ha) k6) ?_
    refine r_aload_n hX dX1_join_70 rfl ?_
    refine r_dup hX dX1_join_71 rfl ?_
    refine r_getf (v := .int ((up2 (up2 (up2 (up2 (up2 M.1 (a + 2) (tn (M.1 a 3)) v1) (a + 3) (tn ((up2 M.1 (a + 2) (tn (M.1 a 3)) v1) a 3)) v2) (a + 4) (tn ((up2 (up2 M.1 (a + 2) (tn (M.1 a 3)) v1) (a + 3) (tn ((up2 M.1 (a + 2) (tn (M.1 a 3)) v1) a 3)) v2) a 3)) v3) (a + 5) (tn ((v1 * (8 : Int32)) + v2)) ((up2 (up2 (up2 M.1 (a + 2) (tn (M.1 a 3)) v1) (a + 3) (tn ((up2 M.1 (a + 2) (tn (M.1 a 3)) v1) a 3)) v2) (a + 4) (tn ((up2 (up2 M.1 (a + 2) (tn (M.1 a 3)) v1) (a + 3) (tn ((up2 M.1 (a + 2) (tn (M.1 a 3)) v1) a 3)) v2) a 3)) v3) a 3)) (a + 5) (tn ((v2 * (8 : Int32)) + v1)) ((up2 (up2 (up2 (up2 M.1 (a + 2) (tn (M.1 a 3)) v1) (a + 3) (tn ((up2 M.1 (a + 2) (tn (M.1 a 3)) v1) a 3)) v2) (a + 4) (tn ((up2 (up2 M.1 (a + 2) (tn (M.1 a 3)) v1) (a + 3) (tn ((up2 M.1 (a + 2) (tn (M.1 a 3)) v1) a 3)) v2) a 3)) v3) (a + 5) (tn ((v1 * (8 : Int32)) + v2)) ((up2 (up2 (up2 M.1 (a + 2) (tn (M.1 a 3)) v1) (a + 3) (tn ((up2 M.1 (a + 2) (tn (M.1 a 3)) v1) a 3)) v2) (a + 4) (tn ((up2 (up2 M.1 (a + 2) (tn (M.1 a 3)) v1) (a + 3) (tn ((up2 M.1 (a + 2) (tn (M.1 a 3)) v1) a 3)) v2) a 3)) v3) a 3)) a 3)) a 3)) hX dX1_join_72 fl_1_40 (kdN0 ha) (by decide) (ltN0 ha) rfl ?_
    refine r_iconst (v := (1 : Int32)) hX dX1_join_75 (by decide) ?_
    refine r_iadd hX dX1_join_76 ?_
    refine r_putI' hX dX1_join_77 fl_1_40 (kdN0 ha) (by decide) (ltN0 ha) (okI_int _) ?_
    obtain rfl := Option.some.inj h
    exact r_vret hX hT dX1_join_80
  · have h := (if_neg g1).symm.trans h
    obtain rfl := Option.some.inj h
    exact r_vret hX hT dX1_join_9
def Nt_areJoined (a : Nat) (v1 : Int32) (v2 : Int32) (M : Mm) : Option (Bool) :=
  grd (inb ((v1 * (8 : Int32)) + v2) 64) (
  if (M.1 (a + 5) (tn ((v1 * (8 : Int32)) + v2))) < (0 : Int32) then
    some false
  else
    some true)
set_option maxRecDepth 100000 in
theorem ok_Nt_areJoined {G : Gm} {l : Launch} {d : Nat} (a : Nat) (v1 : Int32) (v2 : Int32) (M : Mm) {z : Bool} (ha : isNt a) (h : Nt_areJoined a v1 v2 M = some z) : CK G l (d + 0) md_Nt_areJoined [.ref a, .int v1, .int v2] M SS (some (.int (b2i z))) M SS := by
  refine ck_of mk_Nt_areJoined (Nat.le_of_ble_eq_true rfl) ⟨Nat.le_refl _, Nat.le_refl _⟩ (fun X hX hT hS hr hl => ?_)
  subst hl
  unfold Nt_areJoined at h
  show WR G X (mQ G X (some (.int (b2i z))) M SS) 0 [.ref a, .int v1, .int v2] [] M SS
  refine r_aload_n hX dX1_areJoined_0 rfl ?_
  refine r_getf (v := .ref (a + 5)) hX dX1_areJoined_1 fl_1_24 (kdN0 ha) (by decide) (ltN0 ha) (rfN9 ha) ?_
  refine r_iload_n hX dX1_areJoined_4 rfl ?_
  refine r_bipush (v := (8 : Int32)) hX dX1_areJoined_5 (by decide) ?_
  refine r_imul hX dX1_areJoined_7 ?_
  refine r_iload_n hX dX1_areJoined_8 rfl ?_
  refine r_iadd hX dX1_areJoined_9 ?_
  obtain ⟨k1, h⟩ := grd_s h
  refine r_iald hX dX1_areJoined_10 (kdN5 ha) (ltN5 ha) (inb_at (lnN5 ha) k1) ?_
  refine r_if_lt (tgt := 18) hX dX1_areJoined_11 (by decide) (fun g2 => ?_) (fun g2 => ?_)
  · have h := (if_pos g2).symm.trans h
    refine r_iconst (v := (0 : Int32)) hX dX1_areJoined_18 (by decide) ?_
    obtain rfl := Option.some.inj h
    exact r_iret (v := b2i false) hX hT dX1_areJoined_19 (okI_b false).1
  · have h := (if_neg g2).symm.trans h
    refine r_iconst (v := (1 : Int32)) hX dX1_areJoined_14 (by decide) ?_
    refine r_goto (tgt := 19) hX dX1_areJoined_15 (by decide) ?_
    obtain rfl := Option.some.inj h
    exact r_iret (v := b2i true) hX hT dX1_areJoined_19 (okI_b true).1
def Nt_lengthOf_j29 (v2 : Int32) (v3 : Int32) : Option ((Int32 × Int32) ⊕ (Int32)) :=
  some (.inl (v2, v3 + (1 : Int32)))
def Nt_lengthOf_b4 (a : Nat) (c1 : Int32) (Mc : Mm) (v2 : Int32) (v3 : Int32) : Option ((Int32 × Int32) ⊕ (Int32)) :=
  if (Mc.1 a 3) ≤ v3 then
    some (.inr v2)
  else
    if ((ushr c1 v3) &&& (1 : Int32)) = (0 : Int32) then
      Nt_lengthOf_j29 v2 v3
    else
      grd (inb v3 14) (
      Nt_lengthOf_j29 (v2 + (Mc.1 (a + 4) (tn v3))) v3)
def Nt_lengthOf (n : Nat) (a : Nat) (v1 : Int32) (M : Mm) : Option (Int32) :=
  bnd (loop (fun s1 : Int32 × Int32 => Nt_lengthOf_b4 a v1 M s1.1 s1.2) n ((0 : Int32), (0 : Int32))) (fun y4 =>
  some y4)
set_option maxRecDepth 100000 in
theorem ok_Nt_lengthOf_j29 (n : Nat) (a : Nat) (v2 : Int32) (v3 : Int32) {c1 : Int32} {Mc : Mm} {z : Int32} {oo : (Int32 × Int32) ⊕ (Int32)} {G : Gm} {X : Cx} {d : Nat} (ha : isNt a) (hX : XK G X 1 cX1_lengthOf 4 (d + 0)) (hT : XT X (some .int) "lengthOf") (hr : XR X SS) (hc : ∀ s1 : Int32 × Int32, oo = .inl s1 → WR G X (mQ G X (some (.int z)) Mc SS) 4 [.ref a, .int c1, .int s1.1, .int s1.2] [] Mc SS) (hx : ∀ x1 : Int32, oo = .inr x1 → WR G X (mQ G X (some (.int z)) Mc SS) 35 [.ref a, vU, .int x1, vU] [] Mc SS) (h : Nt_lengthOf_j29 v2 v3 = some oo) : WR G X (mQ G X (some (.int z)) Mc SS) 29 [.ref a, .int c1, .int v2, .int v3] [] Mc SS := by
  unfold Nt_lengthOf_j29 at h
  refine r_iinc (v := v3 + (1 : Int32)) (L1 := [.ref a, .int c1, .int v2, .int (v3 + (1 : Int32))]) hX dX1_lengthOf_29 rfl rfl rfl ?_
  refine r_goto (tgt := 4) hX dX1_lengthOf_32 (by decide) ?_
  exact hc (v2, v3 + (1 : Int32)) (Option.some.inj h).symm
set_option maxRecDepth 100000 in
theorem ok_Nt_lengthOf_b4 (n : Nat) (a : Nat) (v2 : Int32) (v3 : Int32) {c1 : Int32} {Mc : Mm} {z : Int32} {oo : (Int32 × Int32) ⊕ (Int32)} {G : Gm} {X : Cx} {d : Nat} (ha : isNt a) (hX : XK G X 1 cX1_lengthOf 4 (d + 0)) (hT : XT X (some .int) "lengthOf") (hr : XR X SS) (hc : ∀ s1 : Int32 × Int32, oo = .inl s1 → WR G X (mQ G X (some (.int z)) Mc SS) 4 [.ref a, .int c1, .int s1.1, .int s1.2] [] Mc SS) (hx : ∀ x1 : Int32, oo = .inr x1 → WR G X (mQ G X (some (.int z)) Mc SS) 35 [.ref a, vU, .int x1, vU] [] Mc SS) (h : Nt_lengthOf_b4 a c1 Mc v2 v3 = some oo) : WR G X (mQ G X (some (.int z)) Mc SS) 4 [.ref a, .int c1, .int v2, .int v3] [] Mc SS := by
  unfold Nt_lengthOf_b4 at h
  refine r_iload_n hX dX1_lengthOf_4 rfl ?_
  refine r_aload_n hX dX1_lengthOf_5 rfl ?_
  refine r_getf (v := .int (Mc.1 a 3)) hX dX1_lengthOf_6 fl_1_40 (kdN0 ha) (by decide) (ltN0 ha) rfl ?_
  refine r_icmp_ge (tgt := 35) hX dX1_lengthOf_9 (by decide) (fun g1 => ?_) (fun g1 => ?_)
  · have h := (if_pos g1).symm.trans h
    refine WR.fg (L' := [.ref a, vU, .int v2, vU]) ⟨Or.inr rfl, Or.inl rfl, Or.inr rfl, Or.inl rfl, trivial⟩ ?_
    exact hx _ (Option.some.inj h).symm
  · have h := (if_neg g1).symm.trans h
    refine r_iload_n hX dX1_lengthOf_12 rfl ?_
    refine r_iload_n hX dX1_lengthOf_13 rfl ?_
    refine r_iushr hX dX1_lengthOf_14 ?_
    refine r_iconst (v := (1 : Int32)) hX dX1_lengthOf_15 (by decide) ?_
    refine r_iand hX dX1_lengthOf_16 ?_
    refine r_if_eq (tgt := 29) hX dX1_lengthOf_17 (by decide) (fun g2 => ?_) (fun g2 => ?_)
    · have h := (if_pos g2).symm.trans h
      exact ok_Nt_lengthOf_j29 n a v2 v3  ha hX hT hr hc hx h
    · have h := (if_neg g2).symm.trans h
      refine r_iload_n hX dX1_lengthOf_20 rfl ?_
      refine r_aload_n hX dX1_lengthOf_21 rfl ?_
      refine r_getf (v := .ref (a + 4)) hX dX1_lengthOf_22 fl_1_21 (kdN0 ha) (by decide) (ltN0 ha) (rfN8 ha) ?_
      refine r_iload_n hX dX1_lengthOf_25 rfl ?_
      obtain ⟨k3, h⟩ := grd_s h
      refine r_iald hX dX1_lengthOf_26 (kdN4 ha) (ltN4 ha) (inb_at (lnN4 ha) k3) ?_
      refine r_iadd hX dX1_lengthOf_27 ?_
      refine r_istore_n (L1 := [.ref a, .int c1, .int (v2 + (Mc.1 (a + 4) (tn v3))), .int v3]) hX dX1_lengthOf_28 (Nat.le_of_ble_eq_true rfl) rfl ?_
      exact ok_Nt_lengthOf_j29 n a (v2 + (Mc.1 (a + 4) (tn v3))) v3  ha hX hT hr hc hx h
set_option maxRecDepth 100000 in
theorem ok_Nt_lengthOf {G : Gm} {l : Launch} {d : Nat} (n : Nat) (a : Nat) (v1 : Int32) (M : Mm) {z : Int32} (ha : isNt a) (h : Nt_lengthOf n a v1 M = some z) : CK G l (d + 0) md_Nt_lengthOf [.ref a, .int v1] M SS (some (.int z)) M SS := by
  refine ck_of mk_Nt_lengthOf (Nat.le_of_ble_eq_true rfl) ⟨Nat.le_refl _, Nat.le_refl _⟩ (fun X hX hT hS hr hl => ?_)
  subst hl
  unfold Nt_lengthOf at h
  show WR G X (mQ G X (some (.int z)) M SS) 0 [.ref a, .int v1, vU, vU] [] M SS
  refine r_iconst (v := (0 : Int32)) hX dX1_lengthOf_0 (by decide) ?_
  refine r_istore_n (L1 := [.ref a, .int v1, .int (0 : Int32), vU]) hX dX1_lengthOf_1 (Nat.le_of_ble_eq_true rfl) rfl ?_
  refine r_iconst (v := (0 : Int32)) hX dX1_lengthOf_2 (by decide) ?_
  refine r_istore_n (L1 := [.ref a, .int v1, .int (0 : Int32), .int (0 : Int32)]) hX dX1_lengthOf_3 (Nat.le_of_ble_eq_true rfl) rfl ?_
  obtain ⟨y4, h1, h⟩ := bnd_s h
  refine loop_ok (P := fun s1 : Int32 × Int32 => WR G X (mQ G X (some (.int z)) M SS) 4 [.ref a, .int v1, .int s1.1, .int s1.2] [] M SS) (E := fun x1 : Int32 => WR G X (mQ G X (some (.int z)) M SS) 35 [.ref a, vU, .int x1, vU] [] M SS) (fun s1 o1 g1 g2 g3 => ok_Nt_lengthOf_b4 n a s1.1 s1.2 ha hX hT hr g2 g3 g1) n ((0 : Int32), (0 : Int32)) y4 h1 ?_
  show WR G X (mQ G X (some (.int z)) M SS) 35 [.ref a, vU, .int y4, vU] [] M SS
  refine r_iload_n hX dX1_lengthOf_35 rfl ?_
  obtain rfl := Option.some.inj h
  exact r_iret hX hT dX1_lengthOf_36 rfl
def Rd_wordOf (v1 : Int32) (M : Mm) : Option (Int32) :=
  if v1 < (0 : Int32) then
    some (-1 : Int32)
  else
    if (24 : Int32) ≤ v1 then
      some (-1 : Int32)
    else
      grd (inb v1 24) (
      some (M.1 10 (tn v1)))
set_option maxRecDepth 100000 in
theorem ok_Rd_wordOf {G : Gm} {l : Launch} {d : Nat} (v1 : Int32) (M : Mm) {z : Int32}  (h : Rd_wordOf v1 M = some z) : CK G l (d + 0) md_Rd_wordOf [.ref 3, .int v1] M SS (some (.int z)) M SS := by
  refine ck_of mk_Rd_wordOf (Nat.le_of_ble_eq_true rfl) ⟨Nat.le_refl _, Nat.le_refl _⟩ (fun X hX hT hS hr hl => ?_)
  subst hl
  unfold Rd_wordOf at h
  show WR G X (mQ G X (some (.int z)) M SS) 0 [.ref 3, .int v1] [] M SS
  refine r_iload_n hX dX2_wordOf_0 rfl ?_
  refine r_if_lt (tgt := 19) hX dX2_wordOf_1 (by decide) (fun g1 => ?_) (fun g1 => ?_)
  · have h := (if_pos g1).symm.trans h
    refine r_iconst (v := (-1 : Int32)) hX dX2_wordOf_19 (by decide) ?_
    obtain rfl := Option.some.inj h
    exact r_iret hX hT dX2_wordOf_20 rfl
  · have h := (if_neg g1).symm.trans h
    refine r_iload_n hX dX2_wordOf_4 rfl ?_
    refine r_bipush (v := (24 : Int32)) hX dX2_wordOf_5 (by decide) ?_
    refine r_icmp_ge (tgt := 19) hX dX2_wordOf_7 (by decide) (fun g2 => ?_) (fun g2 => ?_)
    · have h := (if_pos g2).symm.trans h
      refine r_iconst (v := (-1 : Int32)) hX dX2_wordOf_19 (by decide) ?_
      obtain rfl := Option.some.inj h
      exact r_iret hX hT dX2_wordOf_20 rfl
    · have h := (if_neg g2).symm.trans h
      refine r_aload_n hX dX2_wordOf_10 rfl ?_
      refine r_getf (v := .ref 10) hX dX2_wordOf_11 fl_2_18 rfl (by decide) (by decide) rfl ?_
      refine r_iload_n hX dX2_wordOf_14 rfl ?_
      obtain ⟨k3, h⟩ := grd_s h
      refine r_iald hX dX2_wordOf_15 rfl (by decide) (inb_at rfl k3) ?_
      refine r_goto (tgt := 20) hX dX2_wordOf_16 (by decide) ?_
      obtain rfl := Option.some.inj h
      exact r_iret hX hT dX2_wordOf_20 rfl
def Rd_numberOf (v1 : Int32) (v2 : Int32) (M : Mm) : Option (Int32) :=
  if ((v1 * (4 : Int32)) + v2) < (0 : Int32) then
    some (-1 : Int32)
  else
    if (96 : Int32) ≤ ((v1 * (4 : Int32)) + v2) then
      some (-1 : Int32)
    else
      grd (inb ((v1 * (4 : Int32)) + v2) 96) (
      some (M.1 11 (tn ((v1 * (4 : Int32)) + v2))))
set_option maxRecDepth 100000 in
theorem ok_Rd_numberOf {G : Gm} {l : Launch} {d : Nat} (v1 : Int32) (v2 : Int32) (M : Mm) {z : Int32}  (h : Rd_numberOf v1 v2 M = some z) : CK G l (d + 0) md_Rd_numberOf [.ref 3, .int v1, .int v2] M SS (some (.int z)) M SS := by
  refine ck_of mk_Rd_numberOf (Nat.le_of_ble_eq_true rfl) ⟨Nat.le_refl _, Nat.le_refl _⟩ (fun X hX hT hS hr hl => ?_)
  subst hl
  unfold Rd_numberOf at h
  show WR G X (mQ G X (some (.int z)) M SS) 0 [.ref 3, .int v1, .int v2, vU] [] M SS
  refine r_iload_n hX dX2_numberOf_0 rfl ?_
  refine r_iconst (v := (4 : Int32)) hX dX2_numberOf_1 (by decide) ?_
  refine r_imul hX dX2_numberOf_2 ?_
  refine r_iload_n hX dX2_numberOf_3 rfl ?_
  refine r_iadd hX dX2_numberOf_4 ?_
  refine r_istore_n (L1 := [.ref 3, .int v1, .int v2, .int ((v1 * (4 : Int32)) + v2)]) hX dX2_numberOf_5 (Nat.le_of_ble_eq_true rfl) rfl ?_
  refine r_iload_n hX dX2_numberOf_6 rfl ?_
  refine r_if_lt (tgt := 28) hX dX2_numberOf_7 (by decide) (fun g1 => ?_) (fun g1 => ?_)
  · have h := (if_pos g1).symm.trans h
    refine r_iconst (v := (-1 : Int32)) hX dX2_numberOf_28 (by decide) ?_
    obtain rfl := Option.some.inj h
    exact r_iret hX hT dX2_numberOf_29 rfl
  · have h := (if_neg g1).symm.trans h
    refine r_iload_n hX dX2_numberOf_10 rfl ?_
    refine r_aload_n hX dX2_numberOf_11 rfl ?_
    refine r_getf (v := .ref 11) hX dX2_numberOf_12 fl_2_22 rfl (by decide) (by decide) rfl ?_
    refine r_alen (v := (96 : Int32)) hX dX2_numberOf_15 rfl (by decide) (by decide) rfl ?_
    refine r_icmp_ge (tgt := 28) hX dX2_numberOf_16 (by decide) (fun g2 => ?_) (fun g2 => ?_)
    · have h := (if_pos g2).symm.trans h
      refine r_iconst (v := (-1 : Int32)) hX dX2_numberOf_28 (by decide) ?_
      obtain rfl := Option.some.inj h
      exact r_iret hX hT dX2_numberOf_29 rfl
    · have h := (if_neg g2).symm.trans h
      refine r_aload_n hX dX2_numberOf_19 rfl ?_
      refine r_getf (v := .ref 11) hX dX2_numberOf_20 fl_2_22 rfl (by decide) (by decide) rfl ?_
      refine r_iload_n hX dX2_numberOf_23 rfl ?_
      obtain ⟨k3, h⟩ := grd_s h
      refine r_iald hX dX2_numberOf_24 rfl (by decide) (inb_at rfl k3) ?_
      refine r_goto (tgt := 29) hX dX2_numberOf_25 (by decide) ?_
      obtain rfl := Option.some.inj h
      exact r_iret hX hT dX2_numberOf_29 rfl
def Rd_blame (v1 : Int32) (v2 : Int32) (M : Mm) : Option (Mm) :=
  some ((up2 M.1 3 8 (((-1000 : Int32) * v1) - v2)), M.2)
set_option maxRecDepth 100000 in
theorem ok_Rd_blame {G : Gm} {l : Launch} {d : Nat} (v1 : Int32) (v2 : Int32) (M : Mm) {z : Mm}  (h : Rd_blame v1 v2 M = some z) : CK G l (d + 0) md_Rd_blame [.ref 3, .int v1, .int v2] M SS (none) z SS := by
  refine ck_of mk_Rd_blame (Nat.le_of_ble_eq_true rfl) ⟨Nat.le_refl _, Nat.le_refl _⟩ (fun X hX hT hS hr hl => ?_)
  subst hl
  unfold Rd_blame at h
  show WR G X (mQ G X (none) z SS) 0 [.ref 3, .int v1, .int v2] [] M SS
  refine r_aload_n hX dX2_blame_0 rfl ?_
  refine r_sipush (v := (-1000 : Int32)) hX dX2_blame_1 (by decide) ?_
  refine r_iload_n hX dX2_blame_4 rfl ?_
  refine r_imul hX dX2_blame_5 ?_
  refine r_iload_n hX dX2_blame_6 rfl ?_
  refine r_isub hX dX2_blame_7 ?_
  refine r_putI hX dX2_blame_8 fl_2_39 rfl (by decide) (by decide) (okI_int _) ?_
  obtain rfl := Option.some.inj h
  exact r_vret hX hT dX2_blame_11
def Rd_linkFault_j89 (M : Mm) : Option (Int32 × Mm) :=
  some ((6 : Int32), M)
def Rd_linkFault (v1 : Int32) (v2 : Int32) (M : Mm) : Option (Int32 × Mm) :=
  grd (inb ((M.1 3 5) * (4 : Int32)) 96) (
  if v1 = (2 : Int32) then
    if v2 < (1 : Int32) then
      some ((3 : Int32), M)
    else
      if v2 ≤ (99 : Int32) then
        grd (inb (((M.1 3 5) * (4 : Int32)) + (1 : Int32)) 96) (
        bnd (Nt_join 4 (M.1 11 (tn ((M.1 3 5) * (4 : Int32)))) (M.1 11 (tn (((M.1 3 5) * (4 : Int32)) + (1 : Int32)))) v2 M) (fun z12 =>
        some ((0 : Int32), z12)))
      else
        some ((3 : Int32), M)
  else
    if v2 < (M.1 4 0) then
      if v1 = (1 : Int32) then
        if v2 = (M.1 11 (tn ((M.1 3 5) * (4 : Int32)))) then
          Rd_linkFault_j89 M
        else
          bnd (Nt_areJoined 4 (M.1 11 (tn ((M.1 3 5) * (4 : Int32)))) v2 M) (fun z6 =>
          if z6 = true then
            Rd_linkFault_j89 M
          else
            some ((0 : Int32), M))
      else
        some ((0 : Int32), M)
    else
      some ((3 : Int32), M))
set_option maxRecDepth 100000 in
theorem ok_Rd_linkFault_j89 (M : Mm) {z : Int32 × Mm} {G : Gm} {X : Cx} {d : Nat}  (hX : XK G X 2 cX2_linkFault 4 (d + 1)) (hT : XT X (some .int) "linkFault") (hr : XR X SS) (h : Rd_linkFault_j89 M = some z) : WR G X (mQ G X (some (.int z.1)) z.2 SS) 89 [.ref 3, vU, vU, vU] [] M SS := by
  unfold Rd_linkFault_j89 at h
  refine r_bipush (v := (6 : Int32)) hX dX2_linkFault_89 (by decide) ?_
  refine r_goto (tgt := 95) hX dX2_linkFault_91 (by decide) ?_
  obtain rfl := Option.some.inj h
  exact r_iret hX hT dX2_linkFault_95 rfl
set_option maxRecDepth 100000 in
theorem ok_Rd_linkFault {G : Gm} {l : Launch} {d : Nat} (v1 : Int32) (v2 : Int32) (M : Mm) {z : Int32 × Mm}  (h : Rd_linkFault v1 v2 M = some z) : CK G l (d + 1) md_Rd_linkFault [.ref 3, .int v1, .int v2] M SS (some (.int z.1)) z.2 SS := by
  refine ck_of mk_Rd_linkFault (Nat.le_of_ble_eq_true rfl) ⟨Nat.le_refl _, Nat.le_refl _⟩ (fun X hX hT hS hr hl => ?_)
  subst hl
  unfold Rd_linkFault at h
  show WR G X (mQ G X (some (.int z.1)) z.2 SS) 0 [.ref 3, .int v1, .int v2, vU] [] M SS
  refine r_aload_n hX dX2_linkFault_0 rfl ?_
  refine r_getf (v := .ref 11) hX dX2_linkFault_1 fl_2_22 rfl (by decide) (by decide) rfl ?_
  refine r_aload_n hX dX2_linkFault_4 rfl ?_
  refine r_getf (v := .int (M.1 3 5)) hX dX2_linkFault_5 fl_2_29 rfl (by decide) (by decide) rfl ?_
  refine r_iconst (v := (4 : Int32)) hX dX2_linkFault_8 (by decide) ?_
  refine r_imul hX dX2_linkFault_9 ?_
  obtain ⟨k1, h⟩ := grd_s h
  refine r_iald hX dX2_linkFault_10 rfl (by decide) (inb_at rfl k1) ?_
  refine r_istore_n (L1 := [.ref 3, .int v1, .int v2, .int (M.1 11 (tn ((M.1 3 5) * (4 : Int32))))]) hX dX2_linkFault_11 (Nat.le_of_ble_eq_true rfl) rfl ?_
  refine r_iload_n hX dX2_linkFault_12 rfl ?_
  refine r_iconst (v := (2 : Int32)) hX dX2_linkFault_13 (by decide) ?_
  refine r_icmp_ne (tgt := 54) hX dX2_linkFault_14 (by decide) (fun g2 => ?_) (fun g2 => ?_)
  · have h := (if_neg g2).symm.trans h
    refine r_iload_n hX dX2_linkFault_54 rfl ?_
    refine r_aload_n hX dX2_linkFault_55 rfl ?_
    refine r_getf (v := .ref 4) hX dX2_linkFault_56 fl_2_12 rfl (by decide) (by decide) rfl ?_
    refine r_getf (v := .int (M.1 4 0)) hX dX2_linkFault_59 fl_2_88 rfl (by decide) (by decide) rfl ?_
    refine r_icmp_lt (tgt := 67) hX dX2_linkFault_62 (by decide) (fun g3 => ?_) (fun g3 => ?_)
    · have h := (if_pos g3).symm.trans h
      refine r_iload_n hX dX2_linkFault_67 rfl ?_
      refine r_iconst (v := (1 : Int32)) hX dX2_linkFault_68 (by decide) ?_
      refine r_icmp_ne (tgt := 94) hX dX2_linkFault_69 (by decide) (fun g4 => ?_) (fun g4 => ?_)
      · have h := (if_neg g4).symm.trans h
        refine r_iconst (v := (0 : Int32)) hX dX2_linkFault_94 (by decide) ?_
        obtain rfl := Option.some.inj h
        exact r_iret hX hT dX2_linkFault_95 rfl
      · have h := (if_pos g4).symm.trans h
        refine r_iload_n hX dX2_linkFault_72 rfl ?_
        refine r_iload_n hX dX2_linkFault_73 rfl ?_
        refine r_icmp_eq (tgt := 89) hX dX2_linkFault_74 (by decide) (fun g5 => ?_) (fun g5 => ?_)
        · have h := (if_pos g5).symm.trans h
          refine WR.fg (L' := [.ref 3, vU, vU, vU]) ⟨Or.inr rfl, Or.inl rfl, Or.inl rfl, Or.inl rfl, trivial⟩ ?_
          exact ok_Rd_linkFault_j89 M   hX hT hr h
        · have h := (if_neg g5).symm.trans h
          refine r_aload_n hX dX2_linkFault_77 rfl ?_
          refine r_getf (v := .ref 4) hX dX2_linkFault_78 fl_2_12 rfl (by decide) (by decide) rfl ?_
          refine r_iload_n hX dX2_linkFault_81 rfl ?_
          refine r_iload_n hX dX2_linkFault_82 rfl ?_
          obtain ⟨z6, p7, h⟩ := bnd_s h
          refine r_callV (As := [.int (M.1 11 (tn ((M.1 3 5) * (4 : Int32)))), .int v2]) hX dX2_linkFault_83 mk_Nt_areJoined mi_Nt_areJoined ml_2_108 rfl rfl rfl rfl (by decide) (by decide) (Nat.le_of_ble_eq_true rfl) hr (ok_Nt_areJoined (d := d + 0) 4 (M.1 11 (tn ((M.1 3 5) * (4 : Int32)))) v2 M nt4 p7) ?_
          refine r_ifb_eq (tgt := 94) hX dX2_linkFault_86 (by decide) (fun g8 => ?_) (fun g8 => ?_)
          · have h := (if_neg (show ¬ z6 = true from fun e => by rw [g8] at e; cases e)).symm.trans h
            refine r_iconst (v := (0 : Int32)) hX dX2_linkFault_94 (by decide) ?_
            obtain rfl := Option.some.inj h
            exact r_iret hX hT dX2_linkFault_95 rfl
          · have h := (if_pos g8).symm.trans h
            refine WR.fg (L' := [.ref 3, vU, vU, vU]) ⟨Or.inr rfl, Or.inl rfl, Or.inl rfl, Or.inl rfl, trivial⟩ ?_
            exact ok_Rd_linkFault_j89 M   hX hT hr h
    · have h := (if_neg g3).symm.trans h
      refine r_iconst (v := (3 : Int32)) hX dX2_linkFault_65 (by decide) ?_
      obtain rfl := Option.some.inj h
      exact r_iret hX hT dX2_linkFault_66 rfl
  · have h := (if_pos g2).symm.trans h
    refine r_iload_n hX dX2_linkFault_17 rfl ?_
    refine r_iconst (v := (1 : Int32)) hX dX2_linkFault_18 (by decide) ?_
    refine r_icmp_lt (tgt := 28) hX dX2_linkFault_19 (by decide) (fun g9 => ?_) (fun g9 => ?_)
    · have h := (if_pos g9).symm.trans h
      refine r_iconst (v := (3 : Int32)) hX dX2_linkFault_28 (by decide) ?_
      obtain rfl := Option.some.inj h
      exact r_iret hX hT dX2_linkFault_29 rfl
    · have h := (if_neg g9).symm.trans h
      refine r_iload_n hX dX2_linkFault_22 rfl ?_
      refine r_bipush (v := (99 : Int32)) hX dX2_linkFault_23 (by decide) ?_
      refine r_icmp_le (tgt := 30) hX dX2_linkFault_25 (by decide) (fun g10 => ?_) (fun g10 => ?_)
      · have h := (if_pos g10).symm.trans h
        refine r_aload_n hX dX2_linkFault_30 rfl ?_
        refine r_getf (v := .ref 4) hX dX2_linkFault_31 fl_2_12 rfl (by decide) (by decide) rfl ?_
        refine r_iload_n hX dX2_linkFault_34 rfl ?_
        refine r_aload_n hX dX2_linkFault_35 rfl ?_
        refine r_getf (v := .ref 11) hX dX2_linkFault_36 fl_2_22 rfl (by decide) (by decide) rfl ?_
        refine r_aload_n hX dX2_linkFault_39 rfl ?_
        refine r_getf (v := .int (M.1 3 5)) hX dX2_linkFault_40 fl_2_29 rfl (by decide) (by decide) rfl ?_
        refine r_iconst (v := (4 : Int32)) hX dX2_linkFault_43 (by decide) ?_
        refine r_imul hX dX2_linkFault_44 ?_
        refine r_iconst (v := (1 : Int32)) hX dX2_linkFault_45 (by decide) ?_
        refine r_iadd hX dX2_linkFault_46 ?_
        obtain ⟨k11, h⟩ := grd_s h
        refine r_iald hX dX2_linkFault_47 rfl (by decide) (inb_at rfl k11) ?_
        refine r_iload_n hX dX2_linkFault_48 rfl ?_
        obtain ⟨z12, p13, h⟩ := bnd_s h
        refine r_callV (As := [.int (M.1 11 (tn ((M.1 3 5) * (4 : Int32)))), .int (M.1 11 (tn (((M.1 3 5) * (4 : Int32)) + (1 : Int32)))), .int v2]) hX dX2_linkFault_49 mk_Nt_join mi_Nt_join ml_2_104 rfl rfl rfl rfl (by decide) (by decide) (Nat.le_of_ble_eq_true rfl) hr (ok_Nt_join (d := d + 0) 4 (M.1 11 (tn ((M.1 3 5) * (4 : Int32)))) (M.1 11 (tn (((M.1 3 5) * (4 : Int32)) + (1 : Int32)))) v2 M nt4 p13) ?_
        refine r_iconst (v := (0 : Int32)) hX dX2_linkFault_52 (by decide) ?_
        obtain rfl := Option.some.inj h
        exact r_iret hX hT dX2_linkFault_53 rfl
      · have h := (if_neg g10).symm.trans h
        refine r_iconst (v := (3 : Int32)) hX dX2_linkFault_28 (by decide) ?_
        obtain rfl := Option.some.inj h
        exact r_iret hX hT dX2_linkFault_29 rfl
def Rd_gridFault_j134 (v2 : Int32) (v3 : Int32) (M : Mm) : Option (Int32 × Mm) :=
  grd (inb v2 4) (
  some ((0 : Int32), ((up2 M.1 5 (tn v2) v3), M.2)))
def Rd_gridFault (v1 : Int32) (v2 : Int32) (v3 : Int32) (M : Mm) : Option (Int32 × Mm) :=
  if v1 = (0 : Int32) then
    if v3 < (2 : Int32) then
      some ((3 : Int32), M)
    else
      if (8 : Int32) < v3 then
        some ((3 : Int32), M)
      else
        if (M.1 4 3) ≤ (0 : Int32) then
          some ((0 : Int32), ((up2 M.1 4 0 v3), M.2))
        else
          some ((3 : Int32), M)
  else
    if v1 = (1 : Int32) then
      if v3 < (8 : Int32) then
        some ((3 : Int32), M)
      else
        if v3 ≤ (60 : Int32) then
          some ((0 : Int32), ((up2 M.1 4 1 v3), M.2))
        else
          some ((3 : Int32), M)
    else
      if v1 = (2 : Int32) then
        if v3 ≤ (4 : Int32) then
          some ((0 : Int32), ((up2 M.1 4 2 v3), M.2))
        else
          some ((3 : Int32), M)
      else
        if v1 = (3 : Int32) then
          if (999 : Int32) < v3 then
            some ((3 : Int32), M)
          else
            if v2 ≤ (0 : Int32) then
              Rd_gridFault_j134 v2 v3 M
            else
              grd (inb (v2 - (1 : Int32)) 4) (
              if v3 ≤ (M.1 5 (tn (v2 - (1 : Int32)))) then
                Rd_gridFault_j134 v2 v3 M
              else
                some ((3 : Int32), M))
        else
          bnd (Rd_linkFault v2 v3 M) (fun z16 =>
          some (z16.1, z16.2))
set_option maxRecDepth 100000 in
theorem ok_Rd_gridFault_j134 (v2 : Int32) (v3 : Int32) (M : Mm) {z : Int32 × Mm} {G : Gm} {X : Cx} {d : Nat}  (hX : XK G X 2 cX2_gridFault 4 (d + 2)) (hT : XT X (some .int) "gridFault") (hr : XR X SS) (h : Rd_gridFault_j134 v2 v3 M = some z) : WR G X (mQ G X (some (.int z.1)) z.2 SS) 134 [.ref 3, vU, .int v2, .int v3] [] M SS := by
  unfold Rd_gridFault_j134 at h
  refine r_aload_n hX dX2_gridFault_134 rfl ?_
  refine r_getf (v := .ref 4) hX dX2_gridFault_135 fl_2_12 rfl (by decide) (by decide) rfl ?_
  refine r_getf (v := .ref 5) hX dX2_gridFault_138 fl_2_97 rfl (by decide) (by decide) rfl ?_
  refine r_iload_n hX dX2_gridFault_141 rfl ?_
  refine r_iload_n hX dX2_gridFault_142 rfl ?_
  obtain ⟨k13, h⟩ := grd_s h
  refine r_iast hX dX2_gridFault_143 rfl (by decide) (inb_at rfl k13) ?_
  refine r_iconst (v := (0 : Int32)) hX dX2_gridFault_144 (by decide) ?_
  obtain rfl := Option.some.inj h
  exact r_iret hX hT dX2_gridFault_145 rfl
set_option maxRecDepth 100000 in
theorem ok_Rd_gridFault {G : Gm} {l : Launch} {d : Nat} (v1 : Int32) (v2 : Int32) (v3 : Int32) (M : Mm) {z : Int32 × Mm}  (h : Rd_gridFault v1 v2 v3 M = some z) : CK G l (d + 2) md_Rd_gridFault [.ref 3, .int v1, .int v2, .int v3] M SS (some (.int z.1)) z.2 SS := by
  refine ck_of mk_Rd_gridFault (Nat.le_of_ble_eq_true rfl) ⟨Nat.le_refl _, Nat.le_refl _⟩ (fun X hX hT hS hr hl => ?_)
  subst hl
  unfold Rd_gridFault at h
  show WR G X (mQ G X (some (.int z.1)) z.2 SS) 0 [.ref 3, .int v1, .int v2, .int v3] [] M SS
  refine r_iload_n hX dX2_gridFault_0 rfl ?_
  by_cases g1 : v1 = (0 : Int32)
  · have h := (if_pos g1).symm.trans h
    refine r_tabEq (tgt := 32) hX dX2_gridFault_1 g1 ⟨by decide, by decide, rfl⟩ (by decide) ?_
    refine r_iload_n hX dX2_gridFault_32 rfl ?_
    refine r_iconst (v := (2 : Int32)) hX dX2_gridFault_33 (by decide) ?_
    refine r_icmp_lt (tgt := 53) hX dX2_gridFault_34 (by decide) (fun g2 => ?_) (fun g2 => ?_)
    · have h := (if_pos g2).symm.trans h
      refine r_iconst (v := (3 : Int32)) hX dX2_gridFault_53 (by decide) ?_
      obtain rfl := Option.some.inj h
      exact r_iret hX hT dX2_gridFault_54 rfl
    · have h := (if_neg g2).symm.trans h
      refine r_iload_n hX dX2_gridFault_37 rfl ?_
      refine r_bipush (v := (8 : Int32)) hX dX2_gridFault_38 (by decide) ?_
      refine r_icmp_gt (tgt := 53) hX dX2_gridFault_40 (by decide) (fun g3 => ?_) (fun g3 => ?_)
      · have h := (if_pos g3).symm.trans h
        refine r_iconst (v := (3 : Int32)) hX dX2_gridFault_53 (by decide) ?_
        obtain rfl := Option.some.inj h
        exact r_iret hX hT dX2_gridFault_54 rfl
      · have h := (if_neg g3).symm.trans h
        refine r_aload_n hX dX2_gridFault_43 rfl ?_
        refine r_getf (v := .ref 4) hX dX2_gridFault_44 fl_2_12 rfl (by decide) (by decide) rfl ?_
        refine r_getf (v := .int (M.1 4 3)) hX dX2_gridFault_47 fl_2_66 rfl (by decide) (by decide) rfl ?_
        refine r_if_le (tgt := 55) hX dX2_gridFault_50 (by decide) (fun g4 => ?_) (fun g4 => ?_)
        · have h := (if_pos g4).symm.trans h
          refine r_aload_n hX dX2_gridFault_55 rfl ?_
          refine r_getf (v := .ref 4) hX dX2_gridFault_56 fl_2_12 rfl (by decide) (by decide) rfl ?_
          refine r_iload_n hX dX2_gridFault_59 rfl ?_
          refine r_putI hX dX2_gridFault_60 fl_2_88 rfl (by decide) (by decide) (okI_int _) ?_
          refine r_iconst (v := (0 : Int32)) hX dX2_gridFault_63 (by decide) ?_
          obtain rfl := Option.some.inj h
          exact r_iret hX hT dX2_gridFault_64 rfl
        · have h := (if_neg g4).symm.trans h
          refine r_iconst (v := (3 : Int32)) hX dX2_gridFault_53 (by decide) ?_
          obtain rfl := Option.some.inj h
          exact r_iret hX hT dX2_gridFault_54 rfl
  · have h := (if_neg g1).symm.trans h
    by_cases g5 : v1 = (1 : Int32)
    · have h := (if_pos g5).symm.trans h
      refine r_tabEq (tgt := 65) hX dX2_gridFault_1 g5 ⟨by decide, by decide, rfl⟩ (by decide) ?_
      refine r_iload_n hX dX2_gridFault_65 rfl ?_
      refine r_bipush (v := (8 : Int32)) hX dX2_gridFault_66 (by decide) ?_
      refine r_icmp_lt (tgt := 77) hX dX2_gridFault_68 (by decide) (fun g6 => ?_) (fun g6 => ?_)
      · have h := (if_pos g6).symm.trans h
        refine r_iconst (v := (3 : Int32)) hX dX2_gridFault_77 (by decide) ?_
        obtain rfl := Option.some.inj h
        exact r_iret hX hT dX2_gridFault_78 rfl
      · have h := (if_neg g6).symm.trans h
        refine r_iload_n hX dX2_gridFault_71 rfl ?_
        refine r_bipush (v := (60 : Int32)) hX dX2_gridFault_72 (by decide) ?_
        refine r_icmp_le (tgt := 79) hX dX2_gridFault_74 (by decide) (fun g7 => ?_) (fun g7 => ?_)
        · have h := (if_pos g7).symm.trans h
          refine r_aload_n hX dX2_gridFault_79 rfl ?_
          refine r_getf (v := .ref 4) hX dX2_gridFault_80 fl_2_12 rfl (by decide) (by decide) rfl ?_
          refine r_iload_n hX dX2_gridFault_83 rfl ?_
          refine r_putI hX dX2_gridFault_84 fl_2_91 rfl (by decide) (by decide) (okI_int _) ?_
          refine r_iconst (v := (0 : Int32)) hX dX2_gridFault_87 (by decide) ?_
          obtain rfl := Option.some.inj h
          exact r_iret hX hT dX2_gridFault_88 rfl
        · have h := (if_neg g7).symm.trans h
          refine r_iconst (v := (3 : Int32)) hX dX2_gridFault_77 (by decide) ?_
          obtain rfl := Option.some.inj h
          exact r_iret hX hT dX2_gridFault_78 rfl
    · have h := (if_neg g5).symm.trans h
      by_cases g8 : v1 = (2 : Int32)
      · have h := (if_pos g8).symm.trans h
        refine r_tabEq (tgt := 89) hX dX2_gridFault_1 g8 ⟨by decide, by decide, rfl⟩ (by decide) ?_
        refine r_iload_n hX dX2_gridFault_89 rfl ?_
        refine r_iconst (v := (4 : Int32)) hX dX2_gridFault_90 (by decide) ?_
        refine r_icmp_le (tgt := 96) hX dX2_gridFault_91 (by decide) (fun g9 => ?_) (fun g9 => ?_)
        · have h := (if_pos g9).symm.trans h
          refine r_aload_n hX dX2_gridFault_96 rfl ?_
          refine r_getf (v := .ref 4) hX dX2_gridFault_97 fl_2_12 rfl (by decide) (by decide) rfl ?_
          refine r_iload_n hX dX2_gridFault_100 rfl ?_
          refine r_putI hX dX2_gridFault_101 fl_2_94 rfl (by decide) (by decide) (okI_int _) ?_
          refine r_iconst (v := (0 : Int32)) hX dX2_gridFault_104 (by decide) ?_
          obtain rfl := Option.some.inj h
          exact r_iret hX hT dX2_gridFault_105 rfl
        · have h := (if_neg g9).symm.trans h
          refine r_iconst (v := (3 : Int32)) hX dX2_gridFault_94 (by decide) ?_
          obtain rfl := Option.some.inj h
          exact r_iret hX hT dX2_gridFault_95 rfl
      · have h := (if_neg g8).symm.trans h
        by_cases g10 : v1 = (3 : Int32)
        · have h := (if_pos g10).symm.trans h
          refine r_tabEq (tgt := 106) hX dX2_gridFault_1 g10 ⟨by decide, by decide, rfl⟩ (by decide) ?_
          refine r_iload_n hX dX2_gridFault_106 rfl ?_
          refine r_sipush (v := (999 : Int32)) hX dX2_gridFault_107 (by decide) ?_
          refine r_icmp_gt (tgt := 132) hX dX2_gridFault_110 (by decide) (fun g11 => ?_) (fun g11 => ?_)
          · have h := (if_pos g11).symm.trans h
            refine r_iconst (v := (3 : Int32)) hX dX2_gridFault_132 (by decide) ?_
            obtain rfl := Option.some.inj h
            exact r_iret hX hT dX2_gridFault_133 rfl
          · have h := (if_neg g11).symm.trans h
            refine r_iload_n hX dX2_gridFault_113 rfl ?_
            refine r_if_le (tgt := 134) hX dX2_gridFault_114 (by decide) (fun g12 => ?_) (fun g12 => ?_)
            · have h := (if_pos g12).symm.trans h
              refine WR.fg (L' := [.ref 3, vU, .int v2, .int v3]) ⟨Or.inr rfl, Or.inl rfl, Or.inr rfl, Or.inr rfl, trivial⟩ ?_
              exact ok_Rd_gridFault_j134 v2 v3 M   hX hT hr h
            · have h := (if_neg g12).symm.trans h
              refine r_iload_n hX dX2_gridFault_117 rfl ?_
              refine r_aload_n hX dX2_gridFault_118 rfl ?_
              refine r_getf (v := .ref 4) hX dX2_gridFault_119 fl_2_12 rfl (by decide) (by decide) rfl ?_
              refine r_getf (v := .ref 5) hX dX2_gridFault_122 fl_2_97 rfl (by decide) (by decide) rfl ?_
              refine r_iload_n hX dX2_gridFault_125 rfl ?_
              refine r_iconst (v := (1 : Int32)) hX dX2_gridFault_126 (by decide) ?_
              refine r_isub hX dX2_gridFault_127 ?_
              obtain ⟨k14, h⟩ := grd_s h
              refine r_iald hX dX2_gridFault_128 rfl (by decide) (inb_at rfl k14) ?_
              refine r_icmp_le (tgt := 134) hX dX2_gridFault_129 (by decide) (fun g15 => ?_) (fun g15 => ?_)
              · have h := (if_pos g15).symm.trans h
                refine WR.fg (L' := [.ref 3, vU, .int v2, .int v3]) ⟨Or.inr rfl, Or.inl rfl, Or.inr rfl, Or.inr rfl, trivial⟩ ?_
                exact ok_Rd_gridFault_j134 v2 v3 M   hX hT hr h
              · have h := (if_neg g15).symm.trans h
                refine r_iconst (v := (3 : Int32)) hX dX2_gridFault_132 (by decide) ?_
                obtain rfl := Option.some.inj h
                exact r_iret hX hT dX2_gridFault_133 rfl
        · have h := (if_neg g10).symm.trans h
          refine r_tabOut (tgt := 146) hX dX2_gridFault_1 (by have q0 := ne_ti g1 (k := 0) (by decide); have q1 := ne_ti g5 (k := 1) (by decide); have q2 := ne_ti g8 (k := 2) (by decide); have q3 := ne_ti g10 (k := 3) (by decide); omega) (by decide) ?_
          refine r_aload_n hX dX2_gridFault_146 rfl ?_
          refine r_iload_n hX dX2_gridFault_147 rfl ?_
          refine r_iload_n hX dX2_gridFault_148 rfl ?_
          obtain ⟨z16, p17, h⟩ := bnd_s h
          refine r_callV (As := [.int v2, .int v3]) hX dX2_gridFault_149 mk_Rd_linkFault mi_Rd_linkFault ml_2_100 rfl rfl rfl rfl (by decide) (by decide) (Nat.le_of_ble_eq_true rfl) hr (ok_Rd_linkFault (d := d + 0) v2 v3 M p17) ?_
          obtain rfl := Option.some.inj h
          exact r_iret hX hT dX2_gridFault_152 rfl
def Rd_stepFault_j15 (v3 : Int32) (w0 : Int32) : Option (Int32) :=
  if v3 ≤ w0 then
    some (0 : Int32)
  else
    some (3 : Int32)
def Rd_stepFault (v1 : Int32) (v2 : Int32) (v3 : Int32) (M : Mm) : Option (Int32) :=
  grd (inb v1 (stT 2).length) (
  if v2 = (stV 2 (tn v1)) then
    Rd_stepFault_j15 v3 (3 : Int32)
  else
    Rd_stepFault_j15 v3 (99 : Int32))
set_option maxRecDepth 100000 in
theorem ok_Rd_stepFault_j15 (v3 : Int32) (w0 : Int32) (M : Mm) {z : Int32} {G : Gm} {X : Cx} {d : Nat}  (hX : XK G X 2 cX2_stepFault 5 (d + 0)) (hT : XT X (some .int) "stepFault") (hr : XR X SS) (h : Rd_stepFault_j15 v3 w0 = some z) : WR G X (mQ G X (some (.int z)) M SS) 15 [.ref 3, vU, vU, .int v3, vU] [.int w0] M SS := by
  unfold Rd_stepFault_j15 at h
  refine r_istore (L1 := [.ref 3, vU, vU, .int v3, .int w0]) hX dX2_stepFault_15 (Nat.le_of_ble_eq_true rfl) rfl ?_
  refine r_iload_n hX dX2_stepFault_17 rfl ?_
  refine r_iload hX dX2_stepFault_18 rfl ?_
  refine r_icmp_le (tgt := 27) hX dX2_stepFault_20 (by decide) (fun g3 => ?_) (fun g3 => ?_)
  · have h := (if_pos g3).symm.trans h
    refine r_iconst (v := (0 : Int32)) hX dX2_stepFault_27 (by decide) ?_
    obtain rfl := Option.some.inj h
    exact r_iret hX hT dX2_stepFault_28 rfl
  · have h := (if_neg g3).symm.trans h
    refine r_iconst (v := (3 : Int32)) hX dX2_stepFault_23 (by decide) ?_
    refine r_goto (tgt := 28) hX dX2_stepFault_24 (by decide) ?_
    obtain rfl := Option.some.inj h
    exact r_iret hX hT dX2_stepFault_28 rfl
set_option maxRecDepth 100000 in
theorem ok_Rd_stepFault {G : Gm} {l : Launch} {d : Nat} (v1 : Int32) (v2 : Int32) (v3 : Int32) (M : Mm) {z : Int32}  (h : Rd_stepFault v1 v2 v3 M = some z) : CK G l (d + 0) md_Rd_stepFault [.ref 3, .int v1, .int v2, .int v3] M SS (some (.int z)) M SS := by
  refine ck_of mk_Rd_stepFault (Nat.le_of_ble_eq_true rfl) ⟨Nat.le_refl _, Nat.le_refl _⟩ (fun X hX hT hS hr hl => ?_)
  subst hl
  unfold Rd_stepFault at h
  show WR G X (mQ G X (some (.int z)) M SS) 0 [.ref 3, .int v1, .int v2, .int v3, vU] [] M SS
  refine r_iload_n hX dX2_stepFault_0 rfl ?_
  refine r_gets (j := 2) hX dX2_stepFault_1 (by decide) fs_2_85 ?_
  refine r_iload_n hX dX2_stepFault_4 rfl ?_
  obtain ⟨k1, h⟩ := grd_s h
  refine r_sald (j := 2) hX dX2_stepFault_5 (by decide) k1 ?_
  refine r_icmp_ne (tgt := 13) hX dX2_stepFault_6 (by decide) (fun g2 => ?_) (fun g2 => ?_)
  · have h := (if_neg g2).symm.trans h
    refine r_bipush (v := (99 : Int32)) hX dX2_stepFault_13 (by decide) ?_
    refine WR.fg (L' := [.ref 3, vU, vU, .int v3, vU]) ⟨Or.inr rfl, Or.inl rfl, Or.inl rfl, Or.inr rfl, Or.inl rfl, trivial⟩ ?_
    exact ok_Rd_stepFault_j15 v3 (99 : Int32) M   hX hT hr h
  · have h := (if_pos g2).symm.trans h
    refine r_iconst (v := (3 : Int32)) hX dX2_stepFault_9 (by decide) ?_
    refine r_goto (tgt := 15) hX dX2_stepFault_10 (by decide) ?_
    refine WR.fg (L' := [.ref 3, vU, vU, .int v3, vU]) ⟨Or.inr rfl, Or.inl rfl, Or.inl rfl, Or.inr rfl, Or.inl rfl, trivial⟩ ?_
    exact ok_Rd_stepFault_j15 v3 (3 : Int32) M   hX hT hr h
