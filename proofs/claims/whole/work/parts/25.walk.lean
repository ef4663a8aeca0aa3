def Fm_readsReach_b6 (n : Nat) (v1 : Int32) (v2 : Int32) (M : Mm) : Option ((Int32 × Int32 × Mm) ⊕ ((Mm) ⊕ (Bool × Mm))) :=
  if (4 : Int32) ≤ v2 then
    some (.inr (.inl M))
  else
    bnd (Fm_readsNumber n (0 : Int32) v1 M) (fun z2 =>
    if z2.1 = true then
      grd (inb ((8 : Int32) + v2) 64) (
      some (.inl ((up2 z2.2.1 96 (tn ((8 : Int32) + v2)) (z2.2.1 94 8)) 94 8, v2 + (1 : Int32), ((up2 z2.2.1 96 (tn ((8 : Int32) + v2)) (z2.2.1 94 8)), z2.2.2))))
    else
      some (.inr (.inr (false, z2.2))))
def Fm_readsReach (n : Nat) (M : Mm) : Option (Bool × Mm) :=
  bnd (loop (fun s1 : Int32 × Int32 × Mm => Fm_readsReach_b6 n s1.1 s1.2.1 s1.2.2) n ((999 : Int32), (0 : Int32), M)) (fun y6 =>
  elS y6 (fun x7 =>
    some (true, x7))
    (fun e8 => some e8))
set_option maxRecDepth 100000 in
theorem ok_Fm_readsReach_b6 (n : Nat) (v1 : Int32) (v2 : Int32) (M : Mm)  {z : Bool × Mm} {oo : (Int32 × Int32 × Mm) ⊕ ((Mm) ⊕ (Bool × Mm))} {G : Gm} {X : Cx} {d : Nat}  (hX : XK G X 9 cX9_readsReach 3 (d + 3)) (hT : XT X (some .boolean) "readsReach") (hr : XR X SS) (hc : ∀ s1 : Int32 × Int32 × Mm, oo = .inl s1 → WR G X (mQ G X (some (.int (b2i z.1))) z.2 SS) 6 [.ref 94, .int s1.1, .int s1.2.1] [] s1.2.2 SS) (hx : ∀ x1 : (Mm) ⊕ (Bool × Mm), oo = .inr x1 → elS x1 (fun x2 => WR G X (mQ G X (some (.int (b2i z.1))) z.2 SS) 46 [.ref 94, vU, vU] [] x2 SS) (fun y1 => y1 = z)) (h : Fm_readsReach_b6 n v1 v2 M = some oo) : WR G X (mQ G X (some (.int (b2i z.1))) z.2 SS) 6 [.ref 94, .int v1, .int v2] [] M SS := by
  unfold Fm_readsReach_b6 at h
  refine r_iload_n hX dX9_readsReach_6 rfl ?_
  refine r_iconst (v := (4 : Int32)) hX dX9_readsReach_7 (by decide) ?_
  refine r_icmp_ge (tgt := 46) hX dX9_readsReach_8 (by decide) (fun g1 => ?_) (fun g1 => ?_)
  · have h := (if_pos g1).symm.trans h
    refine WR.fg (L' := [.ref 94, vU, vU]) ⟨Or.inr rfl, Or.inl rfl, Or.inl rfl, trivial⟩ ?_
    exact hx _ (Option.some.inj h).symm
  · have h := (if_neg g1).symm.trans h
    refine r_aload_n hX dX9_readsReach_11 rfl ?_
    refine r_iconst (v := (0 : Int32)) hX dX9_readsReach_12 (by decide) ?_
    refine r_iload_n hX dX9_readsReach_13 rfl ?_
    obtain ⟨z2, p3, h⟩ := bnd_s h
    refine r_callV (As := [.int (0 : Int32), .int v1]) hX dX9_readsReach_14 mk_Fm_readsNumber mi_Fm_readsNumber ml_9_141 rfl rfl rfl rfl (by decide) (by decide) (Nat.le_of_ble_eq_true rfl) hr (ok_Fm_readsNumber (d := d + 0) n (0 : Int32) v1 M p3) ?_
    refine r_ifb_ne (tgt := 22) hX dX9_readsReach_17 (by decide) (fun g4 => ?_) (fun g4 => ?_)
    · have h := (if_pos g4).symm.trans h
      refine r_aload_n hX dX9_readsReach_22 rfl ?_
      refine r_getf (v := .ref 96) hX dX9_readsReach_23 fl_9_13 rfl (by decide) (by decide) rfl ?_
      refine r_bipush (v := (8 : Int32)) hX dX9_readsReach_26 (by decide) ?_
      refine r_iload_n hX dX9_readsReach_28 rfl ?_
      refine r_iadd hX dX9_readsReach_29 ?_
      refine r_aload_n hX dX9_readsReach_30 rfl ?_
      refine r_getf (v := .int (z2.2.1 94 8)) hX dX9_readsReach_31 fl_9_135 rfl (by decide) (by decide) rfl ?_
      obtain ⟨k5, h⟩ := grd_s h
      refine r_iast hX dX9_readsReach_34 rfl (by decide) (inb_at rfl k5) ?_
      refine r_aload_n hX dX9_readsReach_35 rfl ?_
      refine r_getf (v := .int ((up2 z2.2.1 96 (tn ((8 : Int32) + v2)) (z2.2.1 94 8)) 94 8)) hX dX9_readsReach_36 fl_9_135 rfl (by decide) (by decide) rfl ?_
      refine r_istore_n (L1 := [.ref 94, .int ((up2 z2.2.1 96 (tn ((8 : Int32) + v2)) (z2.2.1 94 8)) 94 8), .int v2]) hX dX9_readsReach_39 (Nat.le_of_ble_eq_true rfl) rfl ?_
      refine r_iinc (v := v2 + (1 : Int32)) (L1 := [.ref 94, .int ((up2 z2.2.1 96 (tn ((8 : Int32) + v2)) (z2.2.1 94 8)) 94 8), .int (v2 + (1 : Int32))]) hX dX9_readsReach_40 rfl rfl rfl ?_
      refine r_goto (tgt := 6) hX dX9_readsReach_43 (by decide) ?_
      exact hc ((up2 z2.2.1 96 (tn ((8 : Int32) + v2)) (z2.2.1 94 8)) 94 8, v2 + (1 : Int32), ((up2 z2.2.1 96 (tn ((8 : Int32) + v2)) (z2.2.1 94 8)), z2.2.2)) (Option.some.inj h).symm
    · have h := (if_neg (show ¬ z2.1 = true from fun e => by rw [g4] at e; cases e)).symm.trans h
      refine r_iconst (v := (0 : Int32)) hX dX9_readsReach_20 (by decide) ?_
      obtain rfl := hx _ (Option.some.inj h).symm
      exact r_iret (v := b2i false) hX hT dX9_readsReach_21 (okI_b false).1
set_option maxRecDepth 100000 in
theorem ok_Fm_readsReach {G : Gm} {l : Launch} {d : Nat} (n : Nat) (M : Mm) {z : Bool × Mm}  (h : Fm_readsReach n M = some z) : CK G l (d + 3) md_Fm_readsReach [.ref 94] M SS (some (.int (b2i z.1))) z.2 SS := by
  refine ck_of mk_Fm_readsReach (Nat.le_of_ble_eq_true rfl) ⟨Nat.le_refl _, Nat.le_refl _⟩ (fun X hX hT hS hr hl => ?_)
  subst hl
  unfold Fm_readsReach at h
  show WR G X (mQ G X (some (.int (b2i z.1))) z.2 SS) 0 [.ref 94, vU, vU] [] M SS
  refine r_sipush (v := (999 : Int32)) hX dX9_readsReach_0 (by decide) ?_
  refine r_istore_n (L1 := [.ref 94, .int (999 : Int32), vU]) hX dX9_readsReach_3 (Nat.le_of_ble_eq_true rfl) rfl ?_
  refine r_iconst (v := (0 : Int32)) hX dX9_readsReach_4 (by decide) ?_
  refine r_istore_n (L1 := [.ref 94, .int (999 : Int32), .int (0 : Int32)]) hX dX9_readsReach_5 (Nat.le_of_ble_eq_true rfl) rfl ?_
  obtain ⟨y6, h1, h⟩ := bnd_s h
  refine loop_ok (P := fun s1 : Int32 × Int32 × Mm => WR G X (mQ G X (some (.int (b2i z.1))) z.2 SS) 6 [.ref 94, .int s1.1, .int s1.2.1] [] s1.2.2 SS) (E := fun x1 : (Mm) ⊕ (Bool × Mm) => elS x1 (fun x2 => WR G X (mQ G X (some (.int (b2i z.1))) z.2 SS) 46 [.ref 94, vU, vU] [] x2 SS) (fun y1 => y1 = z)) (fun s1 o1 g1 g2 g3 => ok_Fm_readsReach_b6 n s1.1 s1.2.1 s1.2.2  hX hT hr g2 g3 g1) n ((999 : Int32), (0 : Int32), M) y6 h1 ?_
  cases y6 with
  | inr e8 =>
    exact Option.some.inj h
  | inl x7 =>
    show WR G X (mQ G X (some (.int (b2i z.1))) z.2 SS) 46 [.ref 94, vU, vU] [] x7 SS
    refine r_iconst (v := (1 : Int32)) hX dX9_readsReach_46 (by decide) ?_
    obtain rfl := Option.some.inj h
    exact r_iret (v := b2i true) hX hT dX9_readsReach_47 (okI_b true).1
def Fm_readsNodes (n : Nat) (M : Mm) : Option (Bool × Mm) :=
  bnd (Fm_readsNumber n (2 : Int32) (8 : Int32) M) (fun z1 =>
  if z1.1 = true then
    grd (inb (3 : Int32) 64) (
    if (z1.2.1 96 (tn (3 : Int32))) ≤ (0 : Int32) then
      grd (inb (0 : Int32) 64) (
      some (true, ((up2 z1.2.1 96 (tn (0 : Int32)) (z1.2.1 94 8)), z1.2.2)))
    else
      bnd (Fm_wrongAt (3 : Int32) (z1.2.1 94 9) z1.2) (fun z7 =>
      some (z7.1, z7.2)))
  else
    some (false, z1.2))
set_option maxRecDepth 100000 in
theorem ok_Fm_readsNodes {G : Gm} {l : Launch} {d : Nat} (n : Nat) (M : Mm) {z : Bool × Mm}  (h : Fm_readsNodes n M = some z) : CK G l (d + 3) md_Fm_readsNodes [.ref 94] M SS (some (.int (b2i z.1))) z.2 SS := by
  refine ck_of mk_Fm_readsNodes (Nat.le_of_ble_eq_true rfl) ⟨Nat.le_refl _, Nat.le_refl _⟩ (fun X hX hT hS hr hl => ?_)
  subst hl
  unfold Fm_readsNodes at h
  show WR G X (mQ G X (some (.int (b2i z.1))) z.2 SS) 0 [.ref 94] [] M SS
  refine r_aload_n hX dX9_readsNodes_0 rfl ?_
  refine r_iconst (v := (2 : Int32)) hX dX9_readsNodes_1 (by decide) ?_
  refine r_bipush (v := (8 : Int32)) hX dX9_readsNodes_2 (by decide) ?_
  obtain ⟨z1, p2, h⟩ := bnd_s h
  refine r_callV (As := [.int (2 : Int32), .int (8 : Int32)]) hX dX9_readsNodes_4 mk_Fm_readsNumber mi_Fm_readsNumber ml_9_141 rfl rfl rfl rfl (by decide) (by decide) (Nat.le_of_ble_eq_true rfl) hr (ok_Fm_readsNumber (d := d + 0) n (2 : Int32) (8 : Int32) M p2) ?_
  refine r_ifb_ne (tgt := 12) hX dX9_readsNodes_7 (by decide) (fun g3 => ?_) (fun g3 => ?_)
  · have h := (if_pos g3).symm.trans h
    refine r_aload_n hX dX9_readsNodes_12 rfl ?_
    refine r_getf (v := .ref 96) hX dX9_readsNodes_13 fl_9_13 rfl (by decide) (by decide) rfl ?_
    refine r_iconst (v := (3 : Int32)) hX dX9_readsNodes_16 (by decide) ?_
    obtain ⟨k4, h⟩ := grd_s h
    refine r_iald hX dX9_readsNodes_17 rfl (by decide) (inb_at rfl k4) ?_
    refine r_if_le (tgt := 31) hX dX9_readsNodes_18 (by decide) (fun g5 => ?_) (fun g5 => ?_)
    · have h := (if_pos g5).symm.trans h
      refine r_aload_n hX dX9_readsNodes_31 rfl ?_
      refine r_getf (v := .ref 96) hX dX9_readsNodes_32 fl_9_13 rfl (by decide) (by decide) rfl ?_
      refine r_iconst (v := (0 : Int32)) hX dX9_readsNodes_35 (by decide) ?_
      refine r_aload_n hX dX9_readsNodes_36 rfl ?_
      refine r_getf (v := .int (z1.2.1 94 8)) hX dX9_readsNodes_37 fl_9_135 rfl (by decide) (by decide) rfl ?_
      obtain ⟨k6, h⟩ := grd_s h
      refine r_iast hX dX9_readsNodes_40 rfl (by decide) (inb_at rfl k6) ?_
      refine r_iconst (v := (1 : Int32)) hX dX9_readsNodes_41 (by decide) ?_
      obtain rfl := Option.some.inj h
      exact r_iret (v := b2i true) hX hT dX9_readsNodes_42 (okI_b true).1
    · have h := (if_neg g5).symm.trans h
      refine r_aload_n hX dX9_readsNodes_21 rfl ?_
      refine r_iconst (v := (3 : Int32)) hX dX9_readsNodes_22 (by decide) ?_
      refine r_aload_n hX dX9_readsNodes_23 rfl ?_
      refine r_getf (v := .int (z1.2.1 94 9)) hX dX9_readsNodes_24 fl_9_129 rfl (by decide) (by decide) rfl ?_
      obtain ⟨z7, p8, h⟩ := bnd_s h
      refine r_callV (As := [.int (3 : Int32), .int (z1.2.1 94 9)]) hX dX9_readsNodes_27 mk_Fm_wrongAt mi_Fm_wrongAt ml_9_108 rfl rfl rfl rfl (by decide) (by decide) (Nat.le_of_ble_eq_true rfl) hr (ok_Fm_wrongAt (d := d + 2) (3 : Int32) (z1.2.1 94 9) z1.2 p8) ?_
      obtain rfl := Option.some.inj h
      exact r_iret hX hT dX9_readsNodes_30 (okI_b _).1
  · have h := (if_neg (show ¬ z1.1 = true from fun e => by rw [g3] at e; cases e)).symm.trans h
    refine r_iconst (v := (0 : Int32)) hX dX9_readsNodes_10 (by decide) ?_
    obtain rfl := Option.some.inj h
    exact r_iret (v := b2i false) hX hT dX9_readsNodes_11 (okI_b false).1
def Fm_readsClause_j139 (M : Mm) : Option (Bool × Mm) :=
  some (false, M)
def Fm_readsClause (n : Nat) (M : Mm) : Option (Bool × Mm) :=
  if (M.1 94 11) = (24 : Int32) then
    bnd (Fm_wrongAt (4 : Int32) (M.1 94 5) M) (fun z29 =>
    some (z29.1, z29.2))
  else
    bnd (Fm_readsWord n ((up2 M.1 94 11 ((M.1 94 11) + (1 : Int32))), M.2)) (fun z2 =>
    if (z2.2 94 12) = (402891 : Int64) then
      bnd (Fm_readsLink n z2) (fun z27 =>
      some (z27.1, z27.2))
    else
      if (z2.2 94 12) = (19039336 : Int64) then
        bnd (Fm_readsReach n z2) (fun z25 =>
        some (z25.1, z25.2))
      else
        if (z2.2 94 12) = (15175859 : Int64) then
          bnd (Fm_readsNodes n z2) (fun z23 =>
          some (z23.1, z23.2))
        else
          if (z2.2 94 12) = (20332179 : Int64) then
            bnd (Fm_readsNumber n (8 : Int32) (60 : Int32) z2) (fun z17 =>
            if z17.1 = true then
              bnd (Fm_keepsNumber (1 : Int32) z17.2) (fun z20 =>
              if z20.1 = true then
                some (true, z20.2)
              else
                some (false, z20.2))
            else
              some (false, z17.2))
          else
            if (z2.2 94 12) = (2336986286 : Int64) then
              bnd (Fm_readsNumber n (0 : Int32) (4 : Int32) z2) (fun z11 =>
              if z11.1 = true then
                bnd (Fm_keepsNumber (2 : Int32) z11.2) (fun z14 =>
                if z14.1 = true then
                  some (true, z14.2)
                else
                  Fm_readsClause_j139 z14.2)
              else
                Fm_readsClause_j139 z11.2)
            else
              bnd (Fm_wrongAt (1 : Int32) (z2.1 94 10) z2) (fun z9 =>
              some (z9.1, z9.2)))
set_option maxRecDepth 100000 in
theorem ok_Fm_readsClause_j139 (n : Nat) (M : Mm) {z : Bool × Mm} {G : Gm} {X : Cx} {d : Nat}  (hX : XK G X 9 cX9_readsClause 3 (d + 4)) (hT : XT X (some .boolean) "readsClause") (hr : XR X SS) (h : Fm_readsClause_j139 M = some z) : WR G X (mQ G X (some (.int (b2i z.1))) z.2 SS) 139 [.ref 94, vU, vU] [] M SS := by
  unfold Fm_readsClause_j139 at h
  refine r_iconst (v := (0 : Int32)) hX dX9_readsClause_139 (by decide) ?_
  refine r_goto (tgt := 152) hX dX9_readsClause_140 (by decide) ?_
  obtain rfl := Option.some.inj h
  exact r_iret (v := b2i false) hX hT dX9_readsClause_152 (okI_b false).1
set_option maxRecDepth 100000 in
theorem ok_Fm_readsClause {G : Gm} {l : Launch} {d : Nat} (n : Nat) (M : Mm) {z : Bool × Mm}  (h : Fm_readsClause n M = some z) : CK G l (d + 4) md_Fm_readsClause [.ref 94] M SS (some (.int (b2i z.1))) z.2 SS := by
  refine ck_of mk_Fm_readsClause (Nat.le_of_ble_eq_true rfl) ⟨Nat.le_refl _, Nat.le_refl _⟩ (fun X hX hT hS hr hl => ?_)
  subst hl
  unfold Fm_readsClause at h
  show WR G X (mQ G X (some (.int (b2i z.1))) z.2 SS) 0 [.ref 94, vU, vU] [] M SS
  refine r_aload_n hX dX9_readsClause_0 rfl ?_
  refine r_getf (v := .int (M.1 94 11)) hX dX9_readsClause_1 fl_9_138 rfl (by decide) (by decide) rfl ?_
  refine r_bipush (v := (24 : Int32)) hX dX9_readsClause_4 (by decide) ?_
  refine r_icmp_ne (tgt := 19) hX dX9_readsClause_6 (by decide) (fun g1 => ?_) (fun g1 => ?_)
  · have h := (if_neg g1).symm.trans h
    refine r_aload_n hX dX9_readsClause_19 rfl ?_
    refine r_aload_n hX dX9_readsClause_20 rfl ?_
    refine r_getf (v := .int (M.1 94 11)) hX dX9_readsClause_21 fl_9_138 rfl (by decide) (by decide) rfl ?_
    refine r_iconst (v := (1 : Int32)) hX dX9_readsClause_24 (by decide) ?_
    refine r_iadd hX dX9_readsClause_25 ?_
    refine r_putI hX dX9_readsClause_26 fl_9_138 rfl (by decide) (by decide) (okI_int _) ?_
    refine r_aload_n hX dX9_readsClause_29 rfl ?_
    obtain ⟨z2, p3, h⟩ := bnd_s h
    refine r_callV (As := []) hX dX9_readsClause_30 mk_Fm_readsWord mi_Fm_readsWord ml_9_147 rfl rfl rfl rfl (by decide) (by decide) (Nat.le_of_ble_eq_true rfl) hr (ok_Fm_readsWord (d := d + 2) n ((up2 M.1 94 11 ((M.1 94 11) + (1 : Int32))), M.2) p3) ?_
    refine r_aload_n hX dX9_readsClause_33 rfl ?_
    refine r_getf (v := .long (z2.2 94 12)) hX dX9_readsClause_34 fl_9_115 rfl (by decide) (by decide) rfl ?_
    refine r_lstore_n (L1 := [.ref 94, .long (z2.2 94 12), vU]) hX dX9_readsClause_37 (Nat.le_of_ble_eq_true rfl) rfl ?_
    refine r_lload_n hX dX9_readsClause_38 rfl ?_
    refine r_ldc2 hX dX9_readsClause_39 kl_9_150 ?_
    refine r_lcmp_ne (tgt := 51) hX dX9_readsClause_42 dX9_readsClause_43 (by decide) (fun g4 => ?_) (fun g4 => ?_)
    · have h := (if_neg g4).symm.trans h
      refine r_lload_n hX dX9_readsClause_51 rfl ?_
      refine r_ldc2 hX dX9_readsClause_52 kl_9_156 ?_
      refine r_lcmp_ne (tgt := 64) hX dX9_readsClause_55 dX9_readsClause_56 (by decide) (fun g5 => ?_) (fun g5 => ?_)
      · have h := (if_neg g5).symm.trans h
        refine r_lload_n hX dX9_readsClause_64 rfl ?_
        refine r_ldc2 hX dX9_readsClause_65 kl_9_161 ?_
        refine r_lcmp_ne (tgt := 77) hX dX9_readsClause_68 dX9_readsClause_69 (by decide) (fun g6 => ?_) (fun g6 => ?_)
        · have h := (if_neg g6).symm.trans h
          refine r_lload_n hX dX9_readsClause_77 rfl ?_
          refine r_ldc2 hX dX9_readsClause_78 kl_9_166 ?_
          refine r_lcmp_ne (tgt := 110) hX dX9_readsClause_81 dX9_readsClause_82 (by decide) (fun g7 => ?_) (fun g7 => ?_)
          · have h := (if_neg g7).symm.trans h
            refine r_lload_n hX dX9_readsClause_110 rfl ?_
            refine r_ldc2 hX dX9_readsClause_111 kl_9_171 ?_
            refine r_lcmp_ne (tgt := 143) hX dX9_readsClause_114 dX9_readsClause_115 (by decide) (fun g8 => ?_) (fun g8 => ?_)
            · have h := (if_neg g8).symm.trans h
              refine r_aload_n hX dX9_readsClause_143 rfl ?_
              refine r_iconst (v := (1 : Int32)) hX dX9_readsClause_144 (by decide) ?_
              refine r_aload_n hX dX9_readsClause_145 rfl ?_
              refine r_getf (v := .int (z2.1 94 10)) hX dX9_readsClause_146 fl_9_112 rfl (by decide) (by decide) rfl ?_
              obtain ⟨z9, p10, h⟩ := bnd_s h
              refine r_callV (As := [.int (1 : Int32), .int (z2.1 94 10)]) hX dX9_readsClause_149 mk_Fm_wrongAt mi_Fm_wrongAt ml_9_108 rfl rfl rfl rfl (by decide) (by decide) (Nat.le_of_ble_eq_true rfl) hr (ok_Fm_wrongAt (d := d + 3) (1 : Int32) (z2.1 94 10) z2 p10) ?_
              obtain rfl := Option.some.inj h
              exact r_iret hX hT dX9_readsClause_152 (okI_b _).1
            · have h := (if_pos g8).symm.trans h
              refine r_aload_n hX dX9_readsClause_118 rfl ?_
              refine r_iconst (v := (0 : Int32)) hX dX9_readsClause_119 (by decide) ?_
              refine r_iconst (v := (4 : Int32)) hX dX9_readsClause_120 (by decide) ?_
              obtain ⟨z11, p12, h⟩ := bnd_s h
              refine r_callV (As := [.int (0 : Int32), .int (4 : Int32)]) hX dX9_readsClause_121 mk_Fm_readsNumber mi_Fm_readsNumber ml_9_141 rfl rfl rfl rfl (by decide) (by decide) (Nat.le_of_ble_eq_true rfl) hr (ok_Fm_readsNumber (d := d + 1) n (0 : Int32) (4 : Int32) z2 p12) ?_
              refine r_ifb_eq (tgt := 139) hX dX9_readsClause_124 (by decide) (fun g13 => ?_) (fun g13 => ?_)
              · have h := (if_neg (show ¬ z11.1 = true from fun e => by rw [g13] at e; cases e)).symm.trans h
                refine WR.fg (L' := [.ref 94, vU, vU]) ⟨Or.inr rfl, Or.inl rfl, Or.inl rfl, trivial⟩ ?_
                exact ok_Fm_readsClause_j139 n z11.2   hX hT hr h
              · have h := (if_pos g13).symm.trans h
                refine r_aload_n hX dX9_readsClause_127 rfl ?_
                refine r_iconst (v := (2 : Int32)) hX dX9_readsClause_128 (by decide) ?_
                obtain ⟨z14, p15, h⟩ := bnd_s h
                refine r_callV (As := [.int (2 : Int32)]) hX dX9_readsClause_129 mk_Fm_keepsNumber mi_Fm_keepsNumber ml_9_168 rfl rfl rfl rfl (by decide) (by decide) (Nat.le_of_ble_eq_true rfl) hr (ok_Fm_keepsNumber (d := d + 3) (2 : Int32) z11.2 p15) ?_
                refine r_ifb_eq (tgt := 139) hX dX9_readsClause_132 (by decide) (fun g16 => ?_) (fun g16 => ?_)
                · have h := (if_neg (show ¬ z14.1 = true from fun e => by rw [g16] at e; cases e)).symm.trans h
                  refine WR.fg (L' := [.ref 94, vU, vU]) ⟨Or.inr rfl, Or.inl rfl, Or.inl rfl, trivial⟩ ?_
                  exact ok_Fm_readsClause_j139 n z14.2   hX hT hr h
                · have h := (if_pos g16).symm.trans h
                  refine r_iconst (v := (1 : Int32)) hX dX9_readsClause_135 (by decide) ?_
                  refine r_goto (tgt := 152) hX dX9_readsClause_136 (by decide) ?_
                  obtain rfl := Option.some.inj h
                  exact r_iret (v := b2i true) hX hT dX9_readsClause_152 (okI_b true).1
          · have h := (if_pos g7).symm.trans h
            refine r_aload_n hX dX9_readsClause_85 rfl ?_
            refine r_bipush (v := (8 : Int32)) hX dX9_readsClause_86 (by decide) ?_
            refine r_bipush (v := (60 : Int32)) hX dX9_readsClause_88 (by decide) ?_
            obtain ⟨z17, p18, h⟩ := bnd_s h
            refine r_callV (As := [.int (8 : Int32), .int (60 : Int32)]) hX dX9_readsClause_90 mk_Fm_readsNumber mi_Fm_readsNumber ml_9_141 rfl rfl rfl rfl (by decide) (by decide) (Nat.le_of_ble_eq_true rfl) hr (ok_Fm_readsNumber (d := d + 1) n (8 : Int32) (60 : Int32) z2 p18) ?_
            refine r_ifb_eq (tgt := 108) hX dX9_readsClause_93 (by decide) (fun g19 => ?_) (fun g19 => ?_)
            · have h := (if_neg (show ¬ z17.1 = true from fun e => by rw [g19] at e; cases e)).symm.trans h
              refine r_iconst (v := (0 : Int32)) hX dX9_readsClause_108 (by decide) ?_
              obtain rfl := Option.some.inj h
              exact r_iret (v := b2i false) hX hT dX9_readsClause_109 (okI_b false).1
            · have h := (if_pos g19).symm.trans h
              refine r_aload_n hX dX9_readsClause_96 rfl ?_
              refine r_iconst (v := (1 : Int32)) hX dX9_readsClause_97 (by decide) ?_
              obtain ⟨z20, p21, h⟩ := bnd_s h
              refine r_callV (As := [.int (1 : Int32)]) hX dX9_readsClause_98 mk_Fm_keepsNumber mi_Fm_keepsNumber ml_9_168 rfl rfl rfl rfl (by decide) (by decide) (Nat.le_of_ble_eq_true rfl) hr (ok_Fm_keepsNumber (d := d + 3) (1 : Int32) z17.2 p21) ?_
              refine r_ifb_eq (tgt := 108) hX dX9_readsClause_101 (by decide) (fun g22 => ?_) (fun g22 => ?_)
              · have h := (if_neg (show ¬ z20.1 = true from fun e => by rw [g22] at e; cases e)).symm.trans h
                refine r_iconst (v := (0 : Int32)) hX dX9_readsClause_108 (by decide) ?_
                obtain rfl := Option.some.inj h
                exact r_iret (v := b2i false) hX hT dX9_readsClause_109 (okI_b false).1
              · have h := (if_pos g22).symm.trans h
                refine r_iconst (v := (1 : Int32)) hX dX9_readsClause_104 (by decide) ?_
                refine r_goto (tgt := 109) hX dX9_readsClause_105 (by decide) ?_
                obtain rfl := Option.some.inj h
                exact r_iret (v := b2i true) hX hT dX9_readsClause_109 (okI_b true).1
        · have h := (if_pos g6).symm.trans h
          refine r_aload_n hX dX9_readsClause_72 rfl ?_
          obtain ⟨z23, p24, h⟩ := bnd_s h
          refine r_callV (As := []) hX dX9_readsClause_73 mk_Fm_readsNodes mi_Fm_readsNodes ml_9_163 rfl rfl rfl rfl (by decide) (by decide) (Nat.le_of_ble_eq_true rfl) hr (ok_Fm_readsNodes (d := d + 0) n z2 p24) ?_
          obtain rfl := Option.some.inj h
          exact r_iret hX hT dX9_readsClause_76 (okI_b _).1
      · have h := (if_pos g5).symm.trans h
        refine r_aload_n hX dX9_readsClause_59 rfl ?_
        obtain ⟨z25, p26, h⟩ := bnd_s h
        refine r_callV (As := []) hX dX9_readsClause_60 mk_Fm_readsReach mi_Fm_readsReach ml_9_158 rfl rfl rfl rfl (by decide) (by decide) (Nat.le_of_ble_eq_true rfl) hr (ok_Fm_readsReach (d := d + 0) n z2 p26) ?_
        obtain rfl := Option.some.inj h
        exact r_iret hX hT dX9_readsClause_63 (okI_b _).1
    · have h := (if_pos g4).symm.trans h
      refine r_aload_n hX dX9_readsClause_46 rfl ?_
      obtain ⟨z27, p28, h⟩ := bnd_s h
      refine r_callV (As := []) hX dX9_readsClause_47 mk_Fm_readsLink mi_Fm_readsLink ml_9_152 rfl rfl rfl rfl (by decide) (by decide) (Nat.le_of_ble_eq_true rfl) hr (ok_Fm_readsLink (d := d + 0) n z2 p28) ?_
      obtain rfl := Option.some.inj h
      exact r_iret hX hT dX9_readsClause_50 (okI_b _).1
  · have h := (if_pos g1).symm.trans h
    refine r_aload_n hX dX9_readsClause_9 rfl ?_
    refine r_iconst (v := (4 : Int32)) hX dX9_readsClause_10 (by decide) ?_
    refine r_aload_n hX dX9_readsClause_11 rfl ?_
    refine r_getf (v := .int (M.1 94 5)) hX dX9_readsClause_12 fl_9_95 rfl (by decide) (by decide) rfl ?_
    obtain ⟨z29, p30, h⟩ := bnd_s h
    refine r_callV (As := [.int (4 : Int32), .int (M.1 94 5)]) hX dX9_readsClause_15 mk_Fm_wrongAt mi_Fm_wrongAt ml_9_108 rfl rfl rfl rfl (by decide) (by decide) (Nat.le_of_ble_eq_true rfl) hr (ok_Fm_wrongAt (d := d + 3) (4 : Int32) (M.1 94 5) M p30) ?_
    obtain rfl := Option.some.inj h
    exact r_iret hX hT dX9_readsClause_18 (okI_b _).1
def Fm_grid_j55 (w0 : Int32) (M : Mm) : Option ((Int32 × Mm) ⊕ (Int32 × Mm)) :=
  some (.inl (w0, M))
def Fm_grid_j54 (M : Mm) : Option ((Int32 × Mm) ⊕ (Int32 × Mm)) :=
  Fm_grid_j55 (0 : Int32) M
def Fm_grid_b19 (n : Nat) (v2 : Int32) (M : Mm) : Option ((Int32 × Mm) ⊕ (Int32 × Mm)) :=
  if v2 = (0 : Int32) then
    some (.inr (v2, M))
  else
    if (M.1 94 6) ≤ (M.1 94 5) then
      some (.inr (v2, M))
    else
      bnd (Fm_takesSign (59 : Int32) M) (fun z10 =>
      if z10.1 = true then
        bnd (Fm_readsClause n z10.2) (fun z13 =>
        if z13.1 = true then
          Fm_grid_j55 (1 : Int32) z13.2
        else
          Fm_grid_j54 z13.2)
      else
        Fm_grid_j54 z10.2)
def Fm_grid_j59 (n : Nat) (v2 : Int32) (M : Mm) : Option (Int32 × Mm) :=
  if v2 = (0 : Int32) then
    some (M.1 94 7, M)
  else
    bnd (Fm_takesDraft n M) (fun z18 =>
    grd (inb (4 : Int32) 12256) (
    some ((up2 z18.1 95 (tn (4 : Int32)) (z18.1 94 11)) 94 11, ((up2 z18.1 95 (tn (4 : Int32)) (z18.1 94 11)), z18.2))))
def Fm_grid (n : Nat) (v1 : Int32) (M : Mm) : Option (Int32 × Mm) :=
  bnd (Fm_beginsText v1 M) (fun z1 =>
  if z1.1 = true then
    bnd (Fm_begins n z1.2) (fun z4 =>
    bnd (Fm_readsClause n z4) (fun z6 =>
    bnd (loop (fun s1 : Int32 × Mm => Fm_grid_b19 n s1.1 s1.2) n (b2i z6.1, z6.2)) (fun y16 =>
    Fm_grid_j59 n y16.1 y16.2)))
  else
    some ((-1 : Int32), z1.2))
set_option maxRecDepth 100000 in
theorem ok_Fm_grid_j55 (n : Nat) (w0 : Int32) (M : Mm)  {z : Int32 × Mm} {oo : (Int32 × Mm) ⊕ (Int32 × Mm)} {G : Gm} {X : Cx} {d : Nat}  (hX : XK G X 9 cX9_grid 3 (d + 5)) (hT : XT X (some .int) "grid") (hr : XR X SS) (hc : ∀ s1 : Int32 × Mm, oo = .inl s1 → WR G X (mQ G X (some (.int z.1)) z.2 SS) 19 [.ref 94, vU, .int s1.1] [] s1.2 SS) (hx : ∀ x1 : Int32 × Mm, oo = .inr x1 → WR G X (mQ G X (some (.int z.1)) z.2 SS) 59 [.ref 94, vU, .int x1.1] [] x1.2 SS) (h : Fm_grid_j55 w0 M = some oo) : WR G X (mQ G X (some (.int z.1)) z.2 SS) 55 [.ref 94, vU, vU] [.int w0] M SS := by
  unfold Fm_grid_j55 at h
  refine r_istore_n (L1 := [.ref 94, vU, .int w0]) hX dX9_grid_55 (Nat.le_of_ble_eq_true rfl) rfl ?_
  refine r_goto (tgt := 19) hX dX9_grid_56 (by decide) ?_
  exact hc (w0, M) (Option.some.inj h).symm
set_option maxRecDepth 100000 in
theorem ok_Fm_grid_j54 (n : Nat) (M : Mm)  {z : Int32 × Mm} {oo : (Int32 × Mm) ⊕ (Int32 × Mm)} {G : Gm} {X : Cx} {d : Nat}  (hX : XK G X 9 cX9_grid 3 (d + 5)) (hT : XT X (some .int) "grid") (hr : XR X SS) (hc : ∀ s1 : Int32 × Mm, oo = .inl s1 → WR G X (mQ G X (some (.int z.1)) z.2 SS) 19 [.ref 94, vU, .int s1.1] [] s1.2 SS) (hx : ∀ x1 : Int32 × Mm, oo = .inr x1 → WR G X (mQ G X (some (.int z.1)) z.2 SS) 59 [.ref 94, vU, .int x1.1] [] x1.2 SS) (h : Fm_grid_j54 M = some oo) : WR G X (mQ G X (some (.int z.1)) z.2 SS) 54 [.ref 94, vU, vU] [] M SS := by
  unfold Fm_grid_j54 at h
  refine r_iconst (v := (0 : Int32)) hX dX9_grid_54 (by decide) ?_
  exact ok_Fm_grid_j55 n (0 : Int32) M   hX hT hr hc hx h
set_option maxRecDepth 100000 in
theorem ok_Fm_grid_b19 (n : Nat) (v2 : Int32) (M : Mm)  {z : Int32 × Mm} {oo : (Int32 × Mm) ⊕ (Int32 × Mm)} {G : Gm} {X : Cx} {d : Nat}  (hX : XK G X 9 cX9_grid 3 (d + 5)) (hT : XT X (some .int) "grid") (hr : XR X SS) (hc : ∀ s1 : Int32 × Mm, oo = .inl s1 → WR G X (mQ G X (some (.int z.1)) z.2 SS) 19 [.ref 94, vU, .int s1.1] [] s1.2 SS) (hx : ∀ x1 : Int32 × Mm, oo = .inr x1 → WR G X (mQ G X (some (.int z.1)) z.2 SS) 59 [.ref 94, vU, .int x1.1] [] x1.2 SS) (h : Fm_grid_b19 n v2 M = some oo) : WR G X (mQ G X (some (.int z.1)) z.2 SS) 19 [.ref 94, vU, .int v2] [] M SS := by
  unfold Fm_grid_b19 at h
  refine r_iload_n hX dX9_grid_19 rfl ?_
  refine r_if_eq (tgt := 59) hX dX9_grid_20 (by decide) (fun g8 => ?_) (fun g8 => ?_)
  · have h := (if_pos g8).symm.trans h
    exact hx _ (Option.some.inj h).symm
  · have h := (if_neg g8).symm.trans h
    refine r_aload_n hX dX9_grid_23 rfl ?_
    refine r_getf (v := .int (M.1 94 5)) hX dX9_grid_24 fl_9_95 rfl (by decide) (by decide) rfl ?_
    refine r_aload_n hX dX9_grid_27 rfl ?_
    refine r_getf (v := .int (M.1 94 6)) hX dX9_grid_28 fl_9_98 rfl (by decide) (by decide) rfl ?_
    refine r_icmp_ge (tgt := 59) hX dX9_grid_31 (by decide) (fun g9 => ?_) (fun g9 => ?_)
    · have h := (if_pos g9).symm.trans h
      exact hx _ (Option.some.inj h).symm
    · have h := (if_neg g9).symm.trans h
      refine r_aload_n hX dX9_grid_34 rfl ?_
      refine r_bipush (v := (59 : Int32)) hX dX9_grid_35 (by decide) ?_
      obtain ⟨z10, p11, h⟩ := bnd_s h
      refine r_callV (As := [.int (59 : Int32)]) hX dX9_grid_37 mk_Fm_takesSign mi_Fm_takesSign ml_9_125 rfl rfl rfl rfl (by decide) (by decide) (Nat.le_of_ble_eq_true rfl) hr (ok_Fm_takesSign (d := d + 3) (59 : Int32) M p11) ?_
      refine r_ifb_eq (tgt := 54) hX dX9_grid_40 (by decide) (fun g12 => ?_) (fun g12 => ?_)
      · have h := (if_neg (show ¬ z10.1 = true from fun e => by rw [g12] at e; cases e)).symm.trans h
        refine WR.fg (L' := [.ref 94, vU, vU]) ⟨Or.inr rfl, Or.inl rfl, Or.inl rfl, trivial⟩ ?_
        exact ok_Fm_grid_j54 n z10.2   hX hT hr hc hx h
      · have h := (if_pos g12).symm.trans h
        refine r_aload_n hX dX9_grid_43 rfl ?_
        obtain ⟨z13, p14, h⟩ := bnd_s h
        refine r_callV (As := []) hX dX9_grid_44 mk_Fm_readsClause mi_Fm_readsClause ml_9_176 rfl rfl rfl rfl (by decide) (by decide) (Nat.le_of_ble_eq_true rfl) hr (ok_Fm_readsClause (d := d + 0) n z10.2 p14) ?_
        refine r_ifb_eq (tgt := 54) hX dX9_grid_47 (by decide) (fun g15 => ?_) (fun g15 => ?_)
        · have h := (if_neg (show ¬ z13.1 = true from fun e => by rw [g15] at e; cases e)).symm.trans h
          refine WR.fg (L' := [.ref 94, vU, vU]) ⟨Or.inr rfl, Or.inl rfl, Or.inl rfl, trivial⟩ ?_
          exact ok_Fm_grid_j54 n z13.2   hX hT hr hc hx h
        · have h := (if_pos g15).symm.trans h
          refine r_iconst (v := (1 : Int32)) hX dX9_grid_50 (by decide) ?_
          refine r_goto (tgt := 55) hX dX9_grid_51 (by decide) ?_
          refine WR.fg (L' := [.ref 94, vU, vU]) ⟨Or.inr rfl, Or.inl rfl, Or.inl rfl, trivial⟩ ?_
          exact ok_Fm_grid_j55 n (1 : Int32) z13.2   hX hT hr hc hx h
set_option maxRecDepth 100000 in
theorem ok_Fm_grid_j59 (n : Nat) (v2 : Int32) (M : Mm) {z : Int32 × Mm} {G : Gm} {X : Cx} {d : Nat}  (hX : XK G X 9 cX9_grid 3 (d + 5)) (hT : XT X (some .int) "grid") (hr : XR X SS) (h : Fm_grid_j59 n v2 M = some z) : WR G X (mQ G X (some (.int z.1)) z.2 SS) 59 [.ref 94, vU, .int v2] [] M SS := by
  unfold Fm_grid_j59 at h
  refine r_iload_n hX dX9_grid_59 rfl ?_
  refine r_if_ne (tgt := 68) hX dX9_grid_60 (by decide) (fun g17 => ?_) (fun g17 => ?_)
  · have h := (if_neg g17).symm.trans h
    refine r_aload_n hX dX9_grid_68 rfl ?_
    obtain ⟨z18, p19, h⟩ := bnd_s h
    refine r_callV (As := []) hX dX9_grid_69 mk_Fm_takesDraft mi_Fm_takesDraft ml_9_76 rfl rfl rfl rfl (by decide) (by decide) (Nat.le_of_ble_eq_true rfl) hr (ok_Fm_takesDraft (d := d + 4) n M p19) ?_
    refine r_aload_n hX dX9_grid_72 rfl ?_
    refine r_getf (v := .ref 95) hX dX9_grid_73 fl_9_7 rfl (by decide) (by decide) rfl ?_
    refine r_iconst (v := (4 : Int32)) hX dX9_grid_76 (by decide) ?_
    refine r_aload_n hX dX9_grid_77 rfl ?_
    refine r_getf (v := .int (z18.1 94 11)) hX dX9_grid_78 fl_9_138 rfl (by decide) (by decide) rfl ?_
    obtain ⟨k20, h⟩ := grd_s h
    refine r_iast hX dX9_grid_81 rfl (by decide) (inb_at rfl k20) ?_
    refine r_aload_n hX dX9_grid_82 rfl ?_
    refine r_getf (v := .int ((up2 z18.1 95 (tn (4 : Int32)) (z18.1 94 11)) 94 11)) hX dX9_grid_83 fl_9_138 rfl (by decide) (by decide) rfl ?_
    obtain rfl := Option.some.inj h
    exact r_iret hX hT dX9_grid_86 rfl
  · have h := (if_pos g17).symm.trans h
    refine r_aload_n hX dX9_grid_63 rfl ?_
    refine r_getf (v := .int (M.1 94 7)) hX dX9_grid_64 fl_9_101 rfl (by decide) (by decide) rfl ?_
    obtain rfl := Option.some.inj h
    exact r_iret hX hT dX9_grid_67 rfl
set_option maxRecDepth 100000 in
theorem ok_Fm_grid {G : Gm} {l : Launch} {d : Nat} (n : Nat) (v1 : Int32) (M : Mm) {z : Int32 × Mm}  (h : Fm_grid n v1 M = some z) : CK G l (d + 5) md_Fm_grid [.ref 94, .int v1] M SS (some (.int z.1)) z.2 SS := by
  refine ck_of mk_Fm_grid (Nat.le_of_ble_eq_true rfl) ⟨Nat.le_refl _, Nat.le_refl _⟩ (fun X hX hT hS hr hl => ?_)
  subst hl
  unfold Fm_grid at h
  show WR G X (mQ G X (some (.int z.1)) z.2 SS) 0 [.ref 94, .int v1, vU] [] M SS
  refine r_aload_n hX dX9_grid_0 rfl ?_
  refine r_iload_n hX dX9_grid_1 rfl ?_
  obtain ⟨z1, p2, h⟩ := bnd_s h
  refine r_callV (As := [.int v1]) hX dX9_grid_2 mk_Fm_beginsText mi_Fm_beginsText ml_9_173 rfl rfl rfl rfl (by decide) (by decide) (Nat.le_of_ble_eq_true rfl) hr (ok_Fm_beginsText (d := d + 3) v1 M p2) ?_
  refine r_ifb_ne (tgt := 10) hX dX9_grid_5 (by decide) (fun g3 => ?_) (fun g3 => ?_)
  · have h := (if_pos g3).symm.trans h
    refine r_aload_n hX dX9_grid_10 rfl ?_
    obtain ⟨z4, p5, h⟩ := bnd_s h
    refine r_callV (As := []) hX dX9_grid_11 mk_Fm_begins mi_Fm_begins ml_9_73 rfl rfl rfl rfl (by decide) (by decide) (Nat.le_of_ble_eq_true rfl) hr (ok_Fm_begins (d := d + 4) n z1.2 p5) ?_
    refine r_aload_n hX dX9_grid_14 rfl ?_
    obtain ⟨z6, p7, h⟩ := bnd_s h
    refine r_callV (As := []) hX dX9_grid_15 mk_Fm_readsClause mi_Fm_readsClause ml_9_176 rfl rfl rfl rfl (by decide) (by decide) (Nat.le_of_ble_eq_true rfl) hr (ok_Fm_readsClause (d := d + 0) n z4 p7) ?_
    refine r_istore_n (L1 := [.ref 94, .int v1, .int (b2i z6.1)]) hX dX9_grid_18 (Nat.le_of_ble_eq_true rfl) rfl ?_
    refine WR.fg (L' := [.ref 94, vU, .int (b2i z6.1)]) ⟨Or.inr rfl, Or.inl rfl, Or.inr rfl, trivial⟩ ?_
    obtain ⟨y16, h1, h⟩ := bnd_s h
    refine loop_ok (P := fun s1 : Int32 × Mm => WR G X (mQ G X (some (.int z.1)) z.2 SS) 19 [.ref 94, vU, .int s1.1] [] s1.2 SS) (E := fun x1 : Int32 × Mm => WR G X (mQ G X (some (.int z.1)) z.2 SS) 59 [.ref 94, vU, .int x1.1] [] x1.2 SS) (fun s1 o1 g1 g2 g3 => ok_Fm_grid_b19 n s1.1 s1.2  hX hT hr g2 g3 g1) n (b2i z6.1, z6.2) y16 h1 ?_
    show WR G X (mQ G X (some (.int z.1)) z.2 SS) 59 [.ref 94, vU, .int y16.1] [] y16.2 SS
    exact ok_Fm_grid_j59 n y16.1 y16.2   hX hT hr h
  · have h := (if_neg (show ¬ z1.1 = true from fun e => by rw [g3] at e; cases e)).symm.trans h
    refine r_iconst (v := (-1 : Int32)) hX dX9_grid_8 (by decide) ?_
    obtain rfl := Option.some.inj h
    exact r_iret hX hT dX9_grid_9 rfl
def Fm_isUp (v1 : Int32) (M : Mm) : Option (Bool) :=
  grd (inb (12 : Int32) 12256) (
  bnd (Fm_has (M.1 95 (tn (12 : Int32))) v1 M) (fun z2 =>
  some z2))
set_option maxRecDepth 100000 in
theorem ok_Fm_isUp {G : Gm} {l : Launch} {d : Nat} (v1 : Int32) (M : Mm) {z : Bool}  (h : Fm_isUp v1 M = some z) : CK G l (d + 1) md_Fm_isUp [.ref 94, .int v1] M SS (some (.int (b2i z))) M SS := by
  refine ck_of mk_Fm_isUp (Nat.le_of_ble_eq_true rfl) ⟨Nat.le_refl _, Nat.le_refl _⟩ (fun X hX hT hS hr hl => ?_)
  subst hl
  unfold Fm_isUp at h
  show WR G X (mQ G X (some (.int (b2i z))) M SS) 0 [.ref 94, .int v1] [] M SS
  refine r_aload_n hX dX9_isUp_0 rfl ?_
  refine r_getf (v := .ref 95) hX dX9_isUp_1 fl_9_7 rfl (by decide) (by decide) rfl ?_
  refine r_bipush (v := (12 : Int32)) hX dX9_isUp_4 (by decide) ?_
  obtain ⟨k1, h⟩ := grd_s h
  refine r_iald hX dX9_isUp_6 rfl (by decide) (inb_at rfl k1) ?_
  refine r_iload_n hX dX9_isUp_7 rfl ?_
  obtain ⟨z2, p3, h⟩ := bnd_s h
  refine r_callS (As := [.int (M.1 95 (tn (12 : Int32))), .int v1]) hX dX9_isUp_8 mk_Fm_has ms_Fm_has ml_9_179 rfl rfl rfl (Nat.le_of_ble_eq_true rfl) hr (ok_Fm_has (d := d + 0) (M.1 95 (tn (12 : Int32))) v1 M p3) ?_
  obtain rfl := Option.some.inj h
  exact r_iret hX hT dX9_isUp_11 (okI_b _).1
def Fm_beyond (v1 : Int32) (v2 : Int32) (M : Mm) : Option (Int32) :=
  bnd (Fm_isUp v1 M) (fun z1 =>
  if z1 = true then
    grd (inb ((16 : Int32) + v1) 12256) (
    if (M.1 95 (tn ((16 : Int32) + v1))) = v2 then
      grd (inb ((30 : Int32) + v1) 12256) (
      some (M.1 95 (tn ((30 : Int32) + v1))))
    else
      grd (inb ((30 : Int32) + v1) 12256) (
      if (M.1 95 (tn ((30 : Int32) + v1))) = v2 then
        grd (inb ((16 : Int32) + v1) 12256) (
        some (M.1 95 (tn ((16 : Int32) + v1))))
      else
        some (-1 : Int32)))
  else
    some (-1 : Int32))
set_option maxRecDepth 100000 in
theorem ok_Fm_beyond {G : Gm} {l : Launch} {d : Nat} (v1 : Int32) (v2 : Int32) (M : Mm) {z : Int32}  (h : Fm_beyond v1 v2 M = some z) : CK G l (d + 2) md_Fm_beyond [.ref 94, .int v1, .int v2] M SS (some (.int z)) M SS := by
  refine ck_of mk_Fm_beyond (Nat.le_of_ble_eq_true rfl) ⟨Nat.le_refl _, Nat.le_refl _⟩ (fun X hX hT hS hr hl => ?_)
  subst hl
  unfold Fm_beyond at h
  show WR G X (mQ G X (some (.int z)) M SS) 0 [.ref 94, .int v1, .int v2] [] M SS
  refine r_aload_n hX dX9_beyond_0 rfl ?_
  refine r_iload_n hX dX9_beyond_1 rfl ?_
  obtain ⟨z1, p2, h⟩ := bnd_s h
  refine r_callV (As := [.int v1]) hX dX9_beyond_2 mk_Fm_isUp mi_Fm_isUp ml_9_182 rfl rfl rfl rfl (by decide) (by decide) (Nat.le_of_ble_eq_true rfl) hr (ok_Fm_isUp (d := d + 0) v1 M p2) ?_
  refine r_ifb_ne (tgt := 10) hX dX9_beyond_5 (by decide) (fun g3 => ?_) (fun g3 => ?_)
  · have h := (if_pos g3).symm.trans h
    refine r_aload_n hX dX9_beyond_10 rfl ?_
    refine r_getf (v := .ref 95) hX dX9_beyond_11 fl_9_7 rfl (by decide) (by decide) rfl ?_
    refine r_bipush (v := (16 : Int32)) hX dX9_beyond_14 (by decide) ?_
    refine r_iload_n hX dX9_beyond_16 rfl ?_
    refine r_iadd hX dX9_beyond_17 ?_
    obtain ⟨k4, h⟩ := grd_s h
    refine r_iald hX dX9_beyond_18 rfl (by decide) (inb_at rfl k4) ?_
    refine r_iload_n hX dX9_beyond_19 rfl ?_
    refine r_icmp_ne (tgt := 35) hX dX9_beyond_20 (by decide) (fun g5 => ?_) (fun g5 => ?_)
    · have h := (if_neg g5).symm.trans h
      refine r_aload_n hX dX9_beyond_35 rfl ?_
      refine r_getf (v := .ref 95) hX dX9_beyond_36 fl_9_7 rfl (by decide) (by decide) rfl ?_
      refine r_bipush (v := (30 : Int32)) hX dX9_beyond_39 (by decide) ?_
      refine r_iload_n hX dX9_beyond_41 rfl ?_
      refine r_iadd hX dX9_beyond_42 ?_
      obtain ⟨k6, h⟩ := grd_s h
      refine r_iald hX dX9_beyond_43 rfl (by decide) (inb_at rfl k6) ?_
      refine r_iload_n hX dX9_beyond_44 rfl ?_
      refine r_icmp_ne (tgt := 60) hX dX9_beyond_45 (by decide) (fun g7 => ?_) (fun g7 => ?_)
      · have h := (if_neg g7).symm.trans h
        refine r_iconst (v := (-1 : Int32)) hX dX9_beyond_60 (by decide) ?_
        obtain rfl := Option.some.inj h
        exact r_iret hX hT dX9_beyond_61 rfl
      · have h := (if_pos g7).symm.trans h
        refine r_aload_n hX dX9_beyond_48 rfl ?_
        refine r_getf (v := .ref 95) hX dX9_beyond_49 fl_9_7 rfl (by decide) (by decide) rfl ?_
        refine r_bipush (v := (16 : Int32)) hX dX9_beyond_52 (by decide) ?_
        refine r_iload_n hX dX9_beyond_54 rfl ?_
        refine r_iadd hX dX9_beyond_55 ?_
        obtain ⟨k8, h⟩ := grd_s h
        refine r_iald hX dX9_beyond_56 rfl (by decide) (inb_at rfl k8) ?_
        refine r_goto (tgt := 61) hX dX9_beyond_57 (by decide) ?_
        obtain rfl := Option.some.inj h
        exact r_iret hX hT dX9_beyond_61 rfl
    · have h := (if_pos g5).symm.trans h
      refine r_aload_n hX dX9_beyond_23 rfl ?_
      refine r_getf (v := .ref 95) hX dX9_beyond_24 fl_9_7 rfl (by decide) (by decide) rfl ?_
      refine r_bipush (v := (30 : Int32)) hX dX9_beyond_27 (by decide) ?_
      refine r_iload_n hX dX9_beyond_29 rfl ?_
      refine r_iadd hX dX9_beyond_30 ?_
      obtain ⟨k9, h⟩ := grd_s h
      refine r_iald hX dX9_beyond_31 rfl (by decide) (inb_at rfl k9) ?_
      refine r_goto (tgt := 61) hX dX9_beyond_32 (by decide) ?_
      obtain rfl := Option.some.inj h
      exact r_iret hX hT dX9_beyond_61 rfl
  · have h := (if_neg (show ¬ z1 = true from fun e => by rw [g3] at e; cases e)).symm.trans h
    refine r_iconst (v := (-1 : Int32)) hX dX9_beyond_8 (by decide) ?_
    obtain rfl := Option.some.inj h
    exact r_iret hX hT dX9_beyond_9 rfl
def Fm_changes (b : Nat) (v1 : Int32) (M : Mm) : Option (Mm) :=
  grd (inb v1 5) (
  grd (inb (v1 - (1 : Int32)) 5) (
  grd (inb v1 5) (
  grd (inb (v1 - (1 : Int32)) 5) (
  some ((up2 (up2 M.1 b (tn v1) (M.1 b (tn (v1 - (1 : Int32))))) b (tn (v1 - (1 : Int32))) (M.1 b (tn v1))), M.2)))))
set_option maxRecDepth 100000 in
theorem ok_Fm_changes {G : Gm} {l : Launch} {d : Nat} (b : Nat) (v1 : Int32) (M : Mm) {z : Mm} (hb : isAr b) (h : Fm_changes b v1 M = some z) : CK G l (d + 0) md_Fm_changes [.ref b, .int v1] M SS (none) z SS := by
  refine ck_of mk_Fm_changes (Nat.le_of_ble_eq_true rfl) ⟨Nat.le_refl _, Nat.le_refl _⟩ (fun X hX hT hS hr hl => ?_)
  subst hl
  unfold Fm_changes at h
  show WR G X (mQ G X (none) z SS) 0 [.ref b, .int v1, vU] [] M SS
  refine r_aload_n hX dX9_changes_0 rfl ?_
  refine r_iload_n hX dX9_changes_1 rfl ?_
  obtain ⟨k1, h⟩ := grd_s h
  refine r_iald hX dX9_changes_2 (kdA0 hb) (ltA0 hb) (inb_at (lnA0 hb) k1) ?_
  refine r_istore_n (L1 := [.ref b, .int v1, .int (M.1 b (tn v1))]) hX dX9_changes_3 (Nat.le_of_ble_eq_true rfl) rfl ?_
  refine r_aload_n hX dX9_changes_4 rfl ?_
  refine r_iload_n hX dX9_changes_5 rfl ?_
  refine r_aload_n hX dX9_changes_6 rfl ?_
  refine r_iload_n hX dX9_changes_7 rfl ?_
  refine r_iconst (v := (1 : Int32)) hX dX9_changes_8 (by decide) ?_
  refine r_isub hX dX9_changes_9 ?_
  obtain ⟨k2, h⟩ := grd_s h
  refine r_iald hX dX9_changes_10 (kdA0 hb) (ltA0 hb) (inb_at (lnA0 hb) k2) ?_
  obtain ⟨k3, h⟩ := grd_s h
  refine r_iast hX dX9_changes_11 (kdA0 hb) (ltA0 hb) (inb_at (lnA0 hb) k3) ?_
  refine r_aload_n hX dX9_changes_12 rfl ?_
  refine r_iload_n hX dX9_changes_13 rfl ?_
  refine r_iconst (v := (1 : Int32)) hX dX9_changes_14 (by decide) ?_
  refine r_isub hX dX9_changes_15 ?_
  refine r_iload_n hX dX9_changes_16 rfl ?_
  obtain ⟨k4, h⟩ := grd_s h
  refine r_iast' hX dX9_changes_17 (kdA0 hb) (ltA0 hb) (inb_at (lnA0 hb) k4) ?_
  obtain rfl := Option.some.inj h
  exact r_vret hX hT dX9_changes_18
def Fm_isAhead (v1 : Int32) (v2 : Int32) (M : Mm) : Option (Bool) :=
  grd (inb v1 5) (
  grd (inb v2 5) (
  if (M.1 98 (tn v1)) = (M.1 98 (tn v2)) then
    grd (inb v1 5) (
    grd (inb v2 5) (
    if (M.1 100 (tn v1)) = (M.1 100 (tn v2)) then
      grd (inb v1 5) (
      grd (inb v2 5) (
      if (M.1 101 (tn v2)) ≤ (M.1 101 (tn v1)) then
        some false
      else
        some true))
    else
      grd (inb v1 5) (
      grd (inb v2 5) (
      if (M.1 100 (tn v2)) ≤ (M.1 100 (tn v1)) then
        some false
      else
        some true))))
  else
    grd (inb v1 5) (
    grd (inb v2 5) (
    if (M.1 98 (tn v2)) ≤ (M.1 98 (tn v1)) then
      some false
    else
      some true))))
set_option maxRecDepth 100000 in
theorem ok_Fm_isAhead {G : Gm} {l : Launch} {d : Nat} (v1 : Int32) (v2 : Int32) (M : Mm) {z : Bool}  (h : Fm_isAhead v1 v2 M = some z) : CK G l (d + 0) md_Fm_isAhead [.ref 94, .int v1, .int v2] M SS (some (.int (b2i z))) M SS := by
  refine ck_of mk_Fm_isAhead (Nat.le_of_ble_eq_true rfl) ⟨Nat.le_refl _, Nat.le_refl _⟩ (fun X hX hT hS hr hl => ?_)
  subst hl
  unfold Fm_isAhead at h
  show WR G X (mQ G X (some (.int (b2i z))) M SS) 0 [.ref 94, .int v1, .int v2] [] M SS
  refine r_aload_n hX dX9_isAhead_0 rfl ?_
  refine r_getf (v := .ref 98) hX dX9_isAhead_1 fl_9_20 rfl (by decide) (by decide) rfl ?_
  refine r_iload_n hX dX9_isAhead_4 rfl ?_
  obtain ⟨k1, h⟩ := grd_s h
  refine r_iald hX dX9_isAhead_5 rfl (by decide) (inb_at rfl k1) ?_
  refine r_aload_n hX dX9_isAhead_6 rfl ?_
  refine r_getf (v := .ref 98) hX dX9_isAhead_7 fl_9_20 rfl (by decide) (by decide) rfl ?_
  refine r_iload_n hX dX9_isAhead_10 rfl ?_
  obtain ⟨k2, h⟩ := grd_s h
  refine r_iald hX dX9_isAhead_11 rfl (by decide) (inb_at rfl k2) ?_
  refine r_icmp_eq (tgt := 36) hX dX9_isAhead_12 (by decide) (fun g3 => ?_) (fun g3 => ?_)
  · have h := (if_pos g3).symm.trans h
    refine r_aload_n hX dX9_isAhead_36 rfl ?_
    refine r_getf (v := .ref 100) hX dX9_isAhead_37 fl_9_26 rfl (by decide) (by decide) rfl ?_
    refine r_iload_n hX dX9_isAhead_40 rfl ?_
    obtain ⟨k4, h⟩ := grd_s h
    refine r_iald hX dX9_isAhead_41 rfl (by decide) (inb_at rfl k4) ?_
    refine r_aload_n hX dX9_isAhead_42 rfl ?_
    refine r_getf (v := .ref 100) hX dX9_isAhead_43 fl_9_26 rfl (by decide) (by decide) rfl ?_
    refine r_iload_n hX dX9_isAhead_46 rfl ?_
    obtain ⟨k5, h⟩ := grd_s h
    refine r_iald hX dX9_isAhead_47 rfl (by decide) (inb_at rfl k5) ?_
    refine r_icmp_eq (tgt := 74) hX dX9_isAhead_48 (by decide) (fun g6 => ?_) (fun g6 => ?_)
    · have h := (if_pos g6).symm.trans h
      refine r_aload_n hX dX9_isAhead_74 rfl ?_
      refine r_getf (v := .ref 101) hX dX9_isAhead_75 fl_9_29 rfl (by decide) (by decide) rfl ?_
      refine r_iload_n hX dX9_isAhead_78 rfl ?_
      obtain ⟨k7, h⟩ := grd_s h
      refine r_iald hX dX9_isAhead_79 rfl (by decide) (inb_at rfl k7) ?_
      refine r_aload_n hX dX9_isAhead_80 rfl ?_
      refine r_getf (v := .ref 101) hX dX9_isAhead_81 fl_9_29 rfl (by decide) (by decide) rfl ?_
      refine r_iload_n hX dX9_isAhead_84 rfl ?_
      obtain ⟨k8, h⟩ := grd_s h
      refine r_iald hX dX9_isAhead_85 rfl (by decide) (inb_at rfl k8) ?_
      refine r_icmp_ge (tgt := 93) hX dX9_isAhead_86 (by decide) (fun g9 => ?_) (fun g9 => ?_)
      · have h := (if_pos g9).symm.trans h
        refine r_iconst (v := (0 : Int32)) hX dX9_isAhead_93 (by decide) ?_
        obtain rfl := Option.some.inj h
        exact r_iret (v := b2i false) hX hT dX9_isAhead_94 (okI_b false).1
      · have h := (if_neg g9).symm.trans h
        refine r_iconst (v := (1 : Int32)) hX dX9_isAhead_89 (by decide) ?_
        refine r_goto (tgt := 94) hX dX9_isAhead_90 (by decide) ?_
        obtain rfl := Option.some.inj h
        exact r_iret (v := b2i true) hX hT dX9_isAhead_94 (okI_b true).1
    · have h := (if_neg g6).symm.trans h
      refine r_aload_n hX dX9_isAhead_51 rfl ?_
      refine r_getf (v := .ref 100) hX dX9_isAhead_52 fl_9_26 rfl (by decide) (by decide) rfl ?_
      refine r_iload_n hX dX9_isAhead_55 rfl ?_
      obtain ⟨k10, h⟩ := grd_s h
      refine r_iald hX dX9_isAhead_56 rfl (by decide) (inb_at rfl k10) ?_
      refine r_aload_n hX dX9_isAhead_57 rfl ?_
      refine r_getf (v := .ref 100) hX dX9_isAhead_58 fl_9_26 rfl (by decide) (by decide) rfl ?_
      refine r_iload_n hX dX9_isAhead_61 rfl ?_
      obtain ⟨k11, h⟩ := grd_s h
      refine r_iald hX dX9_isAhead_62 rfl (by decide) (inb_at rfl k11) ?_
      refine r_icmp_ge (tgt := 70) hX dX9_isAhead_63 (by decide) (fun g12 => ?_) (fun g12 => ?_)
      · have h := (if_pos g12).symm.trans h
        refine r_iconst (v := (0 : Int32)) hX dX9_isAhead_70 (by decide) ?_
        refine r_goto (tgt := 94) hX dX9_isAhead_71 (by decide) ?_
        obtain rfl := Option.some.inj h
        exact r_iret (v := b2i false) hX hT dX9_isAhead_94 (okI_b false).1
      · have h := (if_neg g12).symm.trans h
        refine r_iconst (v := (1 : Int32)) hX dX9_isAhead_66 (by decide) ?_
        refine r_goto (tgt := 94) hX dX9_isAhead_67 (by decide) ?_
        obtain rfl := Option.some.inj h
        exact r_iret (v := b2i true) hX hT dX9_isAhead_94 (okI_b true).1
  · have h := (if_neg g3).symm.trans h
    refine r_aload_n hX dX9_isAhead_15 rfl ?_
    refine r_getf (v := .ref 98) hX dX9_isAhead_16 fl_9_20 rfl (by decide) (by decide) rfl ?_
    refine r_iload_n hX dX9_isAhead_19 rfl ?_
    obtain ⟨k13, h⟩ := grd_s h
    refine r_iald hX dX9_isAhead_20 rfl (by decide) (inb_at rfl k13) ?_
    refine r_aload_n hX dX9_isAhead_21 rfl ?_
    refine r_getf (v := .ref 98) hX dX9_isAhead_22 fl_9_20 rfl (by decide) (by decide) rfl ?_
    refine r_iload_n hX dX9_isAhead_25 rfl ?_
    obtain ⟨k14, h⟩ := grd_s h
    refine r_iald hX dX9_isAhead_26 rfl (by decide) (inb_at rfl k14) ?_
    refine r_icmp_ge (tgt := 34) hX dX9_isAhead_27 (by decide) (fun g15 => ?_) (fun g15 => ?_)
    · have h := (if_pos g15).symm.trans h
      refine r_iconst (v := (0 : Int32)) hX dX9_isAhead_34 (by decide) ?_
      obtain rfl := Option.some.inj h
      exact r_iret (v := b2i false) hX hT dX9_isAhead_35 (okI_b false).1
    · have h := (if_neg g15).symm.trans h
      refine r_iconst (v := (1 : Int32)) hX dX9_isAhead_30 (by decide) ?_
      refine r_goto (tgt := 35) hX dX9_isAhead_31 (by decide) ?_
      obtain rfl := Option.some.inj h
      exact r_iret (v := b2i true) hX hT dX9_isAhead_35 (okI_b true).1
def Fm_ranks_b2 (v2 : Int32) (M : Mm) : Option ((Int32 × Mm) ⊕ (Mm)) :=
  if v2 ≤ (0 : Int32) then
    some (.inr M)
  else
    bnd (Fm_isAhead v2 (v2 - (1 : Int32)) M) (fun z2 =>
    if z2 = true then
      bnd (Fm_changes 98 v2 M) (fun z5 =>
      bnd (Fm_changes 99 v2 z5) (fun z7 =>
      bnd (Fm_changes 100 v2 z7) (fun z9 =>
      bnd (Fm_changes 101 v2 z9) (fun z11 =>
      some (.inl (v2 + (-1 : Int32), z11))))))
    else
      some (.inr M))
def Fm_ranks (n : Nat) (v1 : Int32) (M : Mm) : Option (Mm) :=
  bnd (loop (fun s1 : Int32 × Mm => Fm_ranks_b2 s1.1 s1.2) n (v1, M)) (fun y13 =>
  some y13)
set_option maxRecDepth 100000 in
theorem ok_Fm_ranks_b2 (n : Nat) (v2 : Int32) (M : Mm)  {z : Mm} {oo : (Int32 × Mm) ⊕ (Mm)} {G : Gm} {X : Cx} {d : Nat}  (hX : XK G X 9 cX9_ranks 3 (d + 1)) (hT : XT X (none) "ranks") (hr : XR X SS) (hc : ∀ s1 : Int32 × Mm, oo = .inl s1 → WR G X (mQ G X (none) z SS) 2 [.ref 94, vU, .int s1.1] [] s1.2 SS) (hx : ∀ x1 : Mm, oo = .inr x1 → WR G X (mQ G X (none) z SS) 55 [.ref 94, vU, vU] [] x1 SS) (h : Fm_ranks_b2 v2 M = some oo) : WR G X (mQ G X (none) z SS) 2 [.ref 94, vU, .int v2] [] M SS := by
  unfold Fm_ranks_b2 at h
  refine r_iload_n hX dX9_ranks_2 rfl ?_
  refine r_if_le (tgt := 55) hX dX9_ranks_3 (by decide) (fun g1 => ?_) (fun g1 => ?_)
  · have h := (if_pos g1).symm.trans h
    refine WR.fg (L' := [.ref 94, vU, vU]) ⟨Or.inr rfl, Or.inl rfl, Or.inl rfl, trivial⟩ ?_
    exact hx _ (Option.some.inj h).symm
  · have h := (if_neg g1).symm.trans h
    refine r_aload_n hX dX9_ranks_6 rfl ?_
    refine r_iload_n hX dX9_ranks_7 rfl ?_
    refine r_iload_n hX dX9_ranks_8 rfl ?_
    refine r_iconst (v := (1 : Int32)) hX dX9_ranks_9 (by decide) ?_
    refine r_isub hX dX9_ranks_10 ?_
    obtain ⟨z2, p3, h⟩ := bnd_s h
    refine r_callV (As := [.int v2, .int (v2 - (1 : Int32))]) hX dX9_ranks_11 mk_Fm_isAhead mi_Fm_isAhead ml_9_185 rfl rfl rfl rfl (by decide) (by decide) (Nat.le_of_ble_eq_true rfl) hr (ok_Fm_isAhead (d := d + 0) v2 (v2 - (1 : Int32)) M p3) ?_
    refine r_ifb_eq (tgt := 55) hX dX9_ranks_14 (by decide) (fun g4 => ?_) (fun g4 => ?_)
    · have h := (if_neg (show ¬ z2 = true from fun e => by rw [g4] at e; cases e)).symm.trans h
      refine WR.fg (L' := [.ref 94, vU, vU]) ⟨Or.inr rfl, Or.inl rfl, Or.inl rfl, trivial⟩ ?_
      exact hx _ (Option.some.inj h).symm
    · have h := (if_pos g4).symm.trans h
      refine r_aload_n hX dX9_ranks_17 rfl ?_
      refine r_getf (v := .ref 98) hX dX9_ranks_18 fl_9_20 rfl (by decide) (by decide) rfl ?_
      refine r_iload_n hX dX9_ranks_21 rfl ?_
      obtain ⟨z5, p6, h⟩ := bnd_s h
      refine r_callS (As := [.ref 98, .int v2]) hX dX9_ranks_22 mk_Fm_changes ms_Fm_changes ml_9_188 rfl rfl rfl (Nat.le_of_ble_eq_true rfl) hr (ok_Fm_changes (d := d + 0) 98 v2 M ar98 p6) ?_
      refine r_aload_n hX dX9_ranks_25 rfl ?_
      refine r_getf (v := .ref 99) hX dX9_ranks_26 fl_9_23 rfl (by decide) (by decide) rfl ?_
      refine r_iload_n hX dX9_ranks_29 rfl ?_
      obtain ⟨z7, p8, h⟩ := bnd_s h
      refine r_callS (As := [.ref 99, .int v2]) hX dX9_ranks_30 mk_Fm_changes ms_Fm_changes ml_9_188 rfl rfl rfl (Nat.le_of_ble_eq_true rfl) hr (ok_Fm_changes (d := d + 0) 99 v2 z5 ar99 p8) ?_
      refine r_aload_n hX dX9_ranks_33 rfl ?_
      refine r_getf (v := .ref 100) hX dX9_ranks_34 fl_9_26 rfl (by decide) (by decide) rfl ?_
      refine r_iload_n hX dX9_ranks_37 rfl ?_
      obtain ⟨z9, p10, h⟩ := bnd_s h
      refine r_callS (As := [.ref 100, .int v2]) hX dX9_ranks_38 mk_Fm_changes ms_Fm_changes ml_9_188 rfl rfl rfl (Nat.le_of_ble_eq_true rfl) hr (ok_Fm_changes (d := d + 0) 100 v2 z7 ar100 p10) ?_
      refine r_aload_n hX dX9_ranks_41 rfl ?_
      refine r_getf (v := .ref 101) hX dX9_ranks_42 fl_9_29 rfl (by decide) (by decide) rfl ?_
      refine r_iload_n hX dX9_ranks_45 rfl ?_
      obtain ⟨z11, p12, h⟩ := bnd_s h
      refine r_callS (As := [.ref 101, .int v2]) hX dX9_ranks_46 mk_Fm_changes ms_Fm_changes ml_9_188 rfl rfl rfl (Nat.le_of_ble_eq_true rfl) hr (ok_Fm_changes (d := d + 0) 101 v2 z9 ar101 p12) ?_
      refine r_iinc (v := v2 + (-1 : Int32)) (L1 := [.ref 94, vU, .int (v2 + (-1 : Int32))]) hX dX9_ranks_49 rfl rfl rfl ?_
      refine r_goto (tgt := 2) hX dX9_ranks_52 (by decide) ?_
      exact hc (v2 + (-1 : Int32), z11) (Option.some.inj h).symm
set_option maxRecDepth 100000 in
theorem ok_Fm_ranks {G : Gm} {l : Launch} {d : Nat} (n : Nat) (v1 : Int32) (M : Mm) {z : Mm}  (h : Fm_ranks n v1 M = some z) : CK G l (d + 1) md_Fm_ranks [.ref 94, .int v1] M SS (none) z SS := by
  refine ck_of mk_Fm_ranks (Nat.le_of_ble_eq_true rfl) ⟨Nat.le_refl _, Nat.le_refl _⟩ (fun X hX hT hS hr hl => ?_)
  subst hl
  unfold Fm_ranks at h
  show WR G X (mQ G X (none) z SS) 0 [.ref 94, .int v1, vU] [] M SS
  refine r_iload_n hX dX9_ranks_0 rfl ?_
  refine r_istore_n (L1 := [.ref 94, .int v1, .int v1]) hX dX9_ranks_1 (Nat.le_of_ble_eq_true rfl) rfl ?_
  refine WR.fg (L' := [.ref 94, vU, .int v1]) ⟨Or.inr rfl, Or.inl rfl, Or.inr rfl, trivial⟩ ?_
  obtain ⟨y13, h1, h⟩ := bnd_s h
  refine loop_ok (P := fun s1 : Int32 × Mm => WR G X (mQ G X (none) z SS) 2 [.ref 94, vU, .int s1.1] [] s1.2 SS) (E := fun x1 : Mm => WR G X (mQ G X (none) z SS) 55 [.ref 94, vU, vU] [] x1 SS) (fun s1 o1 g1 g2 g3 => ok_Fm_ranks_b2 n s1.1 s1.2  hX hT hr g2 g3 g1) n (v1, M) y13 h1 ?_
  show WR G X (mQ G X (none) z SS) 55 [.ref 94, vU, vU] [] y13 SS
  obtain rfl := Option.some.inj h
  exact r_vret hX hT dX9_ranks_55
def Fm_laysWay_b6 (c1 : Int32) (Mc : Mm) (v4 : Int32) (v5 : Int32) : Option ((Int32 × Int32) ⊕ (Int32)) :=
  if c1 < v5 then
    some (.inr v4)
  else
    grd (inb v5 9) (
    some (.inl (((8 : Int32) * v4) + (Mc.1 102 (tn v5)), v5 + (1 : Int32))))
def Fm_laysWay (n : Nat) (v1 : Int32) (v2 : Int32) (v3 : Int32) (M : Mm) : Option (Mm) :=
  bnd (loop (fun s1 : Int32 × Int32 => Fm_laysWay_b6 v1 M s1.1 s1.2) n ((0 : Int32), (0 : Int32))) (fun y3 =>
  grd (inb (M.1 94 19) 5) (
  grd (inb ((up2 M.1 98 (tn (M.1 94 19)) v3) 94 19) 5) (
  grd (inb ((up2 (up2 M.1 98 (tn (M.1 94 19)) v3) 99 (tn ((up2 M.1 98 (tn (M.1 94 19)) v3) 94 19)) v2) 94 19) 5) (
  grd (inb ((up2 (up2 (up2 M.1 98 (tn (M.1 94 19)) v3) 99 (tn ((up2 M.1 98 (tn (M.1 94 19)) v3) 94 19)) v2) 100 (tn ((up2 (up2 M.1 98 (tn (M.1 94 19)) v3) 99 (tn ((up2 M.1 98 (tn (M.1 94 19)) v3) 94 19)) v2) 94 19)) v1) 94 19) 5) (
  bnd (Fm_ranks n ((up2 (up2 (up2 (up2 M.1 98 (tn (M.1 94 19)) v3) 99 (tn ((up2 M.1 98 (tn (M.1 94 19)) v3) 94 19)) v2) 100 (tn ((up2 (up2 M.1 98 (tn (M.1 94 19)) v3) 99 (tn ((up2 M.1 98 (tn (M.1 94 19)) v3) 94 19)) v2) 94 19)) v1) 101 (tn ((up2 (up2 (up2 M.1 98 (tn (M.1 94 19)) v3) 99 (tn ((up2 M.1 98 (tn (M.1 94 19)) v3) 94 19)) v2) 100 (tn ((up2 (up2 M.1 98 (tn (M.1 94 19)) v3) 99 (tn ((up2 M.1 98 (tn (M.1 94 19)) v3) 94 19)) v2) 94 19)) v1) 94 19)) y3) 94 19) ((up2 (up2 (up2 (up2 M.1 98 (tn (M.1 94 19)) v3) 99 (tn ((up2 M.1 98 (tn (M.1 94 19)) v3) 94 19)) v2) 100 (tn ((up2 (up2 M.1 98 (tn (M.1 94 19)) v3) 99 (tn ((up2 M.1 98 (tn (M.1 94 19)) v3) 94 19)) v2) 94 19)) v1) 101 (tn ((up2 (up2 (up2 M.1 98 (tn (M.1 94 19)) v3) 99 (tn ((up2 M.1 98 (tn (M.1 94 19)) v3) 94 19)) v2) 100 (tn ((up2 (up2 M.1 98 (tn (M.1 94 19)) v3) 99 (tn ((up2 M.1 98 (tn (M.1 94 19)) v3) 94 19)) v2) 94 19)) v1) 94 19)) y3), M.2)) (fun z8 =>
  bnd (Fm_min (4 : Int32) ((z8.1 94 19) + (1 : Int32)) z8) (fun z10 =>
  some ((up2 z8.1 94 19 z10), z8.2))))))))
set_option maxRecDepth 100000 in
theorem ok_Fm_laysWay_b6 (n : Nat) (v4 : Int32) (v5 : Int32) {c1 : Int32} {c2 : Int32} {c3 : Int32} {Mc : Mm} {z : Mm} {oo : (Int32 × Int32) ⊕ (Int32)} {G : Gm} {X : Cx} {d : Nat}  (hX : XK G X 9 cX9_laysWay 6 (d + 2)) (hT : XT X (none) "laysWay") (hr : XR X SS) (hc : ∀ s1 : Int32 × Int32, oo = .inl s1 → WR G X (mQ G X (none) z SS) 6 [.ref 94, .int c1, .int c2, .int c3, .int s1.1, .int s1.2] [] Mc SS) (hx : ∀ x1 : Int32, oo = .inr x1 → WR G X (mQ G X (none) z SS) 33 [.ref 94, .int c1, .int c2, .int c3, .int x1, vU] [] Mc SS) (h : Fm_laysWay_b6 c1 Mc v4 v5 = some oo) : WR G X (mQ G X (none) z SS) 6 [.ref 94, .int c1, .int c2, .int c3, .int v4, .int v5] [] Mc SS := by
  unfold Fm_laysWay_b6 at h
  refine r_iload hX dX9_laysWay_6 rfl ?_
  refine r_iload_n hX dX9_laysWay_8 rfl ?_
  refine r_icmp_gt (tgt := 33) hX dX9_laysWay_9 (by decide) (fun g1 => ?_) (fun g1 => ?_)
  · have h := (if_pos g1).symm.trans h
    refine WR.fg (L' := [.ref 94, .int c1, .int c2, .int c3, .int v4, vU]) ⟨Or.inr rfl, Or.inr rfl, Or.inr rfl, Or.inr rfl, Or.inr rfl, Or.inl rfl, trivial⟩ ?_
    exact hx _ (Option.some.inj h).symm
  · have h := (if_neg g1).symm.trans h
    refine r_bipush (v := (8 : Int32)) hX dX9_laysWay_12 (by decide) ?_
    refine r_iload hX dX9_laysWay_14 rfl ?_
    refine r_imul hX dX9_laysWay_16 ?_
    refine r_aload_n hX dX9_laysWay_17 rfl ?_
    refine r_getf (v := .ref 102) hX dX9_laysWay_18 fl_9_32 rfl (by decide) (by decide) rfl ?_
    refine r_iload hX dX9_laysWay_21 rfl ?_
    obtain ⟨k2, h⟩ := grd_s h
    refine r_iald hX dX9_laysWay_23 rfl (by decide) (inb_at rfl k2) ?_
    refine r_iadd hX dX9_laysWay_24 ?_
    refine r_istore (L1 := [.ref 94, .int c1, .int c2, .int c3, .int (((8 : Int32) * v4) + (Mc.1 102 (tn v5))), .int v5]) hX dX9_laysWay_25 (Nat.le_of_ble_eq_true rfl) rfl ?_
    refine r_iinc (v := v5 + (1 : Int32)) (L1 := [.ref 94, .int c1, .int c2, .int c3, .int (((8 : Int32) * v4) + (Mc.1 102 (tn v5))), .int (v5 + (1 : Int32))]) hX dX9_laysWay_27 rfl rfl rfl ?_
    refine r_goto (tgt := 6) hX dX9_laysWay_30 (by decide) ?_
    exact hc (((8 : Int32) * v4) + (Mc.1 102 (tn v5)), v5 + (1 : Int32)) (Option.some.inj h).symm
set_option maxRecDepth 100000 in
theorem ok_Fm_laysWay {G : Gm} {l : Launch} {d : Nat} (n : Nat) (v1 : Int32) (v2 : Int32) (v3 : Int32) (M : Mm) {z : Mm}  (h : Fm_laysWay n v1 v2 v3 M = some z) : CK G l (d + 2) md_Fm_laysWay [.ref 94, .int v1, .int v2, .int v3] M SS (none) z SS := by
  refine ck_of mk_Fm_laysWay (Nat.le_of_ble_eq_true rfl) ⟨Nat.le_refl _, Nat.le_refl _⟩ (fun X hX hT hS hr hl => ?_)
  subst hl
  unfold Fm_laysWay at h
  show WR G X (mQ G X (none) z SS) 0 [.ref 94, .int v1, .int v2, .int v3, vU, vU] [] M SS
  refine r_iconst (v := (0 : Int32)) hX dX9_laysWay_0 (by decide) ?_
  refine r_istore (L1 := [.ref 94, .int v1, .int v2, .int v3, .int (0 : Int32), vU]) hX dX9_laysWay_1 (Nat.le_of_ble_eq_true rfl) rfl ?_
  refine r_iconst (v := (0 : Int32)) hX dX9_laysWay_3 (by decide) ?_
  refine r_istore (L1 := [.ref 94, .int v1, .int v2, .int v3, .int (0 : Int32), .int (0 : Int32)]) hX dX9_laysWay_4 (Nat.le_of_ble_eq_true rfl) rfl ?_
  obtain ⟨y3, h1, h⟩ := bnd_s h
  refine loop_ok (P := fun s1 : Int32 × Int32 => WR G X (mQ G X (none) z SS) 6 [.ref 94, .int v1, .int v2, .int v3, .int s1.1, .int s1.2] [] M SS) (E := fun x1 : Int32 => WR G X (mQ G X (none) z SS) 33 [.ref 94, .int v1, .int v2, .int v3, .int x1, vU] [] M SS) (fun s1 o1 g1 g2 g3 => ok_Fm_laysWay_b6 n s1.1 s1.2  hX hT hr g2 g3 g1) n ((0 : Int32), (0 : Int32)) y3 h1 ?_
  show WR G X (mQ G X (none) z SS) 33 [.ref 94, .int v1, .int v2, .int v3, .int y3, vU] [] M SS
  refine r_aload_n hX dX9_laysWay_33 rfl ?_
  refine r_getf (v := .ref 98) hX dX9_laysWay_34 fl_9_20 rfl (by decide) (by decide) rfl ?_
  refine r_aload_n hX dX9_laysWay_37 rfl ?_
  refine r_getf (v := .int (M.1 94 19)) hX dX9_laysWay_38 fl_9_192 rfl (by decide) (by decide) rfl ?_
  refine r_iload_n hX dX9_laysWay_41 rfl ?_
  obtain ⟨k4, h⟩ := grd_s h
  refine r_iast hX dX9_laysWay_42 rfl (by decide) (inb_at rfl k4) ?_
  refine r_aload_n hX dX9_laysWay_43 rfl ?_
  refine r_getf (v := .ref 99) hX dX9_laysWay_44 fl_9_23 rfl (by decide) (by decide) rfl ?_
  refine r_aload_n hX dX9_laysWay_47 rfl ?_
  refine r_getf (v := .int ((up2 M.1 98 (tn (M.1 94 19)) v3) 94 19)) hX dX9_laysWay_48 fl_9_192 rfl (by decide) (by decide) rfl ?_
  refine r_iload_n hX dX9_laysWay_51 rfl ?_
  obtain ⟨k5, h⟩ := grd_s h
  refine r_iast' hX dX9_laysWay_52 rfl (by decide) (inb_at rfl k5) ?_
  refine r_aload_n hX dX9_laysWay_53 rfl ?_
  refine r_getf (v := .ref 100) hX dX9_laysWay_54 fl_9_26 rfl (by decide) (by decide) rfl ?_
  refine r_aload_n hX dX9_laysWay_57 rfl ?_
  refine r_getf (v := .int ((up2 (up2 M.1 98 (tn (M.1 94 19)) v3) 99 (tn ((up2 M.1 98 (tn (M.1 94 19)) v3) 94 19)) v2) 94 19)) hX dX9_laysWay_58 fl_9_192 rfl (by decide) (by decide) rfl ?_
  refine r_iload_n hX dX9_laysWay_61 rfl ?_
  obtain ⟨k6, h⟩ := grd_s h
  refine r_iast' hX dX9_laysWay_62 rfl (by decide) (inb_at rfl k6) ?_
  refine r_aload_n hX dX9_laysWay_63 rfl ?_
  refine r_getf (v := .ref 101) hX dX9_laysWay_64 fl_9_29 rfl (by decide) (by decide) rfl ?_
  refine r_aload_n hX dX9_laysWay_67 rfl ?_
  refine r_getf (v := .int ((up2 (up2 (up2 M.1 98 (tn (M.1 94 19)) v3) 99 (tn ((up2 M.1 98 (tn (M.1 94 19)) v3) 94 19)) v2) 100 (tn ((up2 (up2 M.1 98 (tn (M.1 94 19)) v3) 99 (tn ((up2 M.1 98 (tn (M.1 94 19)) v3) 94 19)) v2) 94 19)) v1) 94 19)) hX dX9_laysWay_68 fl_9_192 rfl (by decide) (by decide) rfl ?_
  refine r_iload hX dX9_laysWay_71 rfl ?_
  obtain ⟨k7, h⟩ := grd_s h
  refine r_iast' hX dX9_laysWay_73 rfl (by decide) (inb_at rfl k7) ?_
  refine r_aload_n hX dX9_laysWay_74 rfl ?_
  refine r_aload_n hX dX9_laysWay_75 rfl ?_
  refine r_getf (v := .int ((up2 (up2 (up2 (up2 M.1 98 (tn (M.1 94 19)) v3) 99 (tn ((up2 M.1 98 (tn (M.1 94 19)) v3) 94 19)) v2) 100 (tn ((up2 (up2 M.1 98 (tn (M.1 94 19)) v3) 99 (tn ((up2 M.1 98 (tn (M.1 94 19)) v3) 94 19)) v2) 94 19)) v1) 101 (tn ((up2 (up2 (up2 M.1 98 (tn (M.1 94 19)) v3) 99 (tn ((up2 M.1 98 (tn (M.1 94 19)) v3) 94 19)) v2) 100 (tn ((up2 (up2 M.1 98 (tn (M.1 94 19)) v3) 99 (tn ((up2 M.1 98 (tn (M.1 94 19)) v3) 94 19)) v2) 94 19)) v1) 94 19)) y3) 94 19)) hX dX9_laysWay_76 fl_9_192 rfl (by decide) (by decide) rfl ?_
  obtain ⟨z8, p9, h⟩ := bnd_s h
  refine r_callV (As := [.int ((up2 (up2 (up2 (up2 M.1 98 (tn (M.1 94 19)) v3) 99 (tn ((up2 M.1 98 (tn (M.1 94 19)) v3) 94 19)) v2) 100 (tn ((up2 (up2 M.1 98 (tn (M.1 94 19)) v3) 99 (tn ((up2 M.1 98 (tn (M.1 94 19)) v3) 94 19)) v2) 94 19)) v1) 101 (tn ((up2 (up2 (up2 M.1 98 (tn (M.1 94 19)) v3) 99 (tn ((up2 M.1 98 (tn (M.1 94 19)) v3) 94 19)) v2) 100 (tn ((up2 (up2 M.1 98 (tn (M.1 94 19)) v3) 99 (tn ((up2 M.1 98 (tn (M.1 94 19)) v3) 94 19)) v2) 94 19)) v1) 94 19)) y3) 94 19)]) hX dX9_laysWay_79 mk_Fm_ranks mi_Fm_ranks ml_9_195 rfl rfl rfl rfl (by decide) (by decide) (Nat.le_of_ble_eq_true rfl) hr (ok_Fm_ranks (d := d + 0) n ((up2 (up2 (up2 (up2 M.1 98 (tn (M.1 94 19)) v3) 99 (tn ((up2 M.1 98 (tn (M.1 94 19)) v3) 94 19)) v2) 100 (tn ((up2 (up2 M.1 98 (tn (M.1 94 19)) v3) 99 (tn ((up2 M.1 98 (tn (M.1 94 19)) v3) 94 19)) v2) 94 19)) v1) 101 (tn ((up2 (up2 (up2 M.1 98 (tn (M.1 94 19)) v3) 99 (tn ((up2 M.1 98 (tn (M.1 94 19)) v3) 94 19)) v2) 100 (tn ((up2 (up2 M.1 98 (tn (M.1 94 19)) v3) 99 (tn ((up2 M.1 98 (tn (M.1 94 19)) v3) 94 19)) v2) 94 19)) v1) 94 19)) y3) 94 19) ((up2 (up2 (up2 (up2 M.1 98 (tn (M.1 94 19)) v3) 99 (tn ((up2 M.1 98 (tn (M.1 94 19)) v3) 94 19)) v2) 100 (tn ((up2 (up2 M.1 98 (tn (M.1 94 19)) v3) 99 (tn ((up2 M.1 98 (tn (M.1 94 19)) v3) 94 19)) v2) 94 19)) v1) 101 (tn ((up2 (up2 (up2 M.1 98 (tn (M.1 94 19)) v3) 99 (tn ((up2 M.1 98 (tn (M.1 94 19)) v3) 94 19)) v2) 100 (tn ((up2 (up2 M.1 98 (tn (M.1 94 19)) v3) 99 (tn ((up2 M.1 98 (tn (M.1 94 19)) v3) 94 19)) v2) 94 19)) v1) 94 19)) y3), M.2) p9) ?_
  refine r_aload_n hX dX9_laysWay_82 rfl ?_
  refine r_iconst (v := (4 : Int32)) hX dX9_laysWay_83 (by decide) ?_
  refine r_aload_n hX dX9_laysWay_84 rfl ?_
  refine r_getf (v := .int (z8.1 94 19)) hX dX9_laysWay_85 fl_9_192 rfl (by decide) (by decide) rfl ?_
  refine r_iconst (v := (1 : Int32)) hX dX9_laysWay_88 (by decide) ?_
  refine r_iadd hX dX9_laysWay_89 ?_
  obtain ⟨z10, p11, h⟩ := bnd_s h
  refine r_callS (As := [.int (4 : Int32), .int ((z8.1 94 19) + (1 : Int32))]) hX dX9_laysWay_90 mk_Fm_min ms_Fm_min ml_9_198 rfl rfl rfl (Nat.le_of_ble_eq_true rfl) hr (ok_Fm_min (d := d + 1) (4 : Int32) ((z8.1 94 19) + (1 : Int32)) z8 p11) ?_
  refine r_putI hX dX9_laysWay_93 fl_9_192 rfl (by decide) (by decide) (okI_int _) ?_
  obtain rfl := Option.some.inj h
  exact r_vret hX hT dX9_laysWay_96
def Fm_findsWays_j65 (v3 : Int32) (v4 : Int32) (v5 : Int32) (v6 : Int32) (M : Mm) : Option ((Int32 × Int32 × Int32 × Int32 × Mm) ⊕ (Mm)) :=
  if (v3 - (1 : Int32)) < (0 : Int32) then
    some (.inl (v3 - (1 : Int32), v4, v5, v6, M))
  else
    grd (inb ((v3 - (1 : Int32)) + (1 : Int32)) 9) (
    grd (inb (v3 - (1 : Int32)) 9) (
    grd (inb (v3 - (1 : Int32)) 9) (
    grd (inb (((44 : Int32) + (M.1 103 (tn (v3 - (1 : Int32))))) - (1 : Int32)) 12256) (
    some (.inl (v3 - (1 : Int32), v4 &&& (((1 : Int32) <<< (((M.1 103 (tn (v3 - (1 : Int32)))) - (1 : Int32)) &&& 31)) ^^^ (-1 : Int32)), v5 - (M.1 95 (tn (((44 : Int32) + (M.1 103 (tn (v3 - (1 : Int32))))) - (1 : Int32)))), v6 &&& (((1 : Int32) <<< ((M.1 102 (tn ((v3 - (1 : Int32)) + (1 : Int32)))) &&& 31)) ^^^ (-1 : Int32)), M))))))
def Fm_findsWays_j241 (v3 : Int32) (v4 : Int32) (v5 : Int32) (v6 : Int32) (M : Mm) : Option ((Int32 × Int32 × Int32 × Int32 × Mm) ⊕ (Mm)) :=
  some (.inl (v3, v4, v5, v6, M))
def Fm_findsWays_b32 (n : Nat) (c2 : Int32) (v3 : Int32) (v4 : Int32) (v5 : Int32) (v6 : Int32) (M : Mm) : Option ((Int32 × Int32 × Int32 × Int32 × Mm) ⊕ (Mm)) :=
  if v3 < (0 : Int32) then
    some (.inr M)
  else
    grd (inb v3 9) (
    grd (inb (3 : Int32) 12256) (
    if (M.1 103 (tn v3)) = (M.1 95 (tn (3 : Int32))) then
      Fm_findsWays_j65 v3 v4 v5 v6 M
    else
      grd (inb v3 9) (
      if (M.1 102 (tn v3)) = c2 then
        Fm_findsWays_j65 v3 v4 v5 v6 M
      else
        grd (inb v3 9) (
        grd (inb v3 9) (
        bnd (Fm_beyond (M.1 103 (tn v3)) ((up2 M.1 103 (tn v3) ((M.1 103 (tn v3)) + (1 : Int32))) 102 (tn v3)) ((up2 M.1 103 (tn v3) ((M.1 103 (tn v3)) + (1 : Int32))), M.2)) (fun z16 =>
        if z16 = (-1 : Int32) then
          some (.inl (v3, v4, v5, v6, ((up2 M.1 103 (tn v3) ((M.1 103 (tn v3)) + (1 : Int32))), M.2)))
        else
          bnd (Fm_has v6 z16 ((up2 M.1 103 (tn v3) ((M.1 103 (tn v3)) + (1 : Int32))), M.2)) (fun z19 =>
          if z19 = true then
            some (.inl (v3, v4, v5, v6, ((up2 M.1 103 (tn v3) ((M.1 103 (tn v3)) + (1 : Int32))), M.2)))
          else
            grd (inb (v3 + (1 : Int32)) 9) (
            grd (inb (v3 + (1 : Int32)) 9) (
            grd (inb ((44 : Int32) + (M.1 103 (tn v3))) 12256) (
            if z16 = c2 then
              bnd (Fm_laysWay n (v3 + (1 : Int32)) (v4 ||| ((1 : Int32) <<< ((M.1 103 (tn v3)) &&& 31))) (v5 + ((up2 (up2 (up2 M.1 103 (tn v3) ((M.1 103 (tn v3)) + (1 : Int32))) 102 (tn (v3 + (1 : Int32))) z16) 103 (tn (v3 + (1 : Int32))) (0 : Int32)) 95 (tn ((44 : Int32) + (M.1 103 (tn v3)))))) ((up2 (up2 (up2 M.1 103 (tn v3) ((M.1 103 (tn v3)) + (1 : Int32))) 102 (tn (v3 + (1 : Int32))) z16) 103 (tn (v3 + (1 : Int32))) (0 : Int32)), M.2)) (fun z26 =>
              Fm_findsWays_j241 (v3 + (1 : Int32)) (v4 ||| ((1 : Int32) <<< ((M.1 103 (tn v3)) &&& 31))) (v5 + ((up2 (up2 (up2 M.1 103 (tn v3) ((M.1 103 (tn v3)) + (1 : Int32))) 102 (tn (v3 + (1 : Int32))) z16) 103 (tn (v3 + (1 : Int32))) (0 : Int32)) 95 (tn ((44 : Int32) + (M.1 103 (tn v3)))))) (v6 ||| ((1 : Int32) <<< (z16 &&& 31))) z26)
            else
              Fm_findsWays_j241 (v3 + (1 : Int32)) (v4 ||| ((1 : Int32) <<< ((M.1 103 (tn v3)) &&& 31))) (v5 + ((up2 (up2 (up2 M.1 103 (tn v3) ((M.1 103 (tn v3)) + (1 : Int32))) 102 (tn (v3 + (1 : Int32))) z16) 103 (tn (v3 + (1 : Int32))) (0 : Int32)) 95 (tn ((44 : Int32) + (M.1 103 (tn v3)))))) (v6 ||| ((1 : Int32) <<< (z16 &&& 31))) ((up2 (up2 (up2 M.1 103 (tn v3) ((M.1 103 (tn v3)) + (1 : Int32))) 102 (tn (v3 + (1 : Int32))) z16) 103 (tn (v3 + (1 : Int32))) (0 : Int32)), M.2)))))))))))
def Fm_findsWays (n : Nat) (v1 : Int32) (v2 : Int32) (M : Mm) : Option (Mm) :=
  grd (inb (0 : Int32) 9) (
  grd (inb (0 : Int32) 9) (
  bnd (loop (fun s1 : Int32 × Int32 × Int32 × Int32 × Mm => Fm_findsWays_b32 n v2 s1.1 s1.2.1 s1.2.2.1 s1.2.2.2.1 s1.2.2.2.2) n ((0 : Int32), (0 : Int32), (0 : Int32), (1 : Int32) <<< (v1 &&& 31), ((up2 (up2 (up2 M.1 94 19 (0 : Int32)) 102 (tn (0 : Int32)) v1) 103 (tn (0 : Int32)) (0 : Int32)), M.2))) (fun y28 =>
  some y28)))
set_option maxRecDepth 100000 in
theorem ok_Fm_findsWays_j65 (n : Nat) (v3 : Int32) (v4 : Int32) (v5 : Int32) (v6 : Int32) (M : Mm) {c2 : Int32} {z : Mm} {oo : (Int32 × Int32 × Int32 × Int32 × Mm) ⊕ (Mm)} {G : Gm} {X : Cx} {d : Nat}  (hX : XK G X 9 cX9_findsWays 9 (d + 3)) (hT : XT X (none) "findsWays") (hr : XR X SS) (hc : ∀ s1 : Int32 × Int32 × Int32 × Int32 × Mm, oo = .inl s1 → WR G X (mQ G X (none) z SS) 32 [.ref 94, vU, .int c2, .int s1.1, .int s1.2.1, .int s1.2.2.1, .int s1.2.2.2.1, vU, vU] [] s1.2.2.2.2 SS) (hx : ∀ x1 : Mm, oo = .inr x1 → WR G X (mQ G X (none) z SS) 244 [.ref 94, vU, vU, vU, vU, vU, vU, vU, vU] [] x1 SS) (h : Fm_findsWays_j65 v3 v4 v5 v6 M = some oo) : WR G X (mQ G X (none) z SS) 65 [.ref 94, vU, .int c2, .int v3, .int v4, .int v5, .int v6, vU, vU] [] M SS := by
  unfold Fm_findsWays_j65 at h
  refine r_iload_n hX dX9_findsWays_65 rfl ?_
  refine r_iconst (v := (1 : Int32)) hX dX9_findsWays_66 (by decide) ?_
  refine r_isub hX dX9_findsWays_67 ?_
  refine r_istore_n (L1 := [.ref 94, vU, .int c2, .int (v3 - (1 : Int32)), .int v4, .int v5, .int v6, vU, vU]) hX dX9_findsWays_68 (Nat.le_of_ble_eq_true rfl) rfl ?_
  refine r_iload_n hX dX9_findsWays_69 rfl ?_
  refine r_if_lt (tgt := 32) hX dX9_findsWays_70 (by decide) (fun g7 => ?_) (fun g7 => ?_)
  · have h := (if_pos g7).symm.trans h
    exact hc (v3 - (1 : Int32), v4, v5, v6, M) (Option.some.inj h).symm
  · have h := (if_neg g7).symm.trans h
    refine r_iload hX dX9_findsWays_73 rfl ?_
    refine r_iconst (v := (1 : Int32)) hX dX9_findsWays_75 (by decide) ?_
    refine r_aload_n hX dX9_findsWays_76 rfl ?_
    refine r_getf (v := .ref 102) hX dX9_findsWays_77 fl_9_32 rfl (by decide) (by decide) rfl ?_
    refine r_iload_n hX dX9_findsWays_80 rfl ?_
    refine r_iconst (v := (1 : Int32)) hX dX9_findsWays_81 (by decide) ?_
    refine r_iadd hX dX9_findsWays_82 ?_
    obtain ⟨k8, h⟩ := grd_s h
    refine r_iald hX dX9_findsWays_83 rfl (by decide) (inb_at rfl k8) ?_
    refine r_ishl hX dX9_findsWays_84 ?_
    refine r_iconst (v := (-1 : Int32)) hX dX9_findsWays_85 (by decide) ?_
    refine r_ixor hX dX9_findsWays_86 ?_
    refine r_iand hX dX9_findsWays_87 ?_
    refine r_istore (L1 := [.ref 94, vU, .int c2, .int (v3 - (1 : Int32)), .int v4, .int v5, .int (v6 &&& (((1 : Int32) <<< ((M.1 102 (tn ((v3 - (1 : Int32)) + (1 : Int32)))) &&& 31)) ^^^ (-1 : Int32))), vU, vU]) hX dX9_findsWays_88 (Nat.le_of_ble_eq_true rfl) rfl ?_
    refine r_iload hX dX9_findsWays_90 rfl ?_
    refine r_iconst (v := (1 : Int32)) hX dX9_findsWays_92 (by decide) ?_
    refine r_aload_n hX dX9_findsWays_93 rfl ?_
    refine r_getf (v := .ref 103) hX dX9_findsWays_94 fl_9_35 rfl (by decide) (by decide) rfl ?_
    refine r_iload_n hX dX9_findsWays_97 rfl ?_
    obtain ⟨k9, h⟩ := grd_s h
    refine r_iald hX dX9_findsWays_98 rfl (by decide) (inb_at rfl k9) ?_
    refine r_iconst (v := (1 : Int32)) hX dX9_findsWays_99 (by decide) ?_
    refine r_isub hX dX9_findsWays_100 ?_
    refine r_ishl hX dX9_findsWays_101 ?_
    refine r_iconst (v := (-1 : Int32)) hX dX9_findsWays_102 (by decide) ?_
    refine r_ixor hX dX9_findsWays_103 ?_
    refine r_iand hX dX9_findsWays_104 ?_
    refine r_istore (L1 := [.ref 94, vU, .int c2, .int (v3 - (1 : Int32)), .int (v4 &&& (((1 : Int32) <<< (((M.1 103 (tn (v3 - (1 : Int32)))) - (1 : Int32)) &&& 31)) ^^^ (-1 : Int32))), .int v5, .int (v6 &&& (((1 : Int32) <<< ((M.1 102 (tn ((v3 - (1 : Int32)) + (1 : Int32)))) &&& 31)) ^^^ (-1 : Int32))), vU, vU]) hX dX9_findsWays_105 (Nat.le_of_ble_eq_true rfl) rfl ?_
    refine r_iload hX dX9_findsWays_107 rfl ?_
    refine r_aload_n hX dX9_findsWays_109 rfl ?_
    refine r_getf (v := .ref 95) hX dX9_findsWays_110 fl_9_7 rfl (by decide) (by decide) rfl ?_
    refine r_bipush (v := (44 : Int32)) hX dX9_findsWays_113 (by decide) ?_
    refine r_aload_n hX dX9_findsWays_115 rfl ?_
    refine r_getf (v := .ref 103) hX dX9_findsWays_116 fl_9_35 rfl (by decide) (by decide) rfl ?_
    refine r_iload_n hX dX9_findsWays_119 rfl ?_
    obtain ⟨k10, h⟩ := grd_s h
    refine r_iald hX dX9_findsWays_120 rfl (by decide) (inb_at rfl k10) ?_
    refine r_iadd hX dX9_findsWays_121 ?_
    refine r_iconst (v := (1 : Int32)) hX dX9_findsWays_122 (by decide) ?_
    refine r_isub hX dX9_findsWays_123 ?_
    obtain ⟨k11, h⟩ := grd_s h
    refine r_iald hX dX9_findsWays_124 rfl (by decide) (inb_at rfl k11) ?_
    refine r_isub hX dX9_findsWays_125 ?_
    refine r_istore (L1 := [.ref 94, vU, .int c2, .int (v3 - (1 : Int32)), .int (v4 &&& (((1 : Int32) <<< (((M.1 103 (tn (v3 - (1 : Int32)))) - (1 : Int32)) &&& 31)) ^^^ (-1 : Int32))), .int (v5 - (M.1 95 (tn (((44 : Int32) + (M.1 103 (tn (v3 - (1 : Int32))))) - (1 : Int32))))), .int (v6 &&& (((1 : Int32) <<< ((M.1 102 (tn ((v3 - (1 : Int32)) + (1 : Int32)))) &&& 31)) ^^^ (-1 : Int32))), vU, vU]) hX dX9_findsWays_126 (Nat.le_of_ble_eq_true rfl) rfl ?_
    refine r_goto (tgt := 32) hX dX9_findsWays_128 (by decide) ?_
    exact hc (v3 - (1 : Int32), v4 &&& (((1 : Int32) <<< (((M.1 103 (tn (v3 - (1 : Int32)))) - (1 : Int32)) &&& 31)) ^^^ (-1 : Int32)), v5 - (M.1 95 (tn (((44 : Int32) + (M.1 103 (tn (v3 - (1 : Int32))))) - (1 : Int32)))), v6 &&& (((1 : Int32) <<< ((M.1 102 (tn ((v3 - (1 : Int32)) + (1 : Int32)))) &&& 31)) ^^^ (-1 : Int32)), M) (Option.some.inj h).symm
set_option maxRecDepth 100000 in
theorem ok_Fm_findsWays_j241 (n : Nat) (v3 : Int32) (v4 : Int32) (v5 : Int32) (v6 : Int32) (M : Mm) {c2 : Int32} {z : Mm} {oo : (Int32 × Int32 × Int32 × Int32 × Mm) ⊕ (Mm)} {G : Gm} {X : Cx} {d : Nat}  (hX : XK G X 9 cX9_findsWays 9 (d + 3)) (hT : XT X (none) "findsWays") (hr : XR X SS) (hc : ∀ s1 : Int32 × Int32 × Int32 × Int32 × Mm, oo = .inl s1 → WR G X (mQ G X (none) z SS) 32 [.ref 94, vU, .int c2, .int s1.1, .int s1.2.1, .int s1.2.2.1, .int s1.2.2.2.1, vU, vU] [] s1.2.2.2.2 SS) (hx : ∀ x1 : Mm, oo = .inr x1 → WR G X (mQ G X (none) z SS) 244 [.ref 94, vU, vU, vU, vU, vU, vU, vU, vU] [] x1 SS) (h : Fm_findsWays_j241 v3 v4 v5 v6 M = some oo) : WR G X (mQ G X (none) z SS) 241 [.ref 94, vU, .int c2, .int v3, .int v4, .int v5, .int v6, vU, vU] [] M SS := by
  unfold Fm_findsWays_j241 at h
  refine r_goto (tgt := 32) hX dX9_findsWays_241 (by decide) ?_
  exact hc (v3, v4, v5, v6, M) (Option.some.inj h).symm
set_option maxRecDepth 100000 in
theorem ok_Fm_findsWays_b32 (n : Nat) (v3 : Int32) (v4 : Int32) (v5 : Int32) (v6 : Int32) (M : Mm) {c2 : Int32} {z : Mm} {oo : (Int32 × Int32 × Int32 × Int32 × Mm) ⊕ (Mm)} {G : Gm} {X : Cx} {d : Nat}  (hX : XK G X 9 cX9_findsWays 9 (d + 3)) (hT : XT X (none) "findsWays") (hr : XR X SS) (hc : ∀ s1 : Int32 × Int32 × Int32 × Int32 × Mm, oo = .inl s1 → WR G X (mQ G X (none) z SS) 32 [.ref 94, vU, .int c2, .int s1.1, .int s1.2.1, .int s1.2.2.1, .int s1.2.2.2.1, vU, vU] [] s1.2.2.2.2 SS) (hx : ∀ x1 : Mm, oo = .inr x1 → WR G X (mQ G X (none) z SS) 244 [.ref 94, vU, vU, vU, vU, vU, vU, vU, vU] [] x1 SS) (h : Fm_findsWays_b32 n c2 v3 v4 v5 v6 M = some oo) : WR G X (mQ G X (none) z SS) 32 [.ref 94, vU, .int c2, .int v3, .int v4, .int v5, .int v6, vU, vU] [] M SS := by
  unfold Fm_findsWays_b32 at h
  refine r_iload_n hX dX9_findsWays_32 rfl ?_
  refine r_if_lt (tgt := 244) hX dX9_findsWays_33 (by decide) (fun g3 => ?_) (fun g3 => ?_)
  · have h := (if_pos g3).symm.trans h
    refine WR.fg (L' := [.ref 94, vU, vU, vU, vU, vU, vU, vU, vU]) ⟨Or.inr rfl, Or.inl rfl, Or.inl rfl, Or.inl rfl, Or.inl rfl, Or.inl rfl, Or.inl rfl, Or.inl rfl, Or.inl rfl, trivial⟩ ?_
    exact hx _ (Option.some.inj h).symm
  · have h := (if_neg g3).symm.trans h
    refine r_aload_n hX dX9_findsWays_36 rfl ?_
    refine r_getf (v := .ref 103) hX dX9_findsWays_37 fl_9_35 rfl (by decide) (by decide) rfl ?_
    refine r_iload_n hX dX9_findsWays_40 rfl ?_
    obtain ⟨k4, h⟩ := grd_s h
    refine r_iald hX dX9_findsWays_41 rfl (by decide) (inb_at rfl k4) ?_
    refine r_istore (L1 := [.ref 94, vU, .int c2, .int v3, .int v4, .int v5, .int v6, .int (M.1 103 (tn v3)), vU]) hX dX9_findsWays_42 (Nat.le_of_ble_eq_true rfl) rfl ?_
    refine r_iload hX dX9_findsWays_44 rfl ?_
    refine r_aload_n hX dX9_findsWays_46 rfl ?_
    refine r_getf (v := .ref 95) hX dX9_findsWays_47 fl_9_7 rfl (by decide) (by decide) rfl ?_
    refine r_iconst (v := (3 : Int32)) hX dX9_findsWays_50 (by decide) ?_
    obtain ⟨k5, h⟩ := grd_s h
    refine r_iald hX dX9_findsWays_51 rfl (by decide) (inb_at rfl k5) ?_
    refine r_icmp_eq (tgt := 65) hX dX9_findsWays_52 (by decide) (fun g6 => ?_) (fun g6 => ?_)
    · have h := (if_pos g6).symm.trans h
      refine WR.fg (L' := [.ref 94, vU, .int c2, .int v3, .int v4, .int v5, .int v6, vU, vU]) ⟨Or.inr rfl, Or.inl rfl, Or.inr rfl, Or.inr rfl, Or.inr rfl, Or.inr rfl, Or.inr rfl, Or.inl rfl, Or.inl rfl, trivial⟩ ?_
      exact ok_Fm_findsWays_j65 n v3 v4 v5 v6 M   hX hT hr hc hx h
    · have h := (if_neg g6).symm.trans h
      refine r_aload_n hX dX9_findsWays_55 rfl ?_
      refine r_getf (v := .ref 102) hX dX9_findsWays_56 fl_9_32 rfl (by decide) (by decide) rfl ?_
      refine r_iload_n hX dX9_findsWays_59 rfl ?_
      obtain ⟨k12, h⟩ := grd_s h
      refine r_iald hX dX9_findsWays_60 rfl (by decide) (inb_at rfl k12) ?_
      refine r_iload_n hX dX9_findsWays_61 rfl ?_
      refine r_icmp_ne (tgt := 131) hX dX9_findsWays_62 (by decide) (fun g13 => ?_) (fun g13 => ?_)
      · have h := (if_neg g13).symm.trans h
        refine r_aload_n hX dX9_findsWays_131 rfl ?_
        refine r_getf (v := .ref 103) hX dX9_findsWays_132 fl_9_35 rfl (by decide) (by decide) rfl ?_
        refine r_iload_n hX dX9_findsWays_135 rfl ?_
        refine r_iload hX dX9_findsWays_136 rfl ?_
        refine r_iconst (v := (1 : Int32)) hX dX9_findsWays_138 (by decide) ?_
        refine r_iadd hX dX9_findsWays_139 ?_
        obtain ⟨k14, h⟩ := grd_s h
        refine r_iast hX dX9_findsWays_140 rfl (by decide) (inb_at rfl k14) ?_
        refine r_aload_n hX dX9_findsWays_141 rfl ?_
        refine r_iload hX dX9_findsWays_142 rfl ?_
        refine r_aload_n hX dX9_findsWays_144 rfl ?_
        refine r_getf (v := .ref 102) hX dX9_findsWays_145 fl_9_32 rfl (by decide) (by decide) rfl ?_
        refine r_iload_n hX dX9_findsWays_148 rfl ?_
        obtain ⟨k15, h⟩ := grd_s h
        refine r_iald' hX dX9_findsWays_149 rfl (by decide) (inb_at rfl k15) ?_
        obtain ⟨z16, p17, h⟩ := bnd_s h
        refine r_callV (As := [.int (M.1 103 (tn v3)), .int ((up2 M.1 103 (tn v3) ((M.1 103 (tn v3)) + (1 : Int32))) 102 (tn v3))]) hX dX9_findsWays_150 mk_Fm_beyond mi_Fm_beyond ml_9_201 rfl rfl rfl rfl (by decide) (by decide) (Nat.le_of_ble_eq_true rfl) hr (ok_Fm_beyond (d := d + 0) (M.1 103 (tn v3)) ((up2 M.1 103 (tn v3) ((M.1 103 (tn v3)) + (1 : Int32))) 102 (tn v3)) ((up2 M.1 103 (tn v3) ((M.1 103 (tn v3)) + (1 : Int32))), M.2) p17) ?_
        refine r_istore (L1 := [.ref 94, vU, .int c2, .int v3, .int v4, .int v5, .int v6, .int (M.1 103 (tn v3)), .int z16]) hX dX9_findsWays_153 (Nat.le_of_ble_eq_true rfl) rfl ?_
        refine r_iload hX dX9_findsWays_155 rfl ?_
        refine r_iconst (v := (-1 : Int32)) hX dX9_findsWays_157 (by decide) ?_
        refine r_icmp_eq (tgt := 32) hX dX9_findsWays_158 (by decide) (fun g18 => ?_) (fun g18 => ?_)
        · have h := (if_pos g18).symm.trans h
          refine WR.fg (L' := [.ref 94, vU, .int c2, .int v3, .int v4, .int v5, .int v6, vU, vU]) ⟨Or.inr rfl, Or.inl rfl, Or.inr rfl, Or.inr rfl, Or.inr rfl, Or.inr rfl, Or.inr rfl, Or.inl rfl, Or.inl rfl, trivial⟩ ?_
          exact hc (v3, v4, v5, v6, ((up2 M.1 103 (tn v3) ((M.1 103 (tn v3)) + (1 : Int32))), M.2)) (Option.some.inj h).symm
        · have h := (if_neg g18).symm.trans h
          refine r_iload hX dX9_findsWays_161 rfl ?_
          refine r_iload hX dX9_findsWays_163 rfl ?_
          obtain ⟨z19, p20, h⟩ := bnd_s h
          refine r_callS (As := [.int v6, .int z16]) hX dX9_findsWays_165 mk_Fm_has ms_Fm_has ml_9_179 rfl rfl rfl (Nat.le_of_ble_eq_true rfl) hr (ok_Fm_has (d := d + 2) v6 z16 ((up2 M.1 103 (tn v3) ((M.1 103 (tn v3)) + (1 : Int32))), M.2) p20) ?_
          refine r_ifb_eq (tgt := 174) hX dX9_findsWays_168 (by decide) (fun g21 => ?_) (fun g21 => ?_)
          · have h := (if_neg (show ¬ z19 = true from fun e => by rw [g21] at e; cases e)).symm.trans h
            refine r_iload_n hX dX9_findsWays_174 rfl ?_
            refine r_iconst (v := (1 : Int32)) hX dX9_findsWays_175 (by decide) ?_
            refine r_iadd hX dX9_findsWays_176 ?_
            refine r_istore_n (L1 := [.ref 94, vU, .int c2, .int (v3 + (1 : Int32)), .int v4, .int v5, .int v6, .int (M.1 103 (tn v3)), .int z16]) hX dX9_findsWays_177 (Nat.le_of_ble_eq_true rfl) rfl ?_
            refine r_aload_n hX dX9_findsWays_178 rfl ?_
            refine r_getf (v := .ref 102) hX dX9_findsWays_179 fl_9_32 rfl (by decide) (by decide) rfl ?_
            refine r_iload_n hX dX9_findsWays_182 rfl ?_
            refine r_iload hX dX9_findsWays_183 rfl ?_
            obtain ⟨k22, h⟩ := grd_s h
            refine r_iast' hX dX9_findsWays_185 rfl (by decide) (inb_at rfl k22) ?_
            refine r_aload_n hX dX9_findsWays_186 rfl ?_
            refine r_getf (v := .ref 103) hX dX9_findsWays_187 fl_9_35 rfl (by decide) (by decide) rfl ?_
            refine r_iload_n hX dX9_findsWays_190 rfl ?_
            refine r_iconst (v := (0 : Int32)) hX dX9_findsWays_191 (by decide) ?_
            obtain ⟨k23, h⟩ := grd_s h
            refine r_iast' hX dX9_findsWays_192 rfl (by decide) (inb_at rfl k23) ?_
            refine r_iload hX dX9_findsWays_193 rfl ?_
            refine r_iconst (v := (1 : Int32)) hX dX9_findsWays_195 (by decide) ?_
            refine r_iload hX dX9_findsWays_196 rfl ?_
            refine r_ishl hX dX9_findsWays_198 ?_
            refine r_ior hX dX9_findsWays_199 ?_
            refine r_istore (L1 := [.ref 94, vU, .int c2, .int (v3 + (1 : Int32)), .int v4, .int v5, .int (v6 ||| ((1 : Int32) <<< (z16 &&& 31))), .int (M.1 103 (tn v3)), .int z16]) hX dX9_findsWays_200 (Nat.le_of_ble_eq_true rfl) rfl ?_
            refine r_iload hX dX9_findsWays_202 rfl ?_
            refine r_iconst (v := (1 : Int32)) hX dX9_findsWays_204 (by decide) ?_
            refine r_iload hX dX9_findsWays_205 rfl ?_
            refine r_ishl hX dX9_findsWays_207 ?_
            refine r_ior hX dX9_findsWays_208 ?_
            refine r_istore (L1 := [.ref 94, vU, .int c2, .int (v3 + (1 : Int32)), .int (v4 ||| ((1 : Int32) <<< ((M.1 103 (tn v3)) &&& 31))), .int v5, .int (v6 ||| ((1 : Int32) <<< (z16 &&& 31))), .int (M.1 103 (tn v3)), .int z16]) hX dX9_findsWays_209 (Nat.le_of_ble_eq_true rfl) rfl ?_
            refine r_iload hX dX9_findsWays_211 rfl ?_
            refine r_aload_n hX dX9_findsWays_213 rfl ?_
            refine r_getf (v := .ref 95) hX dX9_findsWays_214 fl_9_7 rfl (by decide) (by decide) rfl ?_
            refine r_bipush (v := (44 : Int32)) hX dX9_findsWays_217 (by decide) ?_
            refine r_iload hX dX9_findsWays_219 rfl ?_
            refine r_iadd hX dX9_findsWays_221 ?_
            obtain ⟨k24, h⟩ := grd_s h
            refine r_iald' hX dX9_findsWays_222 rfl (by decide) (inb_at rfl k24) ?_
            refine r_iadd hX dX9_findsWays_223 ?_
            refine r_istore (L1 := [.ref 94, vU, .int c2, .int (v3 + (1 : Int32)), .int (v4 ||| ((1 : Int32) <<< ((M.1 103 (tn v3)) &&& 31))), .int (v5 + ((up2 (up2 (up2 M.1 103 (tn v3) ((M.1 103 (tn v3)) + (1 : Int32))) 102 (tn (v3 + (1 : Int32))) z16) 103 (tn (v3 + (1 : Int32))) (0 : Int32)) 95 (tn ((44 : Int32) + (M.1 103 (tn v3)))))), .int (v6 ||| ((1 : Int32) <<< (z16 &&& 31))), .int (M.1 103 (tn v3)), .int z16]) hX dX9_findsWays_224 (Nat.le_of_ble_eq_true rfl) rfl ?_
            refine r_iload hX dX9_findsWays_226 rfl ?_
            refine r_iload_n hX dX9_findsWays_228 rfl ?_
            refine r_icmp_ne (tgt := 241) hX dX9_findsWays_229 (by decide) (fun g25 => ?_) (fun g25 => ?_)
            · have h := (if_neg g25).symm.trans h
              refine WR.fg (L' := [.ref 94, vU, .int c2, .int (v3 + (1 : Int32)), .int (v4 ||| ((1 : Int32) <<< ((M.1 103 (tn v3)) &&& 31))), .int (v5 + ((up2 (up2 (up2 M.1 103 (tn v3) ((M.1 103 (tn v3)) + (1 : Int32))) 102 (tn (v3 + (1 : Int32))) z16) 103 (tn (v3 + (1 : Int32))) (0 : Int32)) 95 (tn ((44 : Int32) + (M.1 103 (tn v3)))))), .int (v6 ||| ((1 : Int32) <<< (z16 &&& 31))), vU, vU]) ⟨Or.inr rfl, Or.inl rfl, Or.inr rfl, Or.inr rfl, Or.inr rfl, Or.inr rfl, Or.inr rfl, Or.inl rfl, Or.inl rfl, trivial⟩ ?_
              exact ok_Fm_findsWays_j241 n (v3 + (1 : Int32)) (v4 ||| ((1 : Int32) <<< ((M.1 103 (tn v3)) &&& 31))) (v5 + ((up2 (up2 (up2 M.1 103 (tn v3) ((M.1 103 (tn v3)) + (1 : Int32))) 102 (tn (v3 + (1 : Int32))) z16) 103 (tn (v3 + (1 : Int32))) (0 : Int32)) 95 (tn ((44 : Int32) + (M.1 103 (tn v3)))))) (v6 ||| ((1 : Int32) <<< (z16 &&& 31))) ((up2 (up2 (up2 M.1 103 (tn v3) ((M.1 103 (tn v3)) + (1 : Int32))) 102 (tn (v3 + (1 : Int32))) z16) 103 (tn (v3 + (1 : Int32))) (0 : Int32)), M.2)   hX hT hr hc hx h
            · have h := (if_pos g25).symm.trans h
              refine r_aload_n hX dX9_findsWays_232 rfl ?_
              refine r_iload_n hX dX9_findsWays_233 rfl ?_
              refine r_iload hX dX9_findsWays_234 rfl ?_
              refine r_iload hX dX9_findsWays_236 rfl ?_
              obtain ⟨z26, p27, h⟩ := bnd_s h
              refine r_callV (As := [.int (v3 + (1 : Int32)), .int (v4 ||| ((1 : Int32) <<< ((M.1 103 (tn v3)) &&& 31))), .int (v5 + ((up2 (up2 (up2 M.1 103 (tn v3) ((M.1 103 (tn v3)) + (1 : Int32))) 102 (tn (v3 + (1 : Int32))) z16) 103 (tn (v3 + (1 : Int32))) (0 : Int32)) 95 (tn ((44 : Int32) + (M.1 103 (tn v3))))))]) hX dX9_findsWays_238 mk_Fm_laysWay mi_Fm_laysWay ml_9_204 rfl rfl rfl rfl (by decide) (by decide) (Nat.le_of_ble_eq_true rfl) hr (ok_Fm_laysWay (d := d + 0) n (v3 + (1 : Int32)) (v4 ||| ((1 : Int32) <<< ((M.1 103 (tn v3)) &&& 31))) (v5 + ((up2 (up2 (up2 M.1 103 (tn v3) ((M.1 103 (tn v3)) + (1 : Int32))) 102 (tn (v3 + (1 : Int32))) z16) 103 (tn (v3 + (1 : Int32))) (0 : Int32)) 95 (tn ((44 : Int32) + (M.1 103 (tn v3)))))) ((up2 (up2 (up2 M.1 103 (tn v3) ((M.1 103 (tn v3)) + (1 : Int32))) 102 (tn (v3 + (1 : Int32))) z16) 103 (tn (v3 + (1 : Int32))) (0 : Int32)), M.2) p27) ?_
              refine WR.fg (L' := [.ref 94, vU, .int c2, .int (v3 + (1 : Int32)), .int (v4 ||| ((1 : Int32) <<< ((M.1 103 (tn v3)) &&& 31))), .int (v5 + ((up2 (up2 (up2 M.1 103 (tn v3) ((M.1 103 (tn v3)) + (1 : Int32))) 102 (tn (v3 + (1 : Int32))) z16) 103 (tn (v3 + (1 : Int32))) (0 : Int32)) 95 (tn ((44 : Int32) + (M.1 103 (tn v3)))))), .int (v6 ||| ((1 : Int32) <<< (z16 &&& 31))), vU, vU]) ⟨Or.inr rfl, Or.inl rfl, Or.inr rfl, Or.inr rfl, Or.inr rfl, Or.inr rfl, Or.inr rfl, Or.inl rfl, Or.inl rfl, trivial⟩ ?_
              exact ok_Fm_findsWays_j241 n (v3 + (1 : Int32)) (v4 ||| ((1 : Int32) <<< ((M.1 103 (tn v3)) &&& 31))) (v5 + ((up2 (up2 (up2 M.1 103 (tn v3) ((M.1 103 (tn v3)) + (1 : Int32))) 102 (tn (v3 + (1 : Int32))) z16) 103 (tn (v3 + (1 : Int32))) (0 : Int32)) 95 (tn ((44 : Int32) + (M.1 103 (tn v3)))))) (v6 ||| ((1 : Int32) <<< (z16 &&& 31))) z26   hX hT hr hc hx h
          · have h := (if_pos g21).symm.trans h
            refine r_goto (tgt := 32) hX dX9_findsWays_171 (by decide) ?_
            refine WR.fg (L' := [.ref 94, vU, .int c2, .int v3, .int v4, .int v5, .int v6, vU, vU]) ⟨Or.inr rfl, Or.inl rfl, Or.inr rfl, Or.inr rfl, Or.inr rfl, Or.inr rfl, Or.inr rfl, Or.inl rfl, Or.inl rfl, trivial⟩ ?_
            exact hc (v3, v4, v5, v6, ((up2 M.1 103 (tn v3) ((M.1 103 (tn v3)) + (1 : Int32))), M.2)) (Option.some.inj h).symm
      · have h := (if_pos g13).symm.trans h
        refine WR.fg (L' := [.ref 94, vU, .int c2, .int v3, .int v4, .int v5, .int v6, vU, vU]) ⟨Or.inr rfl, Or.inl rfl, Or.inr rfl, Or.inr rfl, Or.inr rfl, Or.inr rfl, Or.inr rfl, Or.inl rfl, Or.inl rfl, trivial⟩ ?_
        exact ok_Fm_findsWays_j65 n v3 v4 v5 v6 M   hX hT hr hc hx h
set_option maxRecDepth 100000 in
theorem ok_Fm_findsWays {G : Gm} {l : Launch} {d : Nat} (n : Nat) (v1 : Int32) (v2 : Int32) (M : Mm) {z : Mm}  (h : Fm_findsWays n v1 v2 M = some z) : CK G l (d + 3) md_Fm_findsWays [.ref 94, .int v1, .int v2] M SS (none) z SS := by
  refine ck_of mk_Fm_findsWays (Nat.le_of_ble_eq_true rfl) ⟨Nat.le_refl _, Nat.le_refl _⟩ (fun X hX hT hS hr hl => ?_)
  subst hl
  unfold Fm_findsWays at h
  show WR G X (mQ G X (none) z SS) 0 [.ref 94, .int v1, .int v2, vU, vU, vU, vU, vU, vU] [] M SS
  refine r_aload_n hX dX9_findsWays_0 rfl ?_
  refine r_iconst (v := (0 : Int32)) hX dX9_findsWays_1 (by decide) ?_
  refine r_putI hX dX9_findsWays_2 fl_9_192 rfl (by decide) (by decide) (okI_int _) ?_
  refine r_iconst (v := (0 : Int32)) hX dX9_findsWays_5 (by decide) ?_
  refine r_istore_n (L1 := [.ref 94, .int v1, .int v2, .int (0 : Int32), vU, vU, vU, vU, vU]) hX dX9_findsWays_6 (Nat.le_of_ble_eq_true rfl) rfl ?_
  refine r_iconst (v := (0 : Int32)) hX dX9_findsWays_7 (by decide) ?_
  refine r_istore (L1 := [.ref 94, .int v1, .int v2, .int (0 : Int32), .int (0 : Int32), vU, vU, vU, vU]) hX dX9_findsWays_8 (Nat.le_of_ble_eq_true rfl) rfl ?_
  refine r_iconst (v := (0 : Int32)) hX dX9_findsWays_10 (by decide) ?_
  refine r_istore (L1 := [.ref 94, .int v1, .int v2, .int (0 : Int32), .int (0 : Int32), .int (0 : Int32), vU, vU, vU]) hX dX9_findsWays_11 (Nat.le_of_ble_eq_true rfl) rfl ?_
  refine r_iconst (v := (1 : Int32)) hX dX9_findsWays_13 (by decide) ?_
  refine r_iload_n hX dX9_findsWays_14 rfl ?_
  refine r_ishl hX dX9_findsWays_15 ?_
  refine r_istore (L1 := [.ref 94, .int v1, .int v2, .int (0 : Int32), .int (0 : Int32), .int (0 : Int32), .int ((1 : Int32) <<< (v1 &&& 31)), vU, vU]) hX dX9_findsWays_16 (Nat.le_of_ble_eq_true rfl) rfl ?_
  refine r_aload_n hX dX9_findsWays_18 rfl ?_
  refine r_getf (v := .ref 102) hX dX9_findsWays_19 fl_9_32 rfl (by decide) (by decide) rfl ?_
  refine r_iconst (v := (0 : Int32)) hX dX9_findsWays_22 (by decide) ?_
  refine r_iload_n hX dX9_findsWays_23 rfl ?_
  obtain ⟨k1, h⟩ := grd_s h
  refine r_iast' hX dX9_findsWays_24 rfl (by decide) (inb_at rfl k1) ?_
  refine r_aload_n hX dX9_findsWays_25 rfl ?_
  refine r_getf (v := .ref 103) hX dX9_findsWays_26 fl_9_35 rfl (by decide) (by decide) rfl ?_
  refine r_iconst (v := (0 : Int32)) hX dX9_findsWays_29 (by decide) ?_
  refine r_iconst (v := (0 : Int32)) hX dX9_findsWays_30 (by decide) ?_
  obtain ⟨k2, h⟩ := grd_s h
  refine r_iast' hX dX9_findsWays_31 rfl (by decide) (inb_at rfl k2) ?_
  refine WR.fg (L' := [.ref 94, vU, .int v2, .int (0 : Int32), .int (0 : Int32), .int (0 : Int32), .int ((1 : Int32) <<< (v1 &&& 31)), vU, vU]) ⟨Or.inr rfl, Or.inl rfl, Or.inr rfl, Or.inr rfl, Or.inr rfl, Or.inr rfl, Or.inr rfl, Or.inl rfl, Or.inl rfl, trivial⟩ ?_
  obtain ⟨y28, h1, h⟩ := bnd_s h
  refine loop_ok (P := fun s1 : Int32 × Int32 × Int32 × Int32 × Mm => WR G X (mQ G X (none) z SS) 32 [.ref 94, vU, .int v2, .int s1.1, .int s1.2.1, .int s1.2.2.1, .int s1.2.2.2.1, vU, vU] [] s1.2.2.2.2 SS) (E := fun x1 : Mm => WR G X (mQ G X (none) z SS) 244 [.ref 94, vU, vU, vU, vU, vU, vU, vU, vU] [] x1 SS) (fun s1 o1 g1 g2 g3 => ok_Fm_findsWays_b32 n s1.1 s1.2.1 s1.2.2.1 s1.2.2.2.1 s1.2.2.2.2  hX hT hr g2 g3 g1) n ((0 : Int32), (0 : Int32), (0 : Int32), (1 : Int32) <<< (v1 &&& 31), ((up2 (up2 (up2 M.1 94 19 (0 : Int32)) 102 (tn (0 : Int32)) v1) 103 (tn (0 : Int32)) (0 : Int32)), M.2)) y28 h1 ?_
  show WR G X (mQ G X (none) z SS) 244 [.ref 94, vU, vU, vU, vU, vU, vU, vU, vU] [] y28 SS
  obtain rfl := Option.some.inj h
  exact r_vret hX hT dX9_findsWays_244
def Fm_formatBy_j24 (v2 : Int32) (v3 : Int32) : Option ((Int32 × Int32) ⊕ (Int32)) :=
  some (.inl (v2, v3 + (1 : Int32)))
def Fm_formatBy_b4 (c1 : Int32) (Mc : Mm) (v2 : Int32) (v3 : Int32) : Option ((Int32 × Int32) ⊕ (Int32)) :=
  if (4 : Int32) ≤ v3 then
    some (.inr v2)
  else
    grd (inb ((8 : Int32) + v3) 12256) (
    if (Mc.1 95 (tn ((8 : Int32) + v3))) < c1 then
      Fm_formatBy_j24 v2 v3
    else
      Fm_formatBy_j24 v3 v3)
def Fm_formatBy (n : Nat) (v1 : Int32) (M : Mm) : Option (Int32) :=
  bnd (loop (fun s1 : Int32 × Int32 => Fm_formatBy_b4 v1 M s1.1 s1.2) n ((-1 : Int32), (0 : Int32))) (fun y4 =>
  some y4)
set_option maxRecDepth 100000 in
theorem ok_Fm_formatBy_j24 (n : Nat) (v2 : Int32) (v3 : Int32) {c1 : Int32} {Mc : Mm} {z : Int32} {oo : (Int32 × Int32) ⊕ (Int32)} {G : Gm} {X : Cx} {d : Nat}  (hX : XK G X 9 cX9_formatBy 4 (d + 0)) (hT : XT X (some .int) "formatBy") (hr : XR X SS) (hc : ∀ s1 : Int32 × Int32, oo = .inl s1 → WR G X (mQ G X (some (.int z)) Mc SS) 4 [.ref 94, .int c1, .int s1.1, .int s1.2] [] Mc SS) (hx : ∀ x1 : Int32, oo = .inr x1 → WR G X (mQ G X (some (.int z)) Mc SS) 30 [.ref 94, vU, .int x1, vU] [] Mc SS) (h : Fm_formatBy_j24 v2 v3 = some oo) : WR G X (mQ G X (some (.int z)) Mc SS) 24 [.ref 94, .int c1, .int v2, .int v3] [] Mc SS := by
  unfold Fm_formatBy_j24 at h
  refine r_iinc (v := v3 + (1 : Int32)) (L1 := [.ref 94, .int c1, .int v2, .int (v3 + (1 : Int32))]) hX dX9_formatBy_24 rfl rfl rfl ?_
  refine r_goto (tgt := 4) hX dX9_formatBy_27 (by decide) ?_
  exact hc (v2, v3 + (1 : Int32)) (Option.some.inj h).symm
set_option maxRecDepth 100000 in
theorem ok_Fm_formatBy_b4 (n : Nat) (v2 : Int32) (v3 : Int32) {c1 : Int32} {Mc : Mm} {z : Int32} {oo : (Int32 × Int32) ⊕ (Int32)} {G : Gm} {X : Cx} {d : Nat}  (hX : XK G X 9 cX9_formatBy 4 (d + 0)) (hT : XT X (some .int) "formatBy") (hr : XR X SS) (hc : ∀ s1 : Int32 × Int32, oo = .inl s1 → WR G X (mQ G X (some (.int z)) Mc SS) 4 [.ref 94, .int c1, .int s1.1, .int s1.2] [] Mc SS) (hx : ∀ x1 : Int32, oo = .inr x1 → WR G X (mQ G X (some (.int z)) Mc SS) 30 [.ref 94, vU, .int x1, vU] [] Mc SS) (h : Fm_formatBy_b4 c1 Mc v2 v3 = some oo) : WR G X (mQ G X (some (.int z)) Mc SS) 4 [.ref 94, .int c1, .int v2, .int v3] [] Mc SS := by
  unfold Fm_formatBy_b4 at h
  refine r_iload_n hX dX9_formatBy_4 rfl ?_
  refine r_iconst (v := (4 : Int32)) hX dX9_formatBy_5 (by decide) ?_
  refine r_icmp_ge (tgt := 30) hX dX9_formatBy_6 (by decide) (fun g1 => ?_) (fun g1 => ?_)
  · have h := (if_pos g1).symm.trans h
    refine WR.fg (L' := [.ref 94, vU, .int v2, vU]) ⟨Or.inr rfl, Or.inl rfl, Or.inr rfl, Or.inl rfl, trivial⟩ ?_
    exact hx _ (Option.some.inj h).symm
  · have h := (if_neg g1).symm.trans h
    refine r_aload_n hX dX9_formatBy_9 rfl ?_
    refine r_getf (v := .ref 95) hX dX9_formatBy_10 fl_9_7 rfl (by decide) (by decide) rfl ?_
    refine r_bipush (v := (8 : Int32)) hX dX9_formatBy_13 (by decide) ?_
    refine r_iload_n hX dX9_formatBy_15 rfl ?_
    refine r_iadd hX dX9_formatBy_16 ?_
    obtain ⟨k2, h⟩ := grd_s h
    refine r_iald hX dX9_formatBy_17 rfl (by decide) (inb_at rfl k2) ?_
    refine r_iload_n hX dX9_formatBy_18 rfl ?_
    refine r_icmp_lt (tgt := 24) hX dX9_formatBy_19 (by decide) (fun g3 => ?_) (fun g3 => ?_)
    · have h := (if_pos g3).symm.trans h
      exact ok_Fm_formatBy_j24 n v2 v3   hX hT hr hc hx h
    · have h := (if_neg g3).symm.trans h
      refine r_iload_n hX dX9_formatBy_22 rfl ?_
      refine r_istore_n (L1 := [.ref 94, .int c1, .int v3, .int v3]) hX dX9_formatBy_23 (Nat.le_of_ble_eq_true rfl) rfl ?_
      exact ok_Fm_formatBy_j24 n v3 v3   hX hT hr hc hx h
set_option maxRecDepth 100000 in
theorem ok_Fm_formatBy {G : Gm} {l : Launch} {d : Nat} (n : Nat) (v1 : Int32) (M : Mm) {z : Int32}  (h : Fm_formatBy n v1 M = some z) : CK G l (d + 0) md_Fm_formatBy [.ref 94, .int v1] M SS (some (.int z)) M SS := by
  refine ck_of mk_Fm_formatBy (Nat.le_of_ble_eq_true rfl) ⟨Nat.le_refl _, Nat.le_refl _⟩ (fun X hX hT hS hr hl => ?_)
  subst hl
  unfold Fm_formatBy at h
  show WR G X (mQ G X (some (.int z)) M SS) 0 [.ref 94, .int v1, vU, vU] [] M SS
  refine r_iconst (v := (-1 : Int32)) hX dX9_formatBy_0 (by decide) ?_
  refine r_istore_n (L1 := [.ref 94, .int v1, .int (-1 : Int32), vU]) hX dX9_formatBy_1 (Nat.le_of_ble_eq_true rfl) rfl ?_
  refine r_iconst (v := (0 : Int32)) hX dX9_formatBy_2 (by decide) ?_
  refine r_istore_n (L1 := [.ref 94, .int v1, .int (-1 : Int32), .int (0 : Int32)]) hX dX9_formatBy_3 (Nat.le_of_ble_eq_true rfl) rfl ?_
  obtain ⟨y4, h1, h⟩ := bnd_s h
  refine loop_ok (P := fun s1 : Int32 × Int32 => WR G X (mQ G X (some (.int z)) M SS) 4 [.ref 94, .int v1, .int s1.1, .int s1.2] [] M SS) (E := fun x1 : Int32 => WR G X (mQ G X (some (.int z)) M SS) 30 [.ref 94, vU, .int x1, vU] [] M SS) (fun s1 o1 g1 g2 g3 => ok_Fm_formatBy_b4 n s1.1 s1.2  hX hT hr g2 g3 g1) n ((-1 : Int32), (0 : Int32)) y4 h1 ?_
  show WR G X (mQ G X (some (.int z)) M SS) 30 [.ref 94, vU, .int y4, vU] [] M SS
  refine r_iload_n hX dX9_formatBy_30 rfl ?_
  obtain rfl := Option.some.inj h
  exact r_iret hX hT dX9_formatBy_31 rfl
def Fm_widthOn (n : Nat) (v1 : Int32) (v2 : Int32) (M : Mm) : Option (Int32) :=
  grd (inb v1 5) (
  bnd (Fm_formatBy n (M.1 98 (tn v1)) M) (fun z2 =>
  if z2 = (-1 : Int32) then
    some (-1 : Int32)
  else
    grd (nz (z2 + (1 : Int32))) (
    some ((v2 + z2) / (z2 + (1 : Int32))))))
set_option maxRecDepth 100000 in
theorem ok_Fm_widthOn {G : Gm} {l : Launch} {d : Nat} (n : Nat) (v1 : Int32) (v2 : Int32) (M : Mm) {z : Int32}  (h : Fm_widthOn n v1 v2 M = some z) : CK G l (d + 1) md_Fm_widthOn [.ref 94, .int v1, .int v2] M SS (some (.int z)) M SS := by
  refine ck_of mk_Fm_widthOn (Nat.le_of_ble_eq_true rfl) ⟨Nat.le_refl _, Nat.le_refl _⟩ (fun X hX hT hS hr hl => ?_)
  subst hl
  unfold Fm_widthOn at h
  show WR G X (mQ G X (some (.int z)) M SS) 0 [.ref 94, .int v1, .int v2, vU] [] M SS
  refine r_aload_n hX dX9_widthOn_0 rfl ?_
  refine r_aload_n hX dX9_widthOn_1 rfl ?_
  refine r_getf (v := .ref 98) hX dX9_widthOn_2 fl_9_20 rfl (by decide) (by decide) rfl ?_
  refine r_iload_n hX dX9_widthOn_5 rfl ?_
  obtain ⟨k1, h⟩ := grd_s h
  refine r_iald hX dX9_widthOn_6 rfl (by decide) (inb_at rfl k1) ?_
  obtain ⟨z2, p3, h⟩ := bnd_s h
  refine r_callV (As := [.int (M.1 98 (tn v1))]) hX dX9_widthOn_7 mk_Fm_formatBy mi_Fm_formatBy ml_9_208 rfl rfl rfl rfl (by decide) (by decide) (Nat.le_of_ble_eq_true rfl) hr (ok_Fm_formatBy (d := d + 0) n (M.1 98 (tn v1)) M p3) ?_
  refine r_istore_n (L1 := [.ref 94, .int v1, .int v2, .int z2]) hX dX9_widthOn_10 (Nat.le_of_ble_eq_true rfl) rfl ?_
  refine r_iload_n hX dX9_widthOn_11 rfl ?_
  refine r_iconst (v := (-1 : Int32)) hX dX9_widthOn_12 (by decide) ?_
  refine r_icmp_ne (tgt := 20) hX dX9_widthOn_13 (by decide) (fun g4 => ?_) (fun g4 => ?_)
  · have h := (if_neg g4).symm.trans h
    refine r_iload_n hX dX9_widthOn_20 rfl ?_
    refine r_iload_n hX dX9_widthOn_21 rfl ?_
    refine r_iadd hX dX9_widthOn_22 ?_
    refine r_iload_n hX dX9_widthOn_23 rfl ?_
    refine r_iconst (v := (1 : Int32)) hX dX9_widthOn_24 (by decide) ?_
    refine r_iadd hX dX9_widthOn_25 ?_
    obtain ⟨k5, h⟩ := grd_s h
    refine r_idiv hX dX9_widthOn_26 (nz_ne k5) ?_
    obtain rfl := Option.some.inj h
    exact r_iret hX hT dX9_widthOn_27 rfl
  · have h := (if_pos g4).symm.trans h
    refine r_iconst (v := (-1 : Int32)) hX dX9_widthOn_16 (by decide) ?_
    refine r_goto (tgt := 27) hX dX9_widthOn_17 (by decide) ?_
    obtain rfl := Option.some.inj h
    exact r_iret hX hT dX9_widthOn_27 rfl
def Fm_areNodes (v1 : Int32) (v2 : Int32) (M : Mm) : Option (Bool) :=
  grd (inb (0 : Int32) 12256) (
  bnd (Fm_in v1 (0 : Int32) ((M.1 95 (tn (0 : Int32))) - (1 : Int32)) M) (fun z2 =>
  if z2 = true then
    grd (inb (0 : Int32) 12256) (
    bnd (Fm_in v2 (0 : Int32) ((M.1 95 (tn (0 : Int32))) - (1 : Int32)) M) (fun z6 =>
    if z6 = true then
      if v1 = v2 then
        some false
      else
        some true
    else
      some false))
  else
    some false))
set_option maxRecDepth 100000 in
theorem ok_Fm_areNodes {G : Gm} {l : Launch} {d : Nat} (v1 : Int32) (v2 : Int32) (M : Mm) {z : Bool}  (h : Fm_areNodes v1 v2 M = some z) : CK G l (d + 1) md_Fm_areNodes [.ref 94, .int v1, .int v2] M SS (some (.int (b2i z))) M SS := by
  refine ck_of mk_Fm_areNodes (Nat.le_of_ble_eq_true rfl) ⟨Nat.le_refl _, Nat.le_refl _⟩ (fun X hX hT hS hr hl => ?_)
  subst hl
  unfold Fm_areNodes at h
  show WR G X (mQ G X (some (.int (b2i z))) M SS) 0 [.ref 94, .int v1, .int v2] [] M SS
  refine r_iload_n hX dX9_areNodes_0 rfl ?_
  refine r_iconst (v := (0 : Int32)) hX dX9_areNodes_1 (by decide) ?_
  refine r_aload_n hX dX9_areNodes_2 rfl ?_
  refine r_getf (v := .ref 95) hX dX9_areNodes_3 fl_9_7 rfl (by decide) (by decide) rfl ?_
  refine r_iconst (v := (0 : Int32)) hX dX9_areNodes_6 (by decide) ?_
  obtain ⟨k1, h⟩ := grd_s h
  refine r_iald hX dX9_areNodes_7 rfl (by decide) (inb_at rfl k1) ?_
  refine r_iconst (v := (1 : Int32)) hX dX9_areNodes_8 (by decide) ?_
  refine r_isub hX dX9_areNodes_9 ?_
  obtain ⟨z2, p3, h⟩ := bnd_s h
  refine r_callS (As := [.int v1, .int (0 : Int32), .int ((M.1 95 (tn (0 : Int32))) - (1 : Int32))]) hX dX9_areNodes_10 mk_Fm_in ms_Fm_in ml_9_83 rfl rfl rfl (Nat.le_of_ble_eq_true rfl) hr (ok_Fm_in (d := d + 0) v1 (0 : Int32) ((M.1 95 (tn (0 : Int32))) - (1 : Int32)) M p3) ?_
  refine r_ifb_eq (tgt := 41) hX dX9_areNodes_13 (by decide) (fun g4 => ?_) (fun g4 => ?_)
  · have h := (if_neg (show ¬ z2 = true from fun e => by rw [g4] at e; cases e)).symm.trans h
    refine r_iconst (v := (0 : Int32)) hX dX9_areNodes_41 (by decide) ?_
    obtain rfl := Option.some.inj h
    exact r_iret (v := b2i false) hX hT dX9_areNodes_42 (okI_b false).1
  · have h := (if_pos g4).symm.trans h
    refine r_iload_n hX dX9_areNodes_16 rfl ?_
    refine r_iconst (v := (0 : Int32)) hX dX9_areNodes_17 (by decide) ?_
    refine r_aload_n hX dX9_areNodes_18 rfl ?_
    refine r_getf (v := .ref 95) hX dX9_areNodes_19 fl_9_7 rfl (by decide) (by decide) rfl ?_
    refine r_iconst (v := (0 : Int32)) hX dX9_areNodes_22 (by decide) ?_
    obtain ⟨k5, h⟩ := grd_s h
    refine r_iald hX dX9_areNodes_23 rfl (by decide) (inb_at rfl k5) ?_
    refine r_iconst (v := (1 : Int32)) hX dX9_areNodes_24 (by decide) ?_
    refine r_isub hX dX9_areNodes_25 ?_
    obtain ⟨z6, p7, h⟩ := bnd_s h
    refine r_callS (As := [.int v2, .int (0 : Int32), .int ((M.1 95 (tn (0 : Int32))) - (1 : Int32))]) hX dX9_areNodes_26 mk_Fm_in ms_Fm_in ml_9_83 rfl rfl rfl (Nat.le_of_ble_eq_true rfl) hr (ok_Fm_in (d := d + 0) v2 (0 : Int32) ((M.1 95 (tn (0 : Int32))) - (1 : Int32)) M p7) ?_
    refine r_ifb_eq (tgt := 41) hX dX9_areNodes_29 (by decide) (fun g8 => ?_) (fun g8 => ?_)
    · have h := (if_neg (show ¬ z6 = true from fun e => by rw [g8] at e; cases e)).symm.trans h
      refine r_iconst (v := (0 : Int32)) hX dX9_areNodes_41 (by decide) ?_
      obtain rfl := Option.some.inj h
      exact r_iret (v := b2i false) hX hT dX9_areNodes_42 (okI_b false).1
    · have h := (if_pos g8).symm.trans h
      refine r_iload_n hX dX9_areNodes_32 rfl ?_
      refine r_iload_n hX dX9_areNodes_33 rfl ?_
      refine r_icmp_eq (tgt := 41) hX dX9_areNodes_34 (by decide) (fun g9 => ?_) (fun g9 => ?_)
      · have h := (if_pos g9).symm.trans h
        refine r_iconst (v := (0 : Int32)) hX dX9_areNodes_41 (by decide) ?_
        obtain rfl := Option.some.inj h
        exact r_iret (v := b2i false) hX hT dX9_areNodes_42 (okI_b false).1
      · have h := (if_neg g9).symm.trans h
        refine r_iconst (v := (1 : Int32)) hX dX9_areNodes_37 (by decide) ?_
        refine r_goto (tgt := 42) hX dX9_areNodes_38 (by decide) ?_
        obtain rfl := Option.some.inj h
        exact r_iret (v := b2i true) hX hT dX9_areNodes_42 (okI_b true).1
def Fm_isRate (v0 : Int32) (M : Mm) : Option (Bool) :=
  bnd (Fm_in v0 (1 : Int32) (64 : Int32) M) (fun z1 =>
  some z1)
set_option maxRecDepth 100000 in
theorem ok_Fm_isRate {G : Gm} {l : Launch} {d : Nat} (v0 : Int32) (M : Mm) {z : Bool}  (h : Fm_isRate v0 M = some z) : CK G l (d + 1) md_Fm_isRate [.int v0] M SS (some (.int (b2i z))) M SS := by
  refine ck_of mk_Fm_isRate (Nat.le_of_ble_eq_true rfl) ⟨Nat.le_refl _, Nat.le_refl _⟩ (fun X hX hT hS hr hl => ?_)
  subst hl
  unfold Fm_isRate at h
  show WR G X (mQ G X (some (.int (b2i z))) M SS) 0 [.int v0] [] M SS
  refine r_iload_n hX dX9_isRate_0 rfl ?_
  refine r_iconst (v := (1 : Int32)) hX dX9_isRate_1 (by decide) ?_
  refine r_bipush (v := (64 : Int32)) hX dX9_isRate_2 (by decide) ?_
  obtain ⟨z1, p2, h⟩ := bnd_s h
  refine r_callS (As := [.int v0, .int (1 : Int32), .int (64 : Int32)]) hX dX9_isRate_4 mk_Fm_in ms_Fm_in ml_9_83 rfl rfl rfl (Nat.le_of_ble_eq_true rfl) hr (ok_Fm_in (d := d + 0) v0 (1 : Int32) (64 : Int32) M p2) ?_
  obtain rfl := Option.some.inj h
  exact r_iret hX hT dX9_isRate_7 (okI_b _).1
def Fm_way (n : Nat) (v1 : Int32) (v2 : Int32) (v3 : Int32) (v4 : Int32) (M : Mm) : Option (Int32 × Mm) :=
  bnd (Fm_areNodes v1 v2 M) (fun z1 =>
  if z1 = true then
    bnd (Fm_in v3 (0 : Int32) (3 : Int32) M) (fun z4 =>
    if z4 = true then
      bnd (Fm_in v4 (0 : Int32) (4 : Int32) M) (fun z7 =>
      if z7 = true then
        bnd (Fm_findsWays n v1 v2 M) (fun z10 =>
        if v4 = (4 : Int32) then
          some (z10.1 94 19, z10)
        else
          if v3 < (z10.1 94 19) then
            grd (inb v3 5) (
            bnd (Fm_formatBy n (z10.1 98 (tn v3)) z10) (fun z15 =>
            if v4 = (0 : Int32) then
              grd (inb v3 5) (
              some (z10.1 98 (tn v3), z10))
            else
              if v4 = (1 : Int32) then
                grd (inb v3 5) (
                some (z10.1 100 (tn v3), z10))
              else
                if v4 = (2 : Int32) then
                  grd (inb v3 5) (
                  some (z10.1 99 (tn v3), z10))
                else
                  if z15 = (-1 : Int32) then
                    some ((-2 : Int32), z10)
                  else
                    some (z15, z10)))
          else
            some ((-2 : Int32), z10))
      else
        some ((-1 : Int32), M))
    else
      some ((-1 : Int32), M))
  else
    some ((-1 : Int32), M))
set_option maxRecDepth 100000 in
theorem ok_Fm_way {G : Gm} {l : Launch} {d : Nat} (n : Nat) (v1 : Int32) (v2 : Int32) (v3 : Int32) (v4 : Int32) (M : Mm) {z : Int32 × Mm}  (h : Fm_way n v1 v2 v3 v4 M = some z) : CK G l (d + 4) md_Fm_way [.ref 94, .int v1, .int v2, .int v3, .int v4] M SS (some (.int z.1)) z.2 SS := by
  refine ck_of mk_Fm_way (Nat.le_of_ble_eq_true rfl) ⟨Nat.le_refl _, Nat.le_refl _⟩ (fun X hX hT hS hr hl => ?_)
  subst hl
  unfold Fm_way at h
  show WR G X (mQ G X (some (.int z.1)) z.2 SS) 0 [.ref 94, .int v1, .int v2, .int v3, .int v4, vU] [] M SS
  refine r_aload_n hX dX9_way_0 rfl ?_
  refine r_iload_n hX dX9_way_1 rfl ?_
  refine r_iload_n hX dX9_way_2 rfl ?_
  obtain ⟨z1, p2, h⟩ := bnd_s h
  refine r_callV (As := [.int v1, .int v2]) hX dX9_way_3 mk_Fm_areNodes mi_Fm_areNodes ml_9_212 rfl rfl rfl rfl (by decide) (by decide) (Nat.le_of_ble_eq_true rfl) hr (ok_Fm_areNodes (d := d + 2) v1 v2 M p2) ?_
  refine r_ifb_eq (tgt := 28) hX dX9_way_6 (by decide) (fun g3 => ?_) (fun g3 => ?_)
  · have h := (if_neg (show ¬ z1 = true from fun e => by rw [g3] at e; cases e)).symm.trans h
    refine r_iconst (v := (-1 : Int32)) hX dX9_way_28 (by decide) ?_
    obtain rfl := Option.some.inj h
    exact r_iret hX hT dX9_way_29 rfl
  · have h := (if_pos g3).symm.trans h
    refine r_iload_n hX dX9_way_9 rfl ?_
    refine r_iconst (v := (0 : Int32)) hX dX9_way_10 (by decide) ?_
    refine r_iconst (v := (3 : Int32)) hX dX9_way_11 (by decide) ?_
    obtain ⟨z4, p5, h⟩ := bnd_s h
    refine r_callS (As := [.int v3, .int (0 : Int32), .int (3 : Int32)]) hX dX9_way_12 mk_Fm_in ms_Fm_in ml_9_83 rfl rfl rfl (Nat.le_of_ble_eq_true rfl) hr (ok_Fm_in (d := d + 3) v3 (0 : Int32) (3 : Int32) M p5) ?_
    refine r_ifb_eq (tgt := 28) hX dX9_way_15 (by decide) (fun g6 => ?_) (fun g6 => ?_)
    · have h := (if_neg (show ¬ z4 = true from fun e => by rw [g6] at e; cases e)).symm.trans h
      refine r_iconst (v := (-1 : Int32)) hX dX9_way_28 (by decide) ?_
      obtain rfl := Option.some.inj h
      exact r_iret hX hT dX9_way_29 rfl
    · have h := (if_pos g6).symm.trans h
      refine r_iload hX dX9_way_18 rfl ?_
      refine r_iconst (v := (0 : Int32)) hX dX9_way_20 (by decide) ?_
      refine r_iconst (v := (4 : Int32)) hX dX9_way_21 (by decide) ?_
      obtain ⟨z7, p8, h⟩ := bnd_s h
      refine r_callS (As := [.int v4, .int (0 : Int32), .int (4 : Int32)]) hX dX9_way_22 mk_Fm_in ms_Fm_in ml_9_83 rfl rfl rfl (Nat.le_of_ble_eq_true rfl) hr (ok_Fm_in (d := d + 3) v4 (0 : Int32) (4 : Int32) M p8) ?_
      refine r_ifb_ne (tgt := 30) hX dX9_way_25 (by decide) (fun g9 => ?_) (fun g9 => ?_)
      · have h := (if_pos g9).symm.trans h
        refine r_aload_n hX dX9_way_30 rfl ?_
        refine r_iload_n hX dX9_way_31 rfl ?_
        refine r_iload_n hX dX9_way_32 rfl ?_
        obtain ⟨z10, p11, h⟩ := bnd_s h
        refine r_callV (As := [.int v1, .int v2]) hX dX9_way_33 mk_Fm_findsWays mi_Fm_findsWays ml_9_215 rfl rfl rfl rfl (by decide) (by decide) (Nat.le_of_ble_eq_true rfl) hr (ok_Fm_findsWays (d := d + 0) n v1 v2 M p11) ?_
        refine r_iload hX dX9_way_36 rfl ?_
        refine r_iconst (v := (4 : Int32)) hX dX9_way_38 (by decide) ?_
        refine r_icmp_ne (tgt := 47) hX dX9_way_39 (by decide) (fun g12 => ?_) (fun g12 => ?_)
        · have h := (if_neg g12).symm.trans h
          refine r_iload_n hX dX9_way_47 rfl ?_
          refine r_aload_n hX dX9_way_48 rfl ?_
          refine r_getf (v := .int (z10.1 94 19)) hX dX9_way_49 fl_9_192 rfl (by decide) (by decide) rfl ?_
          refine r_icmp_lt (tgt := 58) hX dX9_way_52 (by decide) (fun g13 => ?_) (fun g13 => ?_)
          · have h := (if_pos g13).symm.trans h
            refine r_aload_n hX dX9_way_58 rfl ?_
            refine r_aload_n hX dX9_way_59 rfl ?_
            refine r_getf (v := .ref 98) hX dX9_way_60 fl_9_20 rfl (by decide) (by decide) rfl ?_
            refine r_iload_n hX dX9_way_63 rfl ?_
            obtain ⟨k14, h⟩ := grd_s h
            refine r_iald hX dX9_way_64 rfl (by decide) (inb_at rfl k14) ?_
            obtain ⟨z15, p16, h⟩ := bnd_s h
            refine r_callV (As := [.int (z10.1 98 (tn v3))]) hX dX9_way_65 mk_Fm_formatBy mi_Fm_formatBy ml_9_208 rfl rfl rfl rfl (by decide) (by decide) (Nat.le_of_ble_eq_true rfl) hr (ok_Fm_formatBy (d := d + 3) n (z10.1 98 (tn v3)) z10 p16) ?_
            refine r_istore (L1 := [.ref 94, .int v1, .int v2, .int v3, .int v4, .int z15]) hX dX9_way_68 (Nat.le_of_ble_eq_true rfl) rfl ?_
            refine r_iload hX dX9_way_70 rfl ?_
            refine r_if_ne (tgt := 84) hX dX9_way_72 (by decide) (fun g17 => ?_) (fun g17 => ?_)
            · have h := (if_neg g17).symm.trans h
              refine r_iload hX dX9_way_84 rfl ?_
              refine r_iconst (v := (1 : Int32)) hX dX9_way_86 (by decide) ?_
              refine r_icmp_ne (tgt := 99) hX dX9_way_87 (by decide) (fun g18 => ?_) (fun g18 => ?_)
              · have h := (if_neg g18).symm.trans h
                refine r_iload hX dX9_way_99 rfl ?_
                refine r_iconst (v := (2 : Int32)) hX dX9_way_101 (by decide) ?_
                refine r_icmp_ne (tgt := 114) hX dX9_way_102 (by decide) (fun g19 => ?_) (fun g19 => ?_)
                · have h := (if_neg g19).symm.trans h
                  refine r_iload hX dX9_way_114 rfl ?_
                  refine r_iconst (v := (-1 : Int32)) hX dX9_way_116 (by decide) ?_
                  refine r_icmp_ne (tgt := 125) hX dX9_way_117 (by decide) (fun g20 => ?_) (fun g20 => ?_)
                  · have h := (if_neg g20).symm.trans h
                    refine r_iload hX dX9_way_125 rfl ?_
                    obtain rfl := Option.some.inj h
                    exact r_iret hX hT dX9_way_127 rfl
                  · have h := (if_pos g20).symm.trans h
                    refine r_bipush (v := (-2 : Int32)) hX dX9_way_120 (by decide) ?_
                    refine r_goto (tgt := 127) hX dX9_way_122 (by decide) ?_
                    obtain rfl := Option.some.inj h
                    exact r_iret hX hT dX9_way_127 rfl
                · have h := (if_pos g19).symm.trans h
                  refine r_aload_n hX dX9_way_105 rfl ?_
                  refine r_getf (v := .ref 99) hX dX9_way_106 fl_9_23 rfl (by decide) (by decide) rfl ?_
                  refine r_iload_n hX dX9_way_109 rfl ?_
                  obtain ⟨k21, h⟩ := grd_s h
                  refine r_iald hX dX9_way_110 rfl (by decide) (inb_at rfl k21) ?_
                  refine r_goto (tgt := 127) hX dX9_way_111 (by decide) ?_
                  obtain rfl := Option.some.inj h
                  exact r_iret hX hT dX9_way_127 rfl
              · have h := (if_pos g18).symm.trans h
                refine r_aload_n hX dX9_way_90 rfl ?_
                refine r_getf (v := .ref 100) hX dX9_way_91 fl_9_26 rfl (by decide) (by decide) rfl ?_
                refine r_iload_n hX dX9_way_94 rfl ?_
                obtain ⟨k22, h⟩ := grd_s h
                refine r_iald hX dX9_way_95 rfl (by decide) (inb_at rfl k22) ?_
                refine r_goto (tgt := 127) hX dX9_way_96 (by decide) ?_
                obtain rfl := Option.some.inj h
                exact r_iret hX hT dX9_way_127 rfl
            · have h := (if_pos g17).symm.trans h
              refine r_aload_n hX dX9_way_75 rfl ?_
              refine r_getf (v := .ref 98) hX dX9_way_76 fl_9_20 rfl (by decide) (by decide) rfl ?_
              refine r_iload_n hX dX9_way_79 rfl ?_
              obtain ⟨k23, h⟩ := grd_s h
              refine r_iald hX dX9_way_80 rfl (by decide) (inb_at rfl k23) ?_
              refine r_goto (tgt := 127) hX dX9_way_81 (by decide) ?_
              obtain rfl := Option.some.inj h
              exact r_iret hX hT dX9_way_127 rfl
          · have h := (if_neg g13).symm.trans h
            refine r_bipush (v := (-2 : Int32)) hX dX9_way_55 (by decide) ?_
            obtain rfl := Option.some.inj h
            exact r_iret hX hT dX9_way_57 rfl
        · have h := (if_pos g12).symm.trans h
          refine r_aload_n hX dX9_way_42 rfl ?_
          refine r_getf (v := .int (z10.1 94 19)) hX dX9_way_43 fl_9_192 rfl (by decide) (by decide) rfl ?_
          obtain rfl := Option.some.inj h
          exact r_iret hX hT dX9_way_46 rfl
      · have h := (if_neg (show ¬ z7 = true from fun e => by rw [g9] at e; cases e)).symm.trans h
        refine r_iconst (v := (-1 : Int32)) hX dX9_way_28 (by decide) ?_
        obtain rfl := Option.some.inj h
        exact r_iret hX hT dX9_way_29 rfl
def Fm_keepsFrom_j56  : Option (Bool) :=
  some true
def Fm_keepsFrom (v1 : Int32) (v2 : Int32) (v3 : Int32) (v4 : Int32) (M : Mm) : Option (Bool) :=
  bnd (Fm_of v1 (6 : Int32) M) (fun z1 =>
  if (z1 &&& v2) = (0 : Int32) then
    Fm_keepsFrom_j56
  else
    bnd (Fm_of v1 (4 : Int32) M) (fun z4 =>
    bnd (Fm_of v1 (5 : Int32) M) (fun z6 =>
    grd (inb (2 : Int32) 12256) (
    if ((z4 + z6) + (M.1 95 (tn (2 : Int32)))) ≤ v3 then
      Fm_keepsFrom_j56
    else
      bnd (Fm_of v1 (4 : Int32) M) (fun z10 =>
      grd (inb (2 : Int32) 12256) (
      if z10 < ((v3 + v4) + (M.1 95 (tn (2 : Int32)))) then
        some false
      else
        Fm_keepsFrom_j56))))))
set_option maxRecDepth 100000 in
theorem ok_Fm_keepsFrom_j56 (M : Mm) {z : Bool} {G : Gm} {X : Cx} {d : Nat}  (hX : XK G X 9 cX9_keepsFrom 5 (d + 1)) (hT : XT X (some .boolean) "keepsFrom") (hr : XR X SS) (h : Fm_keepsFrom_j56 = some z) : WR G X (mQ G X (some (.int (b2i z))) M SS) 56 [.ref 94, vU, vU, vU, vU] [] M SS := by
  unfold Fm_keepsFrom_j56 at h
  refine r_iconst (v := (1 : Int32)) hX dX9_keepsFrom_56 (by decide) ?_
  refine r_goto (tgt := 61) hX dX9_keepsFrom_57 (by decide) ?_
  obtain rfl := Option.some.inj h
  exact r_iret (v := b2i true) hX hT dX9_keepsFrom_61 (okI_b true).1
set_option maxRecDepth 100000 in
theorem ok_Fm_keepsFrom {G : Gm} {l : Launch} {d : Nat} (v1 : Int32) (v2 : Int32) (v3 : Int32) (v4 : Int32) (M : Mm) {z : Bool}  (h : Fm_keepsFrom v1 v2 v3 v4 M = some z) : CK G l (d + 1) md_Fm_keepsFrom [.ref 94, .int v1, .int v2, .int v3, .int v4] M SS (some (.int (b2i z))) M SS := by
  refine ck_of mk_Fm_keepsFrom (Nat.le_of_ble_eq_true rfl) ⟨Nat.le_refl _, Nat.le_refl _⟩ (fun X hX hT hS hr hl => ?_)
  subst hl
  unfold Fm_keepsFrom at h
  show WR G X (mQ G X (some (.int (b2i z))) M SS) 0 [.ref 94, .int v1, .int v2, .int v3, .int v4] [] M SS
  refine r_aload_n hX dX9_keepsFrom_0 rfl ?_
  refine r_iload_n hX dX9_keepsFrom_1 rfl ?_
  refine r_bipush (v := (6 : Int32)) hX dX9_keepsFrom_2 (by decide) ?_
  obtain ⟨z1, p2, h⟩ := bnd_s h
  refine r_callV (As := [.int v1, .int (6 : Int32)]) hX dX9_keepsFrom_4 mk_Fm_of mi_Fm_of ml_9_79 rfl rfl rfl rfl (by decide) (by decide) (Nat.le_of_ble_eq_true rfl) hr (ok_Fm_of (d := d + 0) v1 (6 : Int32) M p2) ?_
  refine r_iload_n hX dX9_keepsFrom_7 rfl ?_
  refine r_iand hX dX9_keepsFrom_8 ?_
  refine r_if_eq (tgt := 56) hX dX9_keepsFrom_9 (by decide) (fun g3 => ?_) (fun g3 => ?_)
  · have h := (if_pos g3).symm.trans h
    refine WR.fg (L' := [.ref 94, vU, vU, vU, vU]) ⟨Or.inr rfl, Or.inl rfl, Or.inl rfl, Or.inl rfl, Or.inl rfl, trivial⟩ ?_
    exact ok_Fm_keepsFrom_j56 M   hX hT hr h
  · have h := (if_neg g3).symm.trans h
    refine r_iload_n hX dX9_keepsFrom_12 rfl ?_
    refine r_aload_n hX dX9_keepsFrom_13 rfl ?_
    refine r_iload_n hX dX9_keepsFrom_14 rfl ?_
    refine r_iconst (v := (4 : Int32)) hX dX9_keepsFrom_15 (by decide) ?_
    obtain ⟨z4, p5, h⟩ := bnd_s h
    refine r_callV (As := [.int v1, .int (4 : Int32)]) hX dX9_keepsFrom_16 mk_Fm_of mi_Fm_of ml_9_79 rfl rfl rfl rfl (by decide) (by decide) (Nat.le_of_ble_eq_true rfl) hr (ok_Fm_of (d := d + 0) v1 (4 : Int32) M p5) ?_
    refine r_aload_n hX dX9_keepsFrom_19 rfl ?_
    refine r_iload_n hX dX9_keepsFrom_20 rfl ?_
    refine r_iconst (v := (5 : Int32)) hX dX9_keepsFrom_21 (by decide) ?_
    obtain ⟨z6, p7, h⟩ := bnd_s h
    refine r_callV (As := [.int v1, .int (5 : Int32)]) hX dX9_keepsFrom_22 mk_Fm_of mi_Fm_of ml_9_79 rfl rfl rfl rfl (by decide) (by decide) (Nat.le_of_ble_eq_true rfl) hr (ok_Fm_of (d := d + 0) v1 (5 : Int32) M p7) ?_
    refine r_iadd hX dX9_keepsFrom_25 ?_
    refine r_aload_n hX dX9_keepsFrom_26 rfl ?_
    refine r_getf (v := .ref 95) hX dX9_keepsFrom_27 fl_9_7 rfl (by decide) (by decide) rfl ?_
    refine r_iconst (v := (2 : Int32)) hX dX9_keepsFrom_30 (by decide) ?_
    obtain ⟨k8, h⟩ := grd_s h
    refine r_iald hX dX9_keepsFrom_31 rfl (by decide) (inb_at rfl k8) ?_
    refine r_iadd hX dX9_keepsFrom_32 ?_
    refine r_icmp_ge (tgt := 56) hX dX9_keepsFrom_33 (by decide) (fun g9 => ?_) (fun g9 => ?_)
    · have h := (if_pos g9).symm.trans h
      refine WR.fg (L' := [.ref 94, vU, vU, vU, vU]) ⟨Or.inr rfl, Or.inl rfl, Or.inl rfl, Or.inl rfl, Or.inl rfl, trivial⟩ ?_
      exact ok_Fm_keepsFrom_j56 M   hX hT hr h
    · have h := (if_neg g9).symm.trans h
      refine r_aload_n hX dX9_keepsFrom_36 rfl ?_
      refine r_iload_n hX dX9_keepsFrom_37 rfl ?_
      refine r_iconst (v := (4 : Int32)) hX dX9_keepsFrom_38 (by decide) ?_
      obtain ⟨z10, p11, h⟩ := bnd_s h
      refine r_callV (As := [.int v1, .int (4 : Int32)]) hX dX9_keepsFrom_39 mk_Fm_of mi_Fm_of ml_9_79 rfl rfl rfl rfl (by decide) (by decide) (Nat.le_of_ble_eq_true rfl) hr (ok_Fm_of (d := d + 0) v1 (4 : Int32) M p11) ?_
      refine r_iload_n hX dX9_keepsFrom_42 rfl ?_
      refine r_iload hX dX9_keepsFrom_43 rfl ?_
      refine r_iadd hX dX9_keepsFrom_45 ?_
      refine r_aload_n hX dX9_keepsFrom_46 rfl ?_
      refine r_getf (v := .ref 95) hX dX9_keepsFrom_47 fl_9_7 rfl (by decide) (by decide) rfl ?_
      refine r_iconst (v := (2 : Int32)) hX dX9_keepsFrom_50 (by decide) ?_
      obtain ⟨k12, h⟩ := grd_s h
      refine r_iald hX dX9_keepsFrom_51 rfl (by decide) (inb_at rfl k12) ?_
      refine r_iadd hX dX9_keepsFrom_52 ?_
      refine r_icmp_lt (tgt := 60) hX dX9_keepsFrom_53 (by decide) (fun g13 => ?_) (fun g13 => ?_)
      · have h := (if_pos g13).symm.trans h
        refine r_iconst (v := (0 : Int32)) hX dX9_keepsFrom_60 (by decide) ?_
        obtain rfl := Option.some.inj h
        exact r_iret (v := b2i false) hX hT dX9_keepsFrom_61 (okI_b false).1
      · have h := (if_neg g13).symm.trans h
        refine WR.fg (L' := [.ref 94, vU, vU, vU, vU]) ⟨Or.inr rfl, Or.inl rfl, Or.inl rfl, Or.inl rfl, Or.inl rfl, trivial⟩ ?_
        exact ok_Fm_keepsFrom_j56 M   hX hT hr h
def Fm_against_j46 (v5 : Int32) : Option ((Int32) ⊕ ((Unit) ⊕ (Int32))) :=
  some (.inl (v5 + (1 : Int32)))
def Fm_against_b3 (c1 : Int32) (c2 : Int32) (c3 : Int32) (c4 : Int32) (Mc : Mm) (v5 : Int32) : Option ((Int32) ⊕ ((Unit) ⊕ (Int32))) :=
  grd (inb (7 : Int32) 12256) (
  if (Mc.1 95 (tn (7 : Int32))) ≤ v5 then
    some (.inr (.inl ()))
  else
    if v5 = c4 then
      Fm_against_j46 v5
    else
      bnd (Fm_isLit v5 Mc) (fun z4 =>
      if z4 = true then
        bnd (Fm_keepsFrom v5 c1 c2 c3 Mc) (fun z7 =>
        if z7 = true then
          Fm_against_j46 v5
        else
          some (.inr (.inr v5)))
      else
        Fm_against_j46 v5))
def Fm_against (n : Nat) (v1 : Int32) (v2 : Int32) (v3 : Int32) (v4 : Int32) (M : Mm) : Option (Int32) :=
  bnd (loop (fun s1 : Int32 => Fm_against_b3 v1 v2 v3 v4 M s1) n (0 : Int32)) (fun y10 =>
  elS y10 (fun x11 =>
    some (-1 : Int32))
    (fun e12 => some e12))
set_option maxRecDepth 100000 in
theorem ok_Fm_against_j46 (n : Nat) (v5 : Int32) {c1 : Int32} {c2 : Int32} {c3 : Int32} {c4 : Int32} {Mc : Mm} {z : Int32} {oo : (Int32) ⊕ ((Unit) ⊕ (Int32))} {G : Gm} {X : Cx} {d : Nat}  (hX : XK G X 9 cX9_against 6 (d + 2)) (hT : XT X (some .int) "against") (hr : XR X SS) (hc : ∀ s1 : Int32, oo = .inl s1 → WR G X (mQ G X (some (.int z)) Mc SS) 3 [.ref 94, .int c1, .int c2, .int c3, .int c4, .int s1] [] Mc SS) (hx : ∀ x1 : (Unit) ⊕ (Int32), oo = .inr x1 → elS x1 (fun x2 => WR G X (mQ G X (some (.int z)) Mc SS) 52 [.ref 94, vU, vU, vU, vU, vU] [] Mc SS) (fun y1 => y1 = z)) (h : Fm_against_j46 v5 = some oo) : WR G X (mQ G X (some (.int z)) Mc SS) 46 [.ref 94, .int c1, .int c2, .int c3, .int c4, .int v5] [] Mc SS := by
  unfold Fm_against_j46 at h
  refine r_iinc (v := v5 + (1 : Int32)) (L1 := [.ref 94, .int c1, .int c2, .int c3, .int c4, .int (v5 + (1 : Int32))]) hX dX9_against_46 rfl rfl rfl ?_
  refine r_goto (tgt := 3) hX dX9_against_49 (by decide) ?_
  exact hc (v5 + (1 : Int32)) (Option.some.inj h).symm
set_option maxRecDepth 100000 in
theorem ok_Fm_against_b3 (n : Nat) (v5 : Int32) {c1 : Int32} {c2 : Int32} {c3 : Int32} {c4 : Int32} {Mc : Mm} {z : Int32} {oo : (Int32) ⊕ ((Unit) ⊕ (Int32))} {G : Gm} {X : Cx} {d : Nat}  (hX : XK G X 9 cX9_against 6 (d + 2)) (hT : XT X (some .int) "against") (hr : XR X SS) (hc : ∀ s1 : Int32, oo = .inl s1 → WR G X (mQ G X (some (.int z)) Mc SS) 3 [.ref 94, .int c1, .int c2, .int c3, .int c4, .int s1] [] Mc SS) (hx : ∀ x1 : (Unit) ⊕ (Int32), oo = .inr x1 → elS x1 (fun x2 => WR G X (mQ G X (some (.int z)) Mc SS) 52 [.ref 94, vU, vU, vU, vU, vU] [] Mc SS) (fun y1 => y1 = z)) (h : Fm_against_b3 c1 c2 c3 c4 Mc v5 = some oo) : WR G X (mQ G X (some (.int z)) Mc SS) 3 [.ref 94, .int c1, .int c2, .int c3, .int c4, .int v5] [] Mc SS := by
  unfold Fm_against_b3 at h
  refine r_iload hX dX9_against_3 rfl ?_
  refine r_aload_n hX dX9_against_5 rfl ?_
  refine r_getf (v := .ref 95) hX dX9_against_6 fl_9_7 rfl (by decide) (by decide) rfl ?_
  refine r_bipush (v := (7 : Int32)) hX dX9_against_9 (by decide) ?_
  obtain ⟨k1, h⟩ := grd_s h
  refine r_iald hX dX9_against_11 rfl (by decide) (inb_at rfl k1) ?_
  refine r_icmp_ge (tgt := 52) hX dX9_against_12 (by decide) (fun g2 => ?_) (fun g2 => ?_)
  · have h := (if_pos g2).symm.trans h
    refine WR.fg (L' := [.ref 94, vU, vU, vU, vU, vU]) ⟨Or.inr rfl, Or.inl rfl, Or.inl rfl, Or.inl rfl, Or.inl rfl, Or.inl rfl, trivial⟩ ?_
    exact hx _ (Option.some.inj h).symm
  · have h := (if_neg g2).symm.trans h
    refine r_iload hX dX9_against_15 rfl ?_
    refine r_iload hX dX9_against_17 rfl ?_
    refine r_icmp_eq (tgt := 46) hX dX9_against_19 (by decide) (fun g3 => ?_) (fun g3 => ?_)
    · have h := (if_pos g3).symm.trans h
      exact ok_Fm_against_j46 n v5   hX hT hr hc hx h
    · have h := (if_neg g3).symm.trans h
      refine r_aload_n hX dX9_against_22 rfl ?_
      refine r_iload hX dX9_against_23 rfl ?_
      obtain ⟨z4, p5, h⟩ := bnd_s h
      refine r_callV (As := [.int v5]) hX dX9_against_25 mk_Fm_isLit mi_Fm_isLit ml_9_219 rfl rfl rfl rfl (by decide) (by decide) (Nat.le_of_ble_eq_true rfl) hr (ok_Fm_isLit (d := d + 0) v5 Mc p5) ?_
      refine r_ifb_eq (tgt := 46) hX dX9_against_28 (by decide) (fun g6 => ?_) (fun g6 => ?_)
      · have h := (if_neg (show ¬ z4 = true from fun e => by rw [g6] at e; cases e)).symm.trans h
        exact ok_Fm_against_j46 n v5   hX hT hr hc hx h
      · have h := (if_pos g6).symm.trans h
        refine r_aload_n hX dX9_against_31 rfl ?_
        refine r_iload hX dX9_against_32 rfl ?_
        refine r_iload_n hX dX9_against_34 rfl ?_
        refine r_iload_n hX dX9_against_35 rfl ?_
        refine r_iload_n hX dX9_against_36 rfl ?_
        obtain ⟨z7, p8, h⟩ := bnd_s h
        refine r_callV (As := [.int v5, .int c1, .int c2, .int c3]) hX dX9_against_37 mk_Fm_keepsFrom mi_Fm_keepsFrom ml_9_222 rfl rfl rfl rfl (by decide) (by decide) (Nat.le_of_ble_eq_true rfl) hr (ok_Fm_keepsFrom (d := d + 0) v5 c1 c2 c3 Mc p8) ?_
        refine r_ifb_ne (tgt := 46) hX dX9_against_40 (by decide) (fun g9 => ?_) (fun g9 => ?_)
        · have h := (if_pos g9).symm.trans h
          exact ok_Fm_against_j46 n v5   hX hT hr hc hx h
        · have h := (if_neg (show ¬ z7 = true from fun e => by rw [g9] at e; cases e)).symm.trans h
          refine r_iload hX dX9_against_43 rfl ?_
          obtain rfl := hx _ (Option.some.inj h).symm
          exact r_iret hX hT dX9_against_45 rfl
set_option maxRecDepth 100000 in
theorem ok_Fm_against {G : Gm} {l : Launch} {d : Nat} (n : Nat) (v1 : Int32) (v2 : Int32) (v3 : Int32) (v4 : Int32) (M : Mm) {z : Int32}  (h : Fm_against n v1 v2 v3 v4 M = some z) : CK G l (d + 2) md_Fm_against [.ref 94, .int v1, .int v2, .int v3, .int v4] M SS (some (.int z)) M SS := by
  refine ck_of mk_Fm_against (Nat.le_of_ble_eq_true rfl) ⟨Nat.le_refl _, Nat.le_refl _⟩ (fun X hX hT hS hr hl => ?_)
  subst hl
  unfold Fm_against at h
  show WR G X (mQ G X (some (.int z)) M SS) 0 [.ref 94, .int v1, .int v2, .int v3, .int v4, vU] [] M SS
  refine r_iconst (v := (0 : Int32)) hX dX9_against_0 (by decide) ?_
  refine r_istore (L1 := [.ref 94, .int v1, .int v2, .int v3, .int v4, .int (0 : Int32)]) hX dX9_against_1 (Nat.le_of_ble_eq_true rfl) rfl ?_
  obtain ⟨y10, h1, h⟩ := bnd_s h
  refine loop_ok (P := fun s1 : Int32 => WR G X (mQ G X (some (.int z)) M SS) 3 [.ref 94, .int v1, .int v2, .int v3, .int v4, .int s1] [] M SS) (E := fun x1 : (Unit) ⊕ (Int32) => elS x1 (fun x2 => WR G X (mQ G X (some (.int z)) M SS) 52 [.ref 94, vU, vU, vU, vU, vU] [] M SS) (fun y1 => y1 = z)) (fun s1 o1 g1 g2 g3 => ok_Fm_against_b3 n s1  hX hT hr g2 g3 g1) n (0 : Int32) y10 h1 ?_
  cases y10 with
  | inr e12 =>
    exact Option.some.inj h
  | inl x11 =>
    show WR G X (mQ G X (some (.int z)) M SS) 52 [.ref 94, vU, vU, vU, vU, vU] [] M SS
    refine r_iconst (v := (-1 : Int32)) hX dX9_against_52 (by decide) ?_
    obtain rfl := Option.some.inj h
    exact r_iret hX hT dX9_against_53 rfl
def Fm_fits (n : Nat) (v1 : Int32) (v2 : Int32) (v3 : Int32) (v4 : Int32) (M : Mm) : Option (Bool) :=
  if v2 < (0 : Int32) then
    some false
  else
    grd (inb (1 : Int32) 12256) (
    if (M.1 95 (tn (1 : Int32))) < (v2 + v3) then
      some false
    else
      bnd (Fm_against n v1 v2 v3 v4 M) (fun z4 =>
      if z4 = (-1 : Int32) then
        some true
      else
        some false))
set_option maxRecDepth 100000 in
theorem ok_Fm_fits {G : Gm} {l : Launch} {d : Nat} (n : Nat) (v1 : Int32) (v2 : Int32) (v3 : Int32) (v4 : Int32) (M : Mm) {z : Bool}  (h : Fm_fits n v1 v2 v3 v4 M = some z) : CK G l (d + 3) md_Fm_fits [.ref 94, .int v1, .int v2, .int v3, .int v4] M SS (some (.int (b2i z))) M SS := by
  refine ck_of mk_Fm_fits (Nat.le_of_ble_eq_true rfl) ⟨Nat.le_refl _, Nat.le_refl _⟩ (fun X hX hT hS hr hl => ?_)
  subst hl
  unfold Fm_fits at h
  show WR G X (mQ G X (some (.int (b2i z))) M SS) 0 [.ref 94, .int v1, .int v2, .int v3, .int v4] [] M SS
  refine r_iload_n hX dX9_fits_0 rfl ?_
  refine r_if_lt (tgt := 33) hX dX9_fits_1 (by decide) (fun g1 => ?_) (fun g1 => ?_)
  · have h := (if_pos g1).symm.trans h
    refine r_iconst (v := (0 : Int32)) hX dX9_fits_33 (by decide) ?_
    obtain rfl := Option.some.inj h
    exact r_iret (v := b2i false) hX hT dX9_fits_34 (okI_b false).1
  · have h := (if_neg g1).symm.trans h
    refine r_iload_n hX dX9_fits_4 rfl ?_
    refine r_iload_n hX dX9_fits_5 rfl ?_
    refine r_iadd hX dX9_fits_6 ?_
    refine r_aload_n hX dX9_fits_7 rfl ?_
    refine r_getf (v := .ref 95) hX dX9_fits_8 fl_9_7 rfl (by decide) (by decide) rfl ?_
    refine r_iconst (v := (1 : Int32)) hX dX9_fits_11 (by decide) ?_
    obtain ⟨k2, h⟩ := grd_s h
    refine r_iald hX dX9_fits_12 rfl (by decide) (inb_at rfl k2) ?_
    refine r_icmp_gt (tgt := 33) hX dX9_fits_13 (by decide) (fun g3 => ?_) (fun g3 => ?_)
    · have h := (if_pos g3).symm.trans h
      refine r_iconst (v := (0 : Int32)) hX dX9_fits_33 (by decide) ?_
      obtain rfl := Option.some.inj h
      exact r_iret (v := b2i false) hX hT dX9_fits_34 (okI_b false).1
    · have h := (if_neg g3).symm.trans h
      refine r_aload_n hX dX9_fits_16 rfl ?_
      refine r_iload_n hX dX9_fits_17 rfl ?_
      refine r_iload_n hX dX9_fits_18 rfl ?_
      refine r_iload_n hX dX9_fits_19 rfl ?_
      refine r_iload hX dX9_fits_20 rfl ?_
      obtain ⟨z4, p5, h⟩ := bnd_s h
      refine r_callV (As := [.int v1, .int v2, .int v3, .int v4]) hX dX9_fits_22 mk_Fm_against mi_Fm_against ml_9_226 rfl rfl rfl rfl (by decide) (by decide) (Nat.le_of_ble_eq_true rfl) hr (ok_Fm_against (d := d + 0) n v1 v2 v3 v4 M p5) ?_
      refine r_iconst (v := (-1 : Int32)) hX dX9_fits_25 (by decide) ?_
      refine r_icmp_ne (tgt := 33) hX dX9_fits_26 (by decide) (fun g6 => ?_) (fun g6 => ?_)
      · have h := (if_neg g6).symm.trans h
        refine r_iconst (v := (0 : Int32)) hX dX9_fits_33 (by decide) ?_
        obtain rfl := Option.some.inj h
        exact r_iret (v := b2i false) hX hT dX9_fits_34 (okI_b false).1
      · have h := (if_pos g6).symm.trans h
        refine r_iconst (v := (1 : Int32)) hX dX9_fits_29 (by decide) ?_
        refine r_goto (tgt := 34) hX dX9_fits_30 (by decide) ?_
        obtain rfl := Option.some.inj h
        exact r_iret (v := b2i true) hX hT dX9_fits_34 (okI_b true).1
def Fm_isFree_j81 (v3 : Int32) : Option ((Int32) ⊕ ((Unit) ⊕ (Bool))) :=
  some (.inl (v3 + (1 : Int32)))
def Fm_isFree_b20 (c1 : Int32) (c2 : Int32) (Mc : Mm) (v3 : Int32) : Option ((Int32) ⊕ ((Unit) ⊕ (Bool))) :=
  grd (inb (7 : Int32) 12256) (
  if (Mc.1 95 (tn (7 : Int32))) ≤ v3 then
    some (.inr (.inl ()))
  else
    bnd (Fm_isLit v3 Mc) (fun z7 =>
    if z7 = true then
      bnd (Fm_of v3 (6 : Int32) Mc) (fun z10 =>
      if (z10 &&& c1) = (0 : Int32) then
        Fm_isFree_j81 v3
      else
        bnd (Fm_of v3 (4 : Int32) Mc) (fun z13 =>
        bnd (Fm_of v3 (4 : Int32) Mc) (fun z15 =>
        bnd (Fm_of v3 (5 : Int32) Mc) (fun z17 =>
        bnd (Fm_in c2 z13 ((z15 + z17) - (1 : Int32)) Mc) (fun z19 =>
        if z19 = true then
          some (.inr (.inr false))
        else
          Fm_isFree_j81 v3)))))
    else
      Fm_isFree_j81 v3))
def Fm_isFree (n : Nat) (v1 : Int32) (v2 : Int32) (M : Mm) : Option (Bool) :=
  grd (inb (1 : Int32) 12256) (
  bnd (Fm_in v2 (0 : Int32) ((M.1 95 (tn (1 : Int32))) - (1 : Int32)) M) (fun z2 =>
  if z2 = true then
    bnd (loop (fun s1 : Int32 => Fm_isFree_b20 v1 v2 M s1) n (0 : Int32)) (fun y22 =>
    elS y22 (fun x23 =>
      some true)
      (fun e24 => some e24))
  else
    some false))
set_option maxRecDepth 100000 in
theorem ok_Fm_isFree_j81 (n : Nat) (v3 : Int32) {c1 : Int32} {c2 : Int32} {Mc : Mm} {z : Bool} {oo : (Int32) ⊕ ((Unit) ⊕ (Bool))} {G : Gm} {X : Cx} {d : Nat}  (hX : XK G X 9 cX9_isFree 4 (d + 2)) (hT : XT X (some .boolean) "isFree") (hr : XR X SS) (hc : ∀ s1 : Int32, oo = .inl s1 → WR G X (mQ G X (some (.int (b2i z))) Mc SS) 20 [.ref 94, .int c1, .int c2, .int s1] [] Mc SS) (hx : ∀ x1 : (Unit) ⊕ (Bool), oo = .inr x1 → elS x1 (fun x2 => WR G X (mQ G X (some (.int (b2i z))) Mc SS) 87 [.ref 94, vU, vU, vU] [] Mc SS) (fun y1 => y1 = z)) (h : Fm_isFree_j81 v3 = some oo) : WR G X (mQ G X (some (.int (b2i z))) Mc SS) 81 [.ref 94, .int c1, .int c2, .int v3] [] Mc SS := by
  unfold Fm_isFree_j81 at h
  refine r_iinc (v := v3 + (1 : Int32)) (L1 := [.ref 94, .int c1, .int c2, .int (v3 + (1 : Int32))]) hX dX9_isFree_81 rfl rfl rfl ?_
  refine r_goto (tgt := 20) hX dX9_isFree_84 (by decide) ?_
  exact hc (v3 + (1 : Int32)) (Option.some.inj h).symm
set_option maxRecDepth 100000 in
theorem ok_Fm_isFree_b20 (n : Nat) (v3 : Int32) {c1 : Int32} {c2 : Int32} {Mc : Mm} {z : Bool} {oo : (Int32) ⊕ ((Unit) ⊕ (Bool))} {G : Gm} {X : Cx} {d : Nat}  (hX : XK G X 9 cX9_isFree 4 (d + 2)) (hT : XT X (some .boolean) "isFree") (hr : XR X SS) (hc : ∀ s1 : Int32, oo = .inl s1 → WR G X (mQ G X (some (.int (b2i z))) Mc SS) 20 [.ref 94, .int c1, .int c2, .int s1] [] Mc SS) (hx : ∀ x1 : (Unit) ⊕ (Bool), oo = .inr x1 → elS x1 (fun x2 => WR G X (mQ G X (some (.int (b2i z))) Mc SS) 87 [.ref 94, vU, vU, vU] [] Mc SS) (fun y1 => y1 = z)) (h : Fm_isFree_b20 c1 c2 Mc v3 = some oo) : WR G X (mQ G X (some (.int (b2i z))) Mc SS) 20 [.ref 94, .int c1, .int c2, .int v3] [] Mc SS := by
  unfold Fm_isFree_b20 at h
  refine r_iload_n hX dX9_isFree_20 rfl ?_
  refine r_aload_n hX dX9_isFree_21 rfl ?_
  refine r_getf (v := .ref 95) hX dX9_isFree_22 fl_9_7 rfl (by decide) (by decide) rfl ?_
  refine r_bipush (v := (7 : Int32)) hX dX9_isFree_25 (by decide) ?_
  obtain ⟨k5, h⟩ := grd_s h
  refine r_iald hX dX9_isFree_27 rfl (by decide) (inb_at rfl k5) ?_
  refine r_icmp_ge (tgt := 87) hX dX9_isFree_28 (by decide) (fun g6 => ?_) (fun g6 => ?_)
  · have h := (if_pos g6).symm.trans h
    refine WR.fg (L' := [.ref 94, vU, vU, vU]) ⟨Or.inr rfl, Or.inl rfl, Or.inl rfl, Or.inl rfl, trivial⟩ ?_
    exact hx _ (Option.some.inj h).symm
  · have h := (if_neg g6).symm.trans h
    refine r_aload_n hX dX9_isFree_31 rfl ?_
    refine r_iload_n hX dX9_isFree_32 rfl ?_
    obtain ⟨z7, p8, h⟩ := bnd_s h
    refine r_callV (As := [.int v3]) hX dX9_isFree_33 mk_Fm_isLit mi_Fm_isLit ml_9_219 rfl rfl rfl rfl (by decide) (by decide) (Nat.le_of_ble_eq_true rfl) hr (ok_Fm_isLit (d := d + 0) v3 Mc p8) ?_
    refine r_ifb_eq (tgt := 81) hX dX9_isFree_36 (by decide) (fun g9 => ?_) (fun g9 => ?_)
    · have h := (if_neg (show ¬ z7 = true from fun e => by rw [g9] at e; cases e)).symm.trans h
      exact ok_Fm_isFree_j81 n v3   hX hT hr hc hx h
    · have h := (if_pos g9).symm.trans h
      refine r_aload_n hX dX9_isFree_39 rfl ?_
      refine r_iload_n hX dX9_isFree_40 rfl ?_
      refine r_bipush (v := (6 : Int32)) hX dX9_isFree_41 (by decide) ?_
      obtain ⟨z10, p11, h⟩ := bnd_s h
      refine r_callV (As := [.int v3, .int (6 : Int32)]) hX dX9_isFree_43 mk_Fm_of mi_Fm_of ml_9_79 rfl rfl rfl rfl (by decide) (by decide) (Nat.le_of_ble_eq_true rfl) hr (ok_Fm_of (d := d + 1) v3 (6 : Int32) Mc p11) ?_
      refine r_iload_n hX dX9_isFree_46 rfl ?_
      refine r_iand hX dX9_isFree_47 ?_
      refine r_if_eq (tgt := 81) hX dX9_isFree_48 (by decide) (fun g12 => ?_) (fun g12 => ?_)
      · have h := (if_pos g12).symm.trans h
        exact ok_Fm_isFree_j81 n v3   hX hT hr hc hx h
      · have h := (if_neg g12).symm.trans h
        refine r_iload_n hX dX9_isFree_51 rfl ?_
        refine r_aload_n hX dX9_isFree_52 rfl ?_
        refine r_iload_n hX dX9_isFree_53 rfl ?_
        refine r_iconst (v := (4 : Int32)) hX dX9_isFree_54 (by decide) ?_
        obtain ⟨z13, p14, h⟩ := bnd_s h
        refine r_callV (As := [.int v3, .int (4 : Int32)]) hX dX9_isFree_55 mk_Fm_of mi_Fm_of ml_9_79 rfl rfl rfl rfl (by decide) (by decide) (Nat.le_of_ble_eq_true rfl) hr (ok_Fm_of (d := d + 1) v3 (4 : Int32) Mc p14) ?_
        refine r_aload_n hX dX9_isFree_58 rfl ?_
        refine r_iload_n hX dX9_isFree_59 rfl ?_
        refine r_iconst (v := (4 : Int32)) hX dX9_isFree_60 (by decide) ?_
        obtain ⟨z15, p16, h⟩ := bnd_s h
        refine r_callV (As := [.int v3, .int (4 : Int32)]) hX dX9_isFree_61 mk_Fm_of mi_Fm_of ml_9_79 rfl rfl rfl rfl (by decide) (by decide) (Nat.le_of_ble_eq_true rfl) hr (ok_Fm_of (d := d + 1) v3 (4 : Int32) Mc p16) ?_
        refine r_aload_n hX dX9_isFree_64 rfl ?_
        refine r_iload_n hX dX9_isFree_65 rfl ?_
        refine r_iconst (v := (5 : Int32)) hX dX9_isFree_66 (by decide) ?_
        obtain ⟨z17, p18, h⟩ := bnd_s h
        refine r_callV (As := [.int v3, .int (5 : Int32)]) hX dX9_isFree_67 mk_Fm_of mi_Fm_of ml_9_79 rfl rfl rfl rfl (by decide) (by decide) (Nat.le_of_ble_eq_true rfl) hr (ok_Fm_of (d := d + 1) v3 (5 : Int32) Mc p18) ?_
        refine r_iadd hX dX9_isFree_70 ?_
        refine r_iconst (v := (1 : Int32)) hX dX9_isFree_71 (by decide) ?_
        refine r_isub hX dX9_isFree_72 ?_
        obtain ⟨z19, p20, h⟩ := bnd_s h
        refine r_callS (As := [.int c2, .int z13, .int ((z15 + z17) - (1 : Int32))]) hX dX9_isFree_73 mk_Fm_in ms_Fm_in ml_9_83 rfl rfl rfl (Nat.le_of_ble_eq_true rfl) hr (ok_Fm_in (d := d + 1) c2 z13 ((z15 + z17) - (1 : Int32)) Mc p20) ?_
        refine r_ifb_eq (tgt := 81) hX dX9_isFree_76 (by decide) (fun g21 => ?_) (fun g21 => ?_)
        · have h := (if_neg (show ¬ z19 = true from fun e => by rw [g21] at e; cases e)).symm.trans h
          exact ok_Fm_isFree_j81 n v3   hX hT hr hc hx h
        · have h := (if_pos g21).symm.trans h
          refine r_iconst (v := (0 : Int32)) hX dX9_isFree_79 (by decide) ?_
          obtain rfl := hx _ (Option.some.inj h).symm
          exact r_iret (v := b2i false) hX hT dX9_isFree_80 (okI_b false).1
set_option maxRecDepth 100000 in
theorem ok_Fm_isFree {G : Gm} {l : Launch} {d : Nat} (n : Nat) (v1 : Int32) (v2 : Int32) (M : Mm) {z : Bool}  (h : Fm_isFree n v1 v2 M = some z) : CK G l (d + 2) md_Fm_isFree [.ref 94, .int v1, .int v2] M SS (some (.int (b2i z))) M SS := by
  refine ck_of mk_Fm_isFree (Nat.le_of_ble_eq_true rfl) ⟨Nat.le_refl _, Nat.le_refl _⟩ (fun X hX hT hS hr hl => ?_)
  subst hl
  unfold Fm_isFree at h
  show WR G X (mQ G X (some (.int (b2i z))) M SS) 0 [.ref 94, .int v1, .int v2, vU] [] M SS
  refine r_iload_n hX dX9_isFree_0 rfl ?_
  refine r_iconst (v := (0 : Int32)) hX dX9_isFree_1 (by decide) ?_
  refine r_aload_n hX dX9_isFree_2 rfl ?_
  refine r_getf (v := .ref 95) hX dX9_isFree_3 fl_9_7 rfl (by decide) (by decide) rfl ?_
  refine r_iconst (v := (1 : Int32)) hX dX9_isFree_6 (by decide) ?_
  obtain ⟨k1, h⟩ := grd_s h
  refine r_iald hX dX9_isFree_7 rfl (by decide) (inb_at rfl k1) ?_
  refine r_iconst (v := (1 : Int32)) hX dX9_isFree_8 (by decide) ?_
  refine r_isub hX dX9_isFree_9 ?_
  obtain ⟨z2, p3, h⟩ := bnd_s h
  refine r_callS (As := [.int v2, .int (0 : Int32), .int ((M.1 95 (tn (1 : Int32))) - (1 : Int32))]) hX dX9_isFree_10 mk_Fm_in ms_Fm_in ml_9_83 rfl rfl rfl (Nat.le_of_ble_eq_true rfl) hr (ok_Fm_in (d := d + 1) v2 (0 : Int32) ((M.1 95 (tn (1 : Int32))) - (1 : Int32)) M p3) ?_
  refine r_ifb_ne (tgt := 18) hX dX9_isFree_13 (by decide) (fun g4 => ?_) (fun g4 => ?_)
  · have h := (if_pos g4).symm.trans h
    refine r_iconst (v := (0 : Int32)) hX dX9_isFree_18 (by decide) ?_
    refine r_istore_n (L1 := [.ref 94, .int v1, .int v2, .int (0 : Int32)]) hX dX9_isFree_19 (Nat.le_of_ble_eq_true rfl) rfl ?_
    obtain ⟨y22, h1, h⟩ := bnd_s h
    refine loop_ok (P := fun s1 : Int32 => WR G X (mQ G X (some (.int (b2i z))) M SS) 20 [.ref 94, .int v1, .int v2, .int s1] [] M SS) (E := fun x1 : (Unit) ⊕ (Bool) => elS x1 (fun x2 => WR G X (mQ G X (some (.int (b2i z))) M SS) 87 [.ref 94, vU, vU, vU] [] M SS) (fun y1 => y1 = z)) (fun s1 o1 g1 g2 g3 => ok_Fm_isFree_b20 n s1  hX hT hr g2 g3 g1) n (0 : Int32) y22 h1 ?_
    cases y22 with
    | inr e24 =>
      exact Option.some.inj h
    | inl x23 =>
      show WR G X (mQ G X (some (.int (b2i z))) M SS) 87 [.ref 94, vU, vU, vU] [] M SS
      refine r_iconst (v := (1 : Int32)) hX dX9_isFree_87 (by decide) ?_
      obtain rfl := Option.some.inj h
      exact r_iret (v := b2i true) hX hT dX9_isFree_88 (okI_b true).1
  · have h := (if_neg (show ¬ z2 = true from fun e => by rw [g4] at e; cases e)).symm.trans h
    refine r_iconst (v := (0 : Int32)) hX dX9_isFree_16 (by decide) ?_
    obtain rfl := Option.some.inj h
    exact r_iret (v := b2i false) hX hT dX9_isFree_17 (okI_b false).1
def Fm_rowAbout_b8 (n : Nat) (c1 : Int32) (Mc : Mm) (v4 : Int32) : Option ((Int32) ⊕ (Int32)) :=
  bnd (Fm_isFree n c1 (v4 - (1 : Int32)) Mc) (fun z1 =>
  if z1 = true then
    some (.inl (v4 - (1 : Int32)))
  else
    some (.inr v4))
def Fm_rowAbout_b29 (n : Nat) (c1 : Int32) (Mc : Mm) (v5 : Int32) : Option ((Int32) ⊕ (Int32)) :=
  bnd (Fm_isFree n c1 v5 Mc) (fun z5 =>
  if z5 = true then
    some (.inl (v5 + (1 : Int32)))
  else
    some (.inr v5))
def Fm_rowAbout (n : Nat) (v1 : Int32) (v2 : Int32) (v3 : Int32) (M : Mm) : Option (Int32) :=
  bnd (loop (fun s1 : Int32 => Fm_rowAbout_b8 n v1 M s1) n v2) (fun y4 =>
  bnd (loop (fun s1 : Int32 => Fm_rowAbout_b29 n v1 M s1) n (v2 + v3)) (fun y8 =>
  some (y8 - y4)))
set_option maxRecDepth 100000 in
theorem ok_Fm_rowAbout_b8 (n : Nat) (v4 : Int32) {c1 : Int32} {c5 : Int32} {Mc : Mm} {z : Int32} {oo : (Int32) ⊕ (Int32)} {G : Gm} {X : Cx} {d : Nat}  (hX : XK G X 9 cX9_rowAbout 6 (d + 3)) (hT : XT X (some .int) "rowAbout") (hr : XR X SS) (hc : ∀ s1 : Int32, oo = .inl s1 → WR G X (mQ G X (some (.int z)) Mc SS) 8 [.ref 94, .int c1, vU, vU, .int s1, .int c5] [] Mc SS) (hx : ∀ x1 : Int32, oo = .inr x1 → WR G X (mQ G X (some (.int z)) Mc SS) 29 [.ref 94, .int c1, vU, vU, .int x1, .int c5] [] Mc SS) (h : Fm_rowAbout_b8 n c1 Mc v4 = some oo) : WR G X (mQ G X (some (.int z)) Mc SS) 8 [.ref 94, .int c1, vU, vU, .int v4, .int c5] [] Mc SS := by
  unfold Fm_rowAbout_b8 at h
  refine r_aload_n hX dX9_rowAbout_8 rfl ?_
  refine r_iload_n hX dX9_rowAbout_9 rfl ?_
  refine r_iload hX dX9_rowAbout_10 rfl ?_
  refine r_iconst (v := (1 : Int32)) hX dX9_rowAbout_12 (by decide) ?_
  refine r_isub hX dX9_rowAbout_13 ?_
  obtain ⟨z1, p2, h⟩ := bnd_s h
  refine r_callV (As := [.int c1, .int (v4 - (1 : Int32))]) hX dX9_rowAbout_14 mk_Fm_isFree mi_Fm_isFree ml_9_230 rfl rfl rfl rfl (by decide) (by decide) (Nat.le_of_ble_eq_true rfl) hr (ok_Fm_isFree (d := d + 0) n c1 (v4 - (1 : Int32)) Mc p2) ?_
  refine r_ifb_eq (tgt := 29) hX dX9_rowAbout_17 (by decide) (fun g3 => ?_) (fun g3 => ?_)
  · have h := (if_neg (show ¬ z1 = true from fun e => by rw [g3] at e; cases e)).symm.trans h
    exact hx _ (Option.some.inj h).symm
  · have h := (if_pos g3).symm.trans h
    refine r_iload hX dX9_rowAbout_20 rfl ?_
    refine r_iconst (v := (1 : Int32)) hX dX9_rowAbout_22 (by decide) ?_
    refine r_isub hX dX9_rowAbout_23 ?_
    refine r_istore (L1 := [.ref 94, .int c1, vU, vU, .int (v4 - (1 : Int32)), .int c5]) hX dX9_rowAbout_24 (Nat.le_of_ble_eq_true rfl) rfl ?_
    refine r_goto (tgt := 8) hX dX9_rowAbout_26 (by decide) ?_
    exact hc (v4 - (1 : Int32)) (Option.some.inj h).symm
set_option maxRecDepth 100000 in
theorem ok_Fm_rowAbout_b29 (n : Nat) (v5 : Int32) {c1 : Int32} {c4 : Int32} {Mc : Mm} {z : Int32} {oo : (Int32) ⊕ (Int32)} {G : Gm} {X : Cx} {d : Nat}  (hX : XK G X 9 cX9_rowAbout 6 (d + 3)) (hT : XT X (some .int) "rowAbout") (hr : XR X SS) (hc : ∀ s1 : Int32, oo = .inl s1 → WR G X (mQ G X (some (.int z)) Mc SS) 29 [.ref 94, .int c1, vU, vU, .int c4, .int s1] [] Mc SS) (hx : ∀ x1 : Int32, oo = .inr x1 → WR G X (mQ G X (some (.int z)) Mc SS) 48 [.ref 94, vU, vU, vU, .int c4, .int x1] [] Mc SS) (h : Fm_rowAbout_b29 n c1 Mc v5 = some oo) : WR G X (mQ G X (some (.int z)) Mc SS) 29 [.ref 94, .int c1, vU, vU, .int c4, .int v5] [] Mc SS := by
  unfold Fm_rowAbout_b29 at h
  refine r_aload_n hX dX9_rowAbout_29 rfl ?_
  refine r_iload_n hX dX9_rowAbout_30 rfl ?_
  refine r_iload hX dX9_rowAbout_31 rfl ?_
  obtain ⟨z5, p6, h⟩ := bnd_s h
  refine r_callV (As := [.int c1, .int v5]) hX dX9_rowAbout_33 mk_Fm_isFree mi_Fm_isFree ml_9_230 rfl rfl rfl rfl (by decide) (by decide) (Nat.le_of_ble_eq_true rfl) hr (ok_Fm_isFree (d := d + 0) n c1 v5 Mc p6) ?_
  refine r_ifb_eq (tgt := 48) hX dX9_rowAbout_36 (by decide) (fun g7 => ?_) (fun g7 => ?_)
  · have h := (if_neg (show ¬ z5 = true from fun e => by rw [g7] at e; cases e)).symm.trans h
    refine WR.fg (L' := [.ref 94, vU, vU, vU, .int c4, .int v5]) ⟨Or.inr rfl, Or.inl rfl, Or.inl rfl, Or.inl rfl, Or.inr rfl, Or.inr rfl, trivial⟩ ?_
    exact hx _ (Option.some.inj h).symm
  · have h := (if_pos g7).symm.trans h
    refine r_iload hX dX9_rowAbout_39 rfl ?_
    refine r_iconst (v := (1 : Int32)) hX dX9_rowAbout_41 (by decide) ?_
    refine r_iadd hX dX9_rowAbout_42 ?_
    refine r_istore (L1 := [.ref 94, .int c1, vU, vU, .int c4, .int (v5 + (1 : Int32))]) hX dX9_rowAbout_43 (Nat.le_of_ble_eq_true rfl) rfl ?_
    refine r_goto (tgt := 29) hX dX9_rowAbout_45 (by decide) ?_
    exact hc (v5 + (1 : Int32)) (Option.some.inj h).symm
set_option maxRecDepth 100000 in
theorem ok_Fm_rowAbout {G : Gm} {l : Launch} {d : Nat} (n : Nat) (v1 : Int32) (v2 : Int32) (v3 : Int32) (M : Mm) {z : Int32}  (h : Fm_rowAbout n v1 v2 v3 M = some z) : CK G l (d + 3) md_Fm_rowAbout [.ref 94, .int v1, .int v2, .int v3] M SS (some (.int z)) M SS := by
  refine ck_of mk_Fm_rowAbout (Nat.le_of_ble_eq_true rfl) ⟨Nat.le_refl _, Nat.le_refl _⟩ (fun X hX hT hS hr hl => ?_)
  subst hl
  unfold Fm_rowAbout at h
  show WR G X (mQ G X (some (.int z)) M SS) 0 [.ref 94, .int v1, .int v2, .int v3, vU, vU] [] M SS
  refine r_iload_n hX dX9_rowAbout_0 rfl ?_
  refine r_istore (L1 := [.ref 94, .int v1, .int v2, .int v3, .int v2, vU]) hX dX9_rowAbout_1 (Nat.le_of_ble_eq_true rfl) rfl ?_
  refine r_iload_n hX dX9_rowAbout_3 rfl ?_
  refine r_iload_n hX dX9_rowAbout_4 rfl ?_
  refine r_iadd hX dX9_rowAbout_5 ?_
  refine r_istore (L1 := [.ref 94, .int v1, .int v2, .int v3, .int v2, .int (v2 + v3)]) hX dX9_rowAbout_6 (Nat.le_of_ble_eq_true rfl) rfl ?_
  refine WR.fg (L' := [.ref 94, .int v1, vU, vU, .int v2, .int (v2 + v3)]) ⟨Or.inr rfl, Or.inr rfl, Or.inl rfl, Or.inl rfl, Or.inr rfl, Or.inr rfl, trivial⟩ ?_
  obtain ⟨y4, h1, h⟩ := bnd_s h
  refine loop_ok (P := fun s1 : Int32 => WR G X (mQ G X (some (.int z)) M SS) 8 [.ref 94, .int v1, vU, vU, .int s1, .int (v2 + v3)] [] M SS) (E := fun x1 : Int32 => WR G X (mQ G X (some (.int z)) M SS) 29 [.ref 94, .int v1, vU, vU, .int x1, .int (v2 + v3)] [] M SS) (fun s1 o1 g1 g2 g3 => ok_Fm_rowAbout_b8 n s1  hX hT hr g2 g3 g1) n v2 y4 h1 ?_
  show WR G X (mQ G X (some (.int z)) M SS) 29 [.ref 94, .int v1, vU, vU, .int y4, .int (v2 + v3)] [] M SS
  obtain ⟨y8, h1, h⟩ := bnd_s h
  refine loop_ok (P := fun s1 : Int32 => WR G X (mQ G X (some (.int z)) M SS) 29 [.ref 94, .int v1, vU, vU, .int y4, .int s1] [] M SS) (E := fun x1 : Int32 => WR G X (mQ G X (some (.int z)) M SS) 48 [.ref 94, vU, vU, vU, .int y4, .int x1] [] M SS) (fun s1 o1 g1 g2 g3 => ok_Fm_rowAbout_b29 n s1  hX hT hr g2 g3 g1) n (v2 + v3) y8 h1 ?_
  show WR G X (mQ G X (some (.int z)) M SS) 48 [.ref 94, vU, vU, vU, .int y4, .int y8] [] M SS
  refine r_iload hX dX9_rowAbout_48 rfl ?_
  refine r_iload hX dX9_rowAbout_50 rfl ?_
  refine r_isub hX dX9_rowAbout_52 ?_
  obtain rfl := Option.some.inj h
  exact r_iret hX hT dX9_rowAbout_53 rfl
def Fm_finds_j191 (v3 : Int32) (v4 : Int32) (M : Mm) : Option ((Int32 × Int32 × Mm) ⊕ (Mm)) :=
  some (.inl (v3, v4 + (1 : Int32), M))
def Fm_finds_j185 (v3 : Int32) (v6 : Int32) (M : Mm) : Option ((Int32 × Int32 × Mm) ⊕ (Int32 × Mm)) :=
  some (.inl (v3, v6 + (1 : Int32), M))
def Fm_finds_j153 (c4 : Int32) (c5 : Int32) (v3 : Int32) (v6 : Int32) (v7 : Int32) (w0 : Int32) (M : Mm) : Option ((Int32 × Int32 × Mm) ⊕ (Int32 × Mm)) :=
  if w0 < v3 then
    Fm_finds_j185 w0 v6 ((up2 (up2 (up2 M.1 94 20 c4) 94 21 v7) 94 22 c5), M.2)
  else
    Fm_finds_j185 v3 v6 M
def Fm_finds_j94 (n : Nat) (c2 : Int32) (c4 : Int32) (c5 : Int32) (v3 : Int32) (v6 : Int32) (w0 : Int32) (M : Mm) : Option ((Int32 × Int32 × Mm) ⊕ (Int32 × Mm)) :=
  grd (inb c4 5) (
  bnd (Fm_fits n (M.1 99 (tn c4)) w0 c5 (-1 : Int32) M) (fun z10 =>
  if z10 = true then
    if c2 = (2 : Int32) then
      grd (inb c4 5) (
      bnd (Fm_rowAbout n (M.1 99 (tn c4)) w0 c5 M) (fun z17 =>
      Fm_finds_j153 c4 c5 v3 v6 w0 z17 M))
    else
      if c2 = (1 : Int32) then
        Fm_finds_j153 c4 c5 v3 v6 w0 w0 M
      else
        Fm_finds_j153 c4 c5 v3 v6 w0 v6 M
  else
    Fm_finds_j185 v3 v6 M))
def Fm_finds_b58 (n : Nat) (c2 : Int32) (c4 : Int32) (c5 : Int32) (v3 : Int32) (v6 : Int32) (M : Mm) : Option ((Int32 × Int32 × Mm) ⊕ (Int32 × Mm)) :=
  grd (inb (1 : Int32) 12256) (
  if (M.1 95 (tn (1 : Int32))) < (v6 + c5) then
    some (.inr (v3, M))
  else
    if c2 = (3 : Int32) then
      grd (inb (1 : Int32) 12256) (
      Fm_finds_j94 n c2 c4 c5 v3 v6 (((M.1 95 (tn (1 : Int32))) - c5) - v6) M)
    else
      Fm_finds_j94 n c2 c4 c5 v3 v6 v6 M)
def Fm_finds_j55 (n : Nat) (c2 : Int32) (v3 : Int32) (v4 : Int32) (v5 : Int32) (M : Mm) : Option ((Int32 × Int32 × Mm) ⊕ (Mm)) :=
  bnd (loop (fun s1 : Int32 × Int32 × Mm => Fm_finds_b58 n c2 v4 v5 s1.1 s1.2.1 s1.2.2) n (v3, (0 : Int32), M)) (fun y20 =>
  Fm_finds_j191 y20.1 v4 y20.2)
def Fm_finds_b11 (n : Nat) (c1 : Int32) (c2 : Int32) (v3 : Int32) (v4 : Int32) (M : Mm) : Option ((Int32 × Int32 × Mm) ⊕ (Mm)) :=
  if (M.1 94 19) ≤ v4 then
    some (.inr M)
  else
    bnd (Fm_widthOn n v4 c1 M) (fun z2 =>
    if z2 = (-1 : Int32) then
      Fm_finds_j191 v3 v4 M
    else
      if (M.1 94 20) = (-1 : Int32) then
        Fm_finds_j55 n c2 v3 v4 z2 M
      else
        if c2 = (0 : Int32) then
          Fm_finds_j191 v3 v4 M
        else
          if c2 = (3 : Int32) then
            Fm_finds_j191 v3 v4 M
          else
            Fm_finds_j55 n c2 v3 v4 z2 M)
def Fm_finds (n : Nat) (v1 : Int32) (v2 : Int32) (M : Mm) : Option (Bool × Mm) :=
  bnd (loop (fun s1 : Int32 × Int32 × Mm => Fm_finds_b11 n v1 v2 s1.1 s1.2.1 s1.2.2) n ((1000000000 : Int32), (0 : Int32), ((up2 M.1 94 20 (-1 : Int32)), M.2))) (fun y23 =>
  if (y23.1 94 20) = (-1 : Int32) then
    some (false, y23)
  else
    some (true, y23))
set_option maxRecDepth 100000 in
theorem ok_Fm_finds_j191 (n : Nat) (v3 : Int32) (v4 : Int32) (M : Mm) {c1 : Int32} {c2 : Int32} {z : Bool × Mm} {oo : (Int32 × Int32 × Mm) ⊕ (Mm)} {G : Gm} {X : Cx} {d : Nat}  (hX : XK G X 9 cX9_finds 9 (d + 4)) (hT : XT X (some .boolean) "finds") (hr : XR X SS) (hc : ∀ s1 : Int32 × Int32 × Mm, oo = .inl s1 → WR G X (mQ G X (some (.int (b2i z.1))) z.2 SS) 11 [.ref 94, .int c1, .int c2, .int s1.1, .int s1.2.1, vU, vU, vU, vU] [] s1.2.2 SS) (hx : ∀ x1 : Mm, oo = .inr x1 → WR G X (mQ G X (some (.int (b2i z.1))) z.2 SS) 197 [.ref 94, vU, vU, vU, vU, vU, vU, vU, vU] [] x1 SS) (h : Fm_finds_j191 v3 v4 M = some oo) : WR G X (mQ G X (some (.int (b2i z.1))) z.2 SS) 191 [.ref 94, .int c1, .int c2, .int v3, .int v4, vU, vU, vU, vU] [] M SS := by
  unfold Fm_finds_j191 at h
  refine r_iinc (v := v4 + (1 : Int32)) (L1 := [.ref 94, .int c1, .int c2, .int v3, .int (v4 + (1 : Int32)), vU, vU, vU, vU]) hX dX9_finds_191 rfl rfl rfl ?_
  refine r_goto (tgt := 11) hX dX9_finds_194 (by decide) ?_
  exact hc (v3, v4 + (1 : Int32), M) (Option.some.inj h).symm
set_option maxRecDepth 100000 in
theorem ok_Fm_finds_j185 (n : Nat) (v3 : Int32) (v6 : Int32) (M : Mm) {c1 : Int32} {c2 : Int32} {c4 : Int32} {c5 : Int32} {z : Bool × Mm} {oo : (Int32 × Int32 × Mm) ⊕ (Int32 × Mm)} {G : Gm} {X : Cx} {d : Nat}  (hX : XK G X 9 cX9_finds 9 (d + 4)) (hT : XT X (some .boolean) "finds") (hr : XR X SS) (hc : ∀ s1 : Int32 × Int32 × Mm, oo = .inl s1 → WR G X (mQ G X (some (.int (b2i z.1))) z.2 SS) 58 [.ref 94, .int c1, .int c2, .int s1.1, .int c4, .int c5, .int s1.2.1, vU, vU] [] s1.2.2 SS) (hx : ∀ x1 : Int32 × Mm, oo = .inr x1 → WR G X (mQ G X (some (.int (b2i z.1))) z.2 SS) 191 [.ref 94, .int c1, .int c2, .int x1.1, .int c4, vU, vU, vU, vU] [] x1.2 SS) (h : Fm_finds_j185 v3 v6 M = some oo) : WR G X (mQ G X (some (.int (b2i z.1))) z.2 SS) 185 [.ref 94, .int c1, .int c2, .int v3, .int c4, .int c5, .int v6, vU, vU] [] M SS := by
  unfold Fm_finds_j185 at h
  refine r_iinc (v := v6 + (1 : Int32)) (L1 := [.ref 94, .int c1, .int c2, .int v3, .int c4, .int c5, .int (v6 + (1 : Int32)), vU, vU]) hX dX9_finds_185 rfl rfl rfl ?_
  refine r_goto (tgt := 58) hX dX9_finds_188 (by decide) ?_
  exact hc (v3, v6 + (1 : Int32), M) (Option.some.inj h).symm
set_option maxRecDepth 100000 in
theorem ok_Fm_finds_j153 (n : Nat) (v3 : Int32) (v6 : Int32) (v7 : Int32) (w0 : Int32) (M : Mm) {c1 : Int32} {c2 : Int32} {c4 : Int32} {c5 : Int32} {z : Bool × Mm} {oo : (Int32 × Int32 × Mm) ⊕ (Int32 × Mm)} {G : Gm} {X : Cx} {d : Nat}  (hX : XK G X 9 cX9_finds 9 (d + 4)) (hT : XT X (some .boolean) "finds") (hr : XR X SS) (hc : ∀ s1 : Int32 × Int32 × Mm, oo = .inl s1 → WR G X (mQ G X (some (.int (b2i z.1))) z.2 SS) 58 [.ref 94, .int c1, .int c2, .int s1.1, .int c4, .int c5, .int s1.2.1, vU, vU] [] s1.2.2 SS) (hx : ∀ x1 : Int32 × Mm, oo = .inr x1 → WR G X (mQ G X (some (.int (b2i z.1))) z.2 SS) 191 [.ref 94, .int c1, .int c2, .int x1.1, .int c4, vU, vU, vU, vU] [] x1.2 SS) (h : Fm_finds_j153 c4 c5 v3 v6 v7 w0 M = some oo) : WR G X (mQ G X (some (.int (b2i z.1))) z.2 SS) 153 [.ref 94, .int c1, .int c2, .int v3, .int c4, .int c5, .int v6, .int v7, vU] [.int w0] M SS := by
  unfold Fm_finds_j153 at h
  refine r_istore (L1 := [.ref 94, .int c1, .int c2, .int v3, .int c4, .int c5, .int v6, .int v7, .int w0]) hX dX9_finds_153 (Nat.le_of_ble_eq_true rfl) rfl ?_
  refine r_iload hX dX9_finds_155 rfl ?_
  refine r_iload_n hX dX9_finds_157 rfl ?_
  refine r_icmp_lt (tgt := 164) hX dX9_finds_158 (by decide) (fun g15 => ?_) (fun g15 => ?_)
  · have h := (if_pos g15).symm.trans h
    refine r_iload hX dX9_finds_164 rfl ?_
    refine r_istore_n (L1 := [.ref 94, .int c1, .int c2, .int w0, .int c4, .int c5, .int v6, .int v7, .int w0]) hX dX9_finds_166 (Nat.le_of_ble_eq_true rfl) rfl ?_
    refine r_aload_n hX dX9_finds_167 rfl ?_
    refine r_iload hX dX9_finds_168 rfl ?_
    refine r_putI hX dX9_finds_170 fl_9_233 rfl (by decide) (by decide) (okI_int _) ?_
    refine r_aload_n hX dX9_finds_173 rfl ?_
    refine r_iload hX dX9_finds_174 rfl ?_
    refine r_putI' hX dX9_finds_176 fl_9_247 rfl (by decide) (by decide) (okI_int _) ?_
    refine r_aload_n hX dX9_finds_179 rfl ?_
    refine r_iload hX dX9_finds_180 rfl ?_
    refine r_putI' hX dX9_finds_182 fl_9_250 rfl (by decide) (by decide) (okI_int _) ?_
    refine WR.fg (L' := [.ref 94, .int c1, .int c2, .int w0, .int c4, .int c5, .int v6, vU, vU]) ⟨Or.inr rfl, Or.inr rfl, Or.inr rfl, Or.inr rfl, Or.inr rfl, Or.inr rfl, Or.inr rfl, Or.inl rfl, Or.inl rfl, trivial⟩ ?_
    exact ok_Fm_finds_j185 n w0 v6 ((up2 (up2 (up2 M.1 94 20 c4) 94 21 v7) 94 22 c5), M.2)   hX hT hr hc hx h
  · have h := (if_neg g15).symm.trans h
    refine r_goto (tgt := 185) hX dX9_finds_161 (by decide) ?_
    refine WR.fg (L' := [.ref 94, .int c1, .int c2, .int v3, .int c4, .int c5, .int v6, vU, vU]) ⟨Or.inr rfl, Or.inr rfl, Or.inr rfl, Or.inr rfl, Or.inr rfl, Or.inr rfl, Or.inr rfl, Or.inl rfl, Or.inl rfl, trivial⟩ ?_
    exact ok_Fm_finds_j185 n v3 v6 M   hX hT hr hc hx h
set_option maxRecDepth 100000 in
theorem ok_Fm_finds_j94 (n : Nat) (v3 : Int32) (v6 : Int32) (w0 : Int32) (M : Mm) {c1 : Int32} {c2 : Int32} {c4 : Int32} {c5 : Int32} {z : Bool × Mm} {oo : (Int32 × Int32 × Mm) ⊕ (Int32 × Mm)} {G : Gm} {X : Cx} {d : Nat}  (hX : XK G X 9 cX9_finds 9 (d + 4)) (hT : XT X (some .boolean) "finds") (hr : XR X SS) (hc : ∀ s1 : Int32 × Int32 × Mm, oo = .inl s1 → WR G X (mQ G X (some (.int (b2i z.1))) z.2 SS) 58 [.ref 94, .int c1, .int c2, .int s1.1, .int c4, .int c5, .int s1.2.1, vU, vU] [] s1.2.2 SS) (hx : ∀ x1 : Int32 × Mm, oo = .inr x1 → WR G X (mQ G X (some (.int (b2i z.1))) z.2 SS) 191 [.ref 94, .int c1, .int c2, .int x1.1, .int c4, vU, vU, vU, vU] [] x1.2 SS) (h : Fm_finds_j94 n c2 c4 c5 v3 v6 w0 M = some oo) : WR G X (mQ G X (some (.int (b2i z.1))) z.2 SS) 94 [.ref 94, .int c1, .int c2, .int v3, .int c4, .int c5, .int v6, vU, vU] [.int w0] M SS := by
  unfold Fm_finds_j94 at h
  refine r_istore (L1 := [.ref 94, .int c1, .int c2, .int v3, .int c4, .int c5, .int v6, .int w0, vU]) hX dX9_finds_94 (Nat.le_of_ble_eq_true rfl) rfl ?_
  refine r_aload_n hX dX9_finds_96 rfl ?_
  refine r_aload_n hX dX9_finds_97 rfl ?_
  refine r_getf (v := .ref 99) hX dX9_finds_98 fl_9_23 rfl (by decide) (by decide) rfl ?_
  refine r_iload hX dX9_finds_101 rfl ?_
  obtain ⟨k9, h⟩ := grd_s h
  refine r_iald hX dX9_finds_103 rfl (by decide) (inb_at rfl k9) ?_
  refine r_iload hX dX9_finds_104 rfl ?_
  refine r_iload hX dX9_finds_106 rfl ?_
  refine r_iconst (v := (-1 : Int32)) hX dX9_finds_108 (by decide) ?_
  obtain ⟨z10, p11, h⟩ := bnd_s h
  refine r_callV (As := [.int (M.1 99 (tn c4)), .int w0, .int c5, .int (-1 : Int32)]) hX dX9_finds_109 mk_Fm_fits mi_Fm_fits ml_9_240 rfl rfl rfl rfl (by decide) (by decide) (Nat.le_of_ble_eq_true rfl) hr (ok_Fm_fits (d := d + 0) n (M.1 99 (tn c4)) w0 c5 (-1 : Int32) M p11) ?_
  refine r_ifb_ne (tgt := 118) hX dX9_finds_112 (by decide) (fun g12 => ?_) (fun g12 => ?_)
  · have h := (if_pos g12).symm.trans h
    refine r_iload_n hX dX9_finds_118 rfl ?_
    refine r_iconst (v := (2 : Int32)) hX dX9_finds_119 (by decide) ?_
    refine r_icmp_ne (tgt := 141) hX dX9_finds_120 (by decide) (fun g13 => ?_) (fun g13 => ?_)
    · have h := (if_neg g13).symm.trans h
      refine r_iload_n hX dX9_finds_141 rfl ?_
      refine r_iconst (v := (1 : Int32)) hX dX9_finds_142 (by decide) ?_
      refine r_icmp_ne (tgt := 151) hX dX9_finds_143 (by decide) (fun g14 => ?_) (fun g14 => ?_)
      · have h := (if_neg g14).symm.trans h
        refine r_iload hX dX9_finds_151 rfl ?_
        exact ok_Fm_finds_j153 n v3 v6 w0 v6 M   hX hT hr hc hx h
      · have h := (if_pos g14).symm.trans h
        refine r_iload hX dX9_finds_146 rfl ?_
        refine r_goto (tgt := 153) hX dX9_finds_148 (by decide) ?_
        exact ok_Fm_finds_j153 n v3 v6 w0 w0 M   hX hT hr hc hx h
    · have h := (if_pos g13).symm.trans h
      refine r_aload_n hX dX9_finds_123 rfl ?_
      refine r_aload_n hX dX9_finds_124 rfl ?_
      refine r_getf (v := .ref 99) hX dX9_finds_125 fl_9_23 rfl (by decide) (by decide) rfl ?_
      refine r_iload hX dX9_finds_128 rfl ?_
      obtain ⟨k16, h⟩ := grd_s h
      refine r_iald hX dX9_finds_130 rfl (by decide) (inb_at rfl k16) ?_
      refine r_iload hX dX9_finds_131 rfl ?_
      refine r_iload hX dX9_finds_133 rfl ?_
      obtain ⟨z17, p18, h⟩ := bnd_s h
      refine r_callV (As := [.int (M.1 99 (tn c4)), .int w0, .int c5]) hX dX9_finds_135 mk_Fm_rowAbout mi_Fm_rowAbout ml_9_243 rfl rfl rfl rfl (by decide) (by decide) (Nat.le_of_ble_eq_true rfl) hr (ok_Fm_rowAbout (d := d + 0) n (M.1 99 (tn c4)) w0 c5 M p18) ?_
      refine r_goto (tgt := 153) hX dX9_finds_138 (by decide) ?_
      exact ok_Fm_finds_j153 n v3 v6 w0 z17 M   hX hT hr hc hx h
  · have h := (if_neg (show ¬ z10 = true from fun e => by rw [g12] at e; cases e)).symm.trans h
    refine r_goto (tgt := 185) hX dX9_finds_115 (by decide) ?_
    refine WR.fg (L' := [.ref 94, .int c1, .int c2, .int v3, .int c4, .int c5, .int v6, vU, vU]) ⟨Or.inr rfl, Or.inr rfl, Or.inr rfl, Or.inr rfl, Or.inr rfl, Or.inr rfl, Or.inr rfl, Or.inl rfl, Or.inl rfl, trivial⟩ ?_
    exact ok_Fm_finds_j185 n v3 v6 M   hX hT hr hc hx h
set_option maxRecDepth 100000 in
theorem ok_Fm_finds_b58 (n : Nat) (v3 : Int32) (v6 : Int32) (M : Mm) {c1 : Int32} {c2 : Int32} {c4 : Int32} {c5 : Int32} {z : Bool × Mm} {oo : (Int32 × Int32 × Mm) ⊕ (Int32 × Mm)} {G : Gm} {X : Cx} {d : Nat}  (hX : XK G X 9 cX9_finds 9 (d + 4)) (hT : XT X (some .boolean) "finds") (hr : XR X SS) (hc : ∀ s1 : Int32 × Int32 × Mm, oo = .inl s1 → WR G X (mQ G X (some (.int (b2i z.1))) z.2 SS) 58 [.ref 94, .int c1, .int c2, .int s1.1, .int c4, .int c5, .int s1.2.1, vU, vU] [] s1.2.2 SS) (hx : ∀ x1 : Int32 × Mm, oo = .inr x1 → WR G X (mQ G X (some (.int (b2i z.1))) z.2 SS) 191 [.ref 94, .int c1, .int c2, .int x1.1, .int c4, vU, vU, vU, vU] [] x1.2 SS) (h : Fm_finds_b58 n c2 c4 c5 v3 v6 M = some oo) : WR G X (mQ G X (some (.int (b2i z.1))) z.2 SS) 58 [.ref 94, .int c1, .int c2, .int v3, .int c4, .int c5, .int v6, vU, vU] [] M SS := by
  unfold Fm_finds_b58 at h
  refine r_iload hX dX9_finds_58 rfl ?_
  refine r_iload hX dX9_finds_60 rfl ?_
  refine r_iadd hX dX9_finds_62 ?_
  refine r_aload_n hX dX9_finds_63 rfl ?_
  refine r_getf (v := .ref 95) hX dX9_finds_64 fl_9_7 rfl (by decide) (by decide) rfl ?_
  refine r_iconst (v := (1 : Int32)) hX dX9_finds_67 (by decide) ?_
  obtain ⟨k6, h⟩ := grd_s h
  refine r_iald hX dX9_finds_68 rfl (by decide) (inb_at rfl k6) ?_
  refine r_icmp_gt (tgt := 191) hX dX9_finds_69 (by decide) (fun g7 => ?_) (fun g7 => ?_)
  · have h := (if_pos g7).symm.trans h
    refine WR.fg (L' := [.ref 94, .int c1, .int c2, .int v3, .int c4, vU, vU, vU, vU]) ⟨Or.inr rfl, Or.inr rfl, Or.inr rfl, Or.inr rfl, Or.inr rfl, Or.inl rfl, Or.inl rfl, Or.inl rfl, Or.inl rfl, trivial⟩ ?_
    exact hx _ (Option.some.inj h).symm
  · have h := (if_neg g7).symm.trans h
    refine r_iload_n hX dX9_finds_72 rfl ?_
    refine r_iconst (v := (3 : Int32)) hX dX9_finds_73 (by decide) ?_
    refine r_icmp_ne (tgt := 92) hX dX9_finds_74 (by decide) (fun g8 => ?_) (fun g8 => ?_)
    · have h := (if_neg g8).symm.trans h
      refine r_iload hX dX9_finds_92 rfl ?_
      exact ok_Fm_finds_j94 n v3 v6 v6 M   hX hT hr hc hx h
    · have h := (if_pos g8).symm.trans h
      refine r_aload_n hX dX9_finds_77 rfl ?_
      refine r_getf (v := .ref 95) hX dX9_finds_78 fl_9_7 rfl (by decide) (by decide) rfl ?_
      refine r_iconst (v := (1 : Int32)) hX dX9_finds_81 (by decide) ?_
      obtain ⟨k19, h⟩ := grd_s h
      refine r_iald hX dX9_finds_82 rfl (by decide) (inb_at rfl k19) ?_
      refine r_iload hX dX9_finds_83 rfl ?_
      refine r_isub hX dX9_finds_85 ?_
      refine r_iload hX dX9_finds_86 rfl ?_
      refine r_isub hX dX9_finds_88 ?_
      refine r_goto (tgt := 94) hX dX9_finds_89 (by decide) ?_
      exact ok_Fm_finds_j94 n v3 v6 (((M.1 95 (tn (1 : Int32))) - c5) - v6) M   hX hT hr hc hx h
set_option maxRecDepth 100000 in
theorem ok_Fm_finds_j55 (n : Nat) (v3 : Int32) (v4 : Int32) (v5 : Int32) (M : Mm) {c1 : Int32} {c2 : Int32} {z : Bool × Mm} {oo : (Int32 × Int32 × Mm) ⊕ (Mm)} {G : Gm} {X : Cx} {d : Nat}  (hX : XK G X 9 cX9_finds 9 (d + 4)) (hT : XT X (some .boolean) "finds") (hr : XR X SS) (hc : ∀ s1 : Int32 × Int32 × Mm, oo = .inl s1 → WR G X (mQ G X (some (.int (b2i z.1))) z.2 SS) 11 [.ref 94, .int c1, .int c2, .int s1.1, .int s1.2.1, vU, vU, vU, vU] [] s1.2.2 SS) (hx : ∀ x1 : Mm, oo = .inr x1 → WR G X (mQ G X (some (.int (b2i z.1))) z.2 SS) 197 [.ref 94, vU, vU, vU, vU, vU, vU, vU, vU] [] x1 SS) (h : Fm_finds_j55 n c2 v3 v4 v5 M = some oo) : WR G X (mQ G X (some (.int (b2i z.1))) z.2 SS) 55 [.ref 94, .int c1, .int c2, .int v3, .int v4, .int v5, vU, vU, vU] [] M SS := by
  unfold Fm_finds_j55 at h
  refine r_iconst (v := (0 : Int32)) hX dX9_finds_55 (by decide) ?_
  refine r_istore (L1 := [.ref 94, .int c1, .int c2, .int v3, .int v4, .int v5, .int (0 : Int32), vU, vU]) hX dX9_finds_56 (Nat.le_of_ble_eq_true rfl) rfl ?_
  obtain ⟨y20, h1, h⟩ := bnd_s h
  refine loop_ok (P := fun s1 : Int32 × Int32 × Mm => WR G X (mQ G X (some (.int (b2i z.1))) z.2 SS) 58 [.ref 94, .int c1, .int c2, .int s1.1, .int v4, .int v5, .int s1.2.1, vU, vU] [] s1.2.2 SS) (E := fun x1 : Int32 × Mm => WR G X (mQ G X (some (.int (b2i z.1))) z.2 SS) 191 [.ref 94, .int c1, .int c2, .int x1.1, .int v4, vU, vU, vU, vU] [] x1.2 SS) (fun s1 o1 g1 g2 g3 => ok_Fm_finds_b58 n s1.1 s1.2.1 s1.2.2  hX hT hr g2 g3 g1) n (v3, (0 : Int32), M) y20 h1 ?_
  show WR G X (mQ G X (some (.int (b2i z.1))) z.2 SS) 191 [.ref 94, .int c1, .int c2, .int y20.1, .int v4, vU, vU, vU, vU] [] y20.2 SS
  exact ok_Fm_finds_j191 n y20.1 v4 y20.2   hX hT hr hc hx h
set_option maxRecDepth 100000 in
theorem ok_Fm_finds_b11 (n : Nat) (v3 : Int32) (v4 : Int32) (M : Mm) {c1 : Int32} {c2 : Int32} {z : Bool × Mm} {oo : (Int32 × Int32 × Mm) ⊕ (Mm)} {G : Gm} {X : Cx} {d : Nat}  (hX : XK G X 9 cX9_finds 9 (d + 4)) (hT : XT X (some .boolean) "finds") (hr : XR X SS) (hc : ∀ s1 : Int32 × Int32 × Mm, oo = .inl s1 → WR G X (mQ G X (some (.int (b2i z.1))) z.2 SS) 11 [.ref 94, .int c1, .int c2, .int s1.1, .int s1.2.1, vU, vU, vU, vU] [] s1.2.2 SS) (hx : ∀ x1 : Mm, oo = .inr x1 → WR G X (mQ G X (some (.int (b2i z.1))) z.2 SS) 197 [.ref 94, vU, vU, vU, vU, vU, vU, vU, vU] [] x1 SS) (h : Fm_finds_b11 n c1 c2 v3 v4 M = some oo) : WR G X (mQ G X (some (.int (b2i z.1))) z.2 SS) 11 [.ref 94, .int c1, .int c2, .int v3, .int v4, vU, vU, vU, vU] [] M SS := by
  unfold Fm_finds_b11 at h
  refine r_iload hX dX9_finds_11 rfl ?_
  refine r_aload_n hX dX9_finds_13 rfl ?_
  refine r_getf (v := .int (M.1 94 19)) hX dX9_finds_14 fl_9_192 rfl (by decide) (by decide) rfl ?_
  refine r_icmp_ge (tgt := 197) hX dX9_finds_17 (by decide) (fun g1 => ?_) (fun g1 => ?_)
  · have h := (if_pos g1).symm.trans h
    refine WR.fg (L' := [.ref 94, vU, vU, vU, vU, vU, vU, vU, vU]) ⟨Or.inr rfl, Or.inl rfl, Or.inl rfl, Or.inl rfl, Or.inl rfl, Or.inl rfl, Or.inl rfl, Or.inl rfl, Or.inl rfl, trivial⟩ ?_
    exact hx _ (Option.some.inj h).symm
  · have h := (if_neg g1).symm.trans h
    refine r_aload_n hX dX9_finds_20 rfl ?_
    refine r_iload hX dX9_finds_21 rfl ?_
    refine r_iload_n hX dX9_finds_23 rfl ?_
    obtain ⟨z2, p3, h⟩ := bnd_s h
    refine r_callV (As := [.int v4, .int c1]) hX dX9_finds_24 mk_Fm_widthOn mi_Fm_widthOn ml_9_237 rfl rfl rfl rfl (by decide) (by decide) (Nat.le_of_ble_eq_true rfl) hr (ok_Fm_widthOn (d := d + 2) n v4 c1 M p3) ?_
    refine r_istore (L1 := [.ref 94, .int c1, .int c2, .int v3, .int v4, .int z2, vU, vU, vU]) hX dX9_finds_27 (Nat.le_of_ble_eq_true rfl) rfl ?_
    refine r_iload hX dX9_finds_29 rfl ?_
    refine r_iconst (v := (-1 : Int32)) hX dX9_finds_31 (by decide) ?_
    refine r_icmp_eq (tgt := 191) hX dX9_finds_32 (by decide) (fun g4 => ?_) (fun g4 => ?_)
    · have h := (if_pos g4).symm.trans h
      refine WR.fg (L' := [.ref 94, .int c1, .int c2, .int v3, .int v4, vU, vU, vU, vU]) ⟨Or.inr rfl, Or.inr rfl, Or.inr rfl, Or.inr rfl, Or.inr rfl, Or.inl rfl, Or.inl rfl, Or.inl rfl, Or.inl rfl, trivial⟩ ?_
      exact ok_Fm_finds_j191 n v3 v4 M   hX hT hr hc hx h
    · have h := (if_neg g4).symm.trans h
      refine r_aload_n hX dX9_finds_35 rfl ?_
      refine r_getf (v := .int (M.1 94 20)) hX dX9_finds_36 fl_9_233 rfl (by decide) (by decide) rfl ?_
      refine r_iconst (v := (-1 : Int32)) hX dX9_finds_39 (by decide) ?_
      refine r_icmp_eq (tgt := 55) hX dX9_finds_40 (by decide) (fun g5 => ?_) (fun g5 => ?_)
      · have h := (if_pos g5).symm.trans h
        exact ok_Fm_finds_j55 n v3 v4 z2 M   hX hT hr hc hx h
      · have h := (if_neg g5).symm.trans h
        refine r_iload_n hX dX9_finds_43 rfl ?_
        refine r_if_eq (tgt := 191) hX dX9_finds_44 (by decide) (fun g21 => ?_) (fun g21 => ?_)
        · have h := (if_pos g21).symm.trans h
          refine WR.fg (L' := [.ref 94, .int c1, .int c2, .int v3, .int v4, vU, vU, vU, vU]) ⟨Or.inr rfl, Or.inr rfl, Or.inr rfl, Or.inr rfl, Or.inr rfl, Or.inl rfl, Or.inl rfl, Or.inl rfl, Or.inl rfl, trivial⟩ ?_
          exact ok_Fm_finds_j191 n v3 v4 M   hX hT hr hc hx h
        · have h := (if_neg g21).symm.trans h
          refine r_iload_n hX dX9_finds_47 rfl ?_
          refine r_iconst (v := (3 : Int32)) hX dX9_finds_48 (by decide) ?_
          refine r_icmp_ne (tgt := 55) hX dX9_finds_49 (by decide) (fun g22 => ?_) (fun g22 => ?_)
          · have h := (if_neg g22).symm.trans h
            exact ok_Fm_finds_j55 n v3 v4 z2 M   hX hT hr hc hx h
          · have h := (if_pos g22).symm.trans h
            refine r_goto (tgt := 191) hX dX9_finds_52 (by decide) ?_
            refine WR.fg (L' := [.ref 94, .int c1, .int c2, .int v3, .int v4, vU, vU, vU, vU]) ⟨Or.inr rfl, Or.inr rfl, Or.inr rfl, Or.inr rfl, Or.inr rfl, Or.inl rfl, Or.inl rfl, Or.inl rfl, Or.inl rfl, trivial⟩ ?_
            exact ok_Fm_finds_j191 n v3 v4 M   hX hT hr hc hx h
set_option maxRecDepth 100000 in
theorem ok_Fm_finds {G : Gm} {l : Launch} {d : Nat} (n : Nat) (v1 : Int32) (v2 : Int32) (M : Mm) {z : Bool × Mm}  (h : Fm_finds n v1 v2 M = some z) : CK G l (d + 4) md_Fm_finds [.ref 94, .int v1, .int v2] M SS (some (.int (b2i z.1))) z.2 SS := by
  refine ck_of mk_Fm_finds (Nat.le_of_ble_eq_true rfl) ⟨Nat.le_refl _, Nat.le_refl _⟩ (fun X hX hT hS hr hl => ?_)
  subst hl
  unfold Fm_finds at h
  show WR G X (mQ G X (some (.int (b2i z.1))) z.2 SS) 0 [.ref 94, .int v1, .int v2, vU, vU, vU, vU, vU, vU] [] M SS
  refine r_aload_n hX dX9_finds_0 rfl ?_
  refine r_iconst (v := (-1 : Int32)) hX dX9_finds_1 (by decide) ?_
  refine r_putI hX dX9_finds_2 fl_9_233 rfl (by decide) (by decide) (okI_int _) ?_
  refine r_ldc hX dX9_finds_5 ki_9_236 ?_
  refine r_istore_n (L1 := [.ref 94, .int v1, .int v2, .int (1000000000 : Int32), vU, vU, vU, vU, vU]) hX dX9_finds_7 (Nat.le_of_ble_eq_true rfl) rfl ?_
  refine r_iconst (v := (0 : Int32)) hX dX9_finds_8 (by decide) ?_
  refine r_istore (L1 := [.ref 94, .int v1, .int v2, .int (1000000000 : Int32), .int (0 : Int32), vU, vU, vU, vU]) hX dX9_finds_9 (Nat.le_of_ble_eq_true rfl) rfl ?_
  obtain ⟨y23, h1, h⟩ := bnd_s h
  refine loop_ok (P := fun s1 : Int32 × Int32 × Mm => WR G X (mQ G X (some (.int (b2i z.1))) z.2 SS) 11 [.ref 94, .int v1, .int v2, .int s1.1, .int s1.2.1, vU, vU, vU, vU] [] s1.2.2 SS) (E := fun x1 : Mm => WR G X (mQ G X (some (.int (b2i z.1))) z.2 SS) 197 [.ref 94, vU, vU, vU, vU, vU, vU, vU, vU] [] x1 SS) (fun s1 o1 g1 g2 g3 => ok_Fm_finds_b11 n s1.1 s1.2.1 s1.2.2  hX hT hr g2 g3 g1) n ((1000000000 : Int32), (0 : Int32), ((up2 M.1 94 20 (-1 : Int32)), M.2)) y23 h1 ?_
  show WR G X (mQ G X (some (.int (b2i z.1))) z.2 SS) 197 [.ref 94, vU, vU, vU, vU, vU, vU, vU, vU] [] y23 SS
  refine r_aload_n hX dX9_finds_197 rfl ?_
  refine r_getf (v := .int (y23.1 94 20)) hX dX9_finds_198 fl_9_233 rfl (by decide) (by decide) rfl ?_
  refine r_iconst (v := (-1 : Int32)) hX dX9_finds_201 (by decide) ?_
  refine r_icmp_eq (tgt := 209) hX dX9_finds_202 (by decide) (fun g24 => ?_) (fun g24 => ?_)
  · have h := (if_pos g24).symm.trans h
    refine r_iconst (v := (0 : Int32)) hX dX9_finds_209 (by decide) ?_
    obtain rfl := Option.some.inj h
    exact r_iret (v := b2i false) hX hT dX9_finds_210 (okI_b false).1
  · have h := (if_neg g24).symm.trans h
    refine r_iconst (v := (1 : Int32)) hX dX9_finds_205 (by decide) ?_
    refine r_goto (tgt := 210) hX dX9_finds_206 (by decide) ?_
    obtain rfl := Option.some.inj h
    exact r_iret (v := b2i true) hX hT dX9_finds_210 (okI_b true).1
def Fm_findsFor (n : Nat) (v1 : Int32) (v2 : Int32) (v3 : Int32) (v4 : Int32) (M : Mm) : Option (Bool × Mm) :=
  bnd (Fm_findsWays n v1 v2 M) (fun z1 =>
  bnd (Fm_finds n v3 v4 z1) (fun z3 =>
  some (z3.1, z3.2)))
set_option maxRecDepth 100000 in
theorem ok_Fm_findsFor {G : Gm} {l : Launch} {d : Nat} (n : Nat) (v1 : Int32) (v2 : Int32) (v3 : Int32) (v4 : Int32) (M : Mm) {z : Bool × Mm}  (h : Fm_findsFor n v1 v2 v3 v4 M = some z) : CK G l (d + 5) md_Fm_findsFor [.ref 94, .int v1, .int v2, .int v3, .int v4] M SS (some (.int (b2i z.1))) z.2 SS := by
  refine ck_of mk_Fm_findsFor (Nat.le_of_ble_eq_true rfl) ⟨Nat.le_refl _, Nat.le_refl _⟩ (fun X hX hT hS hr hl => ?_)
  subst hl
  unfold Fm_findsFor at h
  show WR G X (mQ G X (some (.int (b2i z.1))) z.2 SS) 0 [.ref 94, .int v1, .int v2, .int v3, .int v4] [] M SS
  refine r_aload_n hX dX9_findsFor_0 rfl ?_
  refine r_iload_n hX dX9_findsFor_1 rfl ?_
  refine r_iload_n hX dX9_findsFor_2 rfl ?_
  obtain ⟨z1, p2, h⟩ := bnd_s h
  refine r_callV (As := [.int v1, .int v2]) hX dX9_findsFor_3 mk_Fm_findsWays mi_Fm_findsWays ml_9_215 rfl rfl rfl rfl (by decide) (by decide) (Nat.le_of_ble_eq_true rfl) hr (ok_Fm_findsWays (d := d + 1) n v1 v2 M p2) ?_
  refine r_aload_n hX dX9_findsFor_6 rfl ?_
  refine r_iload_n hX dX9_findsFor_7 rfl ?_
  refine r_iload hX dX9_findsFor_8 rfl ?_
  obtain ⟨z3, p4, h⟩ := bnd_s h
  refine r_callV (As := [.int v3, .int v4]) hX dX9_findsFor_10 mk_Fm_finds mi_Fm_finds ml_9_253 rfl rfl rfl rfl (by decide) (by decide) (Nat.le_of_ble_eq_true rfl) hr (ok_Fm_finds (d := d + 0) n v3 v4 z1 p4) ?_
  obtain rfl := Option.some.inj h
  exact r_iret hX hT dX9_findsFor_13 (okI_b _).1
def Fm_lights (v1 : Int32) (M : Mm) : Option (Mm) :=
  bnd (Fm_sets v1 (3 : Int32) (0 : Int32) M) (fun z1 =>
  bnd (Fm_sets v1 (4 : Int32) (z1.1 94 21) z1) (fun z3 =>
  bnd (Fm_sets v1 (5 : Int32) (z3.1 94 22) z3) (fun z5 =>
  grd (inb (z5.1 94 20) 5) (
  bnd (Fm_sets v1 (6 : Int32) (z5.1 99 (tn (z5.1 94 20))) z5) (fun z8 =>
  some z8)))))
set_option maxRecDepth 100000 in
theorem ok_Fm_lights {G : Gm} {l : Launch} {d : Nat} (v1 : Int32) (M : Mm) {z : Mm}  (h : Fm_lights v1 M = some z) : CK G l (d + 1) md_Fm_lights [.ref 94, .int v1] M SS (none) z SS := by
  refine ck_of mk_Fm_lights (Nat.le_of_ble_eq_true rfl) ⟨Nat.le_refl _, Nat.le_refl _⟩ (fun X hX hT hS hr hl => ?_)
  subst hl
  unfold Fm_lights at h
  show WR G X (mQ G X (none) z SS) 0 [.ref 94, .int v1] [] M SS
  refine r_aload_n hX dX9_lights_0 rfl ?_
  refine r_iload_n hX dX9_lights_1 rfl ?_
  refine r_iconst (v := (3 : Int32)) hX dX9_lights_2 (by decide) ?_
  refine r_iconst (v := (0 : Int32)) hX dX9_lights_3 (by decide) ?_
  obtain ⟨z1, p2, h⟩ := bnd_s h
  refine r_callV (As := [.int v1, .int (3 : Int32), .int (0 : Int32)]) hX dX9_lights_4 mk_Fm_sets mi_Fm_sets ml_9_256 rfl rfl rfl rfl (by decide) (by decide) (Nat.le_of_ble_eq_true rfl) hr (ok_Fm_sets (d := d + 0) v1 (3 : Int32) (0 : Int32) M p2) ?_
  refine r_aload_n hX dX9_lights_7 rfl ?_
  refine r_iload_n hX dX9_lights_8 rfl ?_
  refine r_iconst (v := (4 : Int32)) hX dX9_lights_9 (by decide) ?_
  refine r_aload_n hX dX9_lights_10 rfl ?_
  refine r_getf (v := .int (z1.1 94 21)) hX dX9_lights_11 fl_9_247 rfl (by decide) (by decide) rfl ?_
  obtain ⟨z3, p4, h⟩ := bnd_s h
  refine r_callV (As := [.int v1, .int (4 : Int32), .int (z1.1 94 21)]) hX dX9_lights_14 mk_Fm_sets mi_Fm_sets ml_9_256 rfl rfl rfl rfl (by decide) (by decide) (Nat.le_of_ble_eq_true rfl) hr (ok_Fm_sets (d := d + 0) v1 (4 : Int32) (z1.1 94 21) z1 p4) ?_
  refine r_aload_n hX dX9_lights_17 rfl ?_
  refine r_iload_n hX dX9_lights_18 rfl ?_
  refine r_iconst (v := (5 : Int32)) hX dX9_lights_19 (by decide) ?_
  refine r_aload_n hX dX9_lights_20 rfl ?_
  refine r_getf (v := .int (z3.1 94 22)) hX dX9_lights_21 fl_9_250 rfl (by decide) (by decide) rfl ?_
  obtain ⟨z5, p6, h⟩ := bnd_s h
  refine r_callV (As := [.int v1, .int (5 : Int32), .int (z3.1 94 22)]) hX dX9_lights_24 mk_Fm_sets mi_Fm_sets ml_9_256 rfl rfl rfl rfl (by decide) (by decide) (Nat.le_of_ble_eq_true rfl) hr (ok_Fm_sets (d := d + 0) v1 (5 : Int32) (z3.1 94 22) z3 p6) ?_
  refine r_aload_n hX dX9_lights_27 rfl ?_
  refine r_iload_n hX dX9_lights_28 rfl ?_
  refine r_bipush (v := (6 : Int32)) hX dX9_lights_29 (by decide) ?_
  refine r_aload_n hX dX9_lights_31 rfl ?_
  refine r_getf (v := .ref 99) hX dX9_lights_32 fl_9_23 rfl (by decide) (by decide) rfl ?_
  refine r_aload_n hX dX9_lights_35 rfl ?_
  refine r_getf (v := .int (z5.1 94 20)) hX dX9_lights_36 fl_9_233 rfl (by decide) (by decide) rfl ?_
  obtain ⟨k7, h⟩ := grd_s h
  refine r_iald hX dX9_lights_39 rfl (by decide) (inb_at rfl k7) ?_
  obtain ⟨z8, p9, h⟩ := bnd_s h
  refine r_callV (As := [.int v1, .int (6 : Int32), .int (z5.1 99 (tn (z5.1 94 20)))]) hX dX9_lights_40 mk_Fm_sets mi_Fm_sets ml_9_256 rfl rfl rfl rfl (by decide) (by decide) (Nat.le_of_ble_eq_true rfl) hr (ok_Fm_sets (d := d + 0) v1 (6 : Int32) (z5.1 99 (tn (z5.1 94 20))) z5 p9) ?_
  obtain rfl := Option.some.inj h
  exact r_vret hX hT dX9_lights_43
def Fm_comes_b23 (c5 : Int32) (v6 : Int32) (M : Mm) : Option ((Int32 × Mm) ⊕ (Mm)) :=
  if (10 : Int32) ≤ v6 then
    some (.inr M)
  else
    bnd (Fm_sets c5 v6 (0 : Int32) M) (fun z4 =>
    some (.inl (v6 + (1 : Int32), z4)))
def Fm_comes (n : Nat) (v1 : Int32) (v2 : Int32) (v3 : Int32) (v4 : Bool) (M : Mm) : Option (Int32 × Mm) :=
  grd (inb (7 : Int32) 12256) (
  grd (inb (7 : Int32) 12256) (
  bnd (loop (fun s1 : Int32 × Mm => Fm_comes_b23 (M.1 95 (tn (7 : Int32))) s1.1 s1.2) n ((0 : Int32), ((up2 M.1 95 (tn (7 : Int32)) ((M.1 95 (tn (7 : Int32))) + (1 : Int32))), M.2))) (fun y6 =>
  bnd (Fm_sets (M.1 95 (tn (7 : Int32))) (0 : Int32) v1 y6) (fun z7 =>
  bnd (Fm_sets (M.1 95 (tn (7 : Int32))) (1 : Int32) v2 z7) (fun z9 =>
  bnd (Fm_sets (M.1 95 (tn (7 : Int32))) (2 : Int32) v3 z9) (fun z11 =>
  bnd (Fm_sets (M.1 95 (tn (7 : Int32))) (3 : Int32) (1 : Int32) z11) (fun z13 =>
  bnd (Fm_sets (M.1 95 (tn (7 : Int32))) (7 : Int32) (-1 : Int32) z13) (fun z15 =>
  if v4 = true then
    bnd (Fm_lights (M.1 95 (tn (7 : Int32))) z15) (fun z18 =>
    some (M.1 95 (tn (7 : Int32)), z18))
  else
    some (M.1 95 (tn (7 : Int32)), z15)))))))))
set_option maxRecDepth 100000 in
theorem ok_Fm_comes_b23 (n : Nat) (v6 : Int32) (M : Mm) {c1 : Int32} {c2 : Int32} {c3 : Int32} {c4 : Bool} {c5 : Int32} {z : Int32 × Mm} {oo : (Int32 × Mm) ⊕ (Mm)} {G : Gm} {X : Cx} {d : Nat}  (hX : XK G X 9 cX9_comes 7 (d + 2)) (hT : XT X (some .int) "comes") (hr : XR X SS) (hc : ∀ s1 : Int32 × Mm, oo = .inl s1 → WR G X (mQ G X (some (.int z.1)) z.2 SS) 23 [.ref 94, .int c1, .int c2, .int c3, .int (b2i c4), .int c5, .int s1.1] [] s1.2 SS) (hx : ∀ x1 : Mm, oo = .inr x1 → WR G X (mQ G X (some (.int z.1)) z.2 SS) 45 [.ref 94, .int c1, .int c2, .int c3, .int (b2i c4), .int c5, vU] [] x1 SS) (h : Fm_comes_b23 c5 v6 M = some oo) : WR G X (mQ G X (some (.int z.1)) z.2 SS) 23 [.ref 94, .int c1, .int c2, .int c3, .int (b2i c4), .int c5, .int v6] [] M SS := by
  unfold Fm_comes_b23 at h
  refine r_iload hX dX9_comes_23 rfl ?_
  refine r_bipush (v := (10 : Int32)) hX dX9_comes_25 (by decide) ?_
  refine r_icmp_ge (tgt := 45) hX dX9_comes_27 (by decide) (fun g3 => ?_) (fun g3 => ?_)
  · have h := (if_pos g3).symm.trans h
    refine WR.fg (L' := [.ref 94, .int c1, .int c2, .int c3, .int (b2i c4), .int c5, vU]) ⟨Or.inr rfl, Or.inr rfl, Or.inr rfl, Or.inr rfl, Or.inr rfl, Or.inr rfl, Or.inl rfl, trivial⟩ ?_
    exact hx _ (Option.some.inj h).symm
  · have h := (if_neg g3).symm.trans h
    refine r_aload_n hX dX9_comes_30 rfl ?_
    refine r_iload hX dX9_comes_31 rfl ?_
    refine r_iload hX dX9_comes_33 rfl ?_
    refine r_iconst (v := (0 : Int32)) hX dX9_comes_35 (by decide) ?_
    obtain ⟨z4, p5, h⟩ := bnd_s h
    refine r_callV (As := [.int c5, .int v6, .int (0 : Int32)]) hX dX9_comes_36 mk_Fm_sets mi_Fm_sets ml_9_256 rfl rfl rfl rfl (by decide) (by decide) (Nat.le_of_ble_eq_true rfl) hr (ok_Fm_sets (d := d + 1) c5 v6 (0 : Int32) M p5) ?_
    refine r_iinc (v := v6 + (1 : Int32)) (L1 := [.ref 94, .int c1, .int c2, .int c3, .int (b2i c4), .int c5, .int (v6 + (1 : Int32))]) hX dX9_comes_39 rfl rfl rfl ?_
    refine r_goto (tgt := 23) hX dX9_comes_42 (by decide) ?_
    exact hc (v6 + (1 : Int32), z4) (Option.some.inj h).symm
set_option maxRecDepth 100000 in
theorem ok_Fm_comes {G : Gm} {l : Launch} {d : Nat} (n : Nat) (v1 : Int32) (v2 : Int32) (v3 : Int32) (v4 : Bool) (M : Mm) {z : Int32 × Mm}  (h : Fm_comes n v1 v2 v3 v4 M = some z) : CK G l (d + 2) md_Fm_comes [.ref 94, .int v1, .int v2, .int v3, .int (b2i v4)] M SS (some (.int z.1)) z.2 SS := by
  refine ck_of mk_Fm_comes (Nat.le_of_ble_eq_true rfl) ⟨Nat.le_refl _, Nat.le_refl _⟩ (fun X hX hT hS hr hl => ?_)
  subst hl
  unfold Fm_comes at h
  show WR G X (mQ G X (some (.int z.1)) z.2 SS) 0 [.ref 94, .int v1, .int v2, .int v3, .int (b2i v4), vU, vU] [] M SS
  refine r_aload_n hX dX9_comes_0 rfl ?_
  refine r_getf (v := .ref 95) hX dX9_comes_1 fl_9_7 rfl (by decide) (by decide) rfl ?_
  refine r_bipush (v := (7 : Int32)) hX dX9_comes_4 (by decide) ?_
  obtain ⟨k1, h⟩ := grd_s h
  refine r_iald hX dX9_comes_6 rfl (by decide) (inb_at rfl k1) ?_
  refine r_istore (L1 := [.ref 94, .int v1, .int v2, .int v3, .int (b2i v4), .int (M.1 95 (tn (7 : Int32))), vU]) hX dX9_comes_7 (Nat.le_of_ble_eq_true rfl) rfl ?_
  refine r_aload_n hX dX9_comes_9 rfl ?_
  refine r_getf (v := .ref 95) hX dX9_comes_10 fl_9_7 rfl (by decide) (by decide) rfl ?_
  refine r_bipush (v := (7 : Int32)) hX dX9_comes_13 (by decide) ?_
  refine r_iload hX dX9_comes_15 rfl ?_
  refine r_iconst (v := (1 : Int32)) hX dX9_comes_17 (by decide) ?_
  refine r_iadd hX dX9_comes_18 ?_
  obtain ⟨k2, h⟩ := grd_s h
  refine r_iast hX dX9_comes_19 rfl (by decide) (inb_at rfl k2) ?_
  refine r_iconst (v := (0 : Int32)) hX dX9_comes_20 (by decide) ?_
  refine r_istore (L1 := [.ref 94, .int v1, .int v2, .int v3, .int (b2i v4), .int (M.1 95 (tn (7 : Int32))), .int (0 : Int32)]) hX dX9_comes_21 (Nat.le_of_ble_eq_true rfl) rfl ?_
  obtain ⟨y6, h1, h⟩ := bnd_s h
  refine loop_ok (P := fun s1 : Int32 × Mm => WR G X (mQ G X (some (.int z.1)) z.2 SS) 23 [.ref 94, .int v1, .int v2, .int v3, .int (b2i v4), .int (M.1 95 (tn (7 : Int32))), .int s1.1] [] s1.2 SS) (E := fun x1 : Mm => WR G X (mQ G X (some (.int z.1)) z.2 SS) 45 [.ref 94, .int v1, .int v2, .int v3, .int (b2i v4), .int (M.1 95 (tn (7 : Int32))), vU] [] x1 SS) (fun s1 o1 g1 g2 g3 => ok_Fm_comes_b23 n s1.1 s1.2  hX hT hr g2 g3 g1) n ((0 : Int32), ((up2 M.1 95 (tn (7 : Int32)) ((M.1 95 (tn (7 : Int32))) + (1 : Int32))), M.2)) y6 h1 ?_
  show WR G X (mQ G X (some (.int z.1)) z.2 SS) 45 [.ref 94, .int v1, .int v2, .int v3, .int (b2i v4), .int (M.1 95 (tn (7 : Int32))), vU] [] y6 SS
  refine r_aload_n hX dX9_comes_45 rfl ?_
  refine r_iload hX dX9_comes_46 rfl ?_
  refine r_iconst (v := (0 : Int32)) hX dX9_comes_48 (by decide) ?_
  refine r_iload_n hX dX9_comes_49 rfl ?_
  obtain ⟨z7, p8, h⟩ := bnd_s h
  refine r_callV (As := [.int (M.1 95 (tn (7 : Int32))), .int (0 : Int32), .int v1]) hX dX9_comes_50 mk_Fm_sets mi_Fm_sets ml_9_256 rfl rfl rfl rfl (by decide) (by decide) (Nat.le_of_ble_eq_true rfl) hr (ok_Fm_sets (d := d + 1) (M.1 95 (tn (7 : Int32))) (0 : Int32) v1 y6 p8) ?_
  refine r_aload_n hX dX9_comes_53 rfl ?_
  refine r_iload hX dX9_comes_54 rfl ?_
  refine r_iconst (v := (1 : Int32)) hX dX9_comes_56 (by decide) ?_
  refine r_iload_n hX dX9_comes_57 rfl ?_
  obtain ⟨z9, p10, h⟩ := bnd_s h
  refine r_callV (As := [.int (M.1 95 (tn (7 : Int32))), .int (1 : Int32), .int v2]) hX dX9_comes_58 mk_Fm_sets mi_Fm_sets ml_9_256 rfl rfl rfl rfl (by decide) (by decide) (Nat.le_of_ble_eq_true rfl) hr (ok_Fm_sets (d := d + 1) (M.1 95 (tn (7 : Int32))) (1 : Int32) v2 z7 p10) ?_
  refine r_aload_n hX dX9_comes_61 rfl ?_
  refine r_iload hX dX9_comes_62 rfl ?_
  refine r_iconst (v := (2 : Int32)) hX dX9_comes_64 (by decide) ?_
  refine r_iload_n hX dX9_comes_65 rfl ?_
  obtain ⟨z11, p12, h⟩ := bnd_s h
  refine r_callV (As := [.int (M.1 95 (tn (7 : Int32))), .int (2 : Int32), .int v3]) hX dX9_comes_66 mk_Fm_sets mi_Fm_sets ml_9_256 rfl rfl rfl rfl (by decide) (by decide) (Nat.le_of_ble_eq_true rfl) hr (ok_Fm_sets (d := d + 1) (M.1 95 (tn (7 : Int32))) (2 : Int32) v3 z9 p12) ?_
  refine r_aload_n hX dX9_comes_69 rfl ?_
  refine r_iload hX dX9_comes_70 rfl ?_
  refine r_iconst (v := (3 : Int32)) hX dX9_comes_72 (by decide) ?_
  refine r_iconst (v := (1 : Int32)) hX dX9_comes_73 (by decide) ?_
  obtain ⟨z13, p14, h⟩ := bnd_s h
  refine r_callV (As := [.int (M.1 95 (tn (7 : Int32))), .int (3 : Int32), .int (1 : Int32)]) hX dX9_comes_74 mk_Fm_sets mi_Fm_sets ml_9_256 rfl rfl rfl rfl (by decide) (by decide) (Nat.le_of_ble_eq_true rfl) hr (ok_Fm_sets (d := d + 1) (M.1 95 (tn (7 : Int32))) (3 : Int32) (1 : Int32) z11 p14) ?_
  refine r_aload_n hX dX9_comes_77 rfl ?_
  refine r_iload hX dX9_comes_78 rfl ?_
  refine r_bipush (v := (7 : Int32)) hX dX9_comes_80 (by decide) ?_
  refine r_iconst (v := (-1 : Int32)) hX dX9_comes_82 (by decide) ?_
  obtain ⟨z15, p16, h⟩ := bnd_s h
  refine r_callV (As := [.int (M.1 95 (tn (7 : Int32))), .int (7 : Int32), .int (-1 : Int32)]) hX dX9_comes_83 mk_Fm_sets mi_Fm_sets ml_9_256 rfl rfl rfl rfl (by decide) (by decide) (Nat.le_of_ble_eq_true rfl) hr (ok_Fm_sets (d := d + 1) (M.1 95 (tn (7 : Int32))) (7 : Int32) (-1 : Int32) z13 p16) ?_
  refine r_iload hX dX9_comes_86 rfl ?_
  refine r_ifb_eq (tgt := 97) hX dX9_comes_88 (by decide) (fun g17 => ?_) (fun g17 => ?_)
  · have h := (if_neg (show ¬ v4 = true from fun e => by rw [g17] at e; cases e)).symm.trans h
    refine r_iload hX dX9_comes_97 rfl ?_
    obtain rfl := Option.some.inj h
    exact r_iret hX hT dX9_comes_99 rfl
  · have h := (if_pos g17).symm.trans h
    refine r_aload_n hX dX9_comes_91 rfl ?_
    refine r_iload hX dX9_comes_92 rfl ?_
    obtain ⟨z18, p19, h⟩ := bnd_s h
    refine r_callV (As := [.int (M.1 95 (tn (7 : Int32)))]) hX dX9_comes_94 mk_Fm_lights mi_Fm_lights ml_9_259 rfl rfl rfl rfl (by decide) (by decide) (Nat.le_of_ble_eq_true rfl) hr (ok_Fm_lights (d := d + 0) (M.1 95 (tn (7 : Int32))) z15 p19) ?_
    refine r_iload hX dX9_comes_97 rfl ?_
    obtain rfl := Option.some.inj h
    exact r_iret hX hT dX9_comes_99 rfl
def Fm_isAsked (v1 : Int32) (v2 : Int32) (v3 : Int32) (v4 : Int32) (M : Mm) : Option (Bool) :=
  bnd (Fm_areNodes v1 v2 M) (fun z1 =>
  if z1 = true then
    bnd (Fm_isRate v3 M) (fun z4 =>
    if z4 = true then
      bnd (Fm_isRule v4 M) (fun z7 =>
      if z7 = true then
        some true
      else
        some false)
    else
      some false)
  else
    some false)
set_option maxRecDepth 100000 in
theorem ok_Fm_isAsked {G : Gm} {l : Launch} {d : Nat} (v1 : Int32) (v2 : Int32) (v3 : Int32) (v4 : Int32) (M : Mm) {z : Bool}  (h : Fm_isAsked v1 v2 v3 v4 M = some z) : CK G l (d + 2) md_Fm_isAsked [.ref 94, .int v1, .int v2, .int v3, .int v4] M SS (some (.int (b2i z))) M SS := by
  refine ck_of mk_Fm_isAsked (Nat.le_of_ble_eq_true rfl) ⟨Nat.le_refl _, Nat.le_refl _⟩ (fun X hX hT hS hr hl => ?_)
  subst hl
  unfold Fm_isAsked at h
  show WR G X (mQ G X (some (.int (b2i z))) M SS) 0 [.ref 94, .int v1, .int v2, .int v3, .int v4] [] M SS
  refine r_aload_n hX dX9_isAsked_0 rfl ?_
  refine r_iload_n hX dX9_isAsked_1 rfl ?_
  refine r_iload_n hX dX9_isAsked_2 rfl ?_
  obtain ⟨z1, p2, h⟩ := bnd_s h
  refine r_callV (As := [.int v1, .int v2]) hX dX9_isAsked_3 mk_Fm_areNodes mi_Fm_areNodes ml_9_212 rfl rfl rfl rfl (by decide) (by decide) (Nat.le_of_ble_eq_true rfl) hr (ok_Fm_areNodes (d := d + 0) v1 v2 M p2) ?_
  refine r_ifb_eq (tgt := 28) hX dX9_isAsked_6 (by decide) (fun g3 => ?_) (fun g3 => ?_)
  · have h := (if_neg (show ¬ z1 = true from fun e => by rw [g3] at e; cases e)).symm.trans h
    refine r_iconst (v := (0 : Int32)) hX dX9_isAsked_28 (by decide) ?_
    obtain rfl := Option.some.inj h
    exact r_iret (v := b2i false) hX hT dX9_isAsked_29 (okI_b false).1
  · have h := (if_pos g3).symm.trans h
    refine r_iload_n hX dX9_isAsked_9 rfl ?_
    obtain ⟨z4, p5, h⟩ := bnd_s h
    refine r_callS (As := [.int v3]) hX dX9_isAsked_10 mk_Fm_isRate ms_Fm_isRate ml_9_262 rfl rfl rfl (Nat.le_of_ble_eq_true rfl) hr (ok_Fm_isRate (d := d + 0) v3 M p5) ?_
    refine r_ifb_eq (tgt := 28) hX dX9_isAsked_13 (by decide) (fun g6 => ?_) (fun g6 => ?_)
    · have h := (if_neg (show ¬ z4 = true from fun e => by rw [g6] at e; cases e)).symm.trans h
      refine r_iconst (v := (0 : Int32)) hX dX9_isAsked_28 (by decide) ?_
      obtain rfl := Option.some.inj h
      exact r_iret (v := b2i false) hX hT dX9_isAsked_29 (okI_b false).1
    · have h := (if_pos g6).symm.trans h
      refine r_iload hX dX9_isAsked_16 rfl ?_
      obtain ⟨z7, p8, h⟩ := bnd_s h
      refine r_callS (As := [.int v4]) hX dX9_isAsked_18 mk_Fm_isRule ms_Fm_isRule ml_9_265 rfl rfl rfl (Nat.le_of_ble_eq_true rfl) hr (ok_Fm_isRule (d := d + 0) v4 M p8) ?_
      refine r_ifb_eq (tgt := 28) hX dX9_isAsked_21 (by decide) (fun g9 => ?_) (fun g9 => ?_)
      · have h := (if_neg (show ¬ z7 = true from fun e => by rw [g9] at e; cases e)).symm.trans h
        refine r_iconst (v := (0 : Int32)) hX dX9_isAsked_28 (by decide) ?_
        obtain rfl := Option.some.inj h
        exact r_iret (v := b2i false) hX hT dX9_isAsked_29 (okI_b false).1
      · have h := (if_pos g9).symm.trans h
        refine r_iconst (v := (1 : Int32)) hX dX9_isAsked_24 (by decide) ?_
        refine r_goto (tgt := 29) hX dX9_isAsked_25 (by decide) ?_
        obtain rfl := Option.some.inj h
        exact r_iret (v := b2i true) hX hT dX9_isAsked_29 (okI_b true).1
def Fm_ask (n : Nat) (v1 : Int32) (v2 : Int32) (v3 : Int32) (v4 : Int32) (M : Mm) : Option (Int32 × Mm) :=
  bnd (Fm_isAsked v1 v2 v3 v4 M) (fun z1 =>
  if z1 = true then
    grd (inb (7 : Int32) 12256) (
    if (M.1 95 (tn (7 : Int32))) = (40 : Int32) then
      some ((-3 : Int32), M)
    else
      bnd (Fm_findsFor n v1 v2 v3 v4 M) (fun z6 =>
      bnd (Fm_comes n v1 v2 v3 z6.1 z6.2) (fun z8 =>
      if z6.1 = true then
        some (z8.1, z8.2)
      else
        some ((-2 : Int32), z8.2))))
  else
    some ((-1 : Int32), M))
set_option maxRecDepth 100000 in
theorem ok_Fm_ask {G : Gm} {l : Launch} {d : Nat} (n : Nat) (v1 : Int32) (v2 : Int32) (v3 : Int32) (v4 : Int32) (M : Mm) {z : Int32 × Mm}  (h : Fm_ask n v1 v2 v3 v4 M = some z) : CK G l (d + 6) md_Fm_ask [.ref 94, .int v1, .int v2, .int v3, .int v4] M SS (some (.int z.1)) z.2 SS := by
  refine ck_of mk_Fm_ask (Nat.le_of_ble_eq_true rfl) ⟨Nat.le_refl _, Nat.le_refl _⟩ (fun X hX hT hS hr hl => ?_)
  subst hl
  unfold Fm_ask at h
  show WR G X (mQ G X (some (.int z.1)) z.2 SS) 0 [.ref 94, .int v1, .int v2, .int v3, .int v4, vU, vU] [] M SS
  refine r_aload_n hX dX9_ask_0 rfl ?_
  refine r_iload_n hX dX9_ask_1 rfl ?_
  refine r_iload_n hX dX9_ask_2 rfl ?_
  refine r_iload_n hX dX9_ask_3 rfl ?_
  refine r_iload hX dX9_ask_4 rfl ?_
  obtain ⟨z1, p2, h⟩ := bnd_s h
  refine r_callV (As := [.int v1, .int v2, .int v3, .int v4]) hX dX9_ask_6 mk_Fm_isAsked mi_Fm_isAsked ml_9_268 rfl rfl rfl rfl (by decide) (by decide) (Nat.le_of_ble_eq_true rfl) hr (ok_Fm_isAsked (d := d + 3) v1 v2 v3 v4 M p2) ?_
  refine r_ifb_ne (tgt := 14) hX dX9_ask_9 (by decide) (fun g3 => ?_) (fun g3 => ?_)
  · have h := (if_pos g3).symm.trans h
    refine r_aload_n hX dX9_ask_14 rfl ?_
    refine r_getf (v := .ref 95) hX dX9_ask_15 fl_9_7 rfl (by decide) (by decide) rfl ?_
    refine r_bipush (v := (7 : Int32)) hX dX9_ask_18 (by decide) ?_
    obtain ⟨k4, h⟩ := grd_s h
    refine r_iald hX dX9_ask_20 rfl (by decide) (inb_at rfl k4) ?_
    refine r_bipush (v := (40 : Int32)) hX dX9_ask_21 (by decide) ?_
    refine r_icmp_ne (tgt := 29) hX dX9_ask_23 (by decide) (fun g5 => ?_) (fun g5 => ?_)
    · have h := (if_neg g5).symm.trans h
      refine r_aload_n hX dX9_ask_29 rfl ?_
      refine r_iload_n hX dX9_ask_30 rfl ?_
      refine r_iload_n hX dX9_ask_31 rfl ?_
      refine r_iload_n hX dX9_ask_32 rfl ?_
      refine r_iload hX dX9_ask_33 rfl ?_
      obtain ⟨z6, p7, h⟩ := bnd_s h
      refine r_callV (As := [.int v1, .int v2, .int v3, .int v4]) hX dX9_ask_35 mk_Fm_findsFor mi_Fm_findsFor ml_9_271 rfl rfl rfl rfl (by decide) (by decide) (Nat.le_of_ble_eq_true rfl) hr (ok_Fm_findsFor (d := d + 0) n v1 v2 v3 v4 M p7) ?_
      refine r_istore (L1 := [.ref 94, .int v1, .int v2, .int v3, .int v4, .int (b2i z6.1), vU]) hX dX9_ask_38 (Nat.le_of_ble_eq_true rfl) rfl ?_
      refine r_aload_n hX dX9_ask_40 rfl ?_
      refine r_iload_n hX dX9_ask_41 rfl ?_
      refine r_iload_n hX dX9_ask_42 rfl ?_
      refine r_iload_n hX dX9_ask_43 rfl ?_
      refine r_iload hX dX9_ask_44 rfl ?_
      obtain ⟨z8, p9, h⟩ := bnd_s h
      refine r_callV (As := [.int v1, .int v2, .int v3, .int (b2i z6.1)]) hX dX9_ask_46 mk_Fm_comes mi_Fm_comes ml_9_274 rfl rfl rfl rfl (by decide) (by decide) (Nat.le_of_ble_eq_true rfl) hr (ok_Fm_comes (d := d + 3) n v1 v2 v3 z6.1 z6.2 p9) ?_
      refine r_istore (L1 := [.ref 94, .int v1, .int v2, .int v3, .int v4, .int (b2i z6.1), .int z8.1]) hX dX9_ask_49 (Nat.le_of_ble_eq_true rfl) rfl ?_
      refine r_iload hX dX9_ask_51 rfl ?_
      refine r_ifb_eq (tgt := 61) hX dX9_ask_53 (by decide) (fun g10 => ?_) (fun g10 => ?_)
      · have h := (if_neg (show ¬ z6.1 = true from fun e => by rw [g10] at e; cases e)).symm.trans h
        refine r_bipush (v := (-2 : Int32)) hX dX9_ask_61 (by decide) ?_
        obtain rfl := Option.some.inj h
        exact r_iret hX hT dX9_ask_63 rfl
      · have h := (if_pos g10).symm.trans h
        refine r_iload hX dX9_ask_56 rfl ?_
        refine r_goto (tgt := 63) hX dX9_ask_58 (by decide) ?_
        obtain rfl := Option.some.inj h
        exact r_iret hX hT dX9_ask_63 rfl
    · have h := (if_pos g5).symm.trans h
      refine r_bipush (v := (-3 : Int32)) hX dX9_ask_26 (by decide) ?_
      obtain rfl := Option.some.inj h
      exact r_iret hX hT dX9_ask_28 rfl
  · have h := (if_neg (show ¬ z1 = true from fun e => by rw [g3] at e; cases e)).symm.trans h
    refine r_iconst (v := (-1 : Int32)) hX dX9_ask_12 (by decide) ?_
    obtain rfl := Option.some.inj h
    exact r_iret hX hT dX9_ask_13 rfl
