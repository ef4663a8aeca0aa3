def Rd_readNumber_j28 (M : Mm) : Option (Mm) :=
  bnd (Rd_blame (1 : Int32) (M.1 3 7) M) (fun z2 =>
  some z2)
def Rd_readNumber_b56 (c3 : Int32) (v4 : Int32) (M : Mm) : Option ((Int32 × Mm) ⊕ ((Int32 × Mm) ⊕ (Mm))) :=
  if (M.1 3 6) ≤ (M.1 3 7) then
    some (.inr (.inl (v4, M)))
  else
    grd (inb (M.1 3 7) 240) (
    if (M.1 2 (tn (M.1 3 7))) < (48 : Int32) then
      some (.inr (.inl (v4, M)))
    else
      grd (inb (M.1 3 7) 240) (
      if (57 : Int32) < (M.1 2 (tn (M.1 3 7))) then
        some (.inr (.inl (v4, M)))
      else
        if ((M.1 3 7) - c3) = (5 : Int32) then
          bnd (Rd_blame (2 : Int32) (M.1 3 7) M) (fun z13 =>
          some (.inr (.inr z13)))
        else
          grd (inb (M.1 3 7) 240) (
          some (.inl (((v4 * (10 : Int32)) + (M.1 2 (tn (M.1 3 7)))) - (48 : Int32), ((up2 M.1 3 7 ((M.1 3 7) + (1 : Int32))), M.2))))))
def Rd_readNumber_j216 (v3 : Int32) (w0 : Int32) (M : Mm) : Option (Mm) :=
  if w0 = (0 : Int32) then
    some M
  else
    bnd (Rd_blame w0 v3 M) (fun z24 =>
    some z24)
def Rd_readNumber_j157 (v1 : Int32) (v2 : Int32) (v3 : Int32) (v4 : Int32) (M : Mm) : Option (Mm) :=
  if (M.1 3 7) = v3 then
    bnd (Rd_blame (1 : Int32) (M.1 3 7) M) (fun z28 =>
    some z28)
  else
    grd (inb (((M.1 3 5) * (4 : Int32)) + v2) 96) (
    if ((up2 M.1 11 (tn (((M.1 3 5) * (4 : Int32)) + v2)) v4) 3 4) = (0 : Int32) then
      bnd (Rd_stepFault v1 v2 v4 ((up2 M.1 11 (tn (((M.1 3 5) * (4 : Int32)) + v2)) v4), M.2)) (fun z21 =>
      Rd_readNumber_j216 v3 z21 ((up2 M.1 11 (tn (((M.1 3 5) * (4 : Int32)) + v2)) v4), M.2))
    else
      bnd (Rd_gridFault v1 v2 v4 ((up2 M.1 11 (tn (((M.1 3 5) * (4 : Int32)) + v2)) v4), M.2)) (fun z26 =>
      Rd_readNumber_j216 v3 z26.1 z26.2))
def Rd_readNumber (n : Nat) (v1 : Int32) (v2 : Int32) (M : Mm) : Option (Mm) :=
  if (M.1 3 6) ≤ (M.1 3 7) then
    Rd_readNumber_j28 M
  else
    grd (inb (M.1 3 7) 240) (
    if (M.1 2 (tn (M.1 3 7))) = (32 : Int32) then
      bnd (loop (fun s1 : Int32 × Mm => Rd_readNumber_b56 ((up2 M.1 3 7 ((M.1 3 7) + (1 : Int32))) 3 7) s1.1 s1.2) n ((0 : Int32), ((up2 M.1 3 7 ((M.1 3 7) + (1 : Int32))), M.2))) (fun y15 =>
      elS y15 (fun x16 =>
        Rd_readNumber_j157 v1 v2 ((up2 M.1 3 7 ((M.1 3 7) + (1 : Int32))) 3 7) x16.1 x16.2)
        (fun e17 => some e17))
    else
      Rd_readNumber_j28 M)
set_option maxRecDepth 100000 in
theorem ok_Rd_readNumber_j28 (n : Nat) (M : Mm) {z : Mm} {G : Gm} {X : Cx} {d : Nat}  (hX : XK G X 2 cX2_readNumber 6 (d + 3)) (hT : XT X (none) "readNumber") (hr : XR X SS) (h : Rd_readNumber_j28 M = some z) : WR G X (mQ G X (none) z SS) 28 [.ref 3, vU, vU, vU, vU, vU] [] M SS := by
  unfold Rd_readNumber_j28 at h
  refine r_aload_n hX dX2_readNumber_28 rfl ?_
  refine r_iconst (v := (1 : Int32)) hX dX2_readNumber_29 (by decide) ?_
  refine r_aload_n hX dX2_readNumber_30 rfl ?_
  refine r_getf (v := .int (M.1 3 7)) hX dX2_readNumber_31 fl_2_36 rfl (by decide) (by decide) rfl ?_
  obtain ⟨z2, p3, h⟩ := bnd_s h
  refine r_callV (As := [.int (1 : Int32), .int (M.1 3 7)]) hX dX2_readNumber_34 mk_Rd_blame mi_Rd_blame ml_2_52 rfl rfl rfl rfl (by decide) (by decide) (Nat.le_of_ble_eq_true rfl) hr (ok_Rd_blame (d := d + 2) (1 : Int32) (M.1 3 7) M p3) ?_
  obtain rfl := Option.some.inj h
  exact r_vret hX hT dX2_readNumber_37
set_option maxRecDepth 100000 in
theorem ok_Rd_readNumber_b56 (n : Nat) (v4 : Int32) (M : Mm) {c1 : Int32} {c2 : Int32} {c3 : Int32} {z : Mm} {oo : (Int32 × Mm) ⊕ ((Int32 × Mm) ⊕ (Mm))} {G : Gm} {X : Cx} {d : Nat}  (hX : XK G X 2 cX2_readNumber 6 (d + 3)) (hT : XT X (none) "readNumber") (hr : XR X SS) (hc : ∀ s1 : Int32 × Mm, oo = .inl s1 → WR G X (mQ G X (none) z SS) 56 [.ref 3, .int c1, .int c2, .int c3, .int s1.1, vU] [] s1.2 SS) (hx : ∀ x1 : (Int32 × Mm) ⊕ (Mm), oo = .inr x1 → elS x1 (fun x2 => WR G X (mQ G X (none) z SS) 157 [.ref 3, .int c1, .int c2, .int c3, .int x2.1, vU] [] x2.2 SS) (fun y1 => y1 = z)) (h : Rd_readNumber_b56 c3 v4 M = some oo) : WR G X (mQ G X (none) z SS) 56 [.ref 3, .int c1, .int c2, .int c3, .int v4, vU] [] M SS := by
  unfold Rd_readNumber_b56 at h
  refine r_aload_n hX dX2_readNumber_56 rfl ?_
  refine r_getf (v := .int (M.1 3 7)) hX dX2_readNumber_57 fl_2_36 rfl (by decide) (by decide) rfl ?_
  refine r_aload_n hX dX2_readNumber_60 rfl ?_
  refine r_getf (v := .int (M.1 3 6)) hX dX2_readNumber_61 fl_2_33 rfl (by decide) (by decide) rfl ?_
  refine r_icmp_ge (tgt := 157) hX dX2_readNumber_64 (by decide) (fun g6 => ?_) (fun g6 => ?_)
  · have h := (if_pos g6).symm.trans h
    exact hx _ (Option.some.inj h).symm
  · have h := (if_neg g6).symm.trans h
    refine r_aload_n hX dX2_readNumber_67 rfl ?_
    refine r_getf (v := .ref 1) hX dX2_readNumber_68 fl_2_42 rfl (by decide) (by decide) rfl ?_
    refine r_getf (v := .ref 2) hX dX2_readNumber_71 fl_2_57 rfl (by decide) (by decide) rfl ?_
    refine r_aload_n hX dX2_readNumber_74 rfl ?_
    refine r_getf (v := .int (M.1 3 7)) hX dX2_readNumber_75 fl_2_36 rfl (by decide) (by decide) rfl ?_
    obtain ⟨k7, h⟩ := grd_s h
    refine r_iald hX dX2_readNumber_78 rfl (by decide) (inb_at rfl k7) ?_
    refine r_bipush (v := (48 : Int32)) hX dX2_readNumber_79 (by decide) ?_
    refine r_icmp_lt (tgt := 157) hX dX2_readNumber_81 (by decide) (fun g8 => ?_) (fun g8 => ?_)
    · have h := (if_pos g8).symm.trans h
      exact hx _ (Option.some.inj h).symm
    · have h := (if_neg g8).symm.trans h
      refine r_aload_n hX dX2_readNumber_84 rfl ?_
      refine r_getf (v := .ref 1) hX dX2_readNumber_85 fl_2_42 rfl (by decide) (by decide) rfl ?_
      refine r_getf (v := .ref 2) hX dX2_readNumber_88 fl_2_57 rfl (by decide) (by decide) rfl ?_
      refine r_aload_n hX dX2_readNumber_91 rfl ?_
      refine r_getf (v := .int (M.1 3 7)) hX dX2_readNumber_92 fl_2_36 rfl (by decide) (by decide) rfl ?_
      obtain ⟨k9, h⟩ := grd_s h
      refine r_iald hX dX2_readNumber_95 rfl (by decide) (inb_at rfl k9) ?_
      refine r_bipush (v := (57 : Int32)) hX dX2_readNumber_96 (by decide) ?_
      refine r_icmp_gt (tgt := 157) hX dX2_readNumber_98 (by decide) (fun g10 => ?_) (fun g10 => ?_)
      · have h := (if_pos g10).symm.trans h
        exact hx _ (Option.some.inj h).symm
      · have h := (if_neg g10).symm.trans h
        refine r_aload_n hX dX2_readNumber_101 rfl ?_
        refine r_getf (v := .int (M.1 3 7)) hX dX2_readNumber_102 fl_2_36 rfl (by decide) (by decide) rfl ?_
        refine r_iload_n hX dX2_readNumber_105 rfl ?_
        refine r_isub hX dX2_readNumber_106 ?_
        refine r_iconst (v := (5 : Int32)) hX dX2_readNumber_107 (by decide) ?_
        refine r_icmp_ne (tgt := 121) hX dX2_readNumber_108 (by decide) (fun g11 => ?_) (fun g11 => ?_)
        · have h := (if_neg g11).symm.trans h
          refine r_iload hX dX2_readNumber_121 rfl ?_
          refine r_bipush (v := (10 : Int32)) hX dX2_readNumber_123 (by decide) ?_
          refine r_imul hX dX2_readNumber_125 ?_
          refine r_aload_n hX dX2_readNumber_126 rfl ?_
          refine r_getf (v := .ref 1) hX dX2_readNumber_127 fl_2_42 rfl (by decide) (by decide) rfl ?_
          refine r_getf (v := .ref 2) hX dX2_readNumber_130 fl_2_57 rfl (by decide) (by decide) rfl ?_
          refine r_aload_n hX dX2_readNumber_133 rfl ?_
          refine r_getf (v := .int (M.1 3 7)) hX dX2_readNumber_134 fl_2_36 rfl (by decide) (by decide) rfl ?_
          obtain ⟨k12, h⟩ := grd_s h
          refine r_iald hX dX2_readNumber_137 rfl (by decide) (inb_at rfl k12) ?_
          refine r_iadd hX dX2_readNumber_138 ?_
          refine r_bipush (v := (48 : Int32)) hX dX2_readNumber_139 (by decide) ?_
          refine r_isub hX dX2_readNumber_141 ?_
          refine r_istore (L1 := [.ref 3, .int c1, .int c2, .int c3, .int (((v4 * (10 : Int32)) + (M.1 2 (tn (M.1 3 7)))) - (48 : Int32)), vU]) hX dX2_readNumber_142 (Nat.le_of_ble_eq_true rfl) rfl ?_
          refine r_aload_n hX dX2_readNumber_144 rfl ?_
          refine r_dup hX dX2_readNumber_145 rfl ?_
          refine r_getf (v := .int (M.1 3 7)) hX dX2_readNumber_146 fl_2_36 rfl (by decide) (by decide) rfl ?_
          refine r_iconst (v := (1 : Int32)) hX dX2_readNumber_149 (by decide) ?_
          refine r_iadd hX dX2_readNumber_150 ?_
          refine r_putI hX dX2_readNumber_151 fl_2_36 rfl (by decide) (by decide) (okI_int _) ?_
          refine r_goto (tgt := 56) hX dX2_readNumber_154 (by decide) ?_
          exact hc (((v4 * (10 : Int32)) + (M.1 2 (tn (M.1 3 7)))) - (48 : Int32), ((up2 M.1 3 7 ((M.1 3 7) + (1 : Int32))), M.2)) (Option.some.inj h).symm
        · have h := (if_pos g11).symm.trans h
          refine r_aload_n hX dX2_readNumber_111 rfl ?_
          refine r_iconst (v := (2 : Int32)) hX dX2_readNumber_112 (by decide) ?_
          refine r_aload_n hX dX2_readNumber_113 rfl ?_
          refine r_getf (v := .int (M.1 3 7)) hX dX2_readNumber_114 fl_2_36 rfl (by decide) (by decide) rfl ?_
          obtain ⟨z13, p14, h⟩ := bnd_s h
          refine r_callV (As := [.int (2 : Int32), .int (M.1 3 7)]) hX dX2_readNumber_117 mk_Rd_blame mi_Rd_blame ml_2_52 rfl rfl rfl rfl (by decide) (by decide) (Nat.le_of_ble_eq_true rfl) hr (ok_Rd_blame (d := d + 2) (2 : Int32) (M.1 3 7) M p14) ?_
          obtain rfl := hx _ (Option.some.inj h).symm
          exact r_vret hX hT dX2_readNumber_120
set_option maxRecDepth 100000 in
theorem ok_Rd_readNumber_j216 (n : Nat) (v3 : Int32) (w0 : Int32) (M : Mm) {z : Mm} {G : Gm} {X : Cx} {d : Nat}  (hX : XK G X 2 cX2_readNumber 6 (d + 3)) (hT : XT X (none) "readNumber") (hr : XR X SS) (h : Rd_readNumber_j216 v3 w0 M = some z) : WR G X (mQ G X (none) z SS) 216 [.ref 3, vU, vU, .int v3, vU, vU] [.int w0] M SS := by
  unfold Rd_readNumber_j216 at h
  refine r_istore (L1 := [.ref 3, vU, vU, .int v3, vU, .int w0]) hX dX2_readNumber_216 (Nat.le_of_ble_eq_true rfl) rfl ?_
  refine r_iload hX dX2_readNumber_218 rfl ?_
  refine r_if_eq (tgt := 230) hX dX2_readNumber_220 (by decide) (fun g23 => ?_) (fun g23 => ?_)
  · have h := (if_pos g23).symm.trans h
    obtain rfl := Option.some.inj h
    exact r_vret hX hT dX2_readNumber_230
  · have h := (if_neg g23).symm.trans h
    refine r_aload_n hX dX2_readNumber_223 rfl ?_
    refine r_iload hX dX2_readNumber_224 rfl ?_
    refine r_iload_n hX dX2_readNumber_226 rfl ?_
    obtain ⟨z24, p25, h⟩ := bnd_s h
    refine r_callV (As := [.int w0, .int v3]) hX dX2_readNumber_227 mk_Rd_blame mi_Rd_blame ml_2_52 rfl rfl rfl rfl (by decide) (by decide) (Nat.le_of_ble_eq_true rfl) hr (ok_Rd_blame (d := d + 2) w0 v3 M p25) ?_
    obtain rfl := Option.some.inj h
    exact r_vret hX hT dX2_readNumber_230
set_option maxRecDepth 100000 in
theorem ok_Rd_readNumber_j157 (n : Nat) (v1 : Int32) (v2 : Int32) (v3 : Int32) (v4 : Int32) (M : Mm) {z : Mm} {G : Gm} {X : Cx} {d : Nat}  (hX : XK G X 2 cX2_readNumber 6 (d + 3)) (hT : XT X (none) "readNumber") (hr : XR X SS) (h : Rd_readNumber_j157 v1 v2 v3 v4 M = some z) : WR G X (mQ G X (none) z SS) 157 [.ref 3, .int v1, .int v2, .int v3, .int v4, vU] [] M SS := by
  unfold Rd_readNumber_j157 at h
  refine r_aload_n hX dX2_readNumber_157 rfl ?_
  refine r_getf (v := .int (M.1 3 7)) hX dX2_readNumber_158 fl_2_36 rfl (by decide) (by decide) rfl ?_
  refine r_iload_n hX dX2_readNumber_161 rfl ?_
  refine r_icmp_ne (tgt := 175) hX dX2_readNumber_162 (by decide) (fun g18 => ?_) (fun g18 => ?_)
  · have h := (if_neg g18).symm.trans h
    refine r_aload_n hX dX2_readNumber_175 rfl ?_
    refine r_getf (v := .ref 11) hX dX2_readNumber_176 fl_2_22 rfl (by decide) (by decide) rfl ?_
    refine r_aload_n hX dX2_readNumber_179 rfl ?_
    refine r_getf (v := .int (M.1 3 5)) hX dX2_readNumber_180 fl_2_29 rfl (by decide) (by decide) rfl ?_
    refine r_iconst (v := (4 : Int32)) hX dX2_readNumber_183 (by decide) ?_
    refine r_imul hX dX2_readNumber_184 ?_
    refine r_iload_n hX dX2_readNumber_185 rfl ?_
    refine r_iadd hX dX2_readNumber_186 ?_
    refine r_iload hX dX2_readNumber_187 rfl ?_
    obtain ⟨k19, h⟩ := grd_s h
    refine r_iast hX dX2_readNumber_189 rfl (by decide) (inb_at rfl k19) ?_
    refine r_aload_n hX dX2_readNumber_190 rfl ?_
    refine r_getf (v := .int ((up2 M.1 11 (tn (((M.1 3 5) * (4 : Int32)) + v2)) v4) 3 4)) hX dX2_readNumber_191 fl_2_25 rfl (by decide) (by decide) rfl ?_
    refine r_if_eq (tgt := 208) hX dX2_readNumber_194 (by decide) (fun g20 => ?_) (fun g20 => ?_)
    · have h := (if_pos g20).symm.trans h
      refine r_aload_n hX dX2_readNumber_208 rfl ?_
      refine r_iload_n hX dX2_readNumber_209 rfl ?_
      refine r_iload_n hX dX2_readNumber_210 rfl ?_
      refine r_iload hX dX2_readNumber_211 rfl ?_
      obtain ⟨z21, p22, h⟩ := bnd_s h
      refine r_callV (As := [.int v1, .int v2, .int v4]) hX dX2_readNumber_213 mk_Rd_stepFault mi_Rd_stepFault ml_2_82 rfl rfl rfl rfl (by decide) (by decide) (Nat.le_of_ble_eq_true rfl) hr (ok_Rd_stepFault (d := d + 2) v1 v2 v4 ((up2 M.1 11 (tn (((M.1 3 5) * (4 : Int32)) + v2)) v4), M.2) p22) ?_
      refine WR.fg (L' := [.ref 3, vU, vU, .int v3, vU, vU]) ⟨Or.inr rfl, Or.inl rfl, Or.inl rfl, Or.inr rfl, Or.inl rfl, Or.inl rfl, trivial⟩ ?_
      exact ok_Rd_readNumber_j216 n v3 z21 ((up2 M.1 11 (tn (((M.1 3 5) * (4 : Int32)) + v2)) v4), M.2)   hX hT hr h
    · have h := (if_neg g20).symm.trans h
      refine r_aload_n hX dX2_readNumber_197 rfl ?_
      refine r_iload_n hX dX2_readNumber_198 rfl ?_
      refine r_iload_n hX dX2_readNumber_199 rfl ?_
      refine r_iload hX dX2_readNumber_200 rfl ?_
      obtain ⟨z26, p27, h⟩ := bnd_s h
      refine r_callV (As := [.int v1, .int v2, .int v4]) hX dX2_readNumber_202 mk_Rd_gridFault mi_Rd_gridFault ml_2_78 rfl rfl rfl rfl (by decide) (by decide) (Nat.le_of_ble_eq_true rfl) hr (ok_Rd_gridFault (d := d + 0) v1 v2 v4 ((up2 M.1 11 (tn (((M.1 3 5) * (4 : Int32)) + v2)) v4), M.2) p27) ?_
      refine r_goto (tgt := 216) hX dX2_readNumber_205 (by decide) ?_
      refine WR.fg (L' := [.ref 3, vU, vU, .int v3, vU, vU]) ⟨Or.inr rfl, Or.inl rfl, Or.inl rfl, Or.inr rfl, Or.inl rfl, Or.inl rfl, trivial⟩ ?_
      exact ok_Rd_readNumber_j216 n v3 z26.1 z26.2   hX hT hr h
  · have h := (if_pos g18).symm.trans h
    refine r_aload_n hX dX2_readNumber_165 rfl ?_
    refine r_iconst (v := (1 : Int32)) hX dX2_readNumber_166 (by decide) ?_
    refine r_aload_n hX dX2_readNumber_167 rfl ?_
    refine r_getf (v := .int (M.1 3 7)) hX dX2_readNumber_168 fl_2_36 rfl (by decide) (by decide) rfl ?_
    obtain ⟨z28, p29, h⟩ := bnd_s h
    refine r_callV (As := [.int (1 : Int32), .int (M.1 3 7)]) hX dX2_readNumber_171 mk_Rd_blame mi_Rd_blame ml_2_52 rfl rfl rfl rfl (by decide) (by decide) (Nat.le_of_ble_eq_true rfl) hr (ok_Rd_blame (d := d + 2) (1 : Int32) (M.1 3 7) M p29) ?_
    obtain rfl := Option.some.inj h
    exact r_vret hX hT dX2_readNumber_174
set_option maxRecDepth 100000 in
theorem ok_Rd_readNumber {G : Gm} {l : Launch} {d : Nat} (n : Nat) (v1 : Int32) (v2 : Int32) (M : Mm) {z : Mm}  (h : Rd_readNumber n v1 v2 M = some z) : CK G l (d + 3) md_Rd_readNumber [.ref 3, .int v1, .int v2] M SS (none) z SS := by
  refine ck_of mk_Rd_readNumber (Nat.le_of_ble_eq_true rfl) ⟨Nat.le_refl _, Nat.le_refl _⟩ (fun X hX hT hS hr hl => ?_)
  subst hl
  unfold Rd_readNumber at h
  show WR G X (mQ G X (none) z SS) 0 [.ref 3, .int v1, .int v2, vU, vU, vU] [] M SS
  refine r_aload_n hX dX2_readNumber_0 rfl ?_
  refine r_getf (v := .int (M.1 3 7)) hX dX2_readNumber_1 fl_2_36 rfl (by decide) (by decide) rfl ?_
  refine r_aload_n hX dX2_readNumber_4 rfl ?_
  refine r_getf (v := .int (M.1 3 6)) hX dX2_readNumber_5 fl_2_33 rfl (by decide) (by decide) rfl ?_
  refine r_icmp_ge (tgt := 28) hX dX2_readNumber_8 (by decide) (fun g1 => ?_) (fun g1 => ?_)
  · have h := (if_pos g1).symm.trans h
    refine WR.fg (L' := [.ref 3, vU, vU, vU, vU, vU]) ⟨Or.inr rfl, Or.inl rfl, Or.inl rfl, Or.inl rfl, Or.inl rfl, Or.inl rfl, trivial⟩ ?_
    exact ok_Rd_readNumber_j28 n M   hX hT hr h
  · have h := (if_neg g1).symm.trans h
    refine r_aload_n hX dX2_readNumber_11 rfl ?_
    refine r_getf (v := .ref 1) hX dX2_readNumber_12 fl_2_42 rfl (by decide) (by decide) rfl ?_
    refine r_getf (v := .ref 2) hX dX2_readNumber_15 fl_2_57 rfl (by decide) (by decide) rfl ?_
    refine r_aload_n hX dX2_readNumber_18 rfl ?_
    refine r_getf (v := .int (M.1 3 7)) hX dX2_readNumber_19 fl_2_36 rfl (by decide) (by decide) rfl ?_
    obtain ⟨k4, h⟩ := grd_s h
    refine r_iald hX dX2_readNumber_22 rfl (by decide) (inb_at rfl k4) ?_
    refine r_bipush (v := (32 : Int32)) hX dX2_readNumber_23 (by decide) ?_
    refine r_icmp_eq (tgt := 38) hX dX2_readNumber_25 (by decide) (fun g5 => ?_) (fun g5 => ?_)
    · have h := (if_pos g5).symm.trans h
      refine r_aload_n hX dX2_readNumber_38 rfl ?_
      refine r_dup hX dX2_readNumber_39 rfl ?_
      refine r_getf (v := .int (M.1 3 7)) hX dX2_readNumber_40 fl_2_36 rfl (by decide) (by decide) rfl ?_
      refine r_iconst (v := (1 : Int32)) hX dX2_readNumber_43 (by decide) ?_
      refine r_iadd hX dX2_readNumber_44 ?_
      refine r_putI hX dX2_readNumber_45 fl_2_36 rfl (by decide) (by decide) (okI_int _) ?_
      refine r_aload_n hX dX2_readNumber_48 rfl ?_
      refine r_getf (v := .int ((up2 M.1 3 7 ((M.1 3 7) + (1 : Int32))) 3 7)) hX dX2_readNumber_49 fl_2_36 rfl (by decide) (by decide) rfl ?_
      refine r_istore_n (L1 := [.ref 3, .int v1, .int v2, .int ((up2 M.1 3 7 ((M.1 3 7) + (1 : Int32))) 3 7), vU, vU]) hX dX2_readNumber_52 (Nat.le_of_ble_eq_true rfl) rfl ?_
      refine r_iconst (v := (0 : Int32)) hX dX2_readNumber_53 (by decide) ?_
      refine r_istore (L1 := [.ref 3, .int v1, .int v2, .int ((up2 M.1 3 7 ((M.1 3 7) + (1 : Int32))) 3 7), .int (0 : Int32), vU]) hX dX2_readNumber_54 (Nat.le_of_ble_eq_true rfl) rfl ?_
      obtain ⟨y15, h1, h⟩ := bnd_s h
      refine loop_ok (P := fun s1 : Int32 × Mm => WR G X (mQ G X (none) z SS) 56 [.ref 3, .int v1, .int v2, .int ((up2 M.1 3 7 ((M.1 3 7) + (1 : Int32))) 3 7), .int s1.1, vU] [] s1.2 SS) (E := fun x1 : (Int32 × Mm) ⊕ (Mm) => elS x1 (fun x2 => WR G X (mQ G X (none) z SS) 157 [.ref 3, .int v1, .int v2, .int ((up2 M.1 3 7 ((M.1 3 7) + (1 : Int32))) 3 7), .int x2.1, vU] [] x2.2 SS) (fun y1 => y1 = z)) (fun s1 o1 g1 g2 g3 => ok_Rd_readNumber_b56 n s1.1 s1.2  hX hT hr g2 g3 g1) n ((0 : Int32), ((up2 M.1 3 7 ((M.1 3 7) + (1 : Int32))), M.2)) y15 h1 ?_
      cases y15 with
      | inr e17 =>
        exact Option.some.inj h
      | inl x16 =>
        show WR G X (mQ G X (none) z SS) 157 [.ref 3, .int v1, .int v2, .int ((up2 M.1 3 7 ((M.1 3 7) + (1 : Int32))) 3 7), .int x16.1, vU] [] x16.2 SS
        exact ok_Rd_readNumber_j157 n v1 v2 ((up2 M.1 3 7 ((M.1 3 7) + (1 : Int32))) 3 7) x16.1 x16.2   hX hT hr h
    · have h := (if_neg g5).symm.trans h
      refine WR.fg (L' := [.ref 3, vU, vU, vU, vU, vU]) ⟨Or.inr rfl, Or.inl rfl, Or.inl rfl, Or.inl rfl, Or.inl rfl, Or.inl rfl, trivial⟩ ?_
      exact ok_Rd_readNumber_j28 n M   hX hT hr h
def Rd_gridWord (v0 : Int32) (M : Mm) : Option (Nat) :=
  if v0 = (0 : Int32) then
    some 0
  else
    if v0 = (1 : Int32) then
      some 1
    else
      if v0 = (2 : Int32) then
        some 2
      else
        if v0 = (3 : Int32) then
          some 3
        else
          some 4
set_option maxRecDepth 100000 in
theorem ok_Rd_gridWord {G : Gm} {l : Launch} {d : Nat} (v0 : Int32) (M : Mm) {z : Nat}  (h : Rd_gridWord v0 M = some z) : CK G l (d + 0) md_Rd_gridWord [.int v0] M SS (some (.ref (1010 + z))) M SS := by
  refine ck_of mk_Rd_gridWord (Nat.le_of_ble_eq_true rfl) ⟨Nat.le_refl _, Nat.le_refl _⟩ (fun X hX hT hS hr hl => ?_)
  subst hl
  unfold Rd_gridWord at h
  show WR G X (mQ G X (some (.ref (1010 + z))) M SS) 0 [.int v0] [] M SS
  refine r_iload_n hX dX2_gridWord_0 rfl ?_
  by_cases g1 : v0 = (0 : Int32)
  · have h := (if_pos g1).symm.trans h
    refine r_tabEq (tgt := 32) hX dX2_gridWord_1 g1 ⟨by decide, by decide, rfl⟩ (by decide) ?_
    refine r_ldcS (u := 0) hX dX2_gridWord_32 (by decide) rfl ?_
    obtain rfl := Option.some.inj h
    exact r_aret (a := (1010 + 0)) hX hT dX2_gridWord_34
  · have h := (if_neg g1).symm.trans h
    by_cases g2 : v0 = (1 : Int32)
    · have h := (if_pos g2).symm.trans h
      refine r_tabEq (tgt := 35) hX dX2_gridWord_1 g2 ⟨by decide, by decide, rfl⟩ (by decide) ?_
      refine r_ldcS (u := 1) hX dX2_gridWord_35 (by decide) rfl ?_
      obtain rfl := Option.some.inj h
      exact r_aret (a := (1010 + 1)) hX hT dX2_gridWord_37
    · have h := (if_neg g2).symm.trans h
      by_cases g3 : v0 = (2 : Int32)
      · have h := (if_pos g3).symm.trans h
        refine r_tabEq (tgt := 38) hX dX2_gridWord_1 g3 ⟨by decide, by decide, rfl⟩ (by decide) ?_
        refine r_ldcS (u := 2) hX dX2_gridWord_38 (by decide) rfl ?_
        obtain rfl := Option.some.inj h
        exact r_aret (a := (1010 + 2)) hX hT dX2_gridWord_40
      · have h := (if_neg g3).symm.trans h
        by_cases g4 : v0 = (3 : Int32)
        · have h := (if_pos g4).symm.trans h
          refine r_tabEq (tgt := 41) hX dX2_gridWord_1 g4 ⟨by decide, by decide, rfl⟩ (by decide) ?_
          refine r_ldcS (u := 3) hX dX2_gridWord_41 (by decide) rfl ?_
          obtain rfl := Option.some.inj h
          exact r_aret (a := (1010 + 3)) hX hT dX2_gridWord_43
        · have h := (if_neg g4).symm.trans h
          refine r_tabOut (tgt := 44) hX dX2_gridWord_1 (by have q0 := ne_ti g1 (k := 0) (by decide); have q1 := ne_ti g2 (k := 1) (by decide); have q2 := ne_ti g3 (k := 2) (by decide); have q3 := ne_ti g4 (k := 3) (by decide); omega) (by decide) ?_
          refine r_ldcS (u := 4) hX dX2_gridWord_44 (by decide) rfl ?_
          obtain rfl := Option.some.inj h
          exact r_aret (a := (1010 + 4)) hX hT dX2_gridWord_46
theorem lt_Rd_gridWord {v0 : Int32} {M : Mm} {z : Nat} (h : Rd_gridWord v0 M = some z) : z < 16 := by
  unfold Rd_gridWord at h
  repeat (first | (split at h) | (cases h; decide))
def Rd_isWord_b17 (u : Nat) (c1 : Int32) (Mc : Mm) (v3 : Int32) : Option ((Int32) ⊕ ((Unit) ⊕ (Bool))) :=
  if (strLen u) ≤ v3 then
    some (.inr (.inl ()))
  else
    grd (inb (c1 + v3) 240) (
    grd (inb v3 (strL.getD u 0)) (
    if (Mc.1 2 (tn (c1 + v3))) = (strCh u (tn v3)) then
      some (.inl (v3 + (1 : Int32)))
    else
      some (.inr (.inr false))))
def Rd_isWord (n : Nat) (u : Nat) (v1 : Int32) (M : Mm) : Option (Bool) :=
  if ((M.1 3 7) - v1) = (strLen u) then
    bnd (loop (fun s1 : Int32 => Rd_isWord_b17 u v1 M s1) n (0 : Int32)) (fun y6 =>
    elS y6 (fun x7 =>
      some true)
      (fun e8 => some e8))
  else
    some false
set_option maxRecDepth 100000 in
theorem ok_Rd_isWord_b17 (n : Nat) (u : Nat) (v3 : Int32) {c1 : Int32} {Mc : Mm} {z : Bool} {oo : (Int32) ⊕ ((Unit) ⊕ (Bool))} {G : Gm} {X : Cx} {d : Nat} (hu : u < 16) (hX : XK G X 2 cX2_isWord 4 (d + 4)) (hT : XT X (some .boolean) "isWord") (hr : XR X SS) (hc : ∀ s1 : Int32, oo = .inl s1 → WR G X (mQ G X (some (.int (b2i z))) Mc SS) 17 [.ref 3, .int c1, .ref (1010 + u), .int s1] [] Mc SS) (hx : ∀ x1 : (Unit) ⊕ (Bool), oo = .inr x1 → elS x1 (fun x2 => WR G X (mQ G X (some (.int (b2i z))) Mc SS) 52 [.ref 3, vU, vU, vU] [] Mc SS) (fun y1 => y1 = z)) (h : Rd_isWord_b17 u c1 Mc v3 = some oo) : WR G X (mQ G X (some (.int (b2i z))) Mc SS) 17 [.ref 3, .int c1, .ref (1010 + u), .int v3] [] Mc SS := by
  unfold Rd_isWord_b17 at h
  refine r_iload_n hX dX2_isWord_17 rfl ?_
  refine r_aload_n hX dX2_isWord_18 rfl ?_
  refine r_strlen (d := d) hX dX2_isWord_19 ml_2_123 hu rfl (Nat.le_of_ble_eq_true rfl) hr ?_
  refine r_icmp_ge (tgt := 52) hX dX2_isWord_22 (by decide) (fun g2 => ?_) (fun g2 => ?_)
  · have h := (if_pos g2).symm.trans h
    refine WR.fg (L' := [.ref 3, vU, vU, vU]) ⟨Or.inr rfl, Or.inl rfl, Or.inl rfl, Or.inl rfl, trivial⟩ ?_
    exact hx _ (Option.some.inj h).symm
  · have h := (if_neg g2).symm.trans h
    refine r_aload_n hX dX2_isWord_25 rfl ?_
    refine r_getf (v := .ref 1) hX dX2_isWord_26 fl_2_42 rfl (by decide) (by decide) rfl ?_
    refine r_getf (v := .ref 2) hX dX2_isWord_29 fl_2_57 rfl (by decide) (by decide) rfl ?_
    refine r_iload_n hX dX2_isWord_32 rfl ?_
    refine r_iload_n hX dX2_isWord_33 rfl ?_
    refine r_iadd hX dX2_isWord_34 ?_
    obtain ⟨k3, h⟩ := grd_s h
    refine r_iald hX dX2_isWord_35 rfl (by decide) (inb_at rfl k3) ?_
    refine r_aload_n hX dX2_isWord_36 rfl ?_
    refine r_iload_n hX dX2_isWord_37 rfl ?_
    obtain ⟨k4, h⟩ := grd_s h
    refine r_strch (d := d) hX dX2_isWord_38 ml_2_129 hu k4 rfl (Nat.le_of_ble_eq_true rfl) hr ?_
    refine r_icmp_eq (tgt := 46) hX dX2_isWord_41 (by decide) (fun g5 => ?_) (fun g5 => ?_)
    · have h := (if_pos g5).symm.trans h
      refine r_iinc (v := v3 + (1 : Int32)) (L1 := [.ref 3, .int c1, .ref (1010 + u), .int (v3 + (1 : Int32))]) hX dX2_isWord_46 rfl rfl rfl ?_
      refine r_goto (tgt := 17) hX dX2_isWord_49 (by decide) ?_
      exact hc (v3 + (1 : Int32)) (Option.some.inj h).symm
    · have h := (if_neg g5).symm.trans h
      refine r_iconst (v := (0 : Int32)) hX dX2_isWord_44 (by decide) ?_
      obtain rfl := hx _ (Option.some.inj h).symm
      exact r_iret (v := b2i false) hX hT dX2_isWord_45 (okI_b false).1
set_option maxRecDepth 100000 in
theorem ok_Rd_isWord {G : Gm} {l : Launch} {d : Nat} (n : Nat) (u : Nat) (v1 : Int32) (M : Mm) {z : Bool} (hu : u < 16) (h : Rd_isWord n u v1 M = some z) : CK G l (d + 4) md_Rd_isWord [.ref 3, .int v1, .ref (1010 + u)] M SS (some (.int (b2i z))) M SS := by
  refine ck_of mk_Rd_isWord (Nat.le_of_ble_eq_true rfl) ⟨Nat.le_refl _, Nat.le_refl _⟩ (fun X hX hT hS hr hl => ?_)
  subst hl
  unfold Rd_isWord at h
  show WR G X (mQ G X (some (.int (b2i z))) M SS) 0 [.ref 3, .int v1, .ref (1010 + u), vU] [] M SS
  refine r_aload_n hX dX2_isWord_0 rfl ?_
  refine r_getf (v := .int (M.1 3 7)) hX dX2_isWord_1 fl_2_36 rfl (by decide) (by decide) rfl ?_
  refine r_iload_n hX dX2_isWord_4 rfl ?_
  refine r_isub hX dX2_isWord_5 ?_
  refine r_aload_n hX dX2_isWord_6 rfl ?_
  refine r_strlen (d := d) hX dX2_isWord_7 ml_2_123 hu rfl (Nat.le_of_ble_eq_true rfl) hr ?_
  refine r_icmp_eq (tgt := 15) hX dX2_isWord_10 (by decide) (fun g1 => ?_) (fun g1 => ?_)
  · have h := (if_pos g1).symm.trans h
    refine r_iconst (v := (0 : Int32)) hX dX2_isWord_15 (by decide) ?_
    refine r_istore_n (L1 := [.ref 3, .int v1, .ref (1010 + u), .int (0 : Int32)]) hX dX2_isWord_16 (Nat.le_of_ble_eq_true rfl) rfl ?_
    obtain ⟨y6, h1, h⟩ := bnd_s h
    refine loop_ok (P := fun s1 : Int32 => WR G X (mQ G X (some (.int (b2i z))) M SS) 17 [.ref 3, .int v1, .ref (1010 + u), .int s1] [] M SS) (E := fun x1 : (Unit) ⊕ (Bool) => elS x1 (fun x2 => WR G X (mQ G X (some (.int (b2i z))) M SS) 52 [.ref 3, vU, vU, vU] [] M SS) (fun y1 => y1 = z)) (fun s1 o1 g1 g2 g3 => ok_Rd_isWord_b17 n u s1 hu hX hT hr g2 g3 g1) n (0 : Int32) y6 h1 ?_
    cases y6 with
    | inr e8 =>
      exact Option.some.inj h
    | inl x7 =>
      show WR G X (mQ G X (some (.int (b2i z))) M SS) 52 [.ref 3, vU, vU, vU] [] M SS
      refine r_iconst (v := (1 : Int32)) hX dX2_isWord_52 (by decide) ?_
      obtain rfl := Option.some.inj h
      exact r_iret (v := b2i true) hX hT dX2_isWord_53 (okI_b true).1
  · have h := (if_neg g1).symm.trans h
    refine r_iconst (v := (0 : Int32)) hX dX2_isWord_13 (by decide) ?_
    obtain rfl := Option.some.inj h
    exact r_iret (v := b2i false) hX hT dX2_isWord_14 (okI_b false).1
def Rd_stepWord (v0 : Int32) (M : Mm) : Option (Nat) :=
  if v0 = (0 : Int32) then
    some 5
  else
    if v0 = (1 : Int32) then
      some 6
    else
      if v0 = (2 : Int32) then
        some 7
      else
        if v0 = (3 : Int32) then
          some 8
        else
          if v0 = (4 : Int32) then
            some 9
          else
            if v0 = (5 : Int32) then
              some 10
            else
              if v0 = (6 : Int32) then
                some 11
              else
                if v0 = (7 : Int32) then
                  some 12
                else
                  if v0 = (8 : Int32) then
                    some 13
                  else
                    if v0 = (9 : Int32) then
                      some 14
                    else
                      some 15
set_option maxRecDepth 100000 in
theorem ok_Rd_stepWord {G : Gm} {l : Launch} {d : Nat} (v0 : Int32) (M : Mm) {z : Nat}  (h : Rd_stepWord v0 M = some z) : CK G l (d + 0) md_Rd_stepWord [.int v0] M SS (some (.ref (1010 + z))) M SS := by
  refine ck_of mk_Rd_stepWord (Nat.le_of_ble_eq_true rfl) ⟨Nat.le_refl _, Nat.le_refl _⟩ (fun X hX hT hS hr hl => ?_)
  subst hl
  unfold Rd_stepWord at h
  show WR G X (mQ G X (some (.ref (1010 + z))) M SS) 0 [.int v0] [] M SS
  refine r_iload_n hX dX2_stepWord_0 rfl ?_
  by_cases g1 : v0 = (0 : Int32)
  · have h := (if_pos g1).symm.trans h
    refine r_tabEq (tgt := 56) hX dX2_stepWord_1 g1 ⟨by decide, by decide, rfl⟩ (by decide) ?_
    refine r_ldcS (u := 5) hX dX2_stepWord_56 (by decide) rfl ?_
    obtain rfl := Option.some.inj h
    exact r_aret (a := (1010 + 5)) hX hT dX2_stepWord_58
  · have h := (if_neg g1).symm.trans h
    by_cases g2 : v0 = (1 : Int32)
    · have h := (if_pos g2).symm.trans h
      refine r_tabEq (tgt := 59) hX dX2_stepWord_1 g2 ⟨by decide, by decide, rfl⟩ (by decide) ?_
      refine r_ldcS (u := 6) hX dX2_stepWord_59 (by decide) rfl ?_
      obtain rfl := Option.some.inj h
      exact r_aret (a := (1010 + 6)) hX hT dX2_stepWord_61
    · have h := (if_neg g2).symm.trans h
      by_cases g3 : v0 = (2 : Int32)
      · have h := (if_pos g3).symm.trans h
        refine r_tabEq (tgt := 62) hX dX2_stepWord_1 g3 ⟨by decide, by decide, rfl⟩ (by decide) ?_
        refine r_ldcS (u := 7) hX dX2_stepWord_62 (by decide) rfl ?_
        obtain rfl := Option.some.inj h
        exact r_aret (a := (1010 + 7)) hX hT dX2_stepWord_64
      · have h := (if_neg g3).symm.trans h
        by_cases g4 : v0 = (3 : Int32)
        · have h := (if_pos g4).symm.trans h
          refine r_tabEq (tgt := 65) hX dX2_stepWord_1 g4 ⟨by decide, by decide, rfl⟩ (by decide) ?_
          refine r_ldcS (u := 8) hX dX2_stepWord_65 (by decide) rfl ?_
          obtain rfl := Option.some.inj h
          exact r_aret (a := (1010 + 8)) hX hT dX2_stepWord_67
        · have h := (if_neg g4).symm.trans h
          by_cases g5 : v0 = (4 : Int32)
          · have h := (if_pos g5).symm.trans h
            refine r_tabEq (tgt := 68) hX dX2_stepWord_1 g5 ⟨by decide, by decide, rfl⟩ (by decide) ?_
            refine r_ldcS (u := 9) hX dX2_stepWord_68 (by decide) rfl ?_
            obtain rfl := Option.some.inj h
            exact r_aret (a := (1010 + 9)) hX hT dX2_stepWord_70
          · have h := (if_neg g5).symm.trans h
            by_cases g6 : v0 = (5 : Int32)
            · have h := (if_pos g6).symm.trans h
              refine r_tabEq (tgt := 71) hX dX2_stepWord_1 g6 ⟨by decide, by decide, rfl⟩ (by decide) ?_
              refine r_ldcS (u := 10) hX dX2_stepWord_71 (by decide) rfl ?_
              obtain rfl := Option.some.inj h
              exact r_aret (a := (1010 + 10)) hX hT dX2_stepWord_73
            · have h := (if_neg g6).symm.trans h
              by_cases g7 : v0 = (6 : Int32)
              · have h := (if_pos g7).symm.trans h
                refine r_tabEq (tgt := 74) hX dX2_stepWord_1 g7 ⟨by decide, by decide, rfl⟩ (by decide) ?_
                refine r_ldcS (u := 11) hX dX2_stepWord_74 (by decide) rfl ?_
                obtain rfl := Option.some.inj h
                exact r_aret (a := (1010 + 11)) hX hT dX2_stepWord_76
              · have h := (if_neg g7).symm.trans h
                by_cases g8 : v0 = (7 : Int32)
                · have h := (if_pos g8).symm.trans h
                  refine r_tabEq (tgt := 77) hX dX2_stepWord_1 g8 ⟨by decide, by decide, rfl⟩ (by decide) ?_
                  refine r_ldcS (u := 12) hX dX2_stepWord_77 (by decide) rfl ?_
                  obtain rfl := Option.some.inj h
                  exact r_aret (a := (1010 + 12)) hX hT dX2_stepWord_79
                · have h := (if_neg g8).symm.trans h
                  by_cases g9 : v0 = (8 : Int32)
                  · have h := (if_pos g9).symm.trans h
                    refine r_tabEq (tgt := 80) hX dX2_stepWord_1 g9 ⟨by decide, by decide, rfl⟩ (by decide) ?_
                    refine r_ldcS (u := 13) hX dX2_stepWord_80 (by decide) rfl ?_
                    obtain rfl := Option.some.inj h
                    exact r_aret (a := (1010 + 13)) hX hT dX2_stepWord_82
                  · have h := (if_neg g9).symm.trans h
                    by_cases g10 : v0 = (9 : Int32)
                    · have h := (if_pos g10).symm.trans h
                      refine r_tabEq (tgt := 83) hX dX2_stepWord_1 g10 ⟨by decide, by decide, rfl⟩ (by decide) ?_
                      refine r_ldcS (u := 14) hX dX2_stepWord_83 (by decide) rfl ?_
                      obtain rfl := Option.some.inj h
                      exact r_aret (a := (1010 + 14)) hX hT dX2_stepWord_85
                    · have h := (if_neg g10).symm.trans h
                      refine r_tabOut (tgt := 86) hX dX2_stepWord_1 (by have q0 := ne_ti g1 (k := 0) (by decide); have q1 := ne_ti g2 (k := 1) (by decide); have q2 := ne_ti g3 (k := 2) (by decide); have q3 := ne_ti g4 (k := 3) (by decide); have q4 := ne_ti g5 (k := 4) (by decide); have q5 := ne_ti g6 (k := 5) (by decide); have q6 := ne_ti g7 (k := 6) (by decide); have q7 := ne_ti g8 (k := 7) (by decide); have q8 := ne_ti g9 (k := 8) (by decide); have q9 := ne_ti g10 (k := 9) (by decide); omega) (by decide) ?_
                      refine r_ldcS (u := 15) hX dX2_stepWord_86 (by decide) rfl ?_
                      obtain rfl := Option.some.inj h
                      exact r_aret (a := (1010 + 15)) hX hT dX2_stepWord_88
theorem lt_Rd_stepWord {v0 : Int32} {M : Mm} {z : Nat} (h : Rd_stepWord v0 M = some z) : z < 16 := by
  unfold Rd_stepWord at h
  repeat (first | (split at h) | (cases h; decide))
def Rd_wordFrom_j46 (n : Nat) (v3 : Int32) (w0 : Nat) (w1 : Int32) (Mc : Mm) : Option ((Int32) ⊕ ((Unit) ⊕ (Int32))) :=
  bnd (Rd_isWord n w0 w1 Mc) (fun z6 =>
  if z6 = true then
    some (.inr (.inr v3))
  else
    some (.inl (v3 + (1 : Int32))))
def Rd_wordFrom_b21 (n : Nat) (c1 : Int32) (c2 : Int32) (Mc : Mm) (v3 : Int32) : Option ((Int32) ⊕ ((Unit) ⊕ (Int32))) :=
  if c2 ≤ v3 then
    some (.inr (.inl ()))
  else
    if (Mc.1 3 4) = (0 : Int32) then
      bnd (Rd_stepWord v3 Mc) (fun z4 =>
      Rd_wordFrom_j46 n v3 z4 c1 Mc)
    else
      bnd (Rd_gridWord v3 Mc) (fun z9 =>
      Rd_wordFrom_j46 n v3 z9 c1 Mc)
def Rd_wordFrom_j18 (n : Nat) (v1 : Int32) (w0 : Int32) (M : Mm) : Option (Int32) :=
  bnd (loop (fun s1 : Int32 => Rd_wordFrom_b21 n v1 w0 M s1) n (0 : Int32)) (fun y11 =>
  elS y11 (fun x12 =>
    some (-1 : Int32))
    (fun e13 => some e13))
def Rd_wordFrom (n : Nat) (v1 : Int32) (M : Mm) : Option (Int32) :=
  if (M.1 3 4) = (0 : Int32) then
    Rd_wordFrom_j18 n v1 (11 : Int32) M
  else
    Rd_wordFrom_j18 n v1 (5 : Int32) M
set_option maxRecDepth 100000 in
theorem ok_Rd_wordFrom_j46 (n : Nat) (v3 : Int32) (w0 : Nat) (w1 : Int32) (hw0 : w0 < 16) {c1 : Int32} {c2 : Int32} {Mc : Mm} {z : Int32} {oo : (Int32) ⊕ ((Unit) ⊕ (Int32))} {G : Gm} {X : Cx} {d : Nat}  (hX : XK G X 2 cX2_wordFrom 4 (d + 5)) (hT : XT X (some .int) "wordFrom") (hr : XR X SS) (hc : ∀ s1 : Int32, oo = .inl s1 → WR G X (mQ G X (some (.int z)) Mc SS) 21 [.ref 3, .int c1, .int c2, .int s1] [] Mc SS) (hx : ∀ x1 : (Unit) ⊕ (Int32), oo = .inr x1 → elS x1 (fun x2 => WR G X (mQ G X (some (.int z)) Mc SS) 60 [.ref 3, vU, vU, vU] [] Mc SS) (fun y1 => y1 = z)) (h : Rd_wordFrom_j46 n v3 w0 w1 Mc = some oo) : WR G X (mQ G X (some (.int z)) Mc SS) 46 [.ref 3, .int c1, .int c2, .int v3] [.ref (1010 + w0), .int w1, .ref 3] Mc SS := by
  unfold Rd_wordFrom_j46 at h
  obtain ⟨z6, p7, h⟩ := bnd_s h
  refine r_callV (As := [.int w1, .ref (1010 + w0)]) hX dX2_wordFrom_46 mk_Rd_isWord mi_Rd_isWord ml_2_119 rfl rfl rfl rfl (by decide) (by decide) (Nat.le_of_ble_eq_true rfl) hr (ok_Rd_isWord (d := d + 0) n w0 w1 Mc hw0 p7) ?_
  refine r_ifb_eq (tgt := 54) hX dX2_wordFrom_49 (by decide) (fun g8 => ?_) (fun g8 => ?_)
  · have h := (if_neg (show ¬ z6 = true from fun e => by rw [g8] at e; cases e)).symm.trans h
    refine r_iinc (v := v3 + (1 : Int32)) (L1 := [.ref 3, .int c1, .int c2, .int (v3 + (1 : Int32))]) hX dX2_wordFrom_54 rfl rfl rfl ?_
    refine r_goto (tgt := 21) hX dX2_wordFrom_57 (by decide) ?_
    exact hc (v3 + (1 : Int32)) (Option.some.inj h).symm
  · have h := (if_pos g8).symm.trans h
    refine r_iload_n hX dX2_wordFrom_52 rfl ?_
    obtain rfl := hx _ (Option.some.inj h).symm
    exact r_iret hX hT dX2_wordFrom_53 rfl
set_option maxRecDepth 100000 in
theorem ok_Rd_wordFrom_b21 (n : Nat) (v3 : Int32) {c1 : Int32} {c2 : Int32} {Mc : Mm} {z : Int32} {oo : (Int32) ⊕ ((Unit) ⊕ (Int32))} {G : Gm} {X : Cx} {d : Nat}  (hX : XK G X 2 cX2_wordFrom 4 (d + 5)) (hT : XT X (some .int) "wordFrom") (hr : XR X SS) (hc : ∀ s1 : Int32, oo = .inl s1 → WR G X (mQ G X (some (.int z)) Mc SS) 21 [.ref 3, .int c1, .int c2, .int s1] [] Mc SS) (hx : ∀ x1 : (Unit) ⊕ (Int32), oo = .inr x1 → elS x1 (fun x2 => WR G X (mQ G X (some (.int z)) Mc SS) 60 [.ref 3, vU, vU, vU] [] Mc SS) (fun y1 => y1 = z)) (h : Rd_wordFrom_b21 n c1 c2 Mc v3 = some oo) : WR G X (mQ G X (some (.int z)) Mc SS) 21 [.ref 3, .int c1, .int c2, .int v3] [] Mc SS := by
  unfold Rd_wordFrom_b21 at h
  refine r_iload_n hX dX2_wordFrom_21 rfl ?_
  refine r_iload_n hX dX2_wordFrom_22 rfl ?_
  refine r_icmp_ge (tgt := 60) hX dX2_wordFrom_23 (by decide) (fun g2 => ?_) (fun g2 => ?_)
  · have h := (if_pos g2).symm.trans h
    refine WR.fg (L' := [.ref 3, vU, vU, vU]) ⟨Or.inr rfl, Or.inl rfl, Or.inl rfl, Or.inl rfl, trivial⟩ ?_
    exact hx _ (Option.some.inj h).symm
  · have h := (if_neg g2).symm.trans h
    refine r_aload_n hX dX2_wordFrom_26 rfl ?_
    refine r_iload_n hX dX2_wordFrom_27 rfl ?_
    refine r_aload_n hX dX2_wordFrom_28 rfl ?_
    refine r_getf (v := .int (Mc.1 3 4)) hX dX2_wordFrom_29 fl_2_25 rfl (by decide) (by decide) rfl ?_
    refine r_if_eq (tgt := 42) hX dX2_wordFrom_32 (by decide) (fun g3 => ?_) (fun g3 => ?_)
    · have h := (if_pos g3).symm.trans h
      refine r_iload_n hX dX2_wordFrom_42 rfl ?_
      obtain ⟨z4, p5, h⟩ := bnd_s h
      refine r_callS (As := [.int v3]) hX dX2_wordFrom_43 mk_Rd_stepWord ms_Rd_stepWord ml_2_116 rfl rfl rfl (Nat.le_of_ble_eq_true rfl) hr (ok_Rd_stepWord (d := d + 4) v3 Mc p5) ?_
      exact ok_Rd_wordFrom_j46 n v3 z4 c1 (lt_Rd_stepWord p5)  hX hT hr hc hx h
    · have h := (if_neg g3).symm.trans h
      refine r_iload_n hX dX2_wordFrom_35 rfl ?_
      obtain ⟨z9, p10, h⟩ := bnd_s h
      refine r_callS (As := [.int v3]) hX dX2_wordFrom_36 mk_Rd_gridWord ms_Rd_gridWord ml_2_112 rfl rfl rfl (Nat.le_of_ble_eq_true rfl) hr (ok_Rd_gridWord (d := d + 4) v3 Mc p10) ?_
      refine r_goto (tgt := 46) hX dX2_wordFrom_39 (by decide) ?_
      exact ok_Rd_wordFrom_j46 n v3 z9 c1 (lt_Rd_gridWord p10)  hX hT hr hc hx h
set_option maxRecDepth 100000 in
theorem ok_Rd_wordFrom_j18 (n : Nat) (v1 : Int32) (w0 : Int32) (M : Mm) {z : Int32} {G : Gm} {X : Cx} {d : Nat}  (hX : XK G X 2 cX2_wordFrom 4 (d + 5)) (hT : XT X (some .int) "wordFrom") (hr : XR X SS) (h : Rd_wordFrom_j18 n v1 w0 M = some z) : WR G X (mQ G X (some (.int z)) M SS) 18 [.ref 3, .int v1, vU, vU] [.int w0] M SS := by
  unfold Rd_wordFrom_j18 at h
  refine r_istore_n (L1 := [.ref 3, .int v1, .int w0, vU]) hX dX2_wordFrom_18 (Nat.le_of_ble_eq_true rfl) rfl ?_
  refine r_iconst (v := (0 : Int32)) hX dX2_wordFrom_19 (by decide) ?_
  refine r_istore_n (L1 := [.ref 3, .int v1, .int w0, .int (0 : Int32)]) hX dX2_wordFrom_20 (Nat.le_of_ble_eq_true rfl) rfl ?_
  obtain ⟨y11, h1, h⟩ := bnd_s h
  refine loop_ok (P := fun s1 : Int32 => WR G X (mQ G X (some (.int z)) M SS) 21 [.ref 3, .int v1, .int w0, .int s1] [] M SS) (E := fun x1 : (Unit) ⊕ (Int32) => elS x1 (fun x2 => WR G X (mQ G X (some (.int z)) M SS) 60 [.ref 3, vU, vU, vU] [] M SS) (fun y1 => y1 = z)) (fun s1 o1 g1 g2 g3 => ok_Rd_wordFrom_b21 n s1  hX hT hr g2 g3 g1) n (0 : Int32) y11 h1 ?_
  cases y11 with
  | inr e13 =>
    exact Option.some.inj h
  | inl x12 =>
    show WR G X (mQ G X (some (.int z)) M SS) 60 [.ref 3, vU, vU, vU] [] M SS
    refine r_iconst (v := (-1 : Int32)) hX dX2_wordFrom_60 (by decide) ?_
    obtain rfl := Option.some.inj h
    exact r_iret hX hT dX2_wordFrom_61 rfl
set_option maxRecDepth 100000 in
theorem ok_Rd_wordFrom {G : Gm} {l : Launch} {d : Nat} (n : Nat) (v1 : Int32) (M : Mm) {z : Int32}  (h : Rd_wordFrom n v1 M = some z) : CK G l (d + 5) md_Rd_wordFrom [.ref 3, .int v1] M SS (some (.int z)) M SS := by
  refine ck_of mk_Rd_wordFrom (Nat.le_of_ble_eq_true rfl) ⟨Nat.le_refl _, Nat.le_refl _⟩ (fun X hX hT hS hr hl => ?_)
  subst hl
  unfold Rd_wordFrom at h
  show WR G X (mQ G X (some (.int z)) M SS) 0 [.ref 3, .int v1, vU, vU] [] M SS
  refine r_aload_n hX dX2_wordFrom_0 rfl ?_
  refine r_getf (v := .int (M.1 3 4)) hX dX2_wordFrom_1 fl_2_25 rfl (by decide) (by decide) rfl ?_
  refine r_if_eq (tgt := 14) hX dX2_wordFrom_4 (by decide) (fun g1 => ?_) (fun g1 => ?_)
  · have h := (if_pos g1).symm.trans h
    refine r_gets (j := 1) hX dX2_wordFrom_14 (by decide) fs_2_72 ?_
    refine r_stlen (j := 1) (v := (11 : Int32)) hX dX2_wordFrom_17 (by decide) (by decide) ?_
    exact ok_Rd_wordFrom_j18 n v1 (11 : Int32) M   hX hT hr h
  · have h := (if_neg g1).symm.trans h
    refine r_gets (j := 0) hX dX2_wordFrom_7 (by decide) fs_2_69 ?_
    refine r_stlen (j := 0) (v := (5 : Int32)) hX dX2_wordFrom_10 (by decide) (by decide) ?_
    refine r_goto (tgt := 18) hX dX2_wordFrom_11 (by decide) ?_
    exact ok_Rd_wordFrom_j18 n v1 (5 : Int32) M   hX hT hr h
def Rd_readClause_b5 (M : Mm) : Option ((Mm) ⊕ (Mm)) :=
  if (M.1 3 6) ≤ (M.1 3 7) then
    some (.inr M)
  else
    grd (inb (M.1 3 7) 240) (
    if (M.1 2 (tn (M.1 3 7))) < (97 : Int32) then
      some (.inr M)
    else
      grd (inb (M.1 3 7) 240) (
      if (122 : Int32) < (M.1 2 (tn (M.1 3 7))) then
        some (.inr M)
      else
        some (.inl ((up2 M.1 3 7 ((M.1 3 7) + (1 : Int32))), M.2))))
def Rd_readClause_b146 (n : Nat) (c2 : Int32) (c3 : Int32) (v4 : Int32) (M : Mm) : Option ((Int32 × Mm) ⊕ (Mm)) :=
  if c3 ≤ v4 then
    some (.inr M)
  else
    if (M.1 3 8) = (0 : Int32) then
      bnd (Rd_readNumber n c2 v4 M) (fun z16 =>
      some (.inl (v4 + (1 : Int32), z16)))
    else
      some (.inr M)
def Rd_readClause_j172 (M : Mm) : Option (Mm) :=
  if (M.1 3 8) = (0 : Int32) then
    if (M.1 3 6) ≤ (M.1 3 7) then
      some M
    else
      grd (inb (M.1 3 7) 240) (
      if (M.1 2 (tn (M.1 3 7))) = (59 : Int32) then
        some M
      else
        bnd (Rd_blame (1 : Int32) (M.1 3 7) M) (fun z23 =>
        some z23))
  else
    some M
def Rd_readClause_j142 (n : Nat) (v2 : Int32) (w0 : Int32) (M : Mm) : Option (Mm) :=
  bnd (loop (fun s1 : Int32 × Mm => Rd_readClause_b146 n v2 w0 s1.1 s1.2) n ((0 : Int32), M)) (fun y18 =>
  Rd_readClause_j172 y18)
def Rd_readClause_j112 (n : Nat) (v2 : Int32) (M : Mm) : Option (Mm) :=
  grd (inb (M.1 3 5) 24) (
  if ((up2 M.1 10 (tn (M.1 3 5)) v2) 3 4) = (0 : Int32) then
    grd (inb v2 (stT 1).length) (
    Rd_readClause_j142 n v2 (stV 1 (tn v2)) ((up2 M.1 10 (tn (M.1 3 5)) v2), M.2))
  else
    grd (inb v2 (stT 0).length) (
    Rd_readClause_j142 n v2 (stV 0 (tn v2)) ((up2 M.1 10 (tn (M.1 3 5)) v2), M.2)))
def Rd_readClause_j63 (n : Nat) (v1 : Int32) (M : Mm) : Option (Mm) :=
  bnd (Rd_wordFrom n v1 M) (fun z7 =>
  if (0 : Int32) ≤ z7 then
    if (M.1 3 4) = (0 : Int32) then
      Rd_readClause_j112 n z7 M
    else
      if z7 = (4 : Int32) then
        if (M.1 4 3) < (14 : Int32) then
          Rd_readClause_j112 n z7 M
        else
          bnd (Rd_blame (6 : Int32) v1 M) (fun z28 =>
          some z28)
      else
        Rd_readClause_j112 n z7 M
  else
    bnd (Rd_blame (1 : Int32) v1 M) (fun z30 =>
    some z30))
def Rd_readClause (n : Nat) (M : Mm) : Option (Mm) :=
  bnd (loop (fun s1 : Mm => Rd_readClause_b5 s1) n M) (fun y6 =>
  Rd_readClause_j63 n (M.1 3 7) y6)
set_option maxRecDepth 100000 in
theorem ok_Rd_readClause_b5 (n : Nat) (M : Mm) {c1 : Int32} {z : Mm} {oo : (Mm) ⊕ (Mm)} {G : Gm} {X : Cx} {d : Nat}  (hX : XK G X 2 cX2_readClause 5 (d + 6)) (hT : XT X (none) "readClause") (hr : XR X SS) (hc : ∀ s1 : Mm, oo = .inl s1 → WR G X (mQ G X (none) z SS) 5 [.ref 3, .int c1, vU, vU, vU] [] s1 SS) (hx : ∀ x1 : Mm, oo = .inr x1 → WR G X (mQ G X (none) z SS) 63 [.ref 3, .int c1, vU, vU, vU] [] x1 SS) (h : Rd_readClause_b5 M = some oo) : WR G X (mQ G X (none) z SS) 5 [.ref 3, .int c1, vU, vU, vU] [] M SS := by
  unfold Rd_readClause_b5 at h
  refine r_aload_n hX dX2_readClause_5 rfl ?_
  refine r_getf (v := .int (M.1 3 7)) hX dX2_readClause_6 fl_2_36 rfl (by decide) (by decide) rfl ?_
  refine r_aload_n hX dX2_readClause_9 rfl ?_
  refine r_getf (v := .int (M.1 3 6)) hX dX2_readClause_10 fl_2_33 rfl (by decide) (by decide) rfl ?_
  refine r_icmp_ge (tgt := 63) hX dX2_readClause_13 (by decide) (fun g1 => ?_) (fun g1 => ?_)
  · have h := (if_pos g1).symm.trans h
    exact hx _ (Option.some.inj h).symm
  · have h := (if_neg g1).symm.trans h
    refine r_aload_n hX dX2_readClause_16 rfl ?_
    refine r_getf (v := .ref 1) hX dX2_readClause_17 fl_2_42 rfl (by decide) (by decide) rfl ?_
    refine r_getf (v := .ref 2) hX dX2_readClause_20 fl_2_57 rfl (by decide) (by decide) rfl ?_
    refine r_aload_n hX dX2_readClause_23 rfl ?_
    refine r_getf (v := .int (M.1 3 7)) hX dX2_readClause_24 fl_2_36 rfl (by decide) (by decide) rfl ?_
    obtain ⟨k2, h⟩ := grd_s h
    refine r_iald hX dX2_readClause_27 rfl (by decide) (inb_at rfl k2) ?_
    refine r_bipush (v := (97 : Int32)) hX dX2_readClause_28 (by decide) ?_
    refine r_icmp_lt (tgt := 63) hX dX2_readClause_30 (by decide) (fun g3 => ?_) (fun g3 => ?_)
    · have h := (if_pos g3).symm.trans h
      exact hx _ (Option.some.inj h).symm
    · have h := (if_neg g3).symm.trans h
      refine r_aload_n hX dX2_readClause_33 rfl ?_
      refine r_getf (v := .ref 1) hX dX2_readClause_34 fl_2_42 rfl (by decide) (by decide) rfl ?_
      refine r_getf (v := .ref 2) hX dX2_readClause_37 fl_2_57 rfl (by decide) (by decide) rfl ?_
      refine r_aload_n hX dX2_readClause_40 rfl ?_
      refine r_getf (v := .int (M.1 3 7)) hX dX2_readClause_41 fl_2_36 rfl (by decide) (by decide) rfl ?_
      obtain ⟨k4, h⟩ := grd_s h
      refine r_iald hX dX2_readClause_44 rfl (by decide) (inb_at rfl k4) ?_
      refine r_bipush (v := (122 : Int32)) hX dX2_readClause_45 (by decide) ?_
      refine r_icmp_gt (tgt := 63) hX dX2_readClause_47 (by decide) (fun g5 => ?_) (fun g5 => ?_)
      · have h := (if_pos g5).symm.trans h
        exact hx _ (Option.some.inj h).symm
      · have h := (if_neg g5).symm.trans h
        refine r_aload_n hX dX2_readClause_50 rfl ?_
        refine r_dup hX dX2_readClause_51 rfl ?_
        refine r_getf (v := .int (M.1 3 7)) hX dX2_readClause_52 fl_2_36 rfl (by decide) (by decide) rfl ?_
        refine r_iconst (v := (1 : Int32)) hX dX2_readClause_55 (by decide) ?_
        refine r_iadd hX dX2_readClause_56 ?_
        refine r_putI hX dX2_readClause_57 fl_2_36 rfl (by decide) (by decide) (okI_int _) ?_
        refine r_goto (tgt := 5) hX dX2_readClause_60 (by decide) ?_
        exact hc ((up2 M.1 3 7 ((M.1 3 7) + (1 : Int32))), M.2) (Option.some.inj h).symm
set_option maxRecDepth 100000 in
theorem ok_Rd_readClause_b146 (n : Nat) (v4 : Int32) (M : Mm) {c2 : Int32} {c3 : Int32} {z : Mm} {oo : (Int32 × Mm) ⊕ (Mm)} {G : Gm} {X : Cx} {d : Nat}  (hX : XK G X 2 cX2_readClause 5 (d + 6)) (hT : XT X (none) "readClause") (hr : XR X SS) (hc : ∀ s1 : Int32 × Mm, oo = .inl s1 → WR G X (mQ G X (none) z SS) 146 [.ref 3, vU, .int c2, .int c3, .int s1.1] [] s1.2 SS) (hx : ∀ x1 : Mm, oo = .inr x1 → WR G X (mQ G X (none) z SS) 172 [.ref 3, vU, vU, vU, vU] [] x1 SS) (h : Rd_readClause_b146 n c2 c3 v4 M = some oo) : WR G X (mQ G X (none) z SS) 146 [.ref 3, vU, .int c2, .int c3, .int v4] [] M SS := by
  unfold Rd_readClause_b146 at h
  refine r_iload hX dX2_readClause_146 rfl ?_
  refine r_iload_n hX dX2_readClause_148 rfl ?_
  refine r_icmp_ge (tgt := 172) hX dX2_readClause_149 (by decide) (fun g14 => ?_) (fun g14 => ?_)
  · have h := (if_pos g14).symm.trans h
    refine WR.fg (L' := [.ref 3, vU, vU, vU, vU]) ⟨Or.inr rfl, Or.inl rfl, Or.inl rfl, Or.inl rfl, Or.inl rfl, trivial⟩ ?_
    exact hx _ (Option.some.inj h).symm
  · have h := (if_neg g14).symm.trans h
    refine r_aload_n hX dX2_readClause_152 rfl ?_
    refine r_getf (v := .int (M.1 3 8)) hX dX2_readClause_153 fl_2_39 rfl (by decide) (by decide) rfl ?_
    refine r_if_ne (tgt := 172) hX dX2_readClause_156 (by decide) (fun g15 => ?_) (fun g15 => ?_)
    · have h := (if_neg g15).symm.trans h
      refine WR.fg (L' := [.ref 3, vU, vU, vU, vU]) ⟨Or.inr rfl, Or.inl rfl, Or.inl rfl, Or.inl rfl, Or.inl rfl, trivial⟩ ?_
      exact hx _ (Option.some.inj h).symm
    · have h := (if_pos g15).symm.trans h
      refine r_aload_n hX dX2_readClause_159 rfl ?_
      refine r_iload_n hX dX2_readClause_160 rfl ?_
      refine r_iload hX dX2_readClause_161 rfl ?_
      obtain ⟨z16, p17, h⟩ := bnd_s h
      refine r_callV (As := [.int c2, .int v4]) hX dX2_readClause_163 mk_Rd_readNumber mi_Rd_readNumber ml_2_75 rfl rfl rfl rfl (by decide) (by decide) (Nat.le_of_ble_eq_true rfl) hr (ok_Rd_readNumber (d := d + 2) n c2 v4 M p17) ?_
      refine r_iinc (v := v4 + (1 : Int32)) (L1 := [.ref 3, vU, .int c2, .int c3, .int (v4 + (1 : Int32))]) hX dX2_readClause_166 rfl rfl rfl ?_
      refine r_goto (tgt := 146) hX dX2_readClause_169 (by decide) ?_
      exact hc (v4 + (1 : Int32), z16) (Option.some.inj h).symm
set_option maxRecDepth 100000 in
theorem ok_Rd_readClause_j172 (n : Nat) (M : Mm) {z : Mm} {G : Gm} {X : Cx} {d : Nat}  (hX : XK G X 2 cX2_readClause 5 (d + 6)) (hT : XT X (none) "readClause") (hr : XR X SS) (h : Rd_readClause_j172 M = some z) : WR G X (mQ G X (none) z SS) 172 [.ref 3, vU, vU, vU, vU] [] M SS := by
  unfold Rd_readClause_j172 at h
  refine r_aload_n hX dX2_readClause_172 rfl ?_
  refine r_getf (v := .int (M.1 3 8)) hX dX2_readClause_173 fl_2_39 rfl (by decide) (by decide) rfl ?_
  refine r_if_ne (tgt := 216) hX dX2_readClause_176 (by decide) (fun g19 => ?_) (fun g19 => ?_)
  · have h := (if_neg g19).symm.trans h
    obtain rfl := Option.some.inj h
    exact r_vret hX hT dX2_readClause_216
  · have h := (if_pos g19).symm.trans h
    refine r_aload_n hX dX2_readClause_179 rfl ?_
    refine r_getf (v := .int (M.1 3 7)) hX dX2_readClause_180 fl_2_36 rfl (by decide) (by decide) rfl ?_
    refine r_aload_n hX dX2_readClause_183 rfl ?_
    refine r_getf (v := .int (M.1 3 6)) hX dX2_readClause_184 fl_2_33 rfl (by decide) (by decide) rfl ?_
    refine r_icmp_ge (tgt := 216) hX dX2_readClause_187 (by decide) (fun g20 => ?_) (fun g20 => ?_)
    · have h := (if_pos g20).symm.trans h
      obtain rfl := Option.some.inj h
      exact r_vret hX hT dX2_readClause_216
    · have h := (if_neg g20).symm.trans h
      refine r_aload_n hX dX2_readClause_190 rfl ?_
      refine r_getf (v := .ref 1) hX dX2_readClause_191 fl_2_42 rfl (by decide) (by decide) rfl ?_
      refine r_getf (v := .ref 2) hX dX2_readClause_194 fl_2_57 rfl (by decide) (by decide) rfl ?_
      refine r_aload_n hX dX2_readClause_197 rfl ?_
      refine r_getf (v := .int (M.1 3 7)) hX dX2_readClause_198 fl_2_36 rfl (by decide) (by decide) rfl ?_
      obtain ⟨k21, h⟩ := grd_s h
      refine r_iald hX dX2_readClause_201 rfl (by decide) (inb_at rfl k21) ?_
      refine r_bipush (v := (59 : Int32)) hX dX2_readClause_202 (by decide) ?_
      refine r_icmp_eq (tgt := 216) hX dX2_readClause_204 (by decide) (fun g22 => ?_) (fun g22 => ?_)
      · have h := (if_pos g22).symm.trans h
        obtain rfl := Option.some.inj h
        exact r_vret hX hT dX2_readClause_216
      · have h := (if_neg g22).symm.trans h
        refine r_aload_n hX dX2_readClause_207 rfl ?_
        refine r_iconst (v := (1 : Int32)) hX dX2_readClause_208 (by decide) ?_
        refine r_aload_n hX dX2_readClause_209 rfl ?_
        refine r_getf (v := .int (M.1 3 7)) hX dX2_readClause_210 fl_2_36 rfl (by decide) (by decide) rfl ?_
        obtain ⟨z23, p24, h⟩ := bnd_s h
        refine r_callV (As := [.int (1 : Int32), .int (M.1 3 7)]) hX dX2_readClause_213 mk_Rd_blame mi_Rd_blame ml_2_52 rfl rfl rfl rfl (by decide) (by decide) (Nat.le_of_ble_eq_true rfl) hr (ok_Rd_blame (d := d + 5) (1 : Int32) (M.1 3 7) M p24) ?_
        obtain rfl := Option.some.inj h
        exact r_vret hX hT dX2_readClause_216
set_option maxRecDepth 100000 in
theorem ok_Rd_readClause_j142 (n : Nat) (v2 : Int32) (w0 : Int32) (M : Mm) {z : Mm} {G : Gm} {X : Cx} {d : Nat}  (hX : XK G X 2 cX2_readClause 5 (d + 6)) (hT : XT X (none) "readClause") (hr : XR X SS) (h : Rd_readClause_j142 n v2 w0 M = some z) : WR G X (mQ G X (none) z SS) 142 [.ref 3, vU, .int v2, vU, vU] [.int w0] M SS := by
  unfold Rd_readClause_j142 at h
  refine r_istore_n (L1 := [.ref 3, vU, .int v2, .int w0, vU]) hX dX2_readClause_142 (Nat.le_of_ble_eq_true rfl) rfl ?_
  refine r_iconst (v := (0 : Int32)) hX dX2_readClause_143 (by decide) ?_
  refine r_istore (L1 := [.ref 3, vU, .int v2, .int w0, .int (0 : Int32)]) hX dX2_readClause_144 (Nat.le_of_ble_eq_true rfl) rfl ?_
  obtain ⟨y18, h1, h⟩ := bnd_s h
  refine loop_ok (P := fun s1 : Int32 × Mm => WR G X (mQ G X (none) z SS) 146 [.ref 3, vU, .int v2, .int w0, .int s1.1] [] s1.2 SS) (E := fun x1 : Mm => WR G X (mQ G X (none) z SS) 172 [.ref 3, vU, vU, vU, vU] [] x1 SS) (fun s1 o1 g1 g2 g3 => ok_Rd_readClause_b146 n s1.1 s1.2  hX hT hr g2 g3 g1) n ((0 : Int32), M) y18 h1 ?_
  show WR G X (mQ G X (none) z SS) 172 [.ref 3, vU, vU, vU, vU] [] y18 SS
  exact ok_Rd_readClause_j172 n y18   hX hT hr h
set_option maxRecDepth 100000 in
theorem ok_Rd_readClause_j112 (n : Nat) (v2 : Int32) (M : Mm) {z : Mm} {G : Gm} {X : Cx} {d : Nat}  (hX : XK G X 2 cX2_readClause 5 (d + 6)) (hT : XT X (none) "readClause") (hr : XR X SS) (h : Rd_readClause_j112 n v2 M = some z) : WR G X (mQ G X (none) z SS) 112 [.ref 3, vU, .int v2, vU, vU] [] M SS := by
  unfold Rd_readClause_j112 at h
  refine r_aload_n hX dX2_readClause_112 rfl ?_
  refine r_getf (v := .ref 10) hX dX2_readClause_113 fl_2_18 rfl (by decide) (by decide) rfl ?_
  refine r_aload_n hX dX2_readClause_116 rfl ?_
  refine r_getf (v := .int (M.1 3 5)) hX dX2_readClause_117 fl_2_29 rfl (by decide) (by decide) rfl ?_
  refine r_iload_n hX dX2_readClause_120 rfl ?_
  obtain ⟨k11, h⟩ := grd_s h
  refine r_iast hX dX2_readClause_121 rfl (by decide) (inb_at rfl k11) ?_
  refine r_aload_n hX dX2_readClause_122 rfl ?_
  refine r_getf (v := .int ((up2 M.1 10 (tn (M.1 3 5)) v2) 3 4)) hX dX2_readClause_123 fl_2_25 rfl (by decide) (by decide) rfl ?_
  refine r_if_eq (tgt := 137) hX dX2_readClause_126 (by decide) (fun g12 => ?_) (fun g12 => ?_)
  · have h := (if_pos g12).symm.trans h
    refine r_gets (j := 1) hX dX2_readClause_137 (by decide) fs_2_72 ?_
    refine r_iload_n hX dX2_readClause_140 rfl ?_
    obtain ⟨k13, h⟩ := grd_s h
    refine r_sald (j := 1) hX dX2_readClause_141 (by decide) k13 ?_
    exact ok_Rd_readClause_j142 n v2 (stV 1 (tn v2)) ((up2 M.1 10 (tn (M.1 3 5)) v2), M.2)   hX hT hr h
  · have h := (if_neg g12).symm.trans h
    refine r_gets (j := 0) hX dX2_readClause_129 (by decide) fs_2_69 ?_
    refine r_iload_n hX dX2_readClause_132 rfl ?_
    obtain ⟨k25, h⟩ := grd_s h
    refine r_sald (j := 0) hX dX2_readClause_133 (by decide) k25 ?_
    refine r_goto (tgt := 142) hX dX2_readClause_134 (by decide) ?_
    exact ok_Rd_readClause_j142 n v2 (stV 0 (tn v2)) ((up2 M.1 10 (tn (M.1 3 5)) v2), M.2)   hX hT hr h
set_option maxRecDepth 100000 in
theorem ok_Rd_readClause_j63 (n : Nat) (v1 : Int32) (M : Mm) {z : Mm} {G : Gm} {X : Cx} {d : Nat}  (hX : XK G X 2 cX2_readClause 5 (d + 6)) (hT : XT X (none) "readClause") (hr : XR X SS) (h : Rd_readClause_j63 n v1 M = some z) : WR G X (mQ G X (none) z SS) 63 [.ref 3, .int v1, vU, vU, vU] [] M SS := by
  unfold Rd_readClause_j63 at h
  refine r_aload_n hX dX2_readClause_63 rfl ?_
  refine r_iload_n hX dX2_readClause_64 rfl ?_
  obtain ⟨z7, p8, h⟩ := bnd_s h
  refine r_callV (As := [.int v1]) hX dX2_readClause_65 mk_Rd_wordFrom mi_Rd_wordFrom ml_2_62 rfl rfl rfl rfl (by decide) (by decide) (Nat.le_of_ble_eq_true rfl) hr (ok_Rd_wordFrom (d := d + 0) n v1 M p8) ?_
  refine r_istore_n (L1 := [.ref 3, .int v1, .int z7, vU, vU]) hX dX2_readClause_68 (Nat.le_of_ble_eq_true rfl) rfl ?_
  refine r_iload_n hX dX2_readClause_69 rfl ?_
  refine r_if_ge (tgt := 80) hX dX2_readClause_70 (by decide) (fun g9 => ?_) (fun g9 => ?_)
  · have h := (if_pos g9).symm.trans h
    refine r_aload_n hX dX2_readClause_80 rfl ?_
    refine r_getf (v := .int (M.1 3 4)) hX dX2_readClause_81 fl_2_25 rfl (by decide) (by decide) rfl ?_
    refine r_if_eq (tgt := 112) hX dX2_readClause_84 (by decide) (fun g10 => ?_) (fun g10 => ?_)
    · have h := (if_pos g10).symm.trans h
      refine WR.fg (L' := [.ref 3, vU, .int z7, vU, vU]) ⟨Or.inr rfl, Or.inl rfl, Or.inr rfl, Or.inl rfl, Or.inl rfl, trivial⟩ ?_
      exact ok_Rd_readClause_j112 n z7 M   hX hT hr h
    · have h := (if_neg g10).symm.trans h
      refine r_iload_n hX dX2_readClause_87 rfl ?_
      refine r_iconst (v := (4 : Int32)) hX dX2_readClause_88 (by decide) ?_
      refine r_icmp_ne (tgt := 112) hX dX2_readClause_89 (by decide) (fun g26 => ?_) (fun g26 => ?_)
      · have h := (if_neg g26).symm.trans h
        refine WR.fg (L' := [.ref 3, vU, .int z7, vU, vU]) ⟨Or.inr rfl, Or.inl rfl, Or.inr rfl, Or.inl rfl, Or.inl rfl, trivial⟩ ?_
        exact ok_Rd_readClause_j112 n z7 M   hX hT hr h
      · have h := (if_pos g26).symm.trans h
        refine r_aload_n hX dX2_readClause_92 rfl ?_
        refine r_getf (v := .ref 4) hX dX2_readClause_93 fl_2_12 rfl (by decide) (by decide) rfl ?_
        refine r_getf (v := .int (M.1 4 3)) hX dX2_readClause_96 fl_2_66 rfl (by decide) (by decide) rfl ?_
        refine r_bipush (v := (14 : Int32)) hX dX2_readClause_99 (by decide) ?_
        refine r_icmp_lt (tgt := 112) hX dX2_readClause_101 (by decide) (fun g27 => ?_) (fun g27 => ?_)
        · have h := (if_pos g27).symm.trans h
          refine WR.fg (L' := [.ref 3, vU, .int z7, vU, vU]) ⟨Or.inr rfl, Or.inl rfl, Or.inr rfl, Or.inl rfl, Or.inl rfl, trivial⟩ ?_
          exact ok_Rd_readClause_j112 n z7 M   hX hT hr h
        · have h := (if_neg g27).symm.trans h
          refine r_aload_n hX dX2_readClause_104 rfl ?_
          refine r_bipush (v := (6 : Int32)) hX dX2_readClause_105 (by decide) ?_
          refine r_iload_n hX dX2_readClause_107 rfl ?_
          obtain ⟨z28, p29, h⟩ := bnd_s h
          refine r_callV (As := [.int (6 : Int32), .int v1]) hX dX2_readClause_108 mk_Rd_blame mi_Rd_blame ml_2_52 rfl rfl rfl rfl (by decide) (by decide) (Nat.le_of_ble_eq_true rfl) hr (ok_Rd_blame (d := d + 5) (6 : Int32) v1 M p29) ?_
          obtain rfl := Option.some.inj h
          exact r_vret hX hT dX2_readClause_111
  · have h := (if_neg g9).symm.trans h
    refine r_aload_n hX dX2_readClause_73 rfl ?_
    refine r_iconst (v := (1 : Int32)) hX dX2_readClause_74 (by decide) ?_
    refine r_iload_n hX dX2_readClause_75 rfl ?_
    obtain ⟨z30, p31, h⟩ := bnd_s h
    refine r_callV (As := [.int (1 : Int32), .int v1]) hX dX2_readClause_76 mk_Rd_blame mi_Rd_blame ml_2_52 rfl rfl rfl rfl (by decide) (by decide) (Nat.le_of_ble_eq_true rfl) hr (ok_Rd_blame (d := d + 5) (1 : Int32) v1 M p31) ?_
    obtain rfl := Option.some.inj h
    exact r_vret hX hT dX2_readClause_79
set_option maxRecDepth 100000 in
theorem ok_Rd_readClause {G : Gm} {l : Launch} {d : Nat} (n : Nat) (M : Mm) {z : Mm}  (h : Rd_readClause n M = some z) : CK G l (d + 6) md_Rd_readClause [.ref 3] M SS (none) z SS := by
  refine ck_of mk_Rd_readClause (Nat.le_of_ble_eq_true rfl) ⟨Nat.le_refl _, Nat.le_refl _⟩ (fun X hX hT hS hr hl => ?_)
  subst hl
  unfold Rd_readClause at h
  show WR G X (mQ G X (none) z SS) 0 [.ref 3, vU, vU, vU, vU] [] M SS
  refine r_aload_n hX dX2_readClause_0 rfl ?_
  refine r_getf (v := .int (M.1 3 7)) hX dX2_readClause_1 fl_2_36 rfl (by decide) (by decide) rfl ?_
  refine r_istore_n (L1 := [.ref 3, .int (M.1 3 7), vU, vU, vU]) hX dX2_readClause_4 (Nat.le_of_ble_eq_true rfl) rfl ?_
  obtain ⟨y6, h1, h⟩ := bnd_s h
  refine loop_ok (P := fun s1 : Mm => WR G X (mQ G X (none) z SS) 5 [.ref 3, .int (M.1 3 7), vU, vU, vU] [] s1 SS) (E := fun x1 : Mm => WR G X (mQ G X (none) z SS) 63 [.ref 3, .int (M.1 3 7), vU, vU, vU] [] x1 SS) (fun s1 o1 g1 g2 g3 => ok_Rd_readClause_b5 n s1  hX hT hr g2 g3 g1) n M y6 h1 ?_
  show WR G X (mQ G X (none) z SS) 63 [.ref 3, .int (M.1 3 7), vU, vU, vU] [] y6 SS
  exact ok_Rd_readClause_j63 n (M.1 3 7) y6   hX hT hr h
def Rd_readText_j89 (w0 : Int32) (M : Mm) : Option ((Int32 × Mm) ⊕ ((Int32 × Mm) ⊕ (Int32 × Mm))) :=
  if w0 = (0 : Int32) then
    some (.inl (w0, M))
  else
    some (.inl (w0, ((up2 M.1 3 7 ((M.1 3 7) + (1 : Int32))), M.2)))
def Rd_readText_b34 (n : Nat) (v3 : Int32) (M : Mm) : Option ((Int32 × Mm) ⊕ ((Int32 × Mm) ⊕ (Int32 × Mm))) :=
  if v3 = (0 : Int32) then
    some (.inr (.inl (v3, M)))
  else
    if (24 : Int32) ≤ (M.1 3 5) then
      some (.inr (.inl (v3, M)))
    else
      bnd (Rd_readClause n M) (fun z5 =>
      if (z5.1 3 8) = (0 : Int32) then
        if ((up2 z5.1 3 5 ((z5.1 3 5) + (1 : Int32))) 3 6) ≤ ((up2 z5.1 3 5 ((z5.1 3 5) + (1 : Int32))) 3 7) then
          Rd_readText_j89 (0 : Int32) ((up2 z5.1 3 5 ((z5.1 3 5) + (1 : Int32))), z5.2)
        else
          Rd_readText_j89 (1 : Int32) ((up2 z5.1 3 5 ((z5.1 3 5) + (1 : Int32))), z5.2)
      else
        some (.inr (.inr (z5.1 3 8, z5))))
def Rd_readText_j107 (v3 : Int32) (M : Mm) : Option (Int32 × Mm) :=
  if v3 = (0 : Int32) then
    some ((up2 M.1 4 4 (M.1 3 5)) 3 5, ((up2 M.1 4 4 (M.1 3 5)), M.2))
  else
    bnd (Rd_blame (4 : Int32) (M.1 3 7) M) (fun z14 =>
    some (z14.1 3 8, z14))
def Rd_readText (n : Nat) (v1 : Int32) (v2 : Bool) (M : Mm) : Option (Int32 × Mm) :=
  bnd (Nt_begin n 4 ((up2 M.1 3 4 (b2i v2)), M.2)) (fun z1 =>
  bnd (loop (fun s1 : Int32 × Mm => Rd_readText_b34 n s1.1 s1.2) n ((1 : Int32), ((up2 (up2 (up2 (up2 z1.1 3 6 v1) 3 7 (0 : Int32)) 3 8 (0 : Int32)) 3 5 (0 : Int32)), z1.2))) (fun y10 =>
  elS y10 (fun x11 =>
    Rd_readText_j107 x11.1 x11.2)
    (fun e12 => some e12)))
set_option maxRecDepth 100000 in
theorem ok_Rd_readText_j89 (n : Nat) (w0 : Int32) (M : Mm)  {z : Int32 × Mm} {oo : (Int32 × Mm) ⊕ ((Int32 × Mm) ⊕ (Int32 × Mm))} {G : Gm} {X : Cx} {d : Nat}  (hX : XK G X 2 cX2_readText 4 (d + 7)) (hT : XT X (some .int) "readText") (hr : XR X SS) (hc : ∀ s1 : Int32 × Mm, oo = .inl s1 → WR G X (mQ G X (some (.int z.1)) z.2 SS) 34 [.ref 3, vU, vU, .int s1.1] [] s1.2 SS) (hx : ∀ x1 : (Int32 × Mm) ⊕ (Int32 × Mm), oo = .inr x1 → elS x1 (fun x2 => WR G X (mQ G X (some (.int z.1)) z.2 SS) 107 [.ref 3, vU, vU, .int x2.1] [] x2.2 SS) (fun y1 => y1 = z)) (h : Rd_readText_j89 w0 M = some oo) : WR G X (mQ G X (some (.int z.1)) z.2 SS) 89 [.ref 3, vU, vU, vU] [.int w0] M SS := by
  unfold Rd_readText_j89 at h
  refine r_istore_n (L1 := [.ref 3, vU, vU, .int w0]) hX dX2_readText_89 (Nat.le_of_ble_eq_true rfl) rfl ?_
  refine r_iload_n hX dX2_readText_90 rfl ?_
  refine r_if_eq (tgt := 34) hX dX2_readText_91 (by decide) (fun g9 => ?_) (fun g9 => ?_)
  · have h := (if_pos g9).symm.trans h
    exact hc (w0, M) (Option.some.inj h).symm
  · have h := (if_neg g9).symm.trans h
    refine r_aload_n hX dX2_readText_94 rfl ?_
    refine r_dup hX dX2_readText_95 rfl ?_
    refine r_getf (v := .int (M.1 3 7)) hX dX2_readText_96 fl_2_36 rfl (by decide) (by decide) rfl ?_
    refine r_iconst (v := (1 : Int32)) hX dX2_readText_99 (by decide) ?_
    refine r_iadd hX dX2_readText_100 ?_
    refine r_putI hX dX2_readText_101 fl_2_36 rfl (by decide) (by decide) (okI_int _) ?_
    refine r_goto (tgt := 34) hX dX2_readText_104 (by decide) ?_
    exact hc (w0, ((up2 M.1 3 7 ((M.1 3 7) + (1 : Int32))), M.2)) (Option.some.inj h).symm
set_option maxRecDepth 100000 in
theorem ok_Rd_readText_b34 (n : Nat) (v3 : Int32) (M : Mm)  {z : Int32 × Mm} {oo : (Int32 × Mm) ⊕ ((Int32 × Mm) ⊕ (Int32 × Mm))} {G : Gm} {X : Cx} {d : Nat}  (hX : XK G X 2 cX2_readText 4 (d + 7)) (hT : XT X (some .int) "readText") (hr : XR X SS) (hc : ∀ s1 : Int32 × Mm, oo = .inl s1 → WR G X (mQ G X (some (.int z.1)) z.2 SS) 34 [.ref 3, vU, vU, .int s1.1] [] s1.2 SS) (hx : ∀ x1 : (Int32 × Mm) ⊕ (Int32 × Mm), oo = .inr x1 → elS x1 (fun x2 => WR G X (mQ G X (some (.int z.1)) z.2 SS) 107 [.ref 3, vU, vU, .int x2.1] [] x2.2 SS) (fun y1 => y1 = z)) (h : Rd_readText_b34 n v3 M = some oo) : WR G X (mQ G X (some (.int z.1)) z.2 SS) 34 [.ref 3, vU, vU, .int v3] [] M SS := by
  unfold Rd_readText_b34 at h
  refine r_iload_n hX dX2_readText_34 rfl ?_
  refine r_if_eq (tgt := 107) hX dX2_readText_35 (by decide) (fun g3 => ?_) (fun g3 => ?_)
  · have h := (if_pos g3).symm.trans h
    exact hx _ (Option.some.inj h).symm
  · have h := (if_neg g3).symm.trans h
    refine r_aload_n hX dX2_readText_38 rfl ?_
    refine r_getf (v := .int (M.1 3 5)) hX dX2_readText_39 fl_2_29 rfl (by decide) (by decide) rfl ?_
    refine r_bipush (v := (24 : Int32)) hX dX2_readText_42 (by decide) ?_
    refine r_icmp_ge (tgt := 107) hX dX2_readText_44 (by decide) (fun g4 => ?_) (fun g4 => ?_)
    · have h := (if_pos g4).symm.trans h
      exact hx _ (Option.some.inj h).symm
    · have h := (if_neg g4).symm.trans h
      refine r_aload_n hX dX2_readText_47 rfl ?_
      obtain ⟨z5, p6, h⟩ := bnd_s h
      refine r_callV (As := []) hX dX2_readText_48 mk_Rd_readClause mi_Rd_readClause ml_2_49 rfl rfl rfl rfl (by decide) (by decide) (Nat.le_of_ble_eq_true rfl) hr (ok_Rd_readClause (d := d + 0) n M p6) ?_
      refine r_aload_n hX dX2_readText_51 rfl ?_
      refine r_getf (v := .int (z5.1 3 8)) hX dX2_readText_52 fl_2_39 rfl (by decide) (by decide) rfl ?_
      refine r_if_eq (tgt := 63) hX dX2_readText_55 (by decide) (fun g7 => ?_) (fun g7 => ?_)
      · have h := (if_pos g7).symm.trans h
        refine r_aload_n hX dX2_readText_63 rfl ?_
        refine r_dup hX dX2_readText_64 rfl ?_
        refine r_getf (v := .int (z5.1 3 5)) hX dX2_readText_65 fl_2_29 rfl (by decide) (by decide) rfl ?_
        refine r_iconst (v := (1 : Int32)) hX dX2_readText_68 (by decide) ?_
        refine r_iadd hX dX2_readText_69 ?_
        refine r_putI hX dX2_readText_70 fl_2_29 rfl (by decide) (by decide) (okI_int _) ?_
        refine r_aload_n hX dX2_readText_73 rfl ?_
        refine r_getf (v := .int ((up2 z5.1 3 5 ((z5.1 3 5) + (1 : Int32))) 3 7)) hX dX2_readText_74 fl_2_36 rfl (by decide) (by decide) rfl ?_
        refine r_aload_n hX dX2_readText_77 rfl ?_
        refine r_getf (v := .int ((up2 z5.1 3 5 ((z5.1 3 5) + (1 : Int32))) 3 6)) hX dX2_readText_78 fl_2_33 rfl (by decide) (by decide) rfl ?_
        refine r_icmp_ge (tgt := 88) hX dX2_readText_81 (by decide) (fun g8 => ?_) (fun g8 => ?_)
        · have h := (if_pos g8).symm.trans h
          refine r_iconst (v := (0 : Int32)) hX dX2_readText_88 (by decide) ?_
          refine WR.fg (L' := [.ref 3, vU, vU, vU]) ⟨Or.inr rfl, Or.inl rfl, Or.inl rfl, Or.inl rfl, trivial⟩ ?_
          exact ok_Rd_readText_j89 n (0 : Int32) ((up2 z5.1 3 5 ((z5.1 3 5) + (1 : Int32))), z5.2)   hX hT hr hc hx h
        · have h := (if_neg g8).symm.trans h
          refine r_iconst (v := (1 : Int32)) hX dX2_readText_84 (by decide) ?_
          refine r_goto (tgt := 89) hX dX2_readText_85 (by decide) ?_
          refine WR.fg (L' := [.ref 3, vU, vU, vU]) ⟨Or.inr rfl, Or.inl rfl, Or.inl rfl, Or.inl rfl, trivial⟩ ?_
          exact ok_Rd_readText_j89 n (1 : Int32) ((up2 z5.1 3 5 ((z5.1 3 5) + (1 : Int32))), z5.2)   hX hT hr hc hx h
      · have h := (if_neg g7).symm.trans h
        refine r_aload_n hX dX2_readText_58 rfl ?_
        refine r_getf (v := .int (z5.1 3 8)) hX dX2_readText_59 fl_2_39 rfl (by decide) (by decide) rfl ?_
        obtain rfl := hx _ (Option.some.inj h).symm
        exact r_iret hX hT dX2_readText_62 rfl
set_option maxRecDepth 100000 in
theorem ok_Rd_readText_j107 (n : Nat) (v3 : Int32) (M : Mm) {z : Int32 × Mm} {G : Gm} {X : Cx} {d : Nat}  (hX : XK G X 2 cX2_readText 4 (d + 7)) (hT : XT X (some .int) "readText") (hr : XR X SS) (h : Rd_readText_j107 v3 M = some z) : WR G X (mQ G X (some (.int z.1)) z.2 SS) 107 [.ref 3, vU, vU, .int v3] [] M SS := by
  unfold Rd_readText_j107 at h
  refine r_iload_n hX dX2_readText_107 rfl ?_
  refine r_if_eq (tgt := 125) hX dX2_readText_108 (by decide) (fun g13 => ?_) (fun g13 => ?_)
  · have h := (if_pos g13).symm.trans h
    refine r_aload_n hX dX2_readText_125 rfl ?_
    refine r_getf (v := .ref 4) hX dX2_readText_126 fl_2_12 rfl (by decide) (by decide) rfl ?_
    refine r_aload_n hX dX2_readText_129 rfl ?_
    refine r_getf (v := .int (M.1 3 5)) hX dX2_readText_130 fl_2_29 rfl (by decide) (by decide) rfl ?_
    refine r_putI hX dX2_readText_133 fl_2_56 rfl (by decide) (by decide) (okI_int _) ?_
    refine r_aload_n hX dX2_readText_136 rfl ?_
    refine r_getf (v := .int ((up2 M.1 4 4 (M.1 3 5)) 3 5)) hX dX2_readText_137 fl_2_29 rfl (by decide) (by decide) rfl ?_
    obtain rfl := Option.some.inj h
    exact r_iret hX hT dX2_readText_140 rfl
  · have h := (if_neg g13).symm.trans h
    refine r_aload_n hX dX2_readText_111 rfl ?_
    refine r_iconst (v := (4 : Int32)) hX dX2_readText_112 (by decide) ?_
    refine r_aload_n hX dX2_readText_113 rfl ?_
    refine r_getf (v := .int (M.1 3 7)) hX dX2_readText_114 fl_2_36 rfl (by decide) (by decide) rfl ?_
    obtain ⟨z14, p15, h⟩ := bnd_s h
    refine r_callV (As := [.int (4 : Int32), .int (M.1 3 7)]) hX dX2_readText_117 mk_Rd_blame mi_Rd_blame ml_2_52 rfl rfl rfl rfl (by decide) (by decide) (Nat.le_of_ble_eq_true rfl) hr (ok_Rd_blame (d := d + 6) (4 : Int32) (M.1 3 7) M p15) ?_
    refine r_aload_n hX dX2_readText_120 rfl ?_
    refine r_getf (v := .int (z14.1 3 8)) hX dX2_readText_121 fl_2_39 rfl (by decide) (by decide) rfl ?_
    obtain rfl := Option.some.inj h
    exact r_iret hX hT dX2_readText_124 rfl
set_option maxRecDepth 100000 in
theorem ok_Rd_readText {G : Gm} {l : Launch} {d : Nat} (n : Nat) (v1 : Int32) (v2 : Bool) (M : Mm) {z : Int32 × Mm}  (h : Rd_readText n v1 v2 M = some z) : CK G l (d + 7) md_Rd_readText [.ref 3, .int v1, .int (b2i v2)] M SS (some (.int z.1)) z.2 SS := by
  refine ck_of mk_Rd_readText (Nat.le_of_ble_eq_true rfl) ⟨Nat.le_refl _, Nat.le_refl _⟩ (fun X hX hT hS hr hl => ?_)
  subst hl
  unfold Rd_readText at h
  show WR G X (mQ G X (some (.int z.1)) z.2 SS) 0 [.ref 3, .int v1, .int (b2i v2), vU] [] M SS
  refine r_aload_n hX dX2_readText_0 rfl ?_
  refine r_iload_n hX dX2_readText_1 rfl ?_
  refine r_putI hX dX2_readText_2 fl_2_25 rfl (by decide) (by decide) (okI_b _) ?_
  refine r_aload_n hX dX2_readText_5 rfl ?_
  refine r_getf (v := .ref 4) hX dX2_readText_6 fl_2_12 rfl (by decide) (by decide) rfl ?_
  obtain ⟨z1, p2, h⟩ := bnd_s h
  refine r_callV (As := []) hX dX2_readText_9 mk_Nt_begin mi_Nt_begin ml_2_46 rfl rfl rfl rfl (by decide) (by decide) (Nat.le_of_ble_eq_true rfl) hr (ok_Nt_begin (d := d + 6) n 4 ((up2 M.1 3 4 (b2i v2)), M.2) nt4 p2) ?_
  refine r_aload_n hX dX2_readText_12 rfl ?_
  refine r_iload_n hX dX2_readText_13 rfl ?_
  refine r_putI hX dX2_readText_14 fl_2_33 rfl (by decide) (by decide) (okI_int _) ?_
  refine r_aload_n hX dX2_readText_17 rfl ?_
  refine r_iconst (v := (0 : Int32)) hX dX2_readText_18 (by decide) ?_
  refine r_putI' hX dX2_readText_19 fl_2_36 rfl (by decide) (by decide) (okI_int _) ?_
  refine r_aload_n hX dX2_readText_22 rfl ?_
  refine r_iconst (v := (0 : Int32)) hX dX2_readText_23 (by decide) ?_
  refine r_putI' hX dX2_readText_24 fl_2_39 rfl (by decide) (by decide) (okI_int _) ?_
  refine r_aload_n hX dX2_readText_27 rfl ?_
  refine r_iconst (v := (0 : Int32)) hX dX2_readText_28 (by decide) ?_
  refine r_putI' hX dX2_readText_29 fl_2_29 rfl (by decide) (by decide) (okI_int _) ?_
  refine r_iconst (v := (1 : Int32)) hX dX2_readText_32 (by decide) ?_
  refine r_istore_n (L1 := [.ref 3, .int v1, .int (b2i v2), .int (1 : Int32)]) hX dX2_readText_33 (Nat.le_of_ble_eq_true rfl) rfl ?_
  refine WR.fg (L' := [.ref 3, vU, vU, .int (1 : Int32)]) ⟨Or.inr rfl, Or.inl rfl, Or.inl rfl, Or.inr rfl, trivial⟩ ?_
  obtain ⟨y10, h1, h⟩ := bnd_s h
  refine loop_ok (P := fun s1 : Int32 × Mm => WR G X (mQ G X (some (.int z.1)) z.2 SS) 34 [.ref 3, vU, vU, .int s1.1] [] s1.2 SS) (E := fun x1 : (Int32 × Mm) ⊕ (Int32 × Mm) => elS x1 (fun x2 => WR G X (mQ G X (some (.int z.1)) z.2 SS) 107 [.ref 3, vU, vU, .int x2.1] [] x2.2 SS) (fun y1 => y1 = z)) (fun s1 o1 g1 g2 g3 => ok_Rd_readText_b34 n s1.1 s1.2  hX hT hr g2 g3 g1) n ((1 : Int32), ((up2 (up2 (up2 (up2 z1.1 3 6 v1) 3 7 (0 : Int32)) 3 8 (0 : Int32)) 3 5 (0 : Int32)), z1.2)) y10 h1 ?_
  cases y10 with
  | inr e12 =>
    exact Option.some.inj h
  | inl x11 =>
    show WR G X (mQ G X (some (.int z.1)) z.2 SS) 107 [.ref 3, vU, vU, .int x11.1] [] x11.2 SS
    exact ok_Rd_readText_j107 n x11.1 x11.2   hX hT hr h
def St_fill_j35 (v4 : Int32) (M : Mm) : Option ((Int32 × Mm) ⊕ (Mm)) :=
  some (.inl (v4 + (1 : Int32), M))
def St_fill_b3 (s : Nat) (c1 : Int32) (c2 : Int64) (v4 : Int32) (M : Mm) : Option ((Int32 × Mm) ⊕ (Mm)) :=
  if (M.1 (s + 1) 3) ≤ v4 then
    some (.inr M)
  else
    if ((ushr c1 v4) &&& (1 : Int32)) = (0 : Int32) then
      St_fill_j35 v4 M
    else
      grd (inb v4 14) (
      grd (inb v4 14) (
      St_fill_j35 v4 (M.1, (up2 M.2 (s + 16) (tn v4) ((M.2 (s + 16) (tn v4)) ||| c2)))))
def St_fill (n : Nat) (s : Nat) (v1 : Int32) (v2 : Int64) (M : Mm) : Option (Mm) :=
  bnd (loop (fun s1 : Int32 × Mm => St_fill_b3 s v1 v2 s1.1 s1.2) n ((0 : Int32), M)) (fun y5 =>
  some y5)
set_option maxRecDepth 100000 in
theorem ok_St_fill_j35 (n : Nat) (s : Nat) (v4 : Int32) (M : Mm) {c1 : Int32} {c2 : Int64} {z : Mm} {oo : (Int32 × Mm) ⊕ (Mm)} {G : Gm} {X : Cx} {d : Nat} (hs : isSt s) (hX : XK G X 4 cX4_fill 5 (d + 0)) (hT : XT X (none) "fill") (hr : XR X SS) (hc : ∀ s1 : Int32 × Mm, oo = .inl s1 → WR G X (mQ G X (none) z SS) 3 [.ref s, .int c1, .long c2, vU, .int s1.1] [] s1.2 SS) (hx : ∀ x1 : Mm, oo = .inr x1 → WR G X (mQ G X (none) z SS) 41 [.ref s, vU, vU, vU, vU] [] x1 SS) (h : St_fill_j35 v4 M = some oo) : WR G X (mQ G X (none) z SS) 35 [.ref s, .int c1, .long c2, vU, .int v4] [] M SS := by
  unfold St_fill_j35 at h
  refine r_iinc (v := v4 + (1 : Int32)) (L1 := [.ref s, .int c1, .long c2, vU, .int (v4 + (1 : Int32))]) hX dX4_fill_35 rfl rfl rfl ?_
  refine r_goto (tgt := 3) hX dX4_fill_38 (by decide) ?_
  exact hc (v4 + (1 : Int32), M) (Option.some.inj h).symm
set_option maxRecDepth 100000 in
theorem ok_St_fill_b3 (n : Nat) (s : Nat) (v4 : Int32) (M : Mm) {c1 : Int32} {c2 : Int64} {z : Mm} {oo : (Int32 × Mm) ⊕ (Mm)} {G : Gm} {X : Cx} {d : Nat} (hs : isSt s) (hX : XK G X 4 cX4_fill 5 (d + 0)) (hT : XT X (none) "fill") (hr : XR X SS) (hc : ∀ s1 : Int32 × Mm, oo = .inl s1 → WR G X (mQ G X (none) z SS) 3 [.ref s, .int c1, .long c2, vU, .int s1.1] [] s1.2 SS) (hx : ∀ x1 : Mm, oo = .inr x1 → WR G X (mQ G X (none) z SS) 41 [.ref s, vU, vU, vU, vU] [] x1 SS) (h : St_fill_b3 s c1 c2 v4 M = some oo) : WR G X (mQ G X (none) z SS) 3 [.ref s, .int c1, .long c2, vU, .int v4] [] M SS := by
  unfold St_fill_b3 at h
  refine r_iload hX dX4_fill_3 rfl ?_
  refine r_aload_n hX dX4_fill_5 rfl ?_
  refine r_getf (v := .ref (s + 1)) hX dX4_fill_6 fl_4_12 (kdS0 hs) (by decide) (ltS0 hs) (rfS0 hs) ?_
  refine r_getf (v := .int (M.1 (s + 1) 3)) hX dX4_fill_9 fl_4_70 (kdS1 hs) (by decide) (ltS1 hs) rfl ?_
  refine r_icmp_ge (tgt := 41) hX dX4_fill_12 (by decide) (fun g1 => ?_) (fun g1 => ?_)
  · have h := (if_pos g1).symm.trans h
    refine WR.fg (L' := [.ref s, vU, vU, vU, vU]) ⟨Or.inr rfl, Or.inl rfl, Or.inl rfl, Or.inl rfl, Or.inl rfl, trivial⟩ ?_
    exact hx _ (Option.some.inj h).symm
  · have h := (if_neg g1).symm.trans h
    refine r_iload_n hX dX4_fill_15 rfl ?_
    refine r_iload hX dX4_fill_16 rfl ?_
    refine r_iushr hX dX4_fill_18 ?_
    refine r_iconst (v := (1 : Int32)) hX dX4_fill_19 (by decide) ?_
    refine r_iand hX dX4_fill_20 ?_
    refine r_if_eq (tgt := 35) hX dX4_fill_21 (by decide) (fun g2 => ?_) (fun g2 => ?_)
    · have h := (if_pos g2).symm.trans h
      exact ok_St_fill_j35 n s v4 M  hs hX hT hr hc hx h
    · have h := (if_neg g2).symm.trans h
      refine r_aload_n hX dX4_fill_24 rfl ?_
      refine r_getf (v := .ref (s + 16)) hX dX4_fill_25 fl_4_60 (kdS0 hs) (by decide) (ltS0 hs) (rfS14 hs) ?_
      refine r_iload hX dX4_fill_28 rfl ?_
      refine r_dup2 hX dX4_fill_30 rfl rfl ?_
      obtain ⟨k3, h⟩ := grd_s h
      refine r_lald hX dX4_fill_31 (kdS16 hs) (ltS16 hs) (inb_at (lnS16 hs) k3) ?_
      refine r_lload_n hX dX4_fill_32 rfl ?_
      refine r_lor hX dX4_fill_33 ?_
      obtain ⟨k4, h⟩ := grd_s h
      refine r_last hX dX4_fill_34 (kdS16 hs) (ltS16 hs) (inb_at (lnS16 hs) k4) ?_
      exact ok_St_fill_j35 n s v4 (M.1, (up2 M.2 (s + 16) (tn v4) ((M.2 (s + 16) (tn v4)) ||| c2)))  hs hX hT hr hc hx h
set_option maxRecDepth 100000 in
theorem ok_St_fill {G : Gm} {l : Launch} {d : Nat} (n : Nat) (s : Nat) (v1 : Int32) (v2 : Int64) (M : Mm) {z : Mm} (hs : isSt s) (h : St_fill n s v1 v2 M = some z) : CK G l (d + 0) md_St_fill [.ref s, .int v1, .long v2] M SS (none) z SS := by
  refine ck_of mk_St_fill (Nat.le_of_ble_eq_true rfl) ⟨Nat.le_refl _, Nat.le_refl _⟩ (fun X hX hT hS hr hl => ?_)
  subst hl
  unfold St_fill at h
  show WR G X (mQ G X (none) z SS) 0 [.ref s, .int v1, .long v2, vU, vU] [] M SS
  refine r_iconst (v := (0 : Int32)) hX dX4_fill_0 (by decide) ?_
  refine r_istore (L1 := [.ref s, .int v1, .long v2, vU, .int (0 : Int32)]) hX dX4_fill_1 (Nat.le_of_ble_eq_true rfl) rfl ?_
  obtain ⟨y5, h1, h⟩ := bnd_s h
  refine loop_ok (P := fun s1 : Int32 × Mm => WR G X (mQ G X (none) z SS) 3 [.ref s, .int v1, .long v2, vU, .int s1.1] [] s1.2 SS) (E := fun x1 : Mm => WR G X (mQ G X (none) z SS) 41 [.ref s, vU, vU, vU, vU] [] x1 SS) (fun s1 o1 g1 g2 g3 => ok_St_fill_b3 n s s1.1 s1.2 hs hX hT hr g2 g3 g1) n ((0 : Int32), M) y5 h1 ?_
  show WR G X (mQ G X (none) z SS) 41 [.ref s, vU, vU, vU, vU] [] y5 SS
  obtain rfl := Option.some.inj h
  exact r_vret hX hT dX4_fill_41
def St_put (n : Nat) (s : Nat) (v1 : Int32) (v2 : Int32) (v3 : Int32) (v4 : Int32) (M : Mm) : Option (Mm) :=
  grd (inb v1 40) (
  grd (inb v1 40) (
  grd (inb v1 40) (
  grd (inb v1 40) (
  bnd (Fg_span v3 (v3 + v4) ((up2 (up2 (up2 (up2 M.1 (s + 10) (tn v1) (0 : Int32)) (s + 12) (tn v1) v2) (s + 13) (tn v1) v3) (s + 14) (tn v1) v4), M.2)) (fun z5 =>
  grd (inb v1 40) (
  grd (inb v1 40) (
  bnd (St_fill n s v2 ((up2 M.2 (s + 15) (tn v1) z5) (s + 15) (tn v1)) ((up2 (up2 (up2 (up2 M.1 (s + 10) (tn v1) (0 : Int32)) (s + 12) (tn v1) v2) (s + 13) (tn v1) v3) (s + 14) (tn v1) v4), (up2 M.2 (s + 15) (tn v1) z5))) (fun z9 =>
  some z9))))))))
set_option maxRecDepth 100000 in
theorem ok_St_put {G : Gm} {l : Launch} {d : Nat} (n : Nat) (s : Nat) (v1 : Int32) (v2 : Int32) (v3 : Int32) (v4 : Int32) (M : Mm) {z : Mm} (hs : isSt s) (h : St_put n s v1 v2 v3 v4 M = some z) : CK G l (d + 1) md_St_put [.ref s, .int v1, .int v2, .int v3, .int v4] M SS (none) z SS := by
  refine ck_of mk_St_put (Nat.le_of_ble_eq_true rfl) ⟨Nat.le_refl _, Nat.le_refl _⟩ (fun X hX hT hS hr hl => ?_)
  subst hl
  unfold St_put at h
  show WR G X (mQ G X (none) z SS) 0 [.ref s, .int v1, .int v2, .int v3, .int v4] [] M SS
  refine r_aload_n hX dX4_put_0 rfl ?_
  refine r_getf (v := .ref (s + 10)) hX dX4_put_1 fl_4_41 (kdS0 hs) (by decide) (ltS0 hs) (rfS8 hs) ?_
  refine r_iload_n hX dX4_put_4 rfl ?_
  refine r_iconst (v := (0 : Int32)) hX dX4_put_5 (by decide) ?_
  obtain ⟨k1, h⟩ := grd_s h
  refine r_iast hX dX4_put_6 (kdS10 hs) (ltS10 hs) (inb_at (lnS10 hs) k1) ?_
  refine r_aload_n hX dX4_put_7 rfl ?_
  refine r_getf (v := .ref (s + 12)) hX dX4_put_8 fl_4_47 (kdS0 hs) (by decide) (ltS0 hs) (rfS10 hs) ?_
  refine r_iload_n hX dX4_put_11 rfl ?_
  refine r_iload_n hX dX4_put_12 rfl ?_
  obtain ⟨k2, h⟩ := grd_s h
  refine r_iast' hX dX4_put_13 (kdS12 hs) (ltS12 hs) (inb_at (lnS12 hs) k2) ?_
  refine r_aload_n hX dX4_put_14 rfl ?_
  refine r_getf (v := .ref (s + 13)) hX dX4_put_15 fl_4_50 (kdS0 hs) (by decide) (ltS0 hs) (rfS11 hs) ?_
  refine r_iload_n hX dX4_put_18 rfl ?_
  refine r_iload_n hX dX4_put_19 rfl ?_
  obtain ⟨k3, h⟩ := grd_s h
  refine r_iast' hX dX4_put_20 (kdS13 hs) (ltS13 hs) (inb_at (lnS13 hs) k3) ?_
  refine r_aload_n hX dX4_put_21 rfl ?_
  refine r_getf (v := .ref (s + 14)) hX dX4_put_22 fl_4_53 (kdS0 hs) (by decide) (ltS0 hs) (rfS12 hs) ?_
  refine r_iload_n hX dX4_put_25 rfl ?_
  refine r_iload hX dX4_put_26 rfl ?_
  obtain ⟨k4, h⟩ := grd_s h
  refine r_iast' hX dX4_put_28 (kdS14 hs) (ltS14 hs) (inb_at (lnS14 hs) k4) ?_
  refine r_aload_n hX dX4_put_29 rfl ?_
  refine r_getf (v := .ref (s + 15)) hX dX4_put_30 fl_4_56 (kdS0 hs) (by decide) (ltS0 hs) (rfS13 hs) ?_
  refine r_iload_n hX dX4_put_33 rfl ?_
  refine r_iload_n hX dX4_put_34 rfl ?_
  refine r_iload_n hX dX4_put_35 rfl ?_
  refine r_iload hX dX4_put_36 rfl ?_
  refine r_iadd hX dX4_put_38 ?_
  obtain ⟨z5, p6, h⟩ := bnd_s h
  refine r_callSN (As := [.int v3, .int (v3 + v4)]) hX dX4_put_39 mk_Fg_span ms_Fg_span mn_4_88 rfl rfl rfl (Nat.le_of_ble_eq_true rfl) hr (ok_Fg_span (d := d + 0) v3 (v3 + v4) ((up2 (up2 (up2 (up2 M.1 (s + 10) (tn v1) (0 : Int32)) (s + 12) (tn v1) v2) (s + 13) (tn v1) v3) (s + 14) (tn v1) v4), M.2) p6) ?_
  obtain ⟨k7, h⟩ := grd_s h
  refine r_last' hX dX4_put_42 (kdS15 hs) (ltS15 hs) (inb_at (lnS15 hs) k7) ?_
  refine r_aload_n hX dX4_put_43 rfl ?_
  refine r_iload_n hX dX4_put_44 rfl ?_
  refine r_aload_n hX dX4_put_45 rfl ?_
  refine r_getf (v := .ref (s + 15)) hX dX4_put_46 fl_4_56 (kdS0 hs) (by decide) (ltS0 hs) (rfS13 hs) ?_
  refine r_iload_n hX dX4_put_49 rfl ?_
  obtain ⟨k8, h⟩ := grd_s h
  refine r_lald' hX dX4_put_50 (kdS15 hs) (ltS15 hs) (inb_at (lnS15 hs) k8) ?_
  obtain ⟨z9, p10, h⟩ := bnd_s h
  refine r_callV (As := [.int v2, .long ((up2 M.2 (s + 15) (tn v1) z5) (s + 15) (tn v1))]) hX dX4_put_51 mk_St_fill mi_St_fill ml_4_92 rfl rfl rfl (kdS0 hs) (by decide) (ltS0 hs) (Nat.le_of_ble_eq_true rfl) hr (ok_St_fill (d := d + 0) n s v2 ((up2 M.2 (s + 15) (tn v1) z5) (s + 15) (tn v1)) ((up2 (up2 (up2 (up2 M.1 (s + 10) (tn v1) (0 : Int32)) (s + 12) (tn v1) v2) (s + 13) (tn v1) v3) (s + 14) (tn v1) v4), (up2 M.2 (s + 15) (tn v1) z5)) hs p10) ?_
  obtain rfl := Option.some.inj h
  exact r_vret hX hT dX4_put_54
def Rp_aim_j86 (v1 : Int32) (M : Mm) : Option (Mm) :=
  some (M.1, (up2 M.2 72 3 ((M.2 72 3) ||| (lshl (1 : Int64) v1))))
def Rp_aim (n : Nat) (v1 : Int32) (M : Mm) : Option (Mm) :=
  bnd (St_put n 73 v1 (M.1 12 2) (M.1 12 3) (M.1 12 4) M) (fun z1 =>
  grd (inb v1 40) (
  if (z1.1 12 2) = (z1.1 66 (tn v1)) then
    grd (inb v1 40) (
    if (z1.1 12 3) = (z1.1 67 (tn v1)) then
      grd (inb v1 40) (
      if (z1.1 12 4) = (z1.1 68 (tn v1)) then
        some z1
      else
        Rp_aim_j86 v1 z1)
    else
      Rp_aim_j86 v1 z1)
  else
    Rp_aim_j86 v1 z1))
set_option maxRecDepth 100000 in
theorem ok_Rp_aim_j86 (n : Nat) (v1 : Int32) (M : Mm) {z : Mm} {G : Gm} {X : Cx} {d : Nat}  (hX : XK G X 3 cX3_aim 2 (d + 2)) (hT : XT X (none) "aim") (hr : XR X SS) (h : Rp_aim_j86 v1 M = some z) : WR G X (mQ G X (none) z SS) 86 [.ref 72, .int v1] [] M SS := by
  unfold Rp_aim_j86 at h
  refine r_aload_n hX dX3_aim_86 rfl ?_
  refine r_dup hX dX3_aim_87 rfl ?_
  refine r_getf (v := .long (M.2 72 3)) hX dX3_aim_88 fl_3_18 rfl (by decide) (by decide) rfl ?_
  refine r_lconst (v := (1 : Int64)) hX dX3_aim_91 (by decide) ?_
  refine r_iload_n hX dX3_aim_92 rfl ?_
  refine r_lshl hX dX3_aim_93 ?_
  refine r_lor hX dX3_aim_94 ?_
  refine r_putL hX dX3_aim_95 fl_3_18 rfl (by decide) (by decide) rfl ?_
  obtain rfl := Option.some.inj h
  exact r_vret hX hT dX3_aim_98
set_option maxRecDepth 100000 in
theorem ok_Rp_aim {G : Gm} {l : Launch} {d : Nat} (n : Nat) (v1 : Int32) (M : Mm) {z : Mm}  (h : Rp_aim n v1 M = some z) : CK G l (d + 2) md_Rp_aim [.ref 72, .int v1] M SS (none) z SS := by
  refine ck_of mk_Rp_aim (Nat.le_of_ble_eq_true rfl) ⟨Nat.le_refl _, Nat.le_refl _⟩ (fun X hX hT hS hr hl => ?_)
  subst hl
  unfold Rp_aim at h
  show WR G X (mQ G X (none) z SS) 0 [.ref 72, .int v1] [] M SS
  refine r_aload_n hX dX3_aim_0 rfl ?_
  refine r_getf (v := .ref 73) hX dX3_aim_1 fl_3_12 rfl (by decide) (by decide) rfl ?_
  refine r_iload_n hX dX3_aim_4 rfl ?_
  refine r_aload_n hX dX3_aim_5 rfl ?_
  refine r_getf (v := .ref 12) hX dX3_aim_6 fl_3_40 rfl (by decide) (by decide) rfl ?_
  refine r_getf (v := .int (M.1 12 2)) hX dX3_aim_9 fl_3_84 rfl (by decide) (by decide) rfl ?_
  refine r_aload_n hX dX3_aim_12 rfl ?_
  refine r_getf (v := .ref 12) hX dX3_aim_13 fl_3_40 rfl (by decide) (by decide) rfl ?_
  refine r_getf (v := .int (M.1 12 3)) hX dX3_aim_16 fl_3_87 rfl (by decide) (by decide) rfl ?_
  refine r_aload_n hX dX3_aim_19 rfl ?_
  refine r_getf (v := .ref 12) hX dX3_aim_20 fl_3_40 rfl (by decide) (by decide) rfl ?_
  refine r_getf (v := .int (M.1 12 4)) hX dX3_aim_23 fl_3_90 rfl (by decide) (by decide) rfl ?_
  obtain ⟨z1, p2, h⟩ := bnd_s h
  refine r_callV (As := [.int v1, .int (M.1 12 2), .int (M.1 12 3), .int (M.1 12 4)]) hX dX3_aim_26 mk_St_put mi_St_put ml_3_93 rfl rfl rfl rfl (by decide) (by decide) (Nat.le_of_ble_eq_true rfl) hr (ok_St_put (d := d + 0) n 73 v1 (M.1 12 2) (M.1 12 3) (M.1 12 4) M st73 p2) ?_
  refine r_aload_n hX dX3_aim_29 rfl ?_
  refine r_getf (v := .ref 12) hX dX3_aim_30 fl_3_40 rfl (by decide) (by decide) rfl ?_
  refine r_getf (v := .int (z1.1 12 2)) hX dX3_aim_33 fl_3_84 rfl (by decide) (by decide) rfl ?_
  refine r_aload_n hX dX3_aim_36 rfl ?_
  refine r_getf (v := .ref 54) hX dX3_aim_37 fl_3_37 rfl (by decide) (by decide) rfl ?_
  refine r_getf (v := .ref 66) hX dX3_aim_40 fl_3_97 rfl (by decide) (by decide) rfl ?_
  refine r_iload_n hX dX3_aim_43 rfl ?_
  obtain ⟨k3, h⟩ := grd_s h
  refine r_iald hX dX3_aim_44 rfl (by decide) (inb_at rfl k3) ?_
  refine r_icmp_ne (tgt := 86) hX dX3_aim_45 (by decide) (fun g4 => ?_) (fun g4 => ?_)
  · have h := (if_neg g4).symm.trans h
    exact ok_Rp_aim_j86 n v1 z1   hX hT hr h
  · have h := (if_pos g4).symm.trans h
    refine r_aload_n hX dX3_aim_48 rfl ?_
    refine r_getf (v := .ref 12) hX dX3_aim_49 fl_3_40 rfl (by decide) (by decide) rfl ?_
    refine r_getf (v := .int (z1.1 12 3)) hX dX3_aim_52 fl_3_87 rfl (by decide) (by decide) rfl ?_
    refine r_aload_n hX dX3_aim_55 rfl ?_
    refine r_getf (v := .ref 54) hX dX3_aim_56 fl_3_37 rfl (by decide) (by decide) rfl ?_
    refine r_getf (v := .ref 67) hX dX3_aim_59 fl_3_99 rfl (by decide) (by decide) rfl ?_
    refine r_iload_n hX dX3_aim_62 rfl ?_
    obtain ⟨k5, h⟩ := grd_s h
    refine r_iald hX dX3_aim_63 rfl (by decide) (inb_at rfl k5) ?_
    refine r_icmp_ne (tgt := 86) hX dX3_aim_64 (by decide) (fun g6 => ?_) (fun g6 => ?_)
    · have h := (if_neg g6).symm.trans h
      exact ok_Rp_aim_j86 n v1 z1   hX hT hr h
    · have h := (if_pos g6).symm.trans h
      refine r_aload_n hX dX3_aim_67 rfl ?_
      refine r_getf (v := .ref 12) hX dX3_aim_68 fl_3_40 rfl (by decide) (by decide) rfl ?_
      refine r_getf (v := .int (z1.1 12 4)) hX dX3_aim_71 fl_3_90 rfl (by decide) (by decide) rfl ?_
      refine r_aload_n hX dX3_aim_74 rfl ?_
      refine r_getf (v := .ref 54) hX dX3_aim_75 fl_3_37 rfl (by decide) (by decide) rfl ?_
      refine r_getf (v := .ref 68) hX dX3_aim_78 fl_3_101 rfl (by decide) (by decide) rfl ?_
      refine r_iload_n hX dX3_aim_81 rfl ?_
      obtain ⟨k7, h⟩ := grd_s h
      refine r_iald hX dX3_aim_82 rfl (by decide) (inb_at rfl k7) ?_
      refine r_icmp_eq (tgt := 98) hX dX3_aim_83 (by decide) (fun g8 => ?_) (fun g8 => ?_)
      · have h := (if_pos g8).symm.trans h
        obtain rfl := Option.some.inj h
        exact r_vret hX hT dX3_aim_98
      · have h := (if_neg g8).symm.trans h
        exact ok_Rp_aim_j86 n v1 z1   hX hT hr h
def St_clashes (s : Nat) (v1 : Int32) (v2 : Int32) (v3 : Int32) (v4 : Int32) (M : Mm) : Option (Bool) :=
  grd (inb v1 40) (
  if (M.1 (s + 10) (tn v1)) = (0 : Int32) then
    grd (inb v1 40) (
    if ((M.1 (s + 12) (tn v1)) &&& v2) = (0 : Int32) then
      some false
    else
      grd (inb v1 40) (
      grd (inb v1 40) (
      if (((M.1 (s + 13) (tn v1)) + (M.1 (s + 14) (tn v1))) + (M.1 (s + 1) 2)) ≤ v3 then
        some false
      else
        grd (inb v1 40) (
        if ((v3 + v4) + (M.1 (s + 1) 2)) ≤ (M.1 (s + 13) (tn v1)) then
          some false
        else
          some true))))
  else
    some false)
set_option maxRecDepth 100000 in
theorem ok_St_clashes {G : Gm} {l : Launch} {d : Nat} (s : Nat) (v1 : Int32) (v2 : Int32) (v3 : Int32) (v4 : Int32) (M : Mm) {z : Bool} (hs : isSt s) (h : St_clashes s v1 v2 v3 v4 M = some z) : CK G l (d + 0) md_St_clashes [.ref s, .int v1, .int v2, .int v3, .int v4] M SS (some (.int (b2i z))) M SS := by
  refine ck_of mk_St_clashes (Nat.le_of_ble_eq_true rfl) ⟨Nat.le_refl _, Nat.le_refl _⟩ (fun X hX hT hS hr hl => ?_)
  subst hl
  unfold St_clashes at h
  show WR G X (mQ G X (some (.int (b2i z))) M SS) 0 [.ref s, .int v1, .int v2, .int v3, .int v4] [] M SS
  refine r_aload_n hX dX4_clashes_0 rfl ?_
  refine r_getf (v := .ref (s + 10)) hX dX4_clashes_1 fl_4_41 (kdS0 hs) (by decide) (ltS0 hs) (rfS8 hs) ?_
  refine r_iload_n hX dX4_clashes_4 rfl ?_
  obtain ⟨k1, h⟩ := grd_s h
  refine r_iald hX dX4_clashes_5 (kdS10 hs) (ltS10 hs) (inb_at (lnS10 hs) k1) ?_
  refine r_if_ne (tgt := 70) hX dX4_clashes_6 (by decide) (fun g2 => ?_) (fun g2 => ?_)
  · have h := (if_neg g2).symm.trans h
    refine r_iconst (v := (0 : Int32)) hX dX4_clashes_70 (by decide) ?_
    obtain rfl := Option.some.inj h
    exact r_iret (v := b2i false) hX hT dX4_clashes_71 (okI_b false).1
  · have h := (if_pos g2).symm.trans h
    refine r_aload_n hX dX4_clashes_9 rfl ?_
    refine r_getf (v := .ref (s + 12)) hX dX4_clashes_10 fl_4_47 (kdS0 hs) (by decide) (ltS0 hs) (rfS10 hs) ?_
    refine r_iload_n hX dX4_clashes_13 rfl ?_
    obtain ⟨k3, h⟩ := grd_s h
    refine r_iald hX dX4_clashes_14 (kdS12 hs) (ltS12 hs) (inb_at (lnS12 hs) k3) ?_
    refine r_iload_n hX dX4_clashes_15 rfl ?_
    refine r_iand hX dX4_clashes_16 ?_
    refine r_if_eq (tgt := 70) hX dX4_clashes_17 (by decide) (fun g4 => ?_) (fun g4 => ?_)
    · have h := (if_pos g4).symm.trans h
      refine r_iconst (v := (0 : Int32)) hX dX4_clashes_70 (by decide) ?_
      obtain rfl := Option.some.inj h
      exact r_iret (v := b2i false) hX hT dX4_clashes_71 (okI_b false).1
    · have h := (if_neg g4).symm.trans h
      refine r_iload_n hX dX4_clashes_20 rfl ?_
      refine r_aload_n hX dX4_clashes_21 rfl ?_
      refine r_getf (v := .ref (s + 13)) hX dX4_clashes_22 fl_4_50 (kdS0 hs) (by decide) (ltS0 hs) (rfS11 hs) ?_
      refine r_iload_n hX dX4_clashes_25 rfl ?_
      obtain ⟨k5, h⟩ := grd_s h
      refine r_iald hX dX4_clashes_26 (kdS13 hs) (ltS13 hs) (inb_at (lnS13 hs) k5) ?_
      refine r_aload_n hX dX4_clashes_27 rfl ?_
      refine r_getf (v := .ref (s + 14)) hX dX4_clashes_28 fl_4_53 (kdS0 hs) (by decide) (ltS0 hs) (rfS12 hs) ?_
      refine r_iload_n hX dX4_clashes_31 rfl ?_
      obtain ⟨k6, h⟩ := grd_s h
      refine r_iald hX dX4_clashes_32 (kdS14 hs) (ltS14 hs) (inb_at (lnS14 hs) k6) ?_
      refine r_iadd hX dX4_clashes_33 ?_
      refine r_aload_n hX dX4_clashes_34 rfl ?_
      refine r_getf (v := .ref (s + 1)) hX dX4_clashes_35 fl_4_12 (kdS0 hs) (by decide) (ltS0 hs) (rfS0 hs) ?_
      refine r_getf (v := .int (M.1 (s + 1) 2)) hX dX4_clashes_38 fl_4_109 (kdS1 hs) (by decide) (ltS1 hs) rfl ?_
      refine r_iadd hX dX4_clashes_41 ?_
      refine r_icmp_ge (tgt := 70) hX dX4_clashes_42 (by decide) (fun g7 => ?_) (fun g7 => ?_)
      · have h := (if_pos g7).symm.trans h
        refine r_iconst (v := (0 : Int32)) hX dX4_clashes_70 (by decide) ?_
        obtain rfl := Option.some.inj h
        exact r_iret (v := b2i false) hX hT dX4_clashes_71 (okI_b false).1
      · have h := (if_neg g7).symm.trans h
        refine r_aload_n hX dX4_clashes_45 rfl ?_
        refine r_getf (v := .ref (s + 13)) hX dX4_clashes_46 fl_4_50 (kdS0 hs) (by decide) (ltS0 hs) (rfS11 hs) ?_
        refine r_iload_n hX dX4_clashes_49 rfl ?_
        obtain ⟨k8, h⟩ := grd_s h
        refine r_iald hX dX4_clashes_50 (kdS13 hs) (ltS13 hs) (inb_at (lnS13 hs) k8) ?_
        refine r_iload_n hX dX4_clashes_51 rfl ?_
        refine r_iload hX dX4_clashes_52 rfl ?_
        refine r_iadd hX dX4_clashes_54 ?_
        refine r_aload_n hX dX4_clashes_55 rfl ?_
        refine r_getf (v := .ref (s + 1)) hX dX4_clashes_56 fl_4_12 (kdS0 hs) (by decide) (ltS0 hs) (rfS0 hs) ?_
        refine r_getf (v := .int (M.1 (s + 1) 2)) hX dX4_clashes_59 fl_4_109 (kdS1 hs) (by decide) (ltS1 hs) rfl ?_
        refine r_iadd hX dX4_clashes_62 ?_
        refine r_icmp_ge (tgt := 70) hX dX4_clashes_63 (by decide) (fun g9 => ?_) (fun g9 => ?_)
        · have h := (if_pos g9).symm.trans h
          refine r_iconst (v := (0 : Int32)) hX dX4_clashes_70 (by decide) ?_
          obtain rfl := Option.some.inj h
          exact r_iret (v := b2i false) hX hT dX4_clashes_71 (okI_b false).1
        · have h := (if_neg g9).symm.trans h
          refine r_iconst (v := (1 : Int32)) hX dX4_clashes_66 (by decide) ?_
          refine r_goto (tgt := 71) hX dX4_clashes_67 (by decide) ?_
          obtain rfl := Option.some.inj h
          exact r_iret (v := b2i true) hX hT dX4_clashes_71 (okI_b true).1
def St_inTheWay_b3 (s : Nat) (c1 : Int32) (c2 : Int32) (c3 : Int32) (Mc : Mm) (v4 : Int32) : Option ((Int32) ⊕ ((Unit) ⊕ (Int32))) :=
  if (Mc.1 s 4) ≤ v4 then
    some (.inr (.inl ()))
  else
    bnd (St_clashes s v4 c1 c2 c3 Mc) (fun z2 =>
    if z2 = true then
      some (.inr (.inr v4))
    else
      some (.inl (v4 + (1 : Int32))))
def St_inTheWay (n : Nat) (s : Nat) (v1 : Int32) (v2 : Int32) (v3 : Int32) (M : Mm) : Option (Int32) :=
  bnd (loop (fun s1 : Int32 => St_inTheWay_b3 s v1 v2 v3 M s1) n (0 : Int32)) (fun y5 =>
  elS y5 (fun x6 =>
    some (-1 : Int32))
    (fun e7 => some e7))
set_option maxRecDepth 100000 in
theorem ok_St_inTheWay_b3 (n : Nat) (s : Nat) (v4 : Int32) {c1 : Int32} {c2 : Int32} {c3 : Int32} {Mc : Mm} {z : Int32} {oo : (Int32) ⊕ ((Unit) ⊕ (Int32))} {G : Gm} {X : Cx} {d : Nat} (hs : isSt s) (hX : XK G X 4 cX4_inTheWay 5 (d + 1)) (hT : XT X (some .int) "inTheWay") (hr : XR X SS) (hc : ∀ s1 : Int32, oo = .inl s1 → WR G X (mQ G X (some (.int z)) Mc SS) 3 [.ref s, .int c1, .int c2, .int c3, .int s1] [] Mc SS) (hx : ∀ x1 : (Unit) ⊕ (Int32), oo = .inr x1 → elS x1 (fun x2 => WR G X (mQ G X (some (.int z)) Mc SS) 33 [.ref s, vU, vU, vU, vU] [] Mc SS) (fun y1 => y1 = z)) (h : St_inTheWay_b3 s c1 c2 c3 Mc v4 = some oo) : WR G X (mQ G X (some (.int z)) Mc SS) 3 [.ref s, .int c1, .int c2, .int c3, .int v4] [] Mc SS := by
  unfold St_inTheWay_b3 at h
  refine r_iload hX dX4_inTheWay_3 rfl ?_
  refine r_aload_n hX dX4_inTheWay_5 rfl ?_
  refine r_getf (v := .int (Mc.1 s 4)) hX dX4_inTheWay_6 fl_4_28 (kdS0 hs) (by decide) (ltS0 hs) rfl ?_
  refine r_icmp_ge (tgt := 33) hX dX4_inTheWay_9 (by decide) (fun g1 => ?_) (fun g1 => ?_)
  · have h := (if_pos g1).symm.trans h
    refine WR.fg (L' := [.ref s, vU, vU, vU, vU]) ⟨Or.inr rfl, Or.inl rfl, Or.inl rfl, Or.inl rfl, Or.inl rfl, trivial⟩ ?_
    exact hx _ (Option.some.inj h).symm
  · have h := (if_neg g1).symm.trans h
    refine r_aload_n hX dX4_inTheWay_12 rfl ?_
    refine r_iload hX dX4_inTheWay_13 rfl ?_
    refine r_iload_n hX dX4_inTheWay_15 rfl ?_
    refine r_iload_n hX dX4_inTheWay_16 rfl ?_
    refine r_iload_n hX dX4_inTheWay_17 rfl ?_
    obtain ⟨z2, p3, h⟩ := bnd_s h
    refine r_callV (As := [.int v4, .int c1, .int c2, .int c3]) hX dX4_inTheWay_18 mk_St_clashes mi_St_clashes ml_4_130 rfl rfl rfl (kdS0 hs) (by decide) (ltS0 hs) (Nat.le_of_ble_eq_true rfl) hr (ok_St_clashes (d := d + 0) s v4 c1 c2 c3 Mc hs p3) ?_
    refine r_ifb_eq (tgt := 27) hX dX4_inTheWay_21 (by decide) (fun g4 => ?_) (fun g4 => ?_)
    · have h := (if_neg (show ¬ z2 = true from fun e => by rw [g4] at e; cases e)).symm.trans h
      refine r_iinc (v := v4 + (1 : Int32)) (L1 := [.ref s, .int c1, .int c2, .int c3, .int (v4 + (1 : Int32))]) hX dX4_inTheWay_27 rfl rfl rfl ?_
      refine r_goto (tgt := 3) hX dX4_inTheWay_30 (by decide) ?_
      exact hc (v4 + (1 : Int32)) (Option.some.inj h).symm
    · have h := (if_pos g4).symm.trans h
      refine r_iload hX dX4_inTheWay_24 rfl ?_
      obtain rfl := hx _ (Option.some.inj h).symm
      exact r_iret hX hT dX4_inTheWay_26 rfl
set_option maxRecDepth 100000 in
theorem ok_St_inTheWay {G : Gm} {l : Launch} {d : Nat} (n : Nat) (s : Nat) (v1 : Int32) (v2 : Int32) (v3 : Int32) (M : Mm) {z : Int32} (hs : isSt s) (h : St_inTheWay n s v1 v2 v3 M = some z) : CK G l (d + 1) md_St_inTheWay [.ref s, .int v1, .int v2, .int v3] M SS (some (.int z)) M SS := by
  refine ck_of mk_St_inTheWay (Nat.le_of_ble_eq_true rfl) ⟨Nat.le_refl _, Nat.le_refl _⟩ (fun X hX hT hS hr hl => ?_)
  subst hl
  unfold St_inTheWay at h
  show WR G X (mQ G X (some (.int z)) M SS) 0 [.ref s, .int v1, .int v2, .int v3, vU] [] M SS
  refine r_iconst (v := (0 : Int32)) hX dX4_inTheWay_0 (by decide) ?_
  refine r_istore (L1 := [.ref s, .int v1, .int v2, .int v3, .int (0 : Int32)]) hX dX4_inTheWay_1 (Nat.le_of_ble_eq_true rfl) rfl ?_
  obtain ⟨y5, h1, h⟩ := bnd_s h
  refine loop_ok (P := fun s1 : Int32 => WR G X (mQ G X (some (.int z)) M SS) 3 [.ref s, .int v1, .int v2, .int v3, .int s1] [] M SS) (E := fun x1 : (Unit) ⊕ (Int32) => elS x1 (fun x2 => WR G X (mQ G X (some (.int z)) M SS) 33 [.ref s, vU, vU, vU, vU] [] M SS) (fun y1 => y1 = z)) (fun s1 o1 g1 g2 g3 => ok_St_inTheWay_b3 n s s1 hs hX hT hr g2 g3 g1) n (0 : Int32) y5 h1 ?_
  cases y5 with
  | inr e7 =>
    exact Option.some.inj h
  | inl x6 =>
    show WR G X (mQ G X (some (.int z)) M SS) 33 [.ref s, vU, vU, vU, vU] [] M SS
    refine r_iconst (v := (-1 : Int32)) hX dX4_inTheWay_33 (by decide) ?_
    obtain rfl := Option.some.inj h
    exact r_iret hX hT dX4_inTheWay_34 rfl
def Rp_canStay (n : Nat) (v1 : Int32) (M : Mm) : Option (Bool × Mm) :=
  grd (inb v1 40) (
  grd (inb v1 40) (
  grd (inb v1 40) (
  bnd (St_inTheWay n 73 (M.1 66 (tn v1)) (M.1 67 (tn v1)) (M.1 68 (tn v1)) M) (fun z4 =>
  if z4 < (0 : Int32) then
    grd (inb v1 40) (
    grd (inb v1 40) (
    grd (inb v1 40) (
    bnd (St_put n 73 v1 (M.1 66 (tn v1)) (M.1 67 (tn v1)) (M.1 68 (tn v1)) M) (fun z10 =>
    some (true, z10)))))
  else
    some (false, M)))))
set_option maxRecDepth 100000 in
theorem ok_Rp_canStay {G : Gm} {l : Launch} {d : Nat} (n : Nat) (v1 : Int32) (M : Mm) {z : Bool × Mm}  (h : Rp_canStay n v1 M = some z) : CK G l (d + 2) md_Rp_canStay [.ref 72, .int v1] M SS (some (.int (b2i z.1))) z.2 SS := by
  refine ck_of mk_Rp_canStay (Nat.le_of_ble_eq_true rfl) ⟨Nat.le_refl _, Nat.le_refl _⟩ (fun X hX hT hS hr hl => ?_)
  subst hl
  unfold Rp_canStay at h
  show WR G X (mQ G X (some (.int (b2i z.1))) z.2 SS) 0 [.ref 72, .int v1] [] M SS
  refine r_aload_n hX dX3_canStay_0 rfl ?_
  refine r_getf (v := .ref 73) hX dX3_canStay_1 fl_3_12 rfl (by decide) (by decide) rfl ?_
  refine r_aload_n hX dX3_canStay_4 rfl ?_
  refine r_getf (v := .ref 54) hX dX3_canStay_5 fl_3_37 rfl (by decide) (by decide) rfl ?_
  refine r_getf (v := .ref 66) hX dX3_canStay_8 fl_3_97 rfl (by decide) (by decide) rfl ?_
  refine r_iload_n hX dX3_canStay_11 rfl ?_
  obtain ⟨k1, h⟩ := grd_s h
  refine r_iald hX dX3_canStay_12 rfl (by decide) (inb_at rfl k1) ?_
  refine r_aload_n hX dX3_canStay_13 rfl ?_
  refine r_getf (v := .ref 54) hX dX3_canStay_14 fl_3_37 rfl (by decide) (by decide) rfl ?_
  refine r_getf (v := .ref 67) hX dX3_canStay_17 fl_3_99 rfl (by decide) (by decide) rfl ?_
  refine r_iload_n hX dX3_canStay_20 rfl ?_
  obtain ⟨k2, h⟩ := grd_s h
  refine r_iald hX dX3_canStay_21 rfl (by decide) (inb_at rfl k2) ?_
  refine r_aload_n hX dX3_canStay_22 rfl ?_
  refine r_getf (v := .ref 54) hX dX3_canStay_23 fl_3_37 rfl (by decide) (by decide) rfl ?_
  refine r_getf (v := .ref 68) hX dX3_canStay_26 fl_3_101 rfl (by decide) (by decide) rfl ?_
  refine r_iload_n hX dX3_canStay_29 rfl ?_
  obtain ⟨k3, h⟩ := grd_s h
  refine r_iald hX dX3_canStay_30 rfl (by decide) (inb_at rfl k3) ?_
  obtain ⟨z4, p5, h⟩ := bnd_s h
  refine r_callV (As := [.int (M.1 66 (tn v1)), .int (M.1 67 (tn v1)), .int (M.1 68 (tn v1))]) hX dX3_canStay_31 mk_St_inTheWay mi_St_inTheWay ml_3_103 rfl rfl rfl rfl (by decide) (by decide) (Nat.le_of_ble_eq_true rfl) hr (ok_St_inTheWay (d := d + 0) n 73 (M.1 66 (tn v1)) (M.1 67 (tn v1)) (M.1 68 (tn v1)) M st73 p5) ?_
  refine r_if_lt (tgt := 39) hX dX3_canStay_34 (by decide) (fun g6 => ?_) (fun g6 => ?_)
  · have h := (if_pos g6).symm.trans h
    refine r_aload_n hX dX3_canStay_39 rfl ?_
    refine r_getf (v := .ref 73) hX dX3_canStay_40 fl_3_12 rfl (by decide) (by decide) rfl ?_
    refine r_iload_n hX dX3_canStay_43 rfl ?_
    refine r_aload_n hX dX3_canStay_44 rfl ?_
    refine r_getf (v := .ref 54) hX dX3_canStay_45 fl_3_37 rfl (by decide) (by decide) rfl ?_
    refine r_getf (v := .ref 66) hX dX3_canStay_48 fl_3_97 rfl (by decide) (by decide) rfl ?_
    refine r_iload_n hX dX3_canStay_51 rfl ?_
    obtain ⟨k7, h⟩ := grd_s h
    refine r_iald hX dX3_canStay_52 rfl (by decide) (inb_at rfl k7) ?_
    refine r_aload_n hX dX3_canStay_53 rfl ?_
    refine r_getf (v := .ref 54) hX dX3_canStay_54 fl_3_37 rfl (by decide) (by decide) rfl ?_
    refine r_getf (v := .ref 67) hX dX3_canStay_57 fl_3_99 rfl (by decide) (by decide) rfl ?_
    refine r_iload_n hX dX3_canStay_60 rfl ?_
    obtain ⟨k8, h⟩ := grd_s h
    refine r_iald hX dX3_canStay_61 rfl (by decide) (inb_at rfl k8) ?_
    refine r_aload_n hX dX3_canStay_62 rfl ?_
    refine r_getf (v := .ref 54) hX dX3_canStay_63 fl_3_37 rfl (by decide) (by decide) rfl ?_
    refine r_getf (v := .ref 68) hX dX3_canStay_66 fl_3_101 rfl (by decide) (by decide) rfl ?_
    refine r_iload_n hX dX3_canStay_69 rfl ?_
    obtain ⟨k9, h⟩ := grd_s h
    refine r_iald hX dX3_canStay_70 rfl (by decide) (inb_at rfl k9) ?_
    obtain ⟨z10, p11, h⟩ := bnd_s h
    refine r_callV (As := [.int v1, .int (M.1 66 (tn v1)), .int (M.1 67 (tn v1)), .int (M.1 68 (tn v1))]) hX dX3_canStay_71 mk_St_put mi_St_put ml_3_93 rfl rfl rfl rfl (by decide) (by decide) (Nat.le_of_ble_eq_true rfl) hr (ok_St_put (d := d + 0) n 73 v1 (M.1 66 (tn v1)) (M.1 67 (tn v1)) (M.1 68 (tn v1)) M st73 p11) ?_
    refine r_iconst (v := (1 : Int32)) hX dX3_canStay_74 (by decide) ?_
    obtain rfl := Option.some.inj h
    exact r_iret (v := b2i true) hX hT dX3_canStay_75 (okI_b true).1
  · have h := (if_neg g6).symm.trans h
    refine r_iconst (v := (0 : Int32)) hX dX3_canStay_37 (by decide) ?_
    obtain rfl := Option.some.inj h
    exact r_iret (v := b2i false) hX hT dX3_canStay_38 (okI_b false).1
def Rp_waitingFor_j69 (v2 : Int64) (v4 : Int32) : Option ((Int64 × Int32) ⊕ (Int64)) :=
  some (.inl (v2, v4 + (1 : Int32)))
def Rp_waitingFor_b5 (c1 : Int32) (Mc : Mm) (v2 : Int64) (v4 : Int32) : Option ((Int64 × Int32) ⊕ (Int64)) :=
  if (Mc.1 54 4) ≤ v4 then
    some (.inr v2)
  else
    if v4 = c1 then
      Rp_waitingFor_j69 v2 v4
    else
      grd (inb c1 40) (
      grd (inb c1 40) (
      grd (inb c1 40) (
      bnd (St_clashes 54 v4 (Mc.1 85 (tn c1)) (Mc.1 86 (tn c1)) (Mc.1 87 (tn c1)) Mc) (fun z6 =>
      if z6 = true then
        Rp_waitingFor_j69 (v2 ||| (lshl (1 : Int64) v4)) v4
      else
        Rp_waitingFor_j69 v2 v4))))
def Rp_waitingFor (n : Nat) (v1 : Int32) (M : Mm) : Option (Int64) :=
  bnd (loop (fun s1 : Int64 × Int32 => Rp_waitingFor_b5 v1 M s1.1 s1.2) n ((0 : Int64), (0 : Int32))) (fun y9 =>
  some y9)
set_option maxRecDepth 100000 in
theorem ok_Rp_waitingFor_j69 (n : Nat) (v2 : Int64) (v4 : Int32) {c1 : Int32} {Mc : Mm} {z : Int64} {oo : (Int64 × Int32) ⊕ (Int64)} {G : Gm} {X : Cx} {d : Nat}  (hX : XK G X 3 cX3_waitingFor 5 (d + 1)) (hT : XT X (some .long) "waitingFor") (hr : XR X SS) (hc : ∀ s1 : Int64 × Int32, oo = .inl s1 → WR G X (mQ G X (some (.long z)) Mc SS) 5 [.ref 72, .int c1, .long s1.1, vU, .int s1.2] [] Mc SS) (hx : ∀ x1 : Int64, oo = .inr x1 → WR G X (mQ G X (some (.long z)) Mc SS) 75 [.ref 72, vU, .long x1, vU, vU] [] Mc SS) (h : Rp_waitingFor_j69 v2 v4 = some oo) : WR G X (mQ G X (some (.long z)) Mc SS) 69 [.ref 72, .int c1, .long v2, vU, .int v4] [] Mc SS := by
  unfold Rp_waitingFor_j69 at h
  refine r_iinc (v := v4 + (1 : Int32)) (L1 := [.ref 72, .int c1, .long v2, vU, .int (v4 + (1 : Int32))]) hX dX3_waitingFor_69 rfl rfl rfl ?_
  refine r_goto (tgt := 5) hX dX3_waitingFor_72 (by decide) ?_
  exact hc (v2, v4 + (1 : Int32)) (Option.some.inj h).symm
set_option maxRecDepth 100000 in
theorem ok_Rp_waitingFor_b5 (n : Nat) (v2 : Int64) (v4 : Int32) {c1 : Int32} {Mc : Mm} {z : Int64} {oo : (Int64 × Int32) ⊕ (Int64)} {G : Gm} {X : Cx} {d : Nat}  (hX : XK G X 3 cX3_waitingFor 5 (d + 1)) (hT : XT X (some .long) "waitingFor") (hr : XR X SS) (hc : ∀ s1 : Int64 × Int32, oo = .inl s1 → WR G X (mQ G X (some (.long z)) Mc SS) 5 [.ref 72, .int c1, .long s1.1, vU, .int s1.2] [] Mc SS) (hx : ∀ x1 : Int64, oo = .inr x1 → WR G X (mQ G X (some (.long z)) Mc SS) 75 [.ref 72, vU, .long x1, vU, vU] [] Mc SS) (h : Rp_waitingFor_b5 c1 Mc v2 v4 = some oo) : WR G X (mQ G X (some (.long z)) Mc SS) 5 [.ref 72, .int c1, .long v2, vU, .int v4] [] Mc SS := by
  unfold Rp_waitingFor_b5 at h
  refine r_iload hX dX3_waitingFor_5 rfl ?_
  refine r_aload_n hX dX3_waitingFor_7 rfl ?_
  refine r_getf (v := .ref 54) hX dX3_waitingFor_8 fl_3_37 rfl (by decide) (by decide) rfl ?_
  refine r_getf (v := .int (Mc.1 54 4)) hX dX3_waitingFor_11 fl_3_51 rfl (by decide) (by decide) rfl ?_
  refine r_icmp_ge (tgt := 75) hX dX3_waitingFor_14 (by decide) (fun g1 => ?_) (fun g1 => ?_)
  · have h := (if_pos g1).symm.trans h
    refine WR.fg (L' := [.ref 72, vU, .long v2, vU, vU]) ⟨Or.inr rfl, Or.inl rfl, Or.inr rfl, Or.inl rfl, Or.inl rfl, trivial⟩ ?_
    exact hx _ (Option.some.inj h).symm
  · have h := (if_neg g1).symm.trans h
    refine r_iload hX dX3_waitingFor_17 rfl ?_
    refine r_iload_n hX dX3_waitingFor_19 rfl ?_
    refine r_icmp_eq (tgt := 69) hX dX3_waitingFor_20 (by decide) (fun g2 => ?_) (fun g2 => ?_)
    · have h := (if_pos g2).symm.trans h
      exact ok_Rp_waitingFor_j69 n v2 v4   hX hT hr hc hx h
    · have h := (if_neg g2).symm.trans h
      refine r_aload_n hX dX3_waitingFor_23 rfl ?_
      refine r_getf (v := .ref 54) hX dX3_waitingFor_24 fl_3_37 rfl (by decide) (by decide) rfl ?_
      refine r_iload hX dX3_waitingFor_27 rfl ?_
      refine r_aload_n hX dX3_waitingFor_29 rfl ?_
      refine r_getf (v := .ref 73) hX dX3_waitingFor_30 fl_3_12 rfl (by decide) (by decide) rfl ?_
      refine r_getf (v := .ref 85) hX dX3_waitingFor_33 fl_3_97 rfl (by decide) (by decide) rfl ?_
      refine r_iload_n hX dX3_waitingFor_36 rfl ?_
      obtain ⟨k3, h⟩ := grd_s h
      refine r_iald hX dX3_waitingFor_37 rfl (by decide) (inb_at rfl k3) ?_
      refine r_aload_n hX dX3_waitingFor_38 rfl ?_
      refine r_getf (v := .ref 73) hX dX3_waitingFor_39 fl_3_12 rfl (by decide) (by decide) rfl ?_
      refine r_getf (v := .ref 86) hX dX3_waitingFor_42 fl_3_99 rfl (by decide) (by decide) rfl ?_
      refine r_iload_n hX dX3_waitingFor_45 rfl ?_
      obtain ⟨k4, h⟩ := grd_s h
      refine r_iald hX dX3_waitingFor_46 rfl (by decide) (inb_at rfl k4) ?_
      refine r_aload_n hX dX3_waitingFor_47 rfl ?_
      refine r_getf (v := .ref 73) hX dX3_waitingFor_48 fl_3_12 rfl (by decide) (by decide) rfl ?_
      refine r_getf (v := .ref 87) hX dX3_waitingFor_51 fl_3_101 rfl (by decide) (by decide) rfl ?_
      refine r_iload_n hX dX3_waitingFor_54 rfl ?_
      obtain ⟨k5, h⟩ := grd_s h
      refine r_iald hX dX3_waitingFor_55 rfl (by decide) (inb_at rfl k5) ?_
      obtain ⟨z6, p7, h⟩ := bnd_s h
      refine r_callV (As := [.int v4, .int (Mc.1 85 (tn c1)), .int (Mc.1 86 (tn c1)), .int (Mc.1 87 (tn c1))]) hX dX3_waitingFor_56 mk_St_clashes mi_St_clashes ml_3_107 rfl rfl rfl rfl (by decide) (by decide) (Nat.le_of_ble_eq_true rfl) hr (ok_St_clashes (d := d + 0) 54 v4 (Mc.1 85 (tn c1)) (Mc.1 86 (tn c1)) (Mc.1 87 (tn c1)) Mc st54 p7) ?_
      refine r_ifb_eq (tgt := 69) hX dX3_waitingFor_59 (by decide) (fun g8 => ?_) (fun g8 => ?_)
      · have h := (if_neg (show ¬ z6 = true from fun e => by rw [g8] at e; cases e)).symm.trans h
        exact ok_Rp_waitingFor_j69 n v2 v4   hX hT hr hc hx h
      · have h := (if_pos g8).symm.trans h
        refine r_lload_n hX dX3_waitingFor_62 rfl ?_
        refine r_lconst (v := (1 : Int64)) hX dX3_waitingFor_63 (by decide) ?_
        refine r_iload hX dX3_waitingFor_64 rfl ?_
        refine r_lshl hX dX3_waitingFor_66 ?_
        refine r_lor hX dX3_waitingFor_67 ?_
        refine r_lstore_n (L1 := [.ref 72, .int c1, .long (v2 ||| (lshl (1 : Int64) v4)), vU, .int v4]) hX dX3_waitingFor_68 (Nat.le_of_ble_eq_true rfl) rfl ?_
        exact ok_Rp_waitingFor_j69 n (v2 ||| (lshl (1 : Int64) v4)) v4   hX hT hr hc hx h
set_option maxRecDepth 100000 in
theorem ok_Rp_waitingFor {G : Gm} {l : Launch} {d : Nat} (n : Nat) (v1 : Int32) (M : Mm) {z : Int64}  (h : Rp_waitingFor n v1 M = some z) : CK G l (d + 1) md_Rp_waitingFor [.ref 72, .int v1] M SS (some (.long z)) M SS := by
  refine ck_of mk_Rp_waitingFor (Nat.le_of_ble_eq_true rfl) ⟨Nat.le_refl _, Nat.le_refl _⟩ (fun X hX hT hS hr hl => ?_)
  subst hl
  unfold Rp_waitingFor at h
  show WR G X (mQ G X (some (.long z)) M SS) 0 [.ref 72, .int v1, vU, vU, vU] [] M SS
  refine r_lconst (v := (0 : Int64)) hX dX3_waitingFor_0 (by decide) ?_
  refine r_lstore_n (L1 := [.ref 72, .int v1, .long (0 : Int64), vU, vU]) hX dX3_waitingFor_1 (Nat.le_of_ble_eq_true rfl) rfl ?_
  refine r_iconst (v := (0 : Int32)) hX dX3_waitingFor_2 (by decide) ?_
  refine r_istore (L1 := [.ref 72, .int v1, .long (0 : Int64), vU, .int (0 : Int32)]) hX dX3_waitingFor_3 (Nat.le_of_ble_eq_true rfl) rfl ?_
  obtain ⟨y9, h1, h⟩ := bnd_s h
  refine loop_ok (P := fun s1 : Int64 × Int32 => WR G X (mQ G X (some (.long z)) M SS) 5 [.ref 72, .int v1, .long s1.1, vU, .int s1.2] [] M SS) (E := fun x1 : Int64 => WR G X (mQ G X (some (.long z)) M SS) 75 [.ref 72, vU, .long x1, vU, vU] [] M SS) (fun s1 o1 g1 g2 g3 => ok_Rp_waitingFor_b5 n s1.1 s1.2  hX hT hr g2 g3 g1) n ((0 : Int64), (0 : Int32)) y9 h1 ?_
  show WR G X (mQ G X (some (.long z)) M SS) 75 [.ref 72, vU, .long y9, vU, vU] [] M SS
  refine r_lload_n hX dX3_waitingFor_75 rfl ?_
  obtain rfl := Option.some.inj h
  exact r_lret hX hT dX3_waitingFor_76
def St_clearSlots_b2 (s : Nat) (v1 : Int32) (M : Mm) : Option ((Int32 × Mm) ⊕ (Mm)) :=
  if (14 : Int32) ≤ v1 then
    some (.inr M)
  else
    grd (inb v1 14) (
    some (.inl (v1 + (1 : Int32), (M.1, (up2 M.2 (s + 16) (tn v1) (0 : Int64))))))
def St_clearSlots (n : Nat) (s : Nat) (M : Mm) : Option (Mm) :=
  bnd (loop (fun s1 : Int32 × Mm => St_clearSlots_b2 s s1.1 s1.2) n ((0 : Int32), M)) (fun y3 =>
  some y3)
set_option maxRecDepth 100000 in
theorem ok_St_clearSlots_b2 (n : Nat) (s : Nat) (v1 : Int32) (M : Mm)  {z : Mm} {oo : (Int32 × Mm) ⊕ (Mm)} {G : Gm} {X : Cx} {d : Nat} (hs : isSt s) (hX : XK G X 4 cX4_clearSlots 2 (d + 0)) (hT : XT X (none) "clearSlots") (hr : XR X SS) (hc : ∀ s1 : Int32 × Mm, oo = .inl s1 → WR G X (mQ G X (none) z SS) 2 [.ref s, .int s1.1] [] s1.2 SS) (hx : ∀ x1 : Mm, oo = .inr x1 → WR G X (mQ G X (none) z SS) 21 [.ref s, vU] [] x1 SS) (h : St_clearSlots_b2 s v1 M = some oo) : WR G X (mQ G X (none) z SS) 2 [.ref s, .int v1] [] M SS := by
  unfold St_clearSlots_b2 at h
  refine r_iload_n hX dX4_clearSlots_2 rfl ?_
  refine r_bipush (v := (14 : Int32)) hX dX4_clearSlots_3 (by decide) ?_
  refine r_icmp_ge (tgt := 21) hX dX4_clearSlots_5 (by decide) (fun g1 => ?_) (fun g1 => ?_)
  · have h := (if_pos g1).symm.trans h
    refine WR.fg (L' := [.ref s, vU]) ⟨Or.inr rfl, Or.inl rfl, trivial⟩ ?_
    exact hx _ (Option.some.inj h).symm
  · have h := (if_neg g1).symm.trans h
    refine r_aload_n hX dX4_clearSlots_8 rfl ?_
    refine r_getf (v := .ref (s + 16)) hX dX4_clearSlots_9 fl_4_60 (kdS0 hs) (by decide) (ltS0 hs) (rfS14 hs) ?_
    refine r_iload_n hX dX4_clearSlots_12 rfl ?_
    refine r_lconst (v := (0 : Int64)) hX dX4_clearSlots_13 (by decide) ?_
    obtain ⟨k2, h⟩ := grd_s h
    refine r_last hX dX4_clearSlots_14 (kdS16 hs) (ltS16 hs) (inb_at (lnS16 hs) k2) ?_
    refine r_iinc (v := v1 + (1 : Int32)) (L1 := [.ref s, .int (v1 + (1 : Int32))]) hX dX4_clearSlots_15 rfl rfl rfl ?_
    refine r_goto (tgt := 2) hX dX4_clearSlots_18 (by decide) ?_
    exact hc (v1 + (1 : Int32), (M.1, (up2 M.2 (s + 16) (tn v1) (0 : Int64)))) (Option.some.inj h).symm
set_option maxRecDepth 100000 in
theorem ok_St_clearSlots {G : Gm} {l : Launch} {d : Nat} (n : Nat) (s : Nat) (M : Mm) {z : Mm} (hs : isSt s) (h : St_clearSlots n s M = some z) : CK G l (d + 0) md_St_clearSlots [.ref s] M SS (none) z SS := by
  refine ck_of mk_St_clearSlots (Nat.le_of_ble_eq_true rfl) ⟨Nat.le_refl _, Nat.le_refl _⟩ (fun X hX hT hS hr hl => ?_)
  subst hl
  unfold St_clearSlots at h
  show WR G X (mQ G X (none) z SS) 0 [.ref s, vU] [] M SS
  refine r_iconst (v := (0 : Int32)) hX dX4_clearSlots_0 (by decide) ?_
  refine r_istore_n (L1 := [.ref s, .int (0 : Int32)]) hX dX4_clearSlots_1 (Nat.le_of_ble_eq_true rfl) rfl ?_
  obtain ⟨y3, h1, h⟩ := bnd_s h
  refine loop_ok (P := fun s1 : Int32 × Mm => WR G X (mQ G X (none) z SS) 2 [.ref s, .int s1.1] [] s1.2 SS) (E := fun x1 : Mm => WR G X (mQ G X (none) z SS) 21 [.ref s, vU] [] x1 SS) (fun s1 o1 g1 g2 g3 => ok_St_clearSlots_b2 n s s1.1 s1.2 hs hX hT hr g2 g3 g1) n ((0 : Int32), M) y3 h1 ?_
  show WR G X (mQ G X (none) z SS) 21 [.ref s, vU] [] y3 SS
  obtain rfl := Option.some.inj h
  exact r_vret hX hT dX4_clearSlots_21
def St_copy (s : Nat) (o : Nat) (M : Mm) : Option (Mm) :=
  bnd (Nt_copy (s + 1) (o + 1) M) (fun z1 =>
  some ((cpy2 (cpy2 (cpy2 (cpy2 (cpy2 (cpy2 (cpy2 (cpy2 (up2 (up2 (up2 (up2 z1.1 s 1 (z1.1 o 1)) s 2 ((up2 z1.1 s 1 (z1.1 o 1)) o 2)) s 3 ((up2 (up2 z1.1 s 1 (z1.1 o 1)) s 2 ((up2 z1.1 s 1 (z1.1 o 1)) o 2)) o 3)) s 4 ((up2 (up2 (up2 z1.1 s 1 (z1.1 o 1)) s 2 ((up2 z1.1 s 1 (z1.1 o 1)) o 2)) s 3 ((up2 (up2 z1.1 s 1 (z1.1 o 1)) s 2 ((up2 z1.1 s 1 (z1.1 o 1)) o 2)) o 3)) o 4)) (o + 7) (s + 7) (tn (0 : Int32)) (tn (0 : Int32)) (tn (40 : Int32))) (o + 8) (s + 8) (tn (0 : Int32)) (tn (0 : Int32)) (tn (40 : Int32))) (o + 9) (s + 9) (tn (0 : Int32)) (tn (0 : Int32)) (tn (40 : Int32))) (o + 10) (s + 10) (tn (0 : Int32)) (tn (0 : Int32)) (tn (40 : Int32))) (o + 11) (s + 11) (tn (0 : Int32)) (tn (0 : Int32)) (tn (40 : Int32))) (o + 12) (s + 12) (tn (0 : Int32)) (tn (0 : Int32)) (tn (40 : Int32))) (o + 13) (s + 13) (tn (0 : Int32)) (tn (0 : Int32)) (tn (40 : Int32))) (o + 14) (s + 14) (tn (0 : Int32)) (tn (0 : Int32)) (tn (40 : Int32))), (cpy2 (cpy2 z1.2 (o + 15) (s + 15) (tn (0 : Int32)) (tn (0 : Int32)) (tn (40 : Int32))) (o + 16) (s + 16) (tn (0 : Int32)) (tn (0 : Int32)) (tn (14 : Int32)))))
set_option maxRecDepth 100000 in
theorem ok_St_copy {G : Gm} {l : Launch} {d : Nat} (s : Nat) (o : Nat) (M : Mm) {z : Mm} (hs : isSt s) (ho : isSt o) (h : St_copy s o M = some z) : CK G l (d + 1) md_St_copy [.ref s, .ref o] M SS (none) z SS := by
  refine ck_of mk_St_copy (Nat.le_of_ble_eq_true rfl) ⟨Nat.le_refl _, Nat.le_refl _⟩ (fun X hX hT hS hr hl => ?_)
  subst hl
  unfold St_copy at h
  show WR G X (mQ G X (none) z SS) 0 [.ref s, .ref o] [] M SS
  refine r_aload_n hX dX4_copy_0 rfl ?_
  refine r_getf (v := .ref (s + 1)) hX dX4_copy_1 fl_4_12 (kdS0 hs) (by decide) (ltS0 hs) (rfS0 hs) ?_
  refine r_aload_n hX dX4_copy_4 rfl ?_
  refine r_getf (v := .ref (o + 1)) hX dX4_copy_5 fl_4_12 (kdS0 ho) (by decide) (ltS0 ho) (rfS0 ho) ?_
  obtain ⟨z1, p2, h⟩ := bnd_s h
  refine r_callV (As := [.ref (o + 1)]) hX dX4_copy_8 mk_Nt_copy mi_Nt_copy ml_4_66 rfl rfl rfl (kdS1 hs) (by decide) (ltS1 hs) (Nat.le_of_ble_eq_true rfl) hr (ok_Nt_copy (d := d + 0) (s + 1) (o + 1) M (nt_st hs) (nt_st ho) p2) ?_
  refine r_aload_n hX dX4_copy_11 rfl ?_
  refine r_aload_n hX dX4_copy_12 rfl ?_
  refine r_getf (v := .int (z1.1 o 1)) hX dX4_copy_13 fl_4_18 (kdS0 ho) (by decide) (ltS0 ho) rfl ?_
  refine r_putI hX dX4_copy_16 fl_4_18 (kdS0 hs) (by decide) (ltS0 hs) (okI_int _) ?_
  refine r_aload_n hX dX4_copy_19 rfl ?_
  refine r_aload_n hX dX4_copy_20 rfl ?_
  refine r_getf (v := .int ((up2 z1.1 s 1 (z1.1 o 1)) o 2)) hX dX4_copy_21 fl_4_22 (kdS0 ho) (by decide) (ltS0 ho) rfl ?_
  refine r_putI' hX dX4_copy_24 fl_4_22 (kdS0 hs) (by decide) (ltS0 hs) (okI_int _) ?_
  refine r_aload_n hX dX4_copy_27 rfl ?_
  refine r_aload_n hX dX4_copy_28 rfl ?_
  refine r_getf (v := .int ((up2 (up2 z1.1 s 1 (z1.1 o 1)) s 2 ((up2 z1.1 s 1 (z1.1 o 1)) o 2)) o 3)) hX dX4_copy_29 fl_4_25 (kdS0 ho) (by decide) (ltS0 ho) rfl ?_
  refine r_putI' hX dX4_copy_32 fl_4_25 (kdS0 hs) (by decide) (ltS0 hs) (okI_int _) ?_
  refine r_aload_n hX dX4_copy_35 rfl ?_
  refine r_aload_n hX dX4_copy_36 rfl ?_
  refine r_getf (v := .int ((up2 (up2 (up2 z1.1 s 1 (z1.1 o 1)) s 2 ((up2 z1.1 s 1 (z1.1 o 1)) o 2)) s 3 ((up2 (up2 z1.1 s 1 (z1.1 o 1)) s 2 ((up2 z1.1 s 1 (z1.1 o 1)) o 2)) o 3)) o 4)) hX dX4_copy_37 fl_4_28 (kdS0 ho) (by decide) (ltS0 ho) rfl ?_
  refine r_putI' hX dX4_copy_40 fl_4_28 (kdS0 hs) (by decide) (ltS0 hs) (okI_int _) ?_
  refine r_aload_n hX dX4_copy_43 rfl ?_
  refine r_getf (v := .ref (o + 7)) hX dX4_copy_44 fl_4_31 (kdS0 ho) (by decide) (ltS0 ho) (rfS5 ho) ?_
  refine r_iconst (v := (0 : Int32)) hX dX4_copy_47 (by decide) ?_
  refine r_aload_n hX dX4_copy_48 rfl ?_
  refine r_getf (v := .ref (s + 7)) hX dX4_copy_49 fl_4_31 (kdS0 hs) (by decide) (ltS0 hs) (rfS5 hs) ?_
  refine r_iconst (v := (0 : Int32)) hX dX4_copy_52 (by decide) ?_
  refine r_bipush (v := (40 : Int32)) hX dX4_copy_53 (by decide) ?_
  refine r_copyi' hX dX4_copy_55 ml_4_78 rfl (Nat.le_of_ble_eq_true rfl) (kdS7 ho) (ltS7 ho) (kdS7 hs) (ltS7 hs) (by decide) (by rw [(lnS7 ho)]; decide) (by rw [(lnS7 hs)]; decide) ?_
  refine r_aload_n hX dX4_copy_58 rfl ?_
  refine r_getf (v := .ref (o + 8)) hX dX4_copy_59 fl_4_35 (kdS0 ho) (by decide) (ltS0 ho) (rfS6 ho) ?_
  refine r_iconst (v := (0 : Int32)) hX dX4_copy_62 (by decide) ?_
  refine r_aload_n hX dX4_copy_63 rfl ?_
  refine r_getf (v := .ref (s + 8)) hX dX4_copy_64 fl_4_35 (kdS0 hs) (by decide) (ltS0 hs) (rfS6 hs) ?_
  refine r_iconst (v := (0 : Int32)) hX dX4_copy_67 (by decide) ?_
  refine r_bipush (v := (40 : Int32)) hX dX4_copy_68 (by decide) ?_
  refine r_copyi' hX dX4_copy_70 ml_4_78 rfl (Nat.le_of_ble_eq_true rfl) (kdS8 ho) (ltS8 ho) (kdS8 hs) (ltS8 hs) (by decide) (by rw [(lnS8 ho)]; decide) (by rw [(lnS8 hs)]; decide) ?_
  refine r_aload_n hX dX4_copy_73 rfl ?_
  refine r_getf (v := .ref (o + 9)) hX dX4_copy_74 fl_4_38 (kdS0 ho) (by decide) (ltS0 ho) (rfS7 ho) ?_
  refine r_iconst (v := (0 : Int32)) hX dX4_copy_77 (by decide) ?_
  refine r_aload_n hX dX4_copy_78 rfl ?_
  refine r_getf (v := .ref (s + 9)) hX dX4_copy_79 fl_4_38 (kdS0 hs) (by decide) (ltS0 hs) (rfS7 hs) ?_
  refine r_iconst (v := (0 : Int32)) hX dX4_copy_82 (by decide) ?_
  refine r_bipush (v := (40 : Int32)) hX dX4_copy_83 (by decide) ?_
  refine r_copyi' hX dX4_copy_85 ml_4_78 rfl (Nat.le_of_ble_eq_true rfl) (kdS9 ho) (ltS9 ho) (kdS9 hs) (ltS9 hs) (by decide) (by rw [(lnS9 ho)]; decide) (by rw [(lnS9 hs)]; decide) ?_
  refine r_aload_n hX dX4_copy_88 rfl ?_
  refine r_getf (v := .ref (o + 10)) hX dX4_copy_89 fl_4_41 (kdS0 ho) (by decide) (ltS0 ho) (rfS8 ho) ?_
  refine r_iconst (v := (0 : Int32)) hX dX4_copy_92 (by decide) ?_
  refine r_aload_n hX dX4_copy_93 rfl ?_
  refine r_getf (v := .ref (s + 10)) hX dX4_copy_94 fl_4_41 (kdS0 hs) (by decide) (ltS0 hs) (rfS8 hs) ?_
  refine r_iconst (v := (0 : Int32)) hX dX4_copy_97 (by decide) ?_
  refine r_bipush (v := (40 : Int32)) hX dX4_copy_98 (by decide) ?_
  refine r_copyi' hX dX4_copy_100 ml_4_78 rfl (Nat.le_of_ble_eq_true rfl) (kdS10 ho) (ltS10 ho) (kdS10 hs) (ltS10 hs) (by decide) (by rw [(lnS10 ho)]; decide) (by rw [(lnS10 hs)]; decide) ?_
  refine r_aload_n hX dX4_copy_103 rfl ?_
  refine r_getf (v := .ref (o + 11)) hX dX4_copy_104 fl_4_44 (kdS0 ho) (by decide) (ltS0 ho) (rfS9 ho) ?_
  refine r_iconst (v := (0 : Int32)) hX dX4_copy_107 (by decide) ?_
  refine r_aload_n hX dX4_copy_108 rfl ?_
  refine r_getf (v := .ref (s + 11)) hX dX4_copy_109 fl_4_44 (kdS0 hs) (by decide) (ltS0 hs) (rfS9 hs) ?_
  refine r_iconst (v := (0 : Int32)) hX dX4_copy_112 (by decide) ?_
  refine r_bipush (v := (40 : Int32)) hX dX4_copy_113 (by decide) ?_
  refine r_copyi' hX dX4_copy_115 ml_4_78 rfl (Nat.le_of_ble_eq_true rfl) (kdS11 ho) (ltS11 ho) (kdS11 hs) (ltS11 hs) (by decide) (by rw [(lnS11 ho)]; decide) (by rw [(lnS11 hs)]; decide) ?_
  refine r_aload_n hX dX4_copy_118 rfl ?_
  refine r_getf (v := .ref (o + 12)) hX dX4_copy_119 fl_4_47 (kdS0 ho) (by decide) (ltS0 ho) (rfS10 ho) ?_
  refine r_iconst (v := (0 : Int32)) hX dX4_copy_122 (by decide) ?_
  refine r_aload_n hX dX4_copy_123 rfl ?_
  refine r_getf (v := .ref (s + 12)) hX dX4_copy_124 fl_4_47 (kdS0 hs) (by decide) (ltS0 hs) (rfS10 hs) ?_
  refine r_iconst (v := (0 : Int32)) hX dX4_copy_127 (by decide) ?_
  refine r_bipush (v := (40 : Int32)) hX dX4_copy_128 (by decide) ?_
  refine r_copyi' hX dX4_copy_130 ml_4_78 rfl (Nat.le_of_ble_eq_true rfl) (kdS12 ho) (ltS12 ho) (kdS12 hs) (ltS12 hs) (by decide) (by rw [(lnS12 ho)]; decide) (by rw [(lnS12 hs)]; decide) ?_
  refine r_aload_n hX dX4_copy_133 rfl ?_
  refine r_getf (v := .ref (o + 13)) hX dX4_copy_134 fl_4_50 (kdS0 ho) (by decide) (ltS0 ho) (rfS11 ho) ?_
  refine r_iconst (v := (0 : Int32)) hX dX4_copy_137 (by decide) ?_
  refine r_aload_n hX dX4_copy_138 rfl ?_
  refine r_getf (v := .ref (s + 13)) hX dX4_copy_139 fl_4_50 (kdS0 hs) (by decide) (ltS0 hs) (rfS11 hs) ?_
  refine r_iconst (v := (0 : Int32)) hX dX4_copy_142 (by decide) ?_
  refine r_bipush (v := (40 : Int32)) hX dX4_copy_143 (by decide) ?_
  refine r_copyi' hX dX4_copy_145 ml_4_78 rfl (Nat.le_of_ble_eq_true rfl) (kdS13 ho) (ltS13 ho) (kdS13 hs) (ltS13 hs) (by decide) (by rw [(lnS13 ho)]; decide) (by rw [(lnS13 hs)]; decide) ?_
  refine r_aload_n hX dX4_copy_148 rfl ?_
  refine r_getf (v := .ref (o + 14)) hX dX4_copy_149 fl_4_53 (kdS0 ho) (by decide) (ltS0 ho) (rfS12 ho) ?_
  refine r_iconst (v := (0 : Int32)) hX dX4_copy_152 (by decide) ?_
  refine r_aload_n hX dX4_copy_153 rfl ?_
  refine r_getf (v := .ref (s + 14)) hX dX4_copy_154 fl_4_53 (kdS0 hs) (by decide) (ltS0 hs) (rfS12 hs) ?_
  refine r_iconst (v := (0 : Int32)) hX dX4_copy_157 (by decide) ?_
  refine r_bipush (v := (40 : Int32)) hX dX4_copy_158 (by decide) ?_
  refine r_copyi' hX dX4_copy_160 ml_4_78 rfl (Nat.le_of_ble_eq_true rfl) (kdS14 ho) (ltS14 ho) (kdS14 hs) (ltS14 hs) (by decide) (by rw [(lnS14 ho)]; decide) (by rw [(lnS14 hs)]; decide) ?_
  refine r_aload_n hX dX4_copy_163 rfl ?_
  refine r_getf (v := .ref (o + 15)) hX dX4_copy_164 fl_4_56 (kdS0 ho) (by decide) (ltS0 ho) (rfS13 ho) ?_
  refine r_iconst (v := (0 : Int32)) hX dX4_copy_167 (by decide) ?_
  refine r_aload_n hX dX4_copy_168 rfl ?_
  refine r_getf (v := .ref (s + 15)) hX dX4_copy_169 fl_4_56 (kdS0 hs) (by decide) (ltS0 hs) (rfS13 hs) ?_
  refine r_iconst (v := (0 : Int32)) hX dX4_copy_172 (by decide) ?_
  refine r_bipush (v := (40 : Int32)) hX dX4_copy_173 (by decide) ?_
  refine r_copyl' hX dX4_copy_175 ml_4_78 rfl (Nat.le_of_ble_eq_true rfl) (kdS15 ho) (ltS15 ho) (kdS15 hs) (ltS15 hs) (by decide) (by rw [(lnS15 ho)]; decide) (by rw [(lnS15 hs)]; decide) ?_
  refine r_aload_n hX dX4_copy_178 rfl ?_
  refine r_getf (v := .ref (o + 16)) hX dX4_copy_179 fl_4_60 (kdS0 ho) (by decide) (ltS0 ho) (rfS14 ho) ?_
  refine r_iconst (v := (0 : Int32)) hX dX4_copy_182 (by decide) ?_
  refine r_aload_n hX dX4_copy_183 rfl ?_
  refine r_getf (v := .ref (s + 16)) hX dX4_copy_184 fl_4_60 (kdS0 hs) (by decide) (ltS0 hs) (rfS14 hs) ?_
  refine r_iconst (v := (0 : Int32)) hX dX4_copy_187 (by decide) ?_
  refine r_bipush (v := (14 : Int32)) hX dX4_copy_188 (by decide) ?_
  refine r_copyl' hX dX4_copy_190 ml_4_78 rfl (Nat.le_of_ble_eq_true rfl) (kdS16 ho) (ltS16 ho) (kdS16 hs) (ltS16 hs) (by decide) (by rw [(lnS16 ho)]; decide) (by rw [(lnS16 hs)]; decide) ?_
  obtain rfl := Option.some.inj h
  exact r_vret hX hT dX4_copy_193
def Rp_lay_b25 (v3 : Int32) (M : Mm) : Option ((Int32 × Mm) ⊕ (Mm)) :=
  if (M.1 54 4) ≤ v3 then
    some (.inr M)
  else
    grd (inb v3 40) (
    some (.inl (v3 + (1 : Int32), ((up2 M.1 83 (tn v3) (3 : Int32)), M.2))))
def Rp_lay_j142 (v3 : Int32) (M : Mm) : Option ((Int32 × Mm) ⊕ ((Mm) ⊕ (Bool × Mm))) :=
  some (.inl (v3 + (1 : Int32), M))
def Rp_lay_b59 (n : Nat) (c2 : Int32) (v3 : Int32) (M : Mm) : Option ((Int32 × Mm) ⊕ ((Mm) ⊕ (Bool × Mm))) :=
  if (M.1 54 4) ≤ v3 then
    some (.inr (.inl M))
  else
    grd (inb v3 40) (
    if (M.1 64 (tn v3)) = (0 : Int32) then
      grd (inb v3 40) (
      grd (inb v3 40) (
      grd (inb v3 40) (
      bnd (Fi_find n 73 (M.1 61 (tn v3)) (M.1 62 (tn v3)) (M.1 63 (tn v3)) c2 M) (fun z16 =>
      if z16.1 = true then
        bnd (Rp_aim n v3 z16.2) (fun z22 =>
        Rp_lay_j142 v3 z22)
      else
        bnd (Rp_canStay n v3 z16.2) (fun z19 =>
        if z19.1 = true then
          Rp_lay_j142 v3 z19.2
        else
          some (.inr (.inr (false, z19.2))))))))
    else
      Rp_lay_j142 v3 M)
def Rp_lay_j198 (v3 : Int32) (w0 : Int64) (w1 : Int32) (M : Mm) : Option ((Int32 × Mm) ⊕ (Mm)) :=
  grd (inb w1 40) (
  some (.inl (v3 + (1 : Int32), (M.1, (up2 M.2 91 (tn w1) w0)))))
def Rp_lay_b160 (n : Nat) (v3 : Int32) (M : Mm) : Option ((Int32 × Mm) ⊕ (Mm)) :=
  if (M.1 54 4) ≤ v3 then
    some (.inr M)
  else
    if ((lushr (M.2 72 3) v3) &&& (1 : Int64)) = (0 : Int64) then
      Rp_lay_j198 v3 (0 : Int64) v3 M
    else
      bnd (Rp_waitingFor n v3 M) (fun z30 =>
      Rp_lay_j198 v3 z30 v3 M)
def Rp_lay (n : Nat) (o : Nat) (v2 : Int32) (M : Mm) : Option (Bool × Mm) :=
  bnd (St_copy 54 o M) (fun z1 =>
  bnd (St_copy 73 o z1) (fun z3 =>
  bnd (St_clearSlots n 73 z3) (fun z5 =>
  bnd (loop (fun s1 : Int32 × Mm => Rp_lay_b25 s1.1 s1.2) n ((0 : Int32), z5)) (fun y9 =>
  bnd (loop (fun s1 : Int32 × Mm => Rp_lay_b59 n v2 s1.1 s1.2) n ((0 : Int32), (y9.1, (up2 y9.2 72 3 (0 : Int64))))) (fun y24 =>
  elS y24 (fun x25 =>
    bnd (loop (fun s1 : Int32 × Mm => Rp_lay_b160 n s1.1 s1.2) n ((0 : Int32), ((up2 x25.1 72 7 (0 : Int32)), (up2 x25.2 72 4 (0 : Int64))))) (fun y32 =>
    some (true, y32)))
    (fun e26 => some e26))))))
set_option maxRecDepth 100000 in
theorem ok_Rp_lay_b25 (n : Nat) (o : Nat) (v3 : Int32) (M : Mm) {c2 : Int32} {z : Bool × Mm} {oo : (Int32 × Mm) ⊕ (Mm)} {G : Gm} {X : Cx} {d : Nat} (ho : isSt o) (hX : XK G X 3 cX3_lay 4 (d + 13)) (hT : XT X (some .boolean) "lay") (hr : XR X SS) (hc : ∀ s1 : Int32 × Mm, oo = .inl s1 → WR G X (mQ G X (some (.int (b2i z.1))) z.2 SS) 25 [.ref 72, vU, .int c2, .int s1.1] [] s1.2 SS) (hx : ∀ x1 : Mm, oo = .inr x1 → WR G X (mQ G X (some (.int (b2i z.1))) z.2 SS) 52 [.ref 72, vU, .int c2, vU] [] x1 SS) (h : Rp_lay_b25 v3 M = some oo) : WR G X (mQ G X (some (.int (b2i z.1))) z.2 SS) 25 [.ref 72, vU, .int c2, .int v3] [] M SS := by
  unfold Rp_lay_b25 at h
  refine r_iload_n hX dX3_lay_25 rfl ?_
  refine r_aload_n hX dX3_lay_26 rfl ?_
  refine r_getf (v := .ref 54) hX dX3_lay_27 fl_3_37 rfl (by decide) (by decide) rfl ?_
  refine r_getf (v := .int (M.1 54 4)) hX dX3_lay_30 fl_3_51 rfl (by decide) (by decide) rfl ?_
  refine r_icmp_ge (tgt := 52) hX dX3_lay_33 (by decide) (fun g7 => ?_) (fun g7 => ?_)
  · have h := (if_pos g7).symm.trans h
    refine WR.fg (L' := [.ref 72, vU, .int c2, vU]) ⟨Or.inr rfl, Or.inl rfl, Or.inr rfl, Or.inl rfl, trivial⟩ ?_
    exact hx _ (Option.some.inj h).symm
  · have h := (if_neg g7).symm.trans h
    refine r_aload_n hX dX3_lay_36 rfl ?_
    refine r_getf (v := .ref 73) hX dX3_lay_37 fl_3_12 rfl (by decide) (by decide) rfl ?_
    refine r_getf (v := .ref 83) hX dX3_lay_40 fl_3_54 rfl (by decide) (by decide) rfl ?_
    refine r_iload_n hX dX3_lay_43 rfl ?_
    refine r_iconst (v := (3 : Int32)) hX dX3_lay_44 (by decide) ?_
    obtain ⟨k8, h⟩ := grd_s h
    refine r_iast hX dX3_lay_45 rfl (by decide) (inb_at rfl k8) ?_
    refine r_iinc (v := v3 + (1 : Int32)) (L1 := [.ref 72, vU, .int c2, .int (v3 + (1 : Int32))]) hX dX3_lay_46 rfl rfl rfl ?_
    refine r_goto (tgt := 25) hX dX3_lay_49 (by decide) ?_
    exact hc (v3 + (1 : Int32), ((up2 M.1 83 (tn v3) (3 : Int32)), M.2)) (Option.some.inj h).symm
set_option maxRecDepth 100000 in
theorem ok_Rp_lay_j142 (n : Nat) (o : Nat) (v3 : Int32) (M : Mm) {c2 : Int32} {z : Bool × Mm} {oo : (Int32 × Mm) ⊕ ((Mm) ⊕ (Bool × Mm))} {G : Gm} {X : Cx} {d : Nat} (ho : isSt o) (hX : XK G X 3 cX3_lay 4 (d + 13)) (hT : XT X (some .boolean) "lay") (hr : XR X SS) (hc : ∀ s1 : Int32 × Mm, oo = .inl s1 → WR G X (mQ G X (some (.int (b2i z.1))) z.2 SS) 59 [.ref 72, vU, .int c2, .int s1.1] [] s1.2 SS) (hx : ∀ x1 : (Mm) ⊕ (Bool × Mm), oo = .inr x1 → elS x1 (fun x2 => WR G X (mQ G X (some (.int (b2i z.1))) z.2 SS) 148 [.ref 72, vU, vU, vU] [] x2 SS) (fun y1 => y1 = z)) (h : Rp_lay_j142 v3 M = some oo) : WR G X (mQ G X (some (.int (b2i z.1))) z.2 SS) 142 [.ref 72, vU, .int c2, .int v3] [] M SS := by
  unfold Rp_lay_j142 at h
  refine r_iinc (v := v3 + (1 : Int32)) (L1 := [.ref 72, vU, .int c2, .int (v3 + (1 : Int32))]) hX dX3_lay_142 rfl rfl rfl ?_
  refine r_goto (tgt := 59) hX dX3_lay_145 (by decide) ?_
  exact hc (v3 + (1 : Int32), M) (Option.some.inj h).symm
set_option maxRecDepth 100000 in
theorem ok_Rp_lay_b59 (n : Nat) (o : Nat) (v3 : Int32) (M : Mm) {c2 : Int32} {z : Bool × Mm} {oo : (Int32 × Mm) ⊕ ((Mm) ⊕ (Bool × Mm))} {G : Gm} {X : Cx} {d : Nat} (ho : isSt o) (hX : XK G X 3 cX3_lay 4 (d + 13)) (hT : XT X (some .boolean) "lay") (hr : XR X SS) (hc : ∀ s1 : Int32 × Mm, oo = .inl s1 → WR G X (mQ G X (some (.int (b2i z.1))) z.2 SS) 59 [.ref 72, vU, .int c2, .int s1.1] [] s1.2 SS) (hx : ∀ x1 : (Mm) ⊕ (Bool × Mm), oo = .inr x1 → elS x1 (fun x2 => WR G X (mQ G X (some (.int (b2i z.1))) z.2 SS) 148 [.ref 72, vU, vU, vU] [] x2 SS) (fun y1 => y1 = z)) (h : Rp_lay_b59 n c2 v3 M = some oo) : WR G X (mQ G X (some (.int (b2i z.1))) z.2 SS) 59 [.ref 72, vU, .int c2, .int v3] [] M SS := by
  unfold Rp_lay_b59 at h
  refine r_iload_n hX dX3_lay_59 rfl ?_
  refine r_aload_n hX dX3_lay_60 rfl ?_
  refine r_getf (v := .ref 54) hX dX3_lay_61 fl_3_37 rfl (by decide) (by decide) rfl ?_
  refine r_getf (v := .int (M.1 54 4)) hX dX3_lay_64 fl_3_51 rfl (by decide) (by decide) rfl ?_
  refine r_icmp_ge (tgt := 148) hX dX3_lay_67 (by decide) (fun g10 => ?_) (fun g10 => ?_)
  · have h := (if_pos g10).symm.trans h
    refine WR.fg (L' := [.ref 72, vU, vU, vU]) ⟨Or.inr rfl, Or.inl rfl, Or.inl rfl, Or.inl rfl, trivial⟩ ?_
    exact hx _ (Option.some.inj h).symm
  · have h := (if_neg g10).symm.trans h
    refine r_aload_n hX dX3_lay_70 rfl ?_
    refine r_getf (v := .ref 54) hX dX3_lay_71 fl_3_37 rfl (by decide) (by decide) rfl ?_
    refine r_getf (v := .ref 64) hX dX3_lay_74 fl_3_54 rfl (by decide) (by decide) rfl ?_
    refine r_iload_n hX dX3_lay_77 rfl ?_
    obtain ⟨k11, h⟩ := grd_s h
    refine r_iald hX dX3_lay_78 rfl (by decide) (inb_at rfl k11) ?_
    refine r_if_ne (tgt := 142) hX dX3_lay_79 (by decide) (fun g12 => ?_) (fun g12 => ?_)
    · have h := (if_neg g12).symm.trans h
      exact ok_Rp_lay_j142 n o v3 M  ho hX hT hr hc hx h
    · have h := (if_pos g12).symm.trans h
      refine r_aload_n hX dX3_lay_82 rfl ?_
      refine r_getf (v := .ref 12) hX dX3_lay_83 fl_3_40 rfl (by decide) (by decide) rfl ?_
      refine r_aload_n hX dX3_lay_86 rfl ?_
      refine r_getf (v := .ref 73) hX dX3_lay_87 fl_3_12 rfl (by decide) (by decide) rfl ?_
      refine r_aload_n hX dX3_lay_90 rfl ?_
      refine r_getf (v := .ref 54) hX dX3_lay_91 fl_3_37 rfl (by decide) (by decide) rfl ?_
      refine r_getf (v := .ref 61) hX dX3_lay_94 fl_3_57 rfl (by decide) (by decide) rfl ?_
      refine r_iload_n hX dX3_lay_97 rfl ?_
      obtain ⟨k13, h⟩ := grd_s h
      refine r_iald hX dX3_lay_98 rfl (by decide) (inb_at rfl k13) ?_
      refine r_aload_n hX dX3_lay_99 rfl ?_
      refine r_getf (v := .ref 54) hX dX3_lay_100 fl_3_37 rfl (by decide) (by decide) rfl ?_
      refine r_getf (v := .ref 62) hX dX3_lay_103 fl_3_60 rfl (by decide) (by decide) rfl ?_
      refine r_iload_n hX dX3_lay_106 rfl ?_
      obtain ⟨k14, h⟩ := grd_s h
      refine r_iald hX dX3_lay_107 rfl (by decide) (inb_at rfl k14) ?_
      refine r_aload_n hX dX3_lay_108 rfl ?_
      refine r_getf (v := .ref 54) hX dX3_lay_109 fl_3_37 rfl (by decide) (by decide) rfl ?_
      refine r_getf (v := .ref 63) hX dX3_lay_112 fl_3_63 rfl (by decide) (by decide) rfl ?_
      refine r_iload_n hX dX3_lay_115 rfl ?_
      obtain ⟨k15, h⟩ := grd_s h
      refine r_iald hX dX3_lay_116 rfl (by decide) (inb_at rfl k15) ?_
      refine r_iload_n hX dX3_lay_117 rfl ?_
      obtain ⟨z16, p17, h⟩ := bnd_s h
      refine r_callV (As := [.ref 73, .int (M.1 61 (tn v3)), .int (M.1 62 (tn v3)), .int (M.1 63 (tn v3)), .int c2]) hX dX3_lay_118 mk_Fi_find mi_Fi_find ml_3_66 rfl rfl rfl rfl (by decide) (by decide) (Nat.le_of_ble_eq_true rfl) hr (ok_Fi_find (d := d + 0) n 73 (M.1 61 (tn v3)) (M.1 62 (tn v3)) (M.1 63 (tn v3)) c2 M st73 p17) ?_
      refine r_ifb_eq (tgt := 132) hX dX3_lay_121 (by decide) (fun g18 => ?_) (fun g18 => ?_)
      · have h := (if_neg (show ¬ z16.1 = true from fun e => by rw [g18] at e; cases e)).symm.trans h
        refine r_aload_n hX dX3_lay_132 rfl ?_
        refine r_iload_n hX dX3_lay_133 rfl ?_
        obtain ⟨z19, p20, h⟩ := bnd_s h
        refine r_callV (As := [.int v3]) hX dX3_lay_134 mk_Rp_canStay mi_Rp_canStay ml_3_76 rfl rfl rfl rfl (by decide) (by decide) (Nat.le_of_ble_eq_true rfl) hr (ok_Rp_canStay (d := d + 10) n v3 z16.2 p20) ?_
        refine r_ifb_ne (tgt := 142) hX dX3_lay_137 (by decide) (fun g21 => ?_) (fun g21 => ?_)
        · have h := (if_pos g21).symm.trans h
          exact ok_Rp_lay_j142 n o v3 z19.2  ho hX hT hr hc hx h
        · have h := (if_neg (show ¬ z19.1 = true from fun e => by rw [g21] at e; cases e)).symm.trans h
          refine r_iconst (v := (0 : Int32)) hX dX3_lay_140 (by decide) ?_
          obtain rfl := hx _ (Option.some.inj h).symm
          exact r_iret (v := b2i false) hX hT dX3_lay_141 (okI_b false).1
      · have h := (if_pos g18).symm.trans h
        refine r_aload_n hX dX3_lay_124 rfl ?_
        refine r_iload_n hX dX3_lay_125 rfl ?_
        obtain ⟨z22, p23, h⟩ := bnd_s h
        refine r_callV (As := [.int v3]) hX dX3_lay_126 mk_Rp_aim mi_Rp_aim ml_3_72 rfl rfl rfl rfl (by decide) (by decide) (Nat.le_of_ble_eq_true rfl) hr (ok_Rp_aim (d := d + 10) n v3 z16.2 p23) ?_
        refine r_goto (tgt := 142) hX dX3_lay_129 (by decide) ?_
        exact ok_Rp_lay_j142 n o v3 z22  ho hX hT hr hc hx h
set_option maxRecDepth 100000 in
theorem ok_Rp_lay_j198 (n : Nat) (o : Nat) (v3 : Int32) (w0 : Int64) (w1 : Int32) (M : Mm)  {z : Bool × Mm} {oo : (Int32 × Mm) ⊕ (Mm)} {G : Gm} {X : Cx} {d : Nat} (ho : isSt o) (hX : XK G X 3 cX3_lay 4 (d + 13)) (hT : XT X (some .boolean) "lay") (hr : XR X SS) (hc : ∀ s1 : Int32 × Mm, oo = .inl s1 → WR G X (mQ G X (some (.int (b2i z.1))) z.2 SS) 160 [.ref 72, vU, vU, .int s1.1] [] s1.2 SS) (hx : ∀ x1 : Mm, oo = .inr x1 → WR G X (mQ G X (some (.int (b2i z.1))) z.2 SS) 205 [.ref 72, vU, vU, vU] [] x1 SS) (h : Rp_lay_j198 v3 w0 w1 M = some oo) : WR G X (mQ G X (some (.int (b2i z.1))) z.2 SS) 198 [.ref 72, vU, vU, .int v3] [.long w0, .int w1, .ref 91] M SS := by
  unfold Rp_lay_j198 at h
  obtain ⟨k29, h⟩ := grd_s h
  refine r_last hX dX3_lay_198 rfl (by decide) (inb_at rfl k29) ?_
  refine r_iinc (v := v3 + (1 : Int32)) (L1 := [.ref 72, vU, vU, .int (v3 + (1 : Int32))]) hX dX3_lay_199 rfl rfl rfl ?_
  refine r_goto (tgt := 160) hX dX3_lay_202 (by decide) ?_
  exact hc (v3 + (1 : Int32), (M.1, (up2 M.2 91 (tn w1) w0))) (Option.some.inj h).symm
set_option maxRecDepth 100000 in
theorem ok_Rp_lay_b160 (n : Nat) (o : Nat) (v3 : Int32) (M : Mm)  {z : Bool × Mm} {oo : (Int32 × Mm) ⊕ (Mm)} {G : Gm} {X : Cx} {d : Nat} (ho : isSt o) (hX : XK G X 3 cX3_lay 4 (d + 13)) (hT : XT X (some .boolean) "lay") (hr : XR X SS) (hc : ∀ s1 : Int32 × Mm, oo = .inl s1 → WR G X (mQ G X (some (.int (b2i z.1))) z.2 SS) 160 [.ref 72, vU, vU, .int s1.1] [] s1.2 SS) (hx : ∀ x1 : Mm, oo = .inr x1 → WR G X (mQ G X (some (.int (b2i z.1))) z.2 SS) 205 [.ref 72, vU, vU, vU] [] x1 SS) (h : Rp_lay_b160 n v3 M = some oo) : WR G X (mQ G X (some (.int (b2i z.1))) z.2 SS) 160 [.ref 72, vU, vU, .int v3] [] M SS := by
  unfold Rp_lay_b160 at h
  refine r_iload_n hX dX3_lay_160 rfl ?_
  refine r_aload_n hX dX3_lay_161 rfl ?_
  refine r_getf (v := .ref 54) hX dX3_lay_162 fl_3_37 rfl (by decide) (by decide) rfl ?_
  refine r_getf (v := .int (M.1 54 4)) hX dX3_lay_165 fl_3_51 rfl (by decide) (by decide) rfl ?_
  refine r_icmp_ge (tgt := 205) hX dX3_lay_168 (by decide) (fun g27 => ?_) (fun g27 => ?_)
  · have h := (if_pos g27).symm.trans h
    refine WR.fg (L' := [.ref 72, vU, vU, vU]) ⟨Or.inr rfl, Or.inl rfl, Or.inl rfl, Or.inl rfl, trivial⟩ ?_
    exact hx _ (Option.some.inj h).symm
  · have h := (if_neg g27).symm.trans h
    refine r_aload_n hX dX3_lay_171 rfl ?_
    refine r_getf (v := .ref 91) hX dX3_lay_172 fl_3_25 rfl (by decide) (by decide) rfl ?_
    refine r_iload_n hX dX3_lay_175 rfl ?_
    refine r_aload_n hX dX3_lay_176 rfl ?_
    refine r_getf (v := .long (M.2 72 3)) hX dX3_lay_177 fl_3_18 rfl (by decide) (by decide) rfl ?_
    refine r_iload_n hX dX3_lay_180 rfl ?_
    refine r_lushr hX dX3_lay_181 ?_
    refine r_lconst (v := (1 : Int64)) hX dX3_lay_182 (by decide) ?_
    refine r_land hX dX3_lay_183 ?_
    refine r_lconst (v := (0 : Int64)) hX dX3_lay_184 (by decide) ?_
    refine r_lcmp_eq (tgt := 197) hX dX3_lay_185 dX3_lay_186 (by decide) (fun g28 => ?_) (fun g28 => ?_)
    · have h := (if_pos g28).symm.trans h
      refine r_lconst (v := (0 : Int64)) hX dX3_lay_197 (by decide) ?_
      exact ok_Rp_lay_j198 n o v3 (0 : Int64) v3 M  ho hX hT hr hc hx h
    · have h := (if_neg g28).symm.trans h
      refine r_aload_n hX dX3_lay_189 rfl ?_
      refine r_iload_n hX dX3_lay_190 rfl ?_
      obtain ⟨z30, p31, h⟩ := bnd_s h
      refine r_callV (As := [.int v3]) hX dX3_lay_191 mk_Rp_waitingFor mi_Rp_waitingFor ml_3_80 rfl rfl rfl rfl (by decide) (by decide) (Nat.le_of_ble_eq_true rfl) hr (ok_Rp_waitingFor (d := d + 11) n v3 M p31) ?_
      refine r_goto (tgt := 198) hX dX3_lay_194 (by decide) ?_
      exact ok_Rp_lay_j198 n o v3 z30 v3 M  ho hX hT hr hc hx h
set_option maxRecDepth 100000 in
theorem ok_Rp_lay {G : Gm} {l : Launch} {d : Nat} (n : Nat) (o : Nat) (v2 : Int32) (M : Mm) {z : Bool × Mm} (ho : isSt o) (h : Rp_lay n o v2 M = some z) : CK G l (d + 13) md_Rp_lay [.ref 72, .ref o, .int v2] M SS (some (.int (b2i z.1))) z.2 SS := by
  refine ck_of mk_Rp_lay (Nat.le_of_ble_eq_true rfl) ⟨Nat.le_refl _, Nat.le_refl _⟩ (fun X hX hT hS hr hl => ?_)
  subst hl
  unfold Rp_lay at h
  show WR G X (mQ G X (some (.int (b2i z.1))) z.2 SS) 0 [.ref 72, .ref o, .int v2, vU] [] M SS
  refine r_aload_n hX dX3_lay_0 rfl ?_
  refine r_getf (v := .ref 54) hX dX3_lay_1 fl_3_37 rfl (by decide) (by decide) rfl ?_
  refine r_aload_n hX dX3_lay_4 rfl ?_
  obtain ⟨z1, p2, h⟩ := bnd_s h
  refine r_callV (As := [.ref o]) hX dX3_lay_5 mk_St_copy mi_St_copy ml_3_44 rfl rfl rfl rfl (by decide) (by decide) (Nat.le_of_ble_eq_true rfl) hr (ok_St_copy (d := d + 11) 54 o M st54 ho p2) ?_
  refine r_aload_n hX dX3_lay_8 rfl ?_
  refine r_getf (v := .ref 73) hX dX3_lay_9 fl_3_12 rfl (by decide) (by decide) rfl ?_
  refine r_aload_n hX dX3_lay_12 rfl ?_
  obtain ⟨z3, p4, h⟩ := bnd_s h
  refine r_callV (As := [.ref o]) hX dX3_lay_13 mk_St_copy mi_St_copy ml_3_44 rfl rfl rfl rfl (by decide) (by decide) (Nat.le_of_ble_eq_true rfl) hr (ok_St_copy (d := d + 11) 73 o z1 st73 ho p4) ?_
  refine r_aload_n hX dX3_lay_16 rfl ?_
  refine r_getf (v := .ref 73) hX dX3_lay_17 fl_3_12 rfl (by decide) (by decide) rfl ?_
  obtain ⟨z5, p6, h⟩ := bnd_s h
  refine r_callV (As := []) hX dX3_lay_20 mk_St_clearSlots mi_St_clearSlots ml_3_48 rfl rfl rfl rfl (by decide) (by decide) (Nat.le_of_ble_eq_true rfl) hr (ok_St_clearSlots (d := d + 12) n 73 z3 st73 p6) ?_
  refine r_iconst (v := (0 : Int32)) hX dX3_lay_23 (by decide) ?_
  refine r_istore_n (L1 := [.ref 72, .ref o, .int v2, .int (0 : Int32)]) hX dX3_lay_24 (Nat.le_of_ble_eq_true rfl) rfl ?_
  refine WR.fg (L' := [.ref 72, vU, .int v2, .int (0 : Int32)]) ⟨Or.inr rfl, Or.inl rfl, Or.inr rfl, Or.inr rfl, trivial⟩ ?_
  obtain ⟨y9, h1, h⟩ := bnd_s h
  refine loop_ok (P := fun s1 : Int32 × Mm => WR G X (mQ G X (some (.int (b2i z.1))) z.2 SS) 25 [.ref 72, vU, .int v2, .int s1.1] [] s1.2 SS) (E := fun x1 : Mm => WR G X (mQ G X (some (.int (b2i z.1))) z.2 SS) 52 [.ref 72, vU, .int v2, vU] [] x1 SS) (fun s1 o1 g1 g2 g3 => ok_Rp_lay_b25 n o s1.1 s1.2 ho hX hT hr g2 g3 g1) n ((0 : Int32), z5) y9 h1 ?_
  show WR G X (mQ G X (some (.int (b2i z.1))) z.2 SS) 52 [.ref 72, vU, .int v2, vU] [] y9 SS
  refine r_aload_n hX dX3_lay_52 rfl ?_
  refine r_lconst (v := (0 : Int64)) hX dX3_lay_53 (by decide) ?_
  refine r_putL hX dX3_lay_54 fl_3_18 rfl (by decide) (by decide) rfl ?_
  refine r_iconst (v := (0 : Int32)) hX dX3_lay_57 (by decide) ?_
  refine r_istore_n (L1 := [.ref 72, vU, .int v2, .int (0 : Int32)]) hX dX3_lay_58 (Nat.le_of_ble_eq_true rfl) rfl ?_
  obtain ⟨y24, h1, h⟩ := bnd_s h
  refine loop_ok (P := fun s1 : Int32 × Mm => WR G X (mQ G X (some (.int (b2i z.1))) z.2 SS) 59 [.ref 72, vU, .int v2, .int s1.1] [] s1.2 SS) (E := fun x1 : (Mm) ⊕ (Bool × Mm) => elS x1 (fun x2 => WR G X (mQ G X (some (.int (b2i z.1))) z.2 SS) 148 [.ref 72, vU, vU, vU] [] x2 SS) (fun y1 => y1 = z)) (fun s1 o1 g1 g2 g3 => ok_Rp_lay_b59 n o s1.1 s1.2 ho hX hT hr g2 g3 g1) n ((0 : Int32), (y9.1, (up2 y9.2 72 3 (0 : Int64)))) y24 h1 ?_
  cases y24 with
  | inr e26 =>
    exact Option.some.inj h
  | inl x25 =>
    show WR G X (mQ G X (some (.int (b2i z.1))) z.2 SS) 148 [.ref 72, vU, vU, vU] [] x25 SS
    refine r_aload_n hX dX3_lay_148 rfl ?_
    refine r_iconst (v := (0 : Int32)) hX dX3_lay_149 (by decide) ?_
    refine r_putI hX dX3_lay_150 fl_3_33 rfl (by decide) (by decide) (okI_int _) ?_
    refine r_aload_n hX dX3_lay_153 rfl ?_
    refine r_lconst (v := (0 : Int64)) hX dX3_lay_154 (by decide) ?_
    refine r_putL' hX dX3_lay_155 fl_3_22 rfl (by decide) (by decide) rfl ?_
    refine r_iconst (v := (0 : Int32)) hX dX3_lay_158 (by decide) ?_
    refine r_istore_n (L1 := [.ref 72, vU, vU, .int (0 : Int32)]) hX dX3_lay_159 (Nat.le_of_ble_eq_true rfl) rfl ?_
    obtain ⟨y32, h1, h⟩ := bnd_s h
    refine loop_ok (P := fun s1 : Int32 × Mm => WR G X (mQ G X (some (.int (b2i z.1))) z.2 SS) 160 [.ref 72, vU, vU, .int s1.1] [] s1.2 SS) (E := fun x1 : Mm => WR G X (mQ G X (some (.int (b2i z.1))) z.2 SS) 205 [.ref 72, vU, vU, vU] [] x1 SS) (fun s1 o1 g1 g2 g3 => ok_Rp_lay_b160 n o s1.1 s1.2 ho hX hT hr g2 g3 g1) n ((0 : Int32), ((up2 x25.1 72 7 (0 : Int32)), (up2 x25.2 72 4 (0 : Int64)))) y32 h1 ?_
    show WR G X (mQ G X (some (.int (b2i z.1))) z.2 SS) 205 [.ref 72, vU, vU, vU] [] y32 SS
    refine r_iconst (v := (1 : Int32)) hX dX3_lay_205 (by decide) ?_
    obtain rfl := Option.some.inj h
    exact r_iret (v := b2i true) hX hT dX3_lay_206 (okI_b true).1
def Rp_nextFree_j39 (v1 : Int32) : Option ((Int32) ⊕ ((Unit) ⊕ (Int32))) :=
  some (.inl (v1 + (1 : Int32)))
def Rp_nextFree_b2 (Mc : Mm) (v1 : Int32) : Option ((Int32) ⊕ ((Unit) ⊕ (Int32))) :=
  if (Mc.1 54 4) ≤ v1 then
    some (.inr (.inl ()))
  else
    if ((lushr (Mc.2 72 3) v1) &&& (1 : Int64)) = (0 : Int64) then
      Rp_nextFree_j39 v1
    else
      grd (inb v1 40) (
      if (Mc.2 91 (tn v1)) = (0 : Int64) then
        some (.inr (.inr v1))
      else
        Rp_nextFree_j39 v1)
def Rp_nextFree (n : Nat) (M : Mm) : Option (Int32) :=
  bnd (loop (fun s1 : Int32 => Rp_nextFree_b2 M s1) n (0 : Int32)) (fun y5 =>
  elS y5 (fun x6 =>
    some (-1 : Int32))
    (fun e7 => some e7))
set_option maxRecDepth 100000 in
theorem ok_Rp_nextFree_j39 (n : Nat) (v1 : Int32)  {Mc : Mm} {z : Int32} {oo : (Int32) ⊕ ((Unit) ⊕ (Int32))} {G : Gm} {X : Cx} {d : Nat}  (hX : XK G X 3 cX3_nextFree 2 (d + 0)) (hT : XT X (some .int) "nextFree") (hr : XR X SS) (hc : ∀ s1 : Int32, oo = .inl s1 → WR G X (mQ G X (some (.int z)) Mc SS) 2 [.ref 72, .int s1] [] Mc SS) (hx : ∀ x1 : (Unit) ⊕ (Int32), oo = .inr x1 → elS x1 (fun x2 => WR G X (mQ G X (some (.int z)) Mc SS) 45 [.ref 72, vU] [] Mc SS) (fun y1 => y1 = z)) (h : Rp_nextFree_j39 v1 = some oo) : WR G X (mQ G X (some (.int z)) Mc SS) 39 [.ref 72, .int v1] [] Mc SS := by
  unfold Rp_nextFree_j39 at h
  refine r_iinc (v := v1 + (1 : Int32)) (L1 := [.ref 72, .int (v1 + (1 : Int32))]) hX dX3_nextFree_39 rfl rfl rfl ?_
  refine r_goto (tgt := 2) hX dX3_nextFree_42 (by decide) ?_
  exact hc (v1 + (1 : Int32)) (Option.some.inj h).symm
set_option maxRecDepth 100000 in
theorem ok_Rp_nextFree_b2 (n : Nat) (v1 : Int32)  {Mc : Mm} {z : Int32} {oo : (Int32) ⊕ ((Unit) ⊕ (Int32))} {G : Gm} {X : Cx} {d : Nat}  (hX : XK G X 3 cX3_nextFree 2 (d + 0)) (hT : XT X (some .int) "nextFree") (hr : XR X SS) (hc : ∀ s1 : Int32, oo = .inl s1 → WR G X (mQ G X (some (.int z)) Mc SS) 2 [.ref 72, .int s1] [] Mc SS) (hx : ∀ x1 : (Unit) ⊕ (Int32), oo = .inr x1 → elS x1 (fun x2 => WR G X (mQ G X (some (.int z)) Mc SS) 45 [.ref 72, vU] [] Mc SS) (fun y1 => y1 = z)) (h : Rp_nextFree_b2 Mc v1 = some oo) : WR G X (mQ G X (some (.int z)) Mc SS) 2 [.ref 72, .int v1] [] Mc SS := by
  unfold Rp_nextFree_b2 at h
  refine r_iload_n hX dX3_nextFree_2 rfl ?_
  refine r_aload_n hX dX3_nextFree_3 rfl ?_
  refine r_getf (v := .ref 54) hX dX3_nextFree_4 fl_3_37 rfl (by decide) (by decide) rfl ?_
  refine r_getf (v := .int (Mc.1 54 4)) hX dX3_nextFree_7 fl_3_51 rfl (by decide) (by decide) rfl ?_
  refine r_icmp_ge (tgt := 45) hX dX3_nextFree_10 (by decide) (fun g1 => ?_) (fun g1 => ?_)
  · have h := (if_pos g1).symm.trans h
    refine WR.fg (L' := [.ref 72, vU]) ⟨Or.inr rfl, Or.inl rfl, trivial⟩ ?_
    exact hx _ (Option.some.inj h).symm
  · have h := (if_neg g1).symm.trans h
    refine r_aload_n hX dX3_nextFree_13 rfl ?_
    refine r_getf (v := .long (Mc.2 72 3)) hX dX3_nextFree_14 fl_3_18 rfl (by decide) (by decide) rfl ?_
    refine r_iload_n hX dX3_nextFree_17 rfl ?_
    refine r_lushr hX dX3_nextFree_18 ?_
    refine r_lconst (v := (1 : Int64)) hX dX3_nextFree_19 (by decide) ?_
    refine r_land hX dX3_nextFree_20 ?_
    refine r_lconst (v := (0 : Int64)) hX dX3_nextFree_21 (by decide) ?_
    refine r_lcmp_eq (tgt := 39) hX dX3_nextFree_22 dX3_nextFree_23 (by decide) (fun g2 => ?_) (fun g2 => ?_)
    · have h := (if_pos g2).symm.trans h
      exact ok_Rp_nextFree_j39 n v1   hX hT hr hc hx h
    · have h := (if_neg g2).symm.trans h
      refine r_aload_n hX dX3_nextFree_26 rfl ?_
      refine r_getf (v := .ref 91) hX dX3_nextFree_27 fl_3_25 rfl (by decide) (by decide) rfl ?_
      refine r_iload_n hX dX3_nextFree_30 rfl ?_
      obtain ⟨k3, h⟩ := grd_s h
      refine r_lald hX dX3_nextFree_31 rfl (by decide) (inb_at rfl k3) ?_
      refine r_lconst (v := (0 : Int64)) hX dX3_nextFree_32 (by decide) ?_
      refine r_lcmp_ne (tgt := 39) hX dX3_nextFree_33 dX3_nextFree_34 (by decide) (fun g4 => ?_) (fun g4 => ?_)
      · have h := (if_neg g4).symm.trans h
        exact ok_Rp_nextFree_j39 n v1   hX hT hr hc hx h
      · have h := (if_pos g4).symm.trans h
        refine r_iload_n hX dX3_nextFree_37 rfl ?_
        obtain rfl := hx _ (Option.some.inj h).symm
        exact r_iret hX hT dX3_nextFree_38 rfl
set_option maxRecDepth 100000 in
theorem ok_Rp_nextFree {G : Gm} {l : Launch} {d : Nat} (n : Nat) (M : Mm) {z : Int32}  (h : Rp_nextFree n M = some z) : CK G l (d + 0) md_Rp_nextFree [.ref 72] M SS (some (.int z)) M SS := by
  refine ck_of mk_Rp_nextFree (Nat.le_of_ble_eq_true rfl) ⟨Nat.le_refl _, Nat.le_refl _⟩ (fun X hX hT hS hr hl => ?_)
  subst hl
  unfold Rp_nextFree at h
  show WR G X (mQ G X (some (.int z)) M SS) 0 [.ref 72, vU] [] M SS
  refine r_iconst (v := (0 : Int32)) hX dX3_nextFree_0 (by decide) ?_
  refine r_istore_n (L1 := [.ref 72, .int (0 : Int32)]) hX dX3_nextFree_1 (Nat.le_of_ble_eq_true rfl) rfl ?_
  obtain ⟨y5, h1, h⟩ := bnd_s h
  refine loop_ok (P := fun s1 : Int32 => WR G X (mQ G X (some (.int z)) M SS) 2 [.ref 72, .int s1] [] M SS) (E := fun x1 : (Unit) ⊕ (Int32) => elS x1 (fun x2 => WR G X (mQ G X (some (.int z)) M SS) 45 [.ref 72, vU] [] M SS) (fun y1 => y1 = z)) (fun s1 o1 g1 g2 g3 => ok_Rp_nextFree_b2 n s1  hX hT hr g2 g3 g1) n (0 : Int32) y5 h1 ?_
  cases y5 with
  | inr e7 =>
    exact Option.some.inj h
  | inl x6 =>
    show WR G X (mQ G X (some (.int z)) M SS) 45 [.ref 72, vU] [] M SS
    refine r_iconst (v := (-1 : Int32)) hX dX3_nextFree_45 (by decide) ?_
    obtain rfl := Option.some.inj h
    exact r_iret hX hT dX3_nextFree_46 rfl
def Rp_waitAnewFor_j104 (v2 : Int32) (M : Mm) : Option ((Int32 × Mm) ⊕ (Mm)) :=
  some (.inl (v2 + (1 : Int32), M))
def Rp_waitAnewFor_j103 (v2 : Int32) (w0 : Int64) (w1 : Int32) (M : Mm) : Option ((Int32 × Mm) ⊕ (Mm)) :=
  grd (inb w1 40) (
  Rp_waitAnewFor_j104 v2 (M.1, (up2 M.2 91 (tn w1) w0)))
def Rp_waitAnewFor_b2 (c1 : Int32) (v2 : Int32) (M : Mm) : Option ((Int32 × Mm) ⊕ (Mm)) :=
  if (M.1 54 4) ≤ v2 then
    some (.inr M)
  else
    if v2 = c1 then
      Rp_waitAnewFor_j104 v2 M
    else
      if ((lushr (M.2 72 3) v2) &&& (1 : Int64)) = (0 : Int64) then
        Rp_waitAnewFor_j104 v2 M
      else
        grd (inb v2 40) (
        grd (inb v2 40) (
        grd (inb v2 40) (
        bnd (St_clashes 54 c1 (M.1 85 (tn v2)) (M.1 86 (tn v2)) (M.1 87 (tn v2)) M) (fun z7 =>
        if z7 = true then
          grd (inb v2 40) (
          Rp_waitAnewFor_j103 v2 ((M.2 91 (tn v2)) ||| (lshl (1 : Int64) c1)) v2 M)
        else
          grd (inb v2 40) (
          Rp_waitAnewFor_j103 v2 ((M.2 91 (tn v2)) &&& ((lshl (1 : Int64) c1) ^^^ (-1 : Int64))) v2 M)))))
def Rp_waitAnewFor (n : Nat) (v1 : Int32) (M : Mm) : Option (Mm) :=
  bnd (loop (fun s1 : Int32 × Mm => Rp_waitAnewFor_b2 v1 s1.1 s1.2) n ((0 : Int32), M)) (fun y13 =>
  some y13)
set_option maxRecDepth 100000 in
theorem ok_Rp_waitAnewFor_j104 (n : Nat) (v2 : Int32) (M : Mm) {c1 : Int32} {z : Mm} {oo : (Int32 × Mm) ⊕ (Mm)} {G : Gm} {X : Cx} {d : Nat}  (hX : XK G X 3 cX3_waitAnewFor 4 (d + 1)) (hT : XT X (none) "waitAnewFor") (hr : XR X SS) (hc : ∀ s1 : Int32 × Mm, oo = .inl s1 → WR G X (mQ G X (none) z SS) 2 [.ref 72, .int c1, .int s1.1, vU] [] s1.2 SS) (hx : ∀ x1 : Mm, oo = .inr x1 → WR G X (mQ G X (none) z SS) 110 [.ref 72, vU, vU, vU] [] x1 SS) (h : Rp_waitAnewFor_j104 v2 M = some oo) : WR G X (mQ G X (none) z SS) 104 [.ref 72, .int c1, .int v2, vU] [] M SS := by
  unfold Rp_waitAnewFor_j104 at h
  refine r_iinc (v := v2 + (1 : Int32)) (L1 := [.ref 72, .int c1, .int (v2 + (1 : Int32)), vU]) hX dX3_waitAnewFor_104 rfl rfl rfl ?_
  refine r_goto (tgt := 2) hX dX3_waitAnewFor_107 (by decide) ?_
  exact hc (v2 + (1 : Int32), M) (Option.some.inj h).symm
set_option maxRecDepth 100000 in
theorem ok_Rp_waitAnewFor_j103 (n : Nat) (v2 : Int32) (w0 : Int64) (w1 : Int32) (M : Mm) {c1 : Int32} {z : Mm} {oo : (Int32 × Mm) ⊕ (Mm)} {G : Gm} {X : Cx} {d : Nat}  (hX : XK G X 3 cX3_waitAnewFor 4 (d + 1)) (hT : XT X (none) "waitAnewFor") (hr : XR X SS) (hc : ∀ s1 : Int32 × Mm, oo = .inl s1 → WR G X (mQ G X (none) z SS) 2 [.ref 72, .int c1, .int s1.1, vU] [] s1.2 SS) (hx : ∀ x1 : Mm, oo = .inr x1 → WR G X (mQ G X (none) z SS) 110 [.ref 72, vU, vU, vU] [] x1 SS) (h : Rp_waitAnewFor_j103 v2 w0 w1 M = some oo) : WR G X (mQ G X (none) z SS) 103 [.ref 72, .int c1, .int v2, vU] [.long w0, .int w1, .ref 91] M SS := by
  unfold Rp_waitAnewFor_j103 at h
  obtain ⟨k11, h⟩ := grd_s h
  refine r_last hX dX3_waitAnewFor_103 rfl (by decide) (inb_at rfl k11) ?_
  exact ok_Rp_waitAnewFor_j104 n v2 (M.1, (up2 M.2 91 (tn w1) w0))   hX hT hr hc hx h
set_option maxRecDepth 100000 in
theorem ok_Rp_waitAnewFor_b2 (n : Nat) (v2 : Int32) (M : Mm) {c1 : Int32} {z : Mm} {oo : (Int32 × Mm) ⊕ (Mm)} {G : Gm} {X : Cx} {d : Nat}  (hX : XK G X 3 cX3_waitAnewFor 4 (d + 1)) (hT : XT X (none) "waitAnewFor") (hr : XR X SS) (hc : ∀ s1 : Int32 × Mm, oo = .inl s1 → WR G X (mQ G X (none) z SS) 2 [.ref 72, .int c1, .int s1.1, vU] [] s1.2 SS) (hx : ∀ x1 : Mm, oo = .inr x1 → WR G X (mQ G X (none) z SS) 110 [.ref 72, vU, vU, vU] [] x1 SS) (h : Rp_waitAnewFor_b2 c1 v2 M = some oo) : WR G X (mQ G X (none) z SS) 2 [.ref 72, .int c1, .int v2, vU] [] M SS := by
  unfold Rp_waitAnewFor_b2 at h
  refine r_iload_n hX dX3_waitAnewFor_2 rfl ?_
  refine r_aload_n hX dX3_waitAnewFor_3 rfl ?_
  refine r_getf (v := .ref 54) hX dX3_waitAnewFor_4 fl_3_37 rfl (by decide) (by decide) rfl ?_
  refine r_getf (v := .int (M.1 54 4)) hX dX3_waitAnewFor_7 fl_3_51 rfl (by decide) (by decide) rfl ?_
  refine r_icmp_ge (tgt := 110) hX dX3_waitAnewFor_10 (by decide) (fun g1 => ?_) (fun g1 => ?_)
  · have h := (if_pos g1).symm.trans h
    refine WR.fg (L' := [.ref 72, vU, vU, vU]) ⟨Or.inr rfl, Or.inl rfl, Or.inl rfl, Or.inl rfl, trivial⟩ ?_
    exact hx _ (Option.some.inj h).symm
  · have h := (if_neg g1).symm.trans h
    refine r_iload_n hX dX3_waitAnewFor_13 rfl ?_
    refine r_iload_n hX dX3_waitAnewFor_14 rfl ?_
    refine r_icmp_eq (tgt := 104) hX dX3_waitAnewFor_15 (by decide) (fun g2 => ?_) (fun g2 => ?_)
    · have h := (if_pos g2).symm.trans h
      exact ok_Rp_waitAnewFor_j104 n v2 M   hX hT hr hc hx h
    · have h := (if_neg g2).symm.trans h
      refine r_aload_n hX dX3_waitAnewFor_18 rfl ?_
      refine r_getf (v := .long (M.2 72 3)) hX dX3_waitAnewFor_19 fl_3_18 rfl (by decide) (by decide) rfl ?_
      refine r_iload_n hX dX3_waitAnewFor_22 rfl ?_
      refine r_lushr hX dX3_waitAnewFor_23 ?_
      refine r_lconst (v := (1 : Int64)) hX dX3_waitAnewFor_24 (by decide) ?_
      refine r_land hX dX3_waitAnewFor_25 ?_
      refine r_lconst (v := (0 : Int64)) hX dX3_waitAnewFor_26 (by decide) ?_
      refine r_lcmp_eq (tgt := 104) hX dX3_waitAnewFor_27 dX3_waitAnewFor_28 (by decide) (fun g3 => ?_) (fun g3 => ?_)
      · have h := (if_pos g3).symm.trans h
        exact ok_Rp_waitAnewFor_j104 n v2 M   hX hT hr hc hx h
      · have h := (if_neg g3).symm.trans h
        refine r_aload_n hX dX3_waitAnewFor_31 rfl ?_
        refine r_getf (v := .ref 54) hX dX3_waitAnewFor_32 fl_3_37 rfl (by decide) (by decide) rfl ?_
        refine r_iload_n hX dX3_waitAnewFor_35 rfl ?_
        refine r_aload_n hX dX3_waitAnewFor_36 rfl ?_
        refine r_getf (v := .ref 73) hX dX3_waitAnewFor_37 fl_3_12 rfl (by decide) (by decide) rfl ?_
        refine r_getf (v := .ref 85) hX dX3_waitAnewFor_40 fl_3_97 rfl (by decide) (by decide) rfl ?_
        refine r_iload_n hX dX3_waitAnewFor_43 rfl ?_
        obtain ⟨k4, h⟩ := grd_s h
        refine r_iald hX dX3_waitAnewFor_44 rfl (by decide) (inb_at rfl k4) ?_
        refine r_aload_n hX dX3_waitAnewFor_45 rfl ?_
        refine r_getf (v := .ref 73) hX dX3_waitAnewFor_46 fl_3_12 rfl (by decide) (by decide) rfl ?_
        refine r_getf (v := .ref 86) hX dX3_waitAnewFor_49 fl_3_99 rfl (by decide) (by decide) rfl ?_
        refine r_iload_n hX dX3_waitAnewFor_52 rfl ?_
        obtain ⟨k5, h⟩ := grd_s h
        refine r_iald hX dX3_waitAnewFor_53 rfl (by decide) (inb_at rfl k5) ?_
        refine r_aload_n hX dX3_waitAnewFor_54 rfl ?_
        refine r_getf (v := .ref 73) hX dX3_waitAnewFor_55 fl_3_12 rfl (by decide) (by decide) rfl ?_
        refine r_getf (v := .ref 87) hX dX3_waitAnewFor_58 fl_3_101 rfl (by decide) (by decide) rfl ?_
        refine r_iload_n hX dX3_waitAnewFor_61 rfl ?_
        obtain ⟨k6, h⟩ := grd_s h
        refine r_iald hX dX3_waitAnewFor_62 rfl (by decide) (inb_at rfl k6) ?_
        obtain ⟨z7, p8, h⟩ := bnd_s h
        refine r_callV (As := [.int c1, .int (M.1 85 (tn v2)), .int (M.1 86 (tn v2)), .int (M.1 87 (tn v2))]) hX dX3_waitAnewFor_63 mk_St_clashes mi_St_clashes ml_3_107 rfl rfl rfl rfl (by decide) (by decide) (Nat.le_of_ble_eq_true rfl) hr (ok_St_clashes (d := d + 0) 54 c1 (M.1 85 (tn v2)) (M.1 86 (tn v2)) (M.1 87 (tn v2)) M st54 p8) ?_
        refine r_istore_n (L1 := [.ref 72, .int c1, .int v2, .int (b2i z7)]) hX dX3_waitAnewFor_66 (Nat.le_of_ble_eq_true rfl) rfl ?_
        refine r_aload_n hX dX3_waitAnewFor_67 rfl ?_
        refine r_getf (v := .ref 91) hX dX3_waitAnewFor_68 fl_3_25 rfl (by decide) (by decide) rfl ?_
        refine r_iload_n hX dX3_waitAnewFor_71 rfl ?_
        refine r_iload_n hX dX3_waitAnewFor_72 rfl ?_
        refine r_ifb_eq (tgt := 89) hX dX3_waitAnewFor_73 (by decide) (fun g9 => ?_) (fun g9 => ?_)
        · have h := (if_neg (show ¬ z7 = true from fun e => by rw [g9] at e; cases e)).symm.trans h
          refine r_aload_n hX dX3_waitAnewFor_89 rfl ?_
          refine r_getf (v := .ref 91) hX dX3_waitAnewFor_90 fl_3_25 rfl (by decide) (by decide) rfl ?_
          refine r_iload_n hX dX3_waitAnewFor_93 rfl ?_
          obtain ⟨k10, h⟩ := grd_s h
          refine r_lald hX dX3_waitAnewFor_94 rfl (by decide) (inb_at rfl k10) ?_
          refine r_lconst (v := (1 : Int64)) hX dX3_waitAnewFor_95 (by decide) ?_
          refine r_iload_n hX dX3_waitAnewFor_96 rfl ?_
          refine r_lshl hX dX3_waitAnewFor_97 ?_
          refine r_ldc2 hX dX3_waitAnewFor_98 kl_3_115 ?_
          refine r_lxor hX dX3_waitAnewFor_101 ?_
          refine r_land hX dX3_waitAnewFor_102 ?_
          refine WR.fg (L' := [.ref 72, .int c1, .int v2, vU]) ⟨Or.inr rfl, Or.inr rfl, Or.inr rfl, Or.inl rfl, trivial⟩ ?_
          exact ok_Rp_waitAnewFor_j103 n v2 ((M.2 91 (tn v2)) &&& ((lshl (1 : Int64) c1) ^^^ (-1 : Int64))) v2 M   hX hT hr hc hx h
        · have h := (if_pos g9).symm.trans h
          refine r_aload_n hX dX3_waitAnewFor_76 rfl ?_
          refine r_getf (v := .ref 91) hX dX3_waitAnewFor_77 fl_3_25 rfl (by decide) (by decide) rfl ?_
          refine r_iload_n hX dX3_waitAnewFor_80 rfl ?_
          obtain ⟨k12, h⟩ := grd_s h
          refine r_lald hX dX3_waitAnewFor_81 rfl (by decide) (inb_at rfl k12) ?_
          refine r_lconst (v := (1 : Int64)) hX dX3_waitAnewFor_82 (by decide) ?_
          refine r_iload_n hX dX3_waitAnewFor_83 rfl ?_
          refine r_lshl hX dX3_waitAnewFor_84 ?_
          refine r_lor hX dX3_waitAnewFor_85 ?_
          refine r_goto (tgt := 103) hX dX3_waitAnewFor_86 (by decide) ?_
          refine WR.fg (L' := [.ref 72, .int c1, .int v2, vU]) ⟨Or.inr rfl, Or.inr rfl, Or.inr rfl, Or.inl rfl, trivial⟩ ?_
          exact ok_Rp_waitAnewFor_j103 n v2 ((M.2 91 (tn v2)) ||| (lshl (1 : Int64) c1)) v2 M   hX hT hr hc hx h
set_option maxRecDepth 100000 in
theorem ok_Rp_waitAnewFor {G : Gm} {l : Launch} {d : Nat} (n : Nat) (v1 : Int32) (M : Mm) {z : Mm}  (h : Rp_waitAnewFor n v1 M = some z) : CK G l (d + 1) md_Rp_waitAnewFor [.ref 72, .int v1] M SS (none) z SS := by
  refine ck_of mk_Rp_waitAnewFor (Nat.le_of_ble_eq_true rfl) ⟨Nat.le_refl _, Nat.le_refl _⟩ (fun X hX hT hS hr hl => ?_)
  subst hl
  unfold Rp_waitAnewFor at h
  show WR G X (mQ G X (none) z SS) 0 [.ref 72, .int v1, vU, vU] [] M SS
  refine r_iconst (v := (0 : Int32)) hX dX3_waitAnewFor_0 (by decide) ?_
  refine r_istore_n (L1 := [.ref 72, .int v1, .int (0 : Int32), vU]) hX dX3_waitAnewFor_1 (Nat.le_of_ble_eq_true rfl) rfl ?_
  obtain ⟨y13, h1, h⟩ := bnd_s h
  refine loop_ok (P := fun s1 : Int32 × Mm => WR G X (mQ G X (none) z SS) 2 [.ref 72, .int v1, .int s1.1, vU] [] s1.2 SS) (E := fun x1 : Mm => WR G X (mQ G X (none) z SS) 110 [.ref 72, vU, vU, vU] [] x1 SS) (fun s1 o1 g1 g2 g3 => ok_Rp_waitAnewFor_b2 n s1.1 s1.2  hX hT hr g2 g3 g1) n ((0 : Int32), M) y13 h1 ?_
  show WR G X (mQ G X (none) z SS) 110 [.ref 72, vU, vU, vU] [] y13 SS
  obtain rfl := Option.some.inj h
  exact r_vret hX hT dX3_waitAnewFor_110
def St_takeOff_j60 (s : Nat) (v1 : Int32) (v2 : Int32) (M : Mm) : Option (Mm) :=
  grd (inb v1 40) (
  some ((up2 M.1 (s + 10) (tn v1) v2), M.2))
def St_takeOff_j54 (v3 : Int32) (M : Mm) : Option ((Int32 × Mm) ⊕ (Mm)) :=
  some (.inl (v3 + (1 : Int32), M))
def St_takeOff_b11 (s : Nat) (c1 : Int32) (v3 : Int32) (M : Mm) : Option ((Int32 × Mm) ⊕ (Mm)) :=
  if (M.1 (s + 1) 3) ≤ v3 then
    some (.inr M)
  else
    grd (inb c1 40) (
    if ((ushr (M.1 (s + 12) (tn c1)) v3) &&& (1 : Int32)) = (0 : Int32) then
      St_takeOff_j54 v3 M
    else
      grd (inb v3 14) (
      grd (inb c1 40) (
      grd (inb v3 14) (
      St_takeOff_j54 v3 (M.1, (up2 M.2 (s + 16) (tn v3) ((M.2 (s + 16) (tn v3)) &&& ((M.2 (s + 15) (tn c1)) ^^^ (-1 : Int64)))))))))
def St_takeOff (n : Nat) (s : Nat) (v1 : Int32) (v2 : Int32) (M : Mm) : Option (Mm) :=
  grd (inb v1 40) (
  if (M.1 (s + 10) (tn v1)) = (0 : Int32) then
    bnd (loop (fun s1 : Int32 × Mm => St_takeOff_b11 s v1 s1.1 s1.2) n ((0 : Int32), M)) (fun y10 =>
    St_takeOff_j60 s v1 v2 y10)
  else
    St_takeOff_j60 s v1 v2 M)
set_option maxRecDepth 100000 in
theorem ok_St_takeOff_j60 (n : Nat) (s : Nat) (v1 : Int32) (v2 : Int32) (M : Mm) {z : Mm} {G : Gm} {X : Cx} {d : Nat} (hs : isSt s) (hX : XK G X 4 cX4_takeOff 4 (d + 0)) (hT : XT X (none) "takeOff") (hr : XR X SS) (h : St_takeOff_j60 s v1 v2 M = some z) : WR G X (mQ G X (none) z SS) 60 [.ref s, .int v1, .int v2, vU] [] M SS := by
  unfold St_takeOff_j60 at h
  refine r_aload_n hX dX4_takeOff_60 rfl ?_
  refine r_getf (v := .ref (s + 10)) hX dX4_takeOff_61 fl_4_41 (kdS0 hs) (by decide) (ltS0 hs) (rfS8 hs) ?_
  refine r_iload_n hX dX4_takeOff_64 rfl ?_
  refine r_iload_n hX dX4_takeOff_65 rfl ?_
  obtain ⟨k3, h⟩ := grd_s h
  refine r_iast hX dX4_takeOff_66 (kdS10 hs) (ltS10 hs) (inb_at (lnS10 hs) k3) ?_
  obtain rfl := Option.some.inj h
  exact r_vret hX hT dX4_takeOff_67
set_option maxRecDepth 100000 in
theorem ok_St_takeOff_j54 (n : Nat) (s : Nat) (v3 : Int32) (M : Mm) {c1 : Int32} {c2 : Int32} {z : Mm} {oo : (Int32 × Mm) ⊕ (Mm)} {G : Gm} {X : Cx} {d : Nat} (hs : isSt s) (hX : XK G X 4 cX4_takeOff 4 (d + 0)) (hT : XT X (none) "takeOff") (hr : XR X SS) (hc : ∀ s1 : Int32 × Mm, oo = .inl s1 → WR G X (mQ G X (none) z SS) 11 [.ref s, .int c1, .int c2, .int s1.1] [] s1.2 SS) (hx : ∀ x1 : Mm, oo = .inr x1 → WR G X (mQ G X (none) z SS) 60 [.ref s, .int c1, .int c2, vU] [] x1 SS) (h : St_takeOff_j54 v3 M = some oo) : WR G X (mQ G X (none) z SS) 54 [.ref s, .int c1, .int c2, .int v3] [] M SS := by
  unfold St_takeOff_j54 at h
  refine r_iinc (v := v3 + (1 : Int32)) (L1 := [.ref s, .int c1, .int c2, .int (v3 + (1 : Int32))]) hX dX4_takeOff_54 rfl rfl rfl ?_
  refine r_goto (tgt := 11) hX dX4_takeOff_57 (by decide) ?_
  exact hc (v3 + (1 : Int32), M) (Option.some.inj h).symm
set_option maxRecDepth 100000 in
theorem ok_St_takeOff_b11 (n : Nat) (s : Nat) (v3 : Int32) (M : Mm) {c1 : Int32} {c2 : Int32} {z : Mm} {oo : (Int32 × Mm) ⊕ (Mm)} {G : Gm} {X : Cx} {d : Nat} (hs : isSt s) (hX : XK G X 4 cX4_takeOff 4 (d + 0)) (hT : XT X (none) "takeOff") (hr : XR X SS) (hc : ∀ s1 : Int32 × Mm, oo = .inl s1 → WR G X (mQ G X (none) z SS) 11 [.ref s, .int c1, .int c2, .int s1.1] [] s1.2 SS) (hx : ∀ x1 : Mm, oo = .inr x1 → WR G X (mQ G X (none) z SS) 60 [.ref s, .int c1, .int c2, vU] [] x1 SS) (h : St_takeOff_b11 s c1 v3 M = some oo) : WR G X (mQ G X (none) z SS) 11 [.ref s, .int c1, .int c2, .int v3] [] M SS := by
  unfold St_takeOff_b11 at h
  refine r_iload_n hX dX4_takeOff_11 rfl ?_
  refine r_aload_n hX dX4_takeOff_12 rfl ?_
  refine r_getf (v := .ref (s + 1)) hX dX4_takeOff_13 fl_4_12 (kdS0 hs) (by decide) (ltS0 hs) (rfS0 hs) ?_
  refine r_getf (v := .int (M.1 (s + 1) 3)) hX dX4_takeOff_16 fl_4_70 (kdS1 hs) (by decide) (ltS1 hs) rfl ?_
  refine r_icmp_ge (tgt := 60) hX dX4_takeOff_19 (by decide) (fun g4 => ?_) (fun g4 => ?_)
  · have h := (if_pos g4).symm.trans h
    refine WR.fg (L' := [.ref s, .int c1, .int c2, vU]) ⟨Or.inr rfl, Or.inr rfl, Or.inr rfl, Or.inl rfl, trivial⟩ ?_
    exact hx _ (Option.some.inj h).symm
  · have h := (if_neg g4).symm.trans h
    refine r_aload_n hX dX4_takeOff_22 rfl ?_
    refine r_getf (v := .ref (s + 12)) hX dX4_takeOff_23 fl_4_47 (kdS0 hs) (by decide) (ltS0 hs) (rfS10 hs) ?_
    refine r_iload_n hX dX4_takeOff_26 rfl ?_
    obtain ⟨k5, h⟩ := grd_s h
    refine r_iald hX dX4_takeOff_27 (kdS12 hs) (ltS12 hs) (inb_at (lnS12 hs) k5) ?_
    refine r_iload_n hX dX4_takeOff_28 rfl ?_
    refine r_iushr hX dX4_takeOff_29 ?_
    refine r_iconst (v := (1 : Int32)) hX dX4_takeOff_30 (by decide) ?_
    refine r_iand hX dX4_takeOff_31 ?_
    refine r_if_eq (tgt := 54) hX dX4_takeOff_32 (by decide) (fun g6 => ?_) (fun g6 => ?_)
    · have h := (if_pos g6).symm.trans h
      exact ok_St_takeOff_j54 n s v3 M  hs hX hT hr hc hx h
    · have h := (if_neg g6).symm.trans h
      refine r_aload_n hX dX4_takeOff_35 rfl ?_
      refine r_getf (v := .ref (s + 16)) hX dX4_takeOff_36 fl_4_60 (kdS0 hs) (by decide) (ltS0 hs) (rfS14 hs) ?_
      refine r_iload_n hX dX4_takeOff_39 rfl ?_
      refine r_dup2 hX dX4_takeOff_40 rfl rfl ?_
      obtain ⟨k7, h⟩ := grd_s h
      refine r_lald hX dX4_takeOff_41 (kdS16 hs) (ltS16 hs) (inb_at (lnS16 hs) k7) ?_
      refine r_aload_n hX dX4_takeOff_42 rfl ?_
      refine r_getf (v := .ref (s + 15)) hX dX4_takeOff_43 fl_4_56 (kdS0 hs) (by decide) (ltS0 hs) (rfS13 hs) ?_
      refine r_iload_n hX dX4_takeOff_46 rfl ?_
      obtain ⟨k8, h⟩ := grd_s h
      refine r_lald hX dX4_takeOff_47 (kdS15 hs) (ltS15 hs) (inb_at (lnS15 hs) k8) ?_
      refine r_ldc2 hX dX4_takeOff_48 kl_4_96 ?_
      refine r_lxor hX dX4_takeOff_51 ?_
      refine r_land hX dX4_takeOff_52 ?_
      obtain ⟨k9, h⟩ := grd_s h
      refine r_last hX dX4_takeOff_53 (kdS16 hs) (ltS16 hs) (inb_at (lnS16 hs) k9) ?_
      exact ok_St_takeOff_j54 n s v3 (M.1, (up2 M.2 (s + 16) (tn v3) ((M.2 (s + 16) (tn v3)) &&& ((M.2 (s + 15) (tn c1)) ^^^ (-1 : Int64)))))  hs hX hT hr hc hx h
set_option maxRecDepth 100000 in
theorem ok_St_takeOff {G : Gm} {l : Launch} {d : Nat} (n : Nat) (s : Nat) (v1 : Int32) (v2 : Int32) (M : Mm) {z : Mm} (hs : isSt s) (h : St_takeOff n s v1 v2 M = some z) : CK G l (d + 0) md_St_takeOff [.ref s, .int v1, .int v2] M SS (none) z SS := by
  refine ck_of mk_St_takeOff (Nat.le_of_ble_eq_true rfl) ⟨Nat.le_refl _, Nat.le_refl _⟩ (fun X hX hT hS hr hl => ?_)
  subst hl
  unfold St_takeOff at h
  show WR G X (mQ G X (none) z SS) 0 [.ref s, .int v1, .int v2, vU] [] M SS
  refine r_aload_n hX dX4_takeOff_0 rfl ?_
  refine r_getf (v := .ref (s + 10)) hX dX4_takeOff_1 fl_4_41 (kdS0 hs) (by decide) (ltS0 hs) (rfS8 hs) ?_
  refine r_iload_n hX dX4_takeOff_4 rfl ?_
  obtain ⟨k1, h⟩ := grd_s h
  refine r_iald hX dX4_takeOff_5 (kdS10 hs) (ltS10 hs) (inb_at (lnS10 hs) k1) ?_
  refine r_if_ne (tgt := 60) hX dX4_takeOff_6 (by decide) (fun g2 => ?_) (fun g2 => ?_)
  · have h := (if_neg g2).symm.trans h
    exact ok_St_takeOff_j60 n s v1 v2 M  hs hX hT hr h
  · have h := (if_pos g2).symm.trans h
    refine r_iconst (v := (0 : Int32)) hX dX4_takeOff_9 (by decide) ?_
    refine r_istore_n (L1 := [.ref s, .int v1, .int v2, .int (0 : Int32)]) hX dX4_takeOff_10 (Nat.le_of_ble_eq_true rfl) rfl ?_
    obtain ⟨y10, h1, h⟩ := bnd_s h
    refine loop_ok (P := fun s1 : Int32 × Mm => WR G X (mQ G X (none) z SS) 11 [.ref s, .int v1, .int v2, .int s1.1] [] s1.2 SS) (E := fun x1 : Mm => WR G X (mQ G X (none) z SS) 60 [.ref s, .int v1, .int v2, vU] [] x1 SS) (fun s1 o1 g1 g2 g3 => ok_St_takeOff_b11 n s s1.1 s1.2 hs hX hT hr g2 g3 g1) n ((0 : Int32), M) y10 h1 ?_
    show WR G X (mQ G X (none) z SS) 60 [.ref s, .int v1, .int v2, vU] [] y10 SS
    exact ok_St_takeOff_j60 n s v1 v2 y10  hs hX hT hr h
def St_move (n : Nat) (s : Nat) (v1 : Int32) (v2 : Int32) (v3 : Int32) (v4 : Int32) (M : Mm) : Option (Mm) :=
  bnd (St_takeOff n s v1 (3 : Int32) M) (fun z1 =>
  bnd (St_put n s v1 v2 v3 v4 z1) (fun z3 =>
  some z3))
set_option maxRecDepth 100000 in
theorem ok_St_move {G : Gm} {l : Launch} {d : Nat} (n : Nat) (s : Nat) (v1 : Int32) (v2 : Int32) (v3 : Int32) (v4 : Int32) (M : Mm) {z : Mm} (hs : isSt s) (h : St_move n s v1 v2 v3 v4 M = some z) : CK G l (d + 2) md_St_move [.ref s, .int v1, .int v2, .int v3, .int v4] M SS (none) z SS := by
  refine ck_of mk_St_move (Nat.le_of_ble_eq_true rfl) ⟨Nat.le_refl _, Nat.le_refl _⟩ (fun X hX hT hS hr hl => ?_)
  subst hl
  unfold St_move at h
  show WR G X (mQ G X (none) z SS) 0 [.ref s, .int v1, .int v2, .int v3, .int v4] [] M SS
  refine r_aload_n hX dX4_move_0 rfl ?_
  refine r_iload_n hX dX4_move_1 rfl ?_
  refine r_iconst (v := (3 : Int32)) hX dX4_move_2 (by decide) ?_
  obtain ⟨z1, p2, h⟩ := bnd_s h
  refine r_callV (As := [.int v1, .int (3 : Int32)]) hX dX4_move_3 mk_St_takeOff mi_St_takeOff ml_4_98 rfl rfl rfl (kdS0 hs) (by decide) (ltS0 hs) (Nat.le_of_ble_eq_true rfl) hr (ok_St_takeOff (d := d + 1) n s v1 (3 : Int32) M hs p2) ?_
  refine r_aload_n hX dX4_move_6 rfl ?_
  refine r_iload_n hX dX4_move_7 rfl ?_
  refine r_iload_n hX dX4_move_8 rfl ?_
  refine r_iload_n hX dX4_move_9 rfl ?_
  refine r_iload hX dX4_move_10 rfl ?_
  obtain ⟨z3, p4, h⟩ := bnd_s h
  refine r_callV (As := [.int v1, .int v2, .int v3, .int v4]) hX dX4_move_12 mk_St_put mi_St_put ml_4_102 rfl rfl rfl (kdS0 hs) (by decide) (ltS0 hs) (Nat.le_of_ble_eq_true rfl) hr (ok_St_put (d := d + 0) n s v1 v2 v3 v4 z1 hs p4) ?_
  obtain rfl := Option.some.inj h
  exact r_vret hX hT dX4_move_15
def Rp_carryOut_b5 (n : Nat) (v1 : Int32) (M : Mm) : Option ((Int32 × Mm) ⊕ (Mm)) :=
  if v1 < (0 : Int32) then
    some (.inr M)
  else
    if (40 : Int32) ≤ (M.1 72 7) then
      some (.inr M)
    else
      grd (inb (M.1 72 7) 40) (
      grd (inb v1 40) (
      grd (inb v1 40) (
      grd (inb v1 40) (
      bnd (St_move n 54 v1 ((up2 (up2 M.1 92 (tn (M.1 72 7)) v1) 72 7 (((up2 M.1 92 (tn (M.1 72 7)) v1) 72 7) + (1 : Int32))) 85 (tn v1)) ((up2 (up2 M.1 92 (tn (M.1 72 7)) v1) 72 7 (((up2 M.1 92 (tn (M.1 72 7)) v1) 72 7) + (1 : Int32))) 86 (tn v1)) ((up2 (up2 M.1 92 (tn (M.1 72 7)) v1) 72 7 (((up2 M.1 92 (tn (M.1 72 7)) v1) 72 7) + (1 : Int32))) 87 (tn v1)) ((up2 (up2 M.1 92 (tn (M.1 72 7)) v1) 72 7 (((up2 M.1 92 (tn (M.1 72 7)) v1) 72 7) + (1 : Int32))), (up2 M.2 72 3 ((M.2 72 3) &&& ((lshl (1 : Int64) v1) ^^^ (-1 : Int64)))))) (fun z9 =>
      bnd (Rp_waitAnewFor n v1 z9) (fun z11 =>
      bnd (Rp_nextFree n z11) (fun z13 =>
      some (.inl (z13, z11)))))))))
def Rp_carryOut (n : Nat) (M : Mm) : Option (Mm) :=
  bnd (Rp_nextFree n M) (fun z1 =>
  bnd (loop (fun s1 : Int32 × Mm => Rp_carryOut_b5 n s1.1 s1.2) n (z1, M)) (fun y15 =>
  some y15))
set_option maxRecDepth 100000 in
theorem ok_Rp_carryOut_b5 (n : Nat) (v1 : Int32) (M : Mm)  {z : Mm} {oo : (Int32 × Mm) ⊕ (Mm)} {G : Gm} {X : Cx} {d : Nat}  (hX : XK G X 3 cX3_carryOut 2 (d + 3)) (hT : XT X (none) "carryOut") (hr : XR X SS) (hc : ∀ s1 : Int32 × Mm, oo = .inl s1 → WR G X (mQ G X (none) z SS) 5 [.ref 72, .int s1.1] [] s1.2 SS) (hx : ∀ x1 : Mm, oo = .inr x1 → WR G X (mQ G X (none) z SS) 102 [.ref 72, vU] [] x1 SS) (h : Rp_carryOut_b5 n v1 M = some oo) : WR G X (mQ G X (none) z SS) 5 [.ref 72, .int v1] [] M SS := by
  unfold Rp_carryOut_b5 at h
  refine r_iload_n hX dX3_carryOut_5 rfl ?_
  refine r_if_lt (tgt := 102) hX dX3_carryOut_6 (by decide) (fun g3 => ?_) (fun g3 => ?_)
  · have h := (if_pos g3).symm.trans h
    refine WR.fg (L' := [.ref 72, vU]) ⟨Or.inr rfl, Or.inl rfl, trivial⟩ ?_
    exact hx _ (Option.some.inj h).symm
  · have h := (if_neg g3).symm.trans h
    refine r_aload_n hX dX3_carryOut_9 rfl ?_
    refine r_getf (v := .int (M.1 72 7)) hX dX3_carryOut_10 fl_3_33 rfl (by decide) (by decide) rfl ?_
    refine r_bipush (v := (40 : Int32)) hX dX3_carryOut_13 (by decide) ?_
    refine r_icmp_ge (tgt := 102) hX dX3_carryOut_15 (by decide) (fun g4 => ?_) (fun g4 => ?_)
    · have h := (if_pos g4).symm.trans h
      refine WR.fg (L' := [.ref 72, vU]) ⟨Or.inr rfl, Or.inl rfl, trivial⟩ ?_
      exact hx _ (Option.some.inj h).symm
    · have h := (if_neg g4).symm.trans h
      refine r_aload_n hX dX3_carryOut_18 rfl ?_
      refine r_dup hX dX3_carryOut_19 rfl ?_
      refine r_getf (v := .long (M.2 72 3)) hX dX3_carryOut_20 fl_3_18 rfl (by decide) (by decide) rfl ?_
      refine r_lconst (v := (1 : Int64)) hX dX3_carryOut_23 (by decide) ?_
      refine r_iload_n hX dX3_carryOut_24 rfl ?_
      refine r_lshl hX dX3_carryOut_25 ?_
      refine r_ldc2 hX dX3_carryOut_26 kl_3_115 ?_
      refine r_lxor hX dX3_carryOut_29 ?_
      refine r_land hX dX3_carryOut_30 ?_
      refine r_putL hX dX3_carryOut_31 fl_3_18 rfl (by decide) (by decide) rfl ?_
      refine r_aload_n hX dX3_carryOut_34 rfl ?_
      refine r_getf (v := .ref 92) hX dX3_carryOut_35 fl_3_29 rfl (by decide) (by decide) rfl ?_
      refine r_aload_n hX dX3_carryOut_38 rfl ?_
      refine r_getf (v := .int (M.1 72 7)) hX dX3_carryOut_39 fl_3_33 rfl (by decide) (by decide) rfl ?_
      refine r_iload_n hX dX3_carryOut_42 rfl ?_
      obtain ⟨k5, h⟩ := grd_s h
      refine r_iast' hX dX3_carryOut_43 rfl (by decide) (inb_at rfl k5) ?_
      refine r_aload_n hX dX3_carryOut_44 rfl ?_
      refine r_dup hX dX3_carryOut_45 rfl ?_
      refine r_getf (v := .int ((up2 M.1 92 (tn (M.1 72 7)) v1) 72 7)) hX dX3_carryOut_46 fl_3_33 rfl (by decide) (by decide) rfl ?_
      refine r_iconst (v := (1 : Int32)) hX dX3_carryOut_49 (by decide) ?_
      refine r_iadd hX dX3_carryOut_50 ?_
      refine r_putI' hX dX3_carryOut_51 fl_3_33 rfl (by decide) (by decide) (okI_int _) ?_
      refine r_aload_n hX dX3_carryOut_54 rfl ?_
      refine r_getf (v := .ref 54) hX dX3_carryOut_55 fl_3_37 rfl (by decide) (by decide) rfl ?_
      refine r_iload_n hX dX3_carryOut_58 rfl ?_
      refine r_aload_n hX dX3_carryOut_59 rfl ?_
      refine r_getf (v := .ref 73) hX dX3_carryOut_60 fl_3_12 rfl (by decide) (by decide) rfl ?_
      refine r_getf (v := .ref 85) hX dX3_carryOut_63 fl_3_97 rfl (by decide) (by decide) rfl ?_
      refine r_iload_n hX dX3_carryOut_66 rfl ?_
      obtain ⟨k6, h⟩ := grd_s h
      refine r_iald' hX dX3_carryOut_67 rfl (by decide) (inb_at rfl k6) ?_
      refine r_aload_n hX dX3_carryOut_68 rfl ?_
      refine r_getf (v := .ref 73) hX dX3_carryOut_69 fl_3_12 rfl (by decide) (by decide) rfl ?_
      refine r_getf (v := .ref 86) hX dX3_carryOut_72 fl_3_99 rfl (by decide) (by decide) rfl ?_
      refine r_iload_n hX dX3_carryOut_75 rfl ?_
      obtain ⟨k7, h⟩ := grd_s h
      refine r_iald' hX dX3_carryOut_76 rfl (by decide) (inb_at rfl k7) ?_
      refine r_aload_n hX dX3_carryOut_77 rfl ?_
      refine r_getf (v := .ref 73) hX dX3_carryOut_78 fl_3_12 rfl (by decide) (by decide) rfl ?_
      refine r_getf (v := .ref 87) hX dX3_carryOut_81 fl_3_101 rfl (by decide) (by decide) rfl ?_
      refine r_iload_n hX dX3_carryOut_84 rfl ?_
      obtain ⟨k8, h⟩ := grd_s h
      refine r_iald' hX dX3_carryOut_85 rfl (by decide) (inb_at rfl k8) ?_
      obtain ⟨z9, p10, h⟩ := bnd_s h
      refine r_callV (As := [.int v1, .int ((up2 (up2 M.1 92 (tn (M.1 72 7)) v1) 72 7 (((up2 M.1 92 (tn (M.1 72 7)) v1) 72 7) + (1 : Int32))) 85 (tn v1)), .int ((up2 (up2 M.1 92 (tn (M.1 72 7)) v1) 72 7 (((up2 M.1 92 (tn (M.1 72 7)) v1) 72 7) + (1 : Int32))) 86 (tn v1)), .int ((up2 (up2 M.1 92 (tn (M.1 72 7)) v1) 72 7 (((up2 M.1 92 (tn (M.1 72 7)) v1) 72 7) + (1 : Int32))) 87 (tn v1))]) hX dX3_carryOut_86 mk_St_move mi_St_move ml_3_117 rfl rfl rfl rfl (by decide) (by decide) (Nat.le_of_ble_eq_true rfl) hr (ok_St_move (d := d + 0) n 54 v1 ((up2 (up2 M.1 92 (tn (M.1 72 7)) v1) 72 7 (((up2 M.1 92 (tn (M.1 72 7)) v1) 72 7) + (1 : Int32))) 85 (tn v1)) ((up2 (up2 M.1 92 (tn (M.1 72 7)) v1) 72 7 (((up2 M.1 92 (tn (M.1 72 7)) v1) 72 7) + (1 : Int32))) 86 (tn v1)) ((up2 (up2 M.1 92 (tn (M.1 72 7)) v1) 72 7 (((up2 M.1 92 (tn (M.1 72 7)) v1) 72 7) + (1 : Int32))) 87 (tn v1)) ((up2 (up2 M.1 92 (tn (M.1 72 7)) v1) 72 7 (((up2 M.1 92 (tn (M.1 72 7)) v1) 72 7) + (1 : Int32))), (up2 M.2 72 3 ((M.2 72 3) &&& ((lshl (1 : Int64) v1) ^^^ (-1 : Int64))))) st54 p10) ?_
      refine r_aload_n hX dX3_carryOut_89 rfl ?_
      refine r_iload_n hX dX3_carryOut_90 rfl ?_
      obtain ⟨z11, p12, h⟩ := bnd_s h
      refine r_callV (As := [.int v1]) hX dX3_carryOut_91 mk_Rp_waitAnewFor mi_Rp_waitAnewFor ml_3_120 rfl rfl rfl rfl (by decide) (by decide) (Nat.le_of_ble_eq_true rfl) hr (ok_Rp_waitAnewFor (d := d + 1) n v1 z9 p12) ?_
      refine r_aload_n hX dX3_carryOut_94 rfl ?_
      obtain ⟨z13, p14, h⟩ := bnd_s h
      refine r_callV (As := []) hX dX3_carryOut_95 mk_Rp_nextFree mi_Rp_nextFree ml_3_111 rfl rfl rfl rfl (by decide) (by decide) (Nat.le_of_ble_eq_true rfl) hr (ok_Rp_nextFree (d := d + 2) n z11 p14) ?_
      refine r_istore_n (L1 := [.ref 72, .int z13]) hX dX3_carryOut_98 (Nat.le_of_ble_eq_true rfl) rfl ?_
      refine r_goto (tgt := 5) hX dX3_carryOut_99 (by decide) ?_
      exact hc (z13, z11) (Option.some.inj h).symm
set_option maxRecDepth 100000 in
theorem ok_Rp_carryOut {G : Gm} {l : Launch} {d : Nat} (n : Nat) (M : Mm) {z : Mm}  (h : Rp_carryOut n M = some z) : CK G l (d + 3) md_Rp_carryOut [.ref 72] M SS (none) z SS := by
  refine ck_of mk_Rp_carryOut (Nat.le_of_ble_eq_true rfl) ⟨Nat.le_refl _, Nat.le_refl _⟩ (fun X hX hT hS hr hl => ?_)
  subst hl
  unfold Rp_carryOut at h
  show WR G X (mQ G X (none) z SS) 0 [.ref 72, vU] [] M SS
  refine r_aload_n hX dX3_carryOut_0 rfl ?_
  obtain ⟨z1, p2, h⟩ := bnd_s h
  refine r_callV (As := []) hX dX3_carryOut_1 mk_Rp_nextFree mi_Rp_nextFree ml_3_111 rfl rfl rfl rfl (by decide) (by decide) (Nat.le_of_ble_eq_true rfl) hr (ok_Rp_nextFree (d := d + 2) n M p2) ?_
  refine r_istore_n (L1 := [.ref 72, .int z1]) hX dX3_carryOut_4 (Nat.le_of_ble_eq_true rfl) rfl ?_
  obtain ⟨y15, h1, h⟩ := bnd_s h
  refine loop_ok (P := fun s1 : Int32 × Mm => WR G X (mQ G X (none) z SS) 5 [.ref 72, .int s1.1] [] s1.2 SS) (E := fun x1 : Mm => WR G X (mQ G X (none) z SS) 102 [.ref 72, vU] [] x1 SS) (fun s1 o1 g1 g2 g3 => ok_Rp_carryOut_b5 n s1.1 s1.2  hX hT hr g2 g3 g1) n (z1, M) y15 h1 ?_
  show WR G X (mQ G X (none) z SS) 102 [.ref 72, vU] [] y15 SS
  obtain rfl := Option.some.inj h
  exact r_vret hX hT dX3_carryOut_102
