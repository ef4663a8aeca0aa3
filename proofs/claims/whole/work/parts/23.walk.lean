def Fg_lasts (v1 : Int32) (v2 : Int32) (M : Mm) : Option (Int32 × Mm) :=
  if v2 < (1 : Int32) then
    some ((-1 : Int32), M)
  else
    if (9999 : Int32) < v2 then
      some ((-1 : Int32), M)
    else
      bnd (St_isLitOrDark 18 v1 M) (fun z3 =>
      if z3 = true then
        grd (inb v1 40) (
        grd (inb v1 40) (
        some ((up2 M.1 29 (tn v1) ((M.1 18 2) + v2)) 29 (tn v1), ((up2 M.1 29 (tn v1) ((M.1 18 2) + v2)), M.2))))
      else
        some ((-1 : Int32), M))
set_option maxRecDepth 100000 in
theorem ok_Fg_lasts {G : Gm} {l : Launch} {d : Nat} (v1 : Int32) (v2 : Int32) (M : Mm) {z : Int32 × Mm}  (h : Fg_lasts v1 v2 M = some z) : CK G l (d + 2) md_Fg_lasts [.ref 0, .int v1, .int v2] M SS (some (.int z.1)) z.2 SS := by
  refine ck_of mk_Fg_lasts (Nat.le_of_ble_eq_true rfl) ⟨Nat.le_refl _, Nat.le_refl _⟩ (fun X hX hT hS hr hl => ?_)
  subst hl
  unfold Fg_lasts at h
  show WR G X (mQ G X (some (.int z.1)) z.2 SS) 0 [.ref 0, .int v1, .int v2] [] M SS
  refine r_iload_n hX dX8_lasts_0 rfl ?_
  refine r_iconst (v := (1 : Int32)) hX dX8_lasts_1 (by decide) ?_
  refine r_icmp_lt (tgt := 23) hX dX8_lasts_2 (by decide) (fun g1 => ?_) (fun g1 => ?_)
  · have h := (if_pos g1).symm.trans h
    refine r_iconst (v := (-1 : Int32)) hX dX8_lasts_23 (by decide) ?_
    obtain rfl := Option.some.inj h
    exact r_iret hX hT dX8_lasts_24 rfl
  · have h := (if_neg g1).symm.trans h
    refine r_iload_n hX dX8_lasts_5 rfl ?_
    refine r_sipush (v := (9999 : Int32)) hX dX8_lasts_6 (by decide) ?_
    refine r_icmp_gt (tgt := 23) hX dX8_lasts_9 (by decide) (fun g2 => ?_) (fun g2 => ?_)
    · have h := (if_pos g2).symm.trans h
      refine r_iconst (v := (-1 : Int32)) hX dX8_lasts_23 (by decide) ?_
      obtain rfl := Option.some.inj h
      exact r_iret hX hT dX8_lasts_24 rfl
    · have h := (if_neg g2).symm.trans h
      refine r_aload_n hX dX8_lasts_12 rfl ?_
      refine r_getf (v := .ref 18) hX dX8_lasts_13 fl_8_35 rfl (by decide) (by decide) rfl ?_
      refine r_iload_n hX dX8_lasts_16 rfl ?_
      obtain ⟨z3, p4, h⟩ := bnd_s h
      refine r_callV (As := [.int v1]) hX dX8_lasts_17 mk_St_isLitOrDark mi_St_isLitOrDark ml_8_248 rfl rfl rfl rfl (by decide) (by decide) (Nat.le_of_ble_eq_true rfl) hr (ok_St_isLitOrDark (d := d + 0) 18 v1 M st18 p4) ?_
      refine r_ifb_ne (tgt := 25) hX dX8_lasts_20 (by decide) (fun g5 => ?_) (fun g5 => ?_)
      · have h := (if_pos g5).symm.trans h
        refine r_aload_n hX dX8_lasts_25 rfl ?_
        refine r_getf (v := .ref 18) hX dX8_lasts_26 fl_8_35 rfl (by decide) (by decide) rfl ?_
        refine r_getf (v := .ref 29) hX dX8_lasts_29 fl_8_251 rfl (by decide) (by decide) rfl ?_
        refine r_iload_n hX dX8_lasts_32 rfl ?_
        refine r_aload_n hX dX8_lasts_33 rfl ?_
        refine r_getf (v := .ref 18) hX dX8_lasts_34 fl_8_35 rfl (by decide) (by decide) rfl ?_
        refine r_getf (v := .int (M.1 18 2)) hX dX8_lasts_37 fl_8_254 rfl (by decide) (by decide) rfl ?_
        refine r_iload_n hX dX8_lasts_40 rfl ?_
        refine r_iadd hX dX8_lasts_41 ?_
        obtain ⟨k6, h⟩ := grd_s h
        refine r_iast hX dX8_lasts_42 rfl (by decide) (inb_at rfl k6) ?_
        refine r_aload_n hX dX8_lasts_43 rfl ?_
        refine r_getf (v := .ref 18) hX dX8_lasts_44 fl_8_35 rfl (by decide) (by decide) rfl ?_
        refine r_getf (v := .ref 29) hX dX8_lasts_47 fl_8_251 rfl (by decide) (by decide) rfl ?_
        refine r_iload_n hX dX8_lasts_50 rfl ?_
        obtain ⟨k7, h⟩ := grd_s h
        refine r_iald' hX dX8_lasts_51 rfl (by decide) (inb_at rfl k7) ?_
        obtain rfl := Option.some.inj h
        exact r_iret hX hT dX8_lasts_52 rfl
      · have h := (if_neg (show ¬ z3 = true from fun e => by rw [g5] at e; cases e)).symm.trans h
        refine r_iconst (v := (-1 : Int32)) hX dX8_lasts_23 (by decide) ?_
        obtain rfl := Option.some.inj h
        exact r_iret hX hT dX8_lasts_24 rfl
def Fg_mend (v1 : Int32) (M : Mm) : Option (Bool × Mm) :=
  bnd (St_hasLink 18 v1 M) (fun z1 =>
  if z1 = true then
    bnd (St_isUp 18 v1 M) (fun z4 =>
    if z4 = true then
      some (false, M)
    else
      some (true, ((up2 M.1 18 1 ((M.1 18 1) ||| ((1 : Int32) <<< (v1 &&& 31)))), M.2)))
  else
    some (false, M))
set_option maxRecDepth 100000 in
theorem ok_Fg_mend {G : Gm} {l : Launch} {d : Nat} (v1 : Int32) (M : Mm) {z : Bool × Mm}  (h : Fg_mend v1 M = some z) : CK G l (d + 1) md_Fg_mend [.ref 0, .int v1] M SS (some (.int (b2i z.1))) z.2 SS := by
  refine ck_of mk_Fg_mend (Nat.le_of_ble_eq_true rfl) ⟨Nat.le_refl _, Nat.le_refl _⟩ (fun X hX hT hS hr hl => ?_)
  subst hl
  unfold Fg_mend at h
  show WR G X (mQ G X (some (.int (b2i z.1))) z.2 SS) 0 [.ref 0, .int v1] [] M SS
  refine r_aload_n hX dX8_mend_0 rfl ?_
  refine r_getf (v := .ref 18) hX dX8_mend_1 fl_8_35 rfl (by decide) (by decide) rfl ?_
  refine r_iload_n hX dX8_mend_4 rfl ?_
  obtain ⟨z1, p2, h⟩ := bnd_s h
  refine r_callV (As := [.int v1]) hX dX8_mend_5 mk_St_hasLink mi_St_hasLink ml_8_216 rfl rfl rfl rfl (by decide) (by decide) (Nat.le_of_ble_eq_true rfl) hr (ok_St_hasLink (d := d + 0) 18 v1 M st18 p2) ?_
  refine r_ifb_eq (tgt := 22) hX dX8_mend_8 (by decide) (fun g3 => ?_) (fun g3 => ?_)
  · have h := (if_neg (show ¬ z1 = true from fun e => by rw [g3] at e; cases e)).symm.trans h
    refine r_iconst (v := (0 : Int32)) hX dX8_mend_22 (by decide) ?_
    obtain rfl := Option.some.inj h
    exact r_iret (v := b2i false) hX hT dX8_mend_23 (okI_b false).1
  · have h := (if_pos g3).symm.trans h
    refine r_aload_n hX dX8_mend_11 rfl ?_
    refine r_getf (v := .ref 18) hX dX8_mend_12 fl_8_35 rfl (by decide) (by decide) rfl ?_
    refine r_iload_n hX dX8_mend_15 rfl ?_
    obtain ⟨z4, p5, h⟩ := bnd_s h
    refine r_callV (As := [.int v1]) hX dX8_mend_16 mk_St_isUp mi_St_isUp ml_8_219 rfl rfl rfl rfl (by decide) (by decide) (Nat.le_of_ble_eq_true rfl) hr (ok_St_isUp (d := d + 0) 18 v1 M st18 p5) ?_
    refine r_ifb_eq (tgt := 24) hX dX8_mend_19 (by decide) (fun g6 => ?_) (fun g6 => ?_)
    · have h := (if_neg (show ¬ z4 = true from fun e => by rw [g6] at e; cases e)).symm.trans h
      refine r_aload_n hX dX8_mend_24 rfl ?_
      refine r_getf (v := .ref 18) hX dX8_mend_25 fl_8_35 rfl (by decide) (by decide) rfl ?_
      refine r_dup hX dX8_mend_28 rfl ?_
      refine r_getf (v := .int (M.1 18 1)) hX dX8_mend_29 fl_8_225 rfl (by decide) (by decide) rfl ?_
      refine r_iconst (v := (1 : Int32)) hX dX8_mend_32 (by decide) ?_
      refine r_iload_n hX dX8_mend_33 rfl ?_
      refine r_ishl hX dX8_mend_34 ?_
      refine r_ior hX dX8_mend_35 ?_
      refine r_putI hX dX8_mend_36 fl_8_225 rfl (by decide) (by decide) (okI_int _) ?_
      refine r_iconst (v := (1 : Int32)) hX dX8_mend_39 (by decide) ?_
      obtain rfl := Option.some.inj h
      exact r_iret (v := b2i true) hX hT dX8_mend_40 (okI_b true).1
    · have h := (if_pos g6).symm.trans h
      refine r_iconst (v := (0 : Int32)) hX dX8_mend_22 (by decide) ?_
      obtain rfl := Option.some.inj h
      exact r_iret (v := b2i false) hX hT dX8_mend_23 (okI_b false).1
def Fg_plan (n : Nat) (v1 : Int32) (M : Mm) : Option (Int32 × Mm) :=
  bnd (Fg_isRule v1 M) (fun z1 =>
  if z1 = true then
    bnd (Rp_lay n 18 v1 M) (fun z4 =>
    if z4.1 = true then
      bnd (Rp_carryOut n z4.2) (fun z7 =>
      bnd (St_copy 18 54 z7) (fun z9 =>
      some (z9.1 72 7, z9)))
    else
      some ((-2 : Int32), z4.2))
  else
    some ((-1 : Int32), M))
set_option maxRecDepth 100000 in
theorem ok_Fg_plan {G : Gm} {l : Launch} {d : Nat} (n : Nat) (v1 : Int32) (M : Mm) {z : Int32 × Mm}  (h : Fg_plan n v1 M = some z) : CK G l (d + 14) md_Fg_plan [.ref 0, .int v1] M SS (some (.int z.1)) z.2 SS := by
  refine ck_of mk_Fg_plan (Nat.le_of_ble_eq_true rfl) ⟨Nat.le_refl _, Nat.le_refl _⟩ (fun X hX hT hS hr hl => ?_)
  subst hl
  unfold Fg_plan at h
  show WR G X (mQ G X (some (.int z.1)) z.2 SS) 0 [.ref 0, .int v1] [] M SS
  refine r_iload_n hX dX8_plan_0 rfl ?_
  obtain ⟨z1, p2, h⟩ := bnd_s h
  refine r_callS (As := [.int v1]) hX dX8_plan_1 mk_Fg_isRule ms_Fg_isRule ml_8_142 rfl rfl rfl (Nat.le_of_ble_eq_true rfl) hr (ok_Fg_isRule (d := d + 13) v1 M p2) ?_
  refine r_ifb_ne (tgt := 9) hX dX8_plan_4 (by decide) (fun g3 => ?_) (fun g3 => ?_)
  · have h := (if_pos g3).symm.trans h
    refine r_aload_n hX dX8_plan_9 rfl ?_
    refine r_getf (v := .ref 72) hX dX8_plan_10 fl_8_50 rfl (by decide) (by decide) rfl ?_
    refine r_aload_n hX dX8_plan_13 rfl ?_
    refine r_getf (v := .ref 18) hX dX8_plan_14 fl_8_35 rfl (by decide) (by decide) rfl ?_
    refine r_iload_n hX dX8_plan_17 rfl ?_
    obtain ⟨z4, p5, h⟩ := bnd_s h
    refine r_callV (As := [.ref 18, .int v1]) hX dX8_plan_18 mk_Rp_lay mi_Rp_lay ml_8_378 rfl rfl rfl rfl (by decide) (by decide) (Nat.le_of_ble_eq_true rfl) hr (ok_Rp_lay (d := d + 0) n 18 v1 M st18 p5) ?_
    refine r_ifb_ne (tgt := 27) hX dX8_plan_21 (by decide) (fun g6 => ?_) (fun g6 => ?_)
    · have h := (if_pos g6).symm.trans h
      refine r_aload_n hX dX8_plan_27 rfl ?_
      refine r_getf (v := .ref 72) hX dX8_plan_28 fl_8_50 rfl (by decide) (by decide) rfl ?_
      obtain ⟨z7, p8, h⟩ := bnd_s h
      refine r_callV (As := []) hX dX8_plan_31 mk_Rp_carryOut mi_Rp_carryOut ml_8_382 rfl rfl rfl rfl (by decide) (by decide) (Nat.le_of_ble_eq_true rfl) hr (ok_Rp_carryOut (d := d + 10) n z4.2 p8) ?_
      refine r_aload_n hX dX8_plan_34 rfl ?_
      refine r_getf (v := .ref 18) hX dX8_plan_35 fl_8_35 rfl (by decide) (by decide) rfl ?_
      refine r_aload_n hX dX8_plan_38 rfl ?_
      refine r_getf (v := .ref 54) hX dX8_plan_39 fl_8_42 rfl (by decide) (by decide) rfl ?_
      obtain ⟨z9, p10, h⟩ := bnd_s h
      refine r_callV (As := [.ref 54]) hX dX8_plan_42 mk_St_copy mi_St_copy ml_8_241 rfl rfl rfl rfl (by decide) (by decide) (Nat.le_of_ble_eq_true rfl) hr (ok_St_copy (d := d + 12) 18 54 z7 st18 st54 p10) ?_
      refine r_aload_n hX dX8_plan_45 rfl ?_
      refine r_getf (v := .ref 72) hX dX8_plan_46 fl_8_50 rfl (by decide) (by decide) rfl ?_
      refine r_getf (v := .int (z9.1 72 7)) hX dX8_plan_49 fl_8_385 rfl (by decide) (by decide) rfl ?_
      obtain rfl := Option.some.inj h
      exact r_iret hX hT dX8_plan_52 rfl
    · have h := (if_neg (show ¬ z4.1 = true from fun e => by rw [g6] at e; cases e)).symm.trans h
      refine r_bipush (v := (-2 : Int32)) hX dX8_plan_24 (by decide) ?_
      obtain rfl := Option.some.inj h
      exact r_iret hX hT dX8_plan_26 rfl
  · have h := (if_neg (show ¬ z1 = true from fun e => by rw [g3] at e; cases e)).symm.trans h
    refine r_iconst (v := (-1 : Int32)) hX dX8_plan_7 (by decide) ?_
    obtain rfl := Option.some.inj h
    exact r_iret hX hT dX8_plan_8 rfl
def Fg_lightAll_j88 (v3 : Int32) (v4 : Int32) (M : Mm) : Option ((Int32 × Int32 × Mm) ⊕ (Int32 × Mm)) :=
  some (.inl (v3, v4 + (1 : Int32), M))
def Fg_lightAll_b5 (n : Nat) (o : Nat) (c2 : Int32) (v3 : Int32) (v4 : Int32) (M : Mm) : Option ((Int32 × Int32 × Mm) ⊕ (Int32 × Mm)) :=
  if (M.1 o 4) ≤ v4 then
    some (.inr (v3, M))
  else
    grd (inb v4 40) (
    if (M.1 (o + 10) (tn v4)) = (2 : Int32) then
      grd (inb v4 40) (
      grd (inb v4 40) (
      grd (inb v4 40) (
      bnd (Fi_find n o (M.1 (o + 7) (tn v4)) (M.1 (o + 8) (tn v4)) (M.1 (o + 9) (tn v4)) c2 M) (fun z7 =>
      if z7.1 = true then
        bnd (St_put n o v4 (z7.2.1 12 2) (z7.2.1 12 3) (z7.2.1 12 4) z7.2) (fun z10 =>
        Fg_lightAll_j88 (v3 + (1 : Int32)) v4 z10)
      else
        Fg_lightAll_j88 v3 v4 z7.2))))
    else
      Fg_lightAll_j88 v3 v4 M)
def Fg_lightAll (n : Nat) (o : Nat) (v2 : Int32) (M : Mm) : Option (Int32 × Mm) :=
  bnd (loop (fun s1 : Int32 × Int32 × Mm => Fg_lightAll_b5 n o v2 s1.1 s1.2.1 s1.2.2) n ((0 : Int32), (0 : Int32), M)) (fun y12 =>
  some (y12.1, y12.2))
set_option maxRecDepth 100000 in
theorem ok_Fg_lightAll_j88 (n : Nat) (o : Nat) (v3 : Int32) (v4 : Int32) (M : Mm) {c2 : Int32} {z : Int32 × Mm} {oo : (Int32 × Int32 × Mm) ⊕ (Int32 × Mm)} {G : Gm} {X : Cx} {d : Nat} (ho : isSt o) (hX : XK G X 8 cX8_lightAll 5 (d + 13)) (hT : XT X (some .int) "lightAll") (hr : XR X SS) (hc : ∀ s1 : Int32 × Int32 × Mm, oo = .inl s1 → WR G X (mQ G X (some (.int z.1)) z.2 SS) 5 [.ref 0, .ref o, .int c2, .int s1.1, .int s1.2.1] [] s1.2.2 SS) (hx : ∀ x1 : Int32 × Mm, oo = .inr x1 → WR G X (mQ G X (some (.int z.1)) z.2 SS) 94 [.ref 0, vU, vU, .int x1.1, vU] [] x1.2 SS) (h : Fg_lightAll_j88 v3 v4 M = some oo) : WR G X (mQ G X (some (.int z.1)) z.2 SS) 88 [.ref 0, .ref o, .int c2, .int v3, .int v4] [] M SS := by
  unfold Fg_lightAll_j88 at h
  refine r_iinc (v := v4 + (1 : Int32)) (L1 := [.ref 0, .ref o, .int c2, .int v3, .int (v4 + (1 : Int32))]) hX dX8_lightAll_88 rfl rfl rfl ?_
  refine r_goto (tgt := 5) hX dX8_lightAll_91 (by decide) ?_
  exact hc (v3, v4 + (1 : Int32), M) (Option.some.inj h).symm
set_option maxRecDepth 100000 in
theorem ok_Fg_lightAll_b5 (n : Nat) (o : Nat) (v3 : Int32) (v4 : Int32) (M : Mm) {c2 : Int32} {z : Int32 × Mm} {oo : (Int32 × Int32 × Mm) ⊕ (Int32 × Mm)} {G : Gm} {X : Cx} {d : Nat} (ho : isSt o) (hX : XK G X 8 cX8_lightAll 5 (d + 13)) (hT : XT X (some .int) "lightAll") (hr : XR X SS) (hc : ∀ s1 : Int32 × Int32 × Mm, oo = .inl s1 → WR G X (mQ G X (some (.int z.1)) z.2 SS) 5 [.ref 0, .ref o, .int c2, .int s1.1, .int s1.2.1] [] s1.2.2 SS) (hx : ∀ x1 : Int32 × Mm, oo = .inr x1 → WR G X (mQ G X (some (.int z.1)) z.2 SS) 94 [.ref 0, vU, vU, .int x1.1, vU] [] x1.2 SS) (h : Fg_lightAll_b5 n o c2 v3 v4 M = some oo) : WR G X (mQ G X (some (.int z.1)) z.2 SS) 5 [.ref 0, .ref o, .int c2, .int v3, .int v4] [] M SS := by
  unfold Fg_lightAll_b5 at h
  refine r_iload hX dX8_lightAll_5 rfl ?_
  refine r_aload_n hX dX8_lightAll_7 rfl ?_
  refine r_getf (v := .int (M.1 o 4)) hX dX8_lightAll_8 fl_8_145 (kdS0 ho) (by decide) (ltS0 ho) rfl ?_
  refine r_icmp_ge (tgt := 94) hX dX8_lightAll_11 (by decide) (fun g1 => ?_) (fun g1 => ?_)
  · have h := (if_pos g1).symm.trans h
    refine WR.fg (L' := [.ref 0, vU, vU, .int v3, vU]) ⟨Or.inr rfl, Or.inl rfl, Or.inl rfl, Or.inr rfl, Or.inl rfl, trivial⟩ ?_
    exact hx _ (Option.some.inj h).symm
  · have h := (if_neg g1).symm.trans h
    refine r_aload_n hX dX8_lightAll_14 rfl ?_
    refine r_getf (v := .ref (o + 10)) hX dX8_lightAll_15 fl_8_172 (kdS0 ho) (by decide) (ltS0 ho) (rfS8 ho) ?_
    refine r_iload hX dX8_lightAll_18 rfl ?_
    obtain ⟨k2, h⟩ := grd_s h
    refine r_iald hX dX8_lightAll_20 (kdS10 ho) (ltS10 ho) (inb_at (lnS10 ho) k2) ?_
    refine r_iconst (v := (2 : Int32)) hX dX8_lightAll_21 (by decide) ?_
    refine r_icmp_ne (tgt := 88) hX dX8_lightAll_22 (by decide) (fun g3 => ?_) (fun g3 => ?_)
    · have h := (if_neg g3).symm.trans h
      exact ok_Fg_lightAll_j88 n o v3 v4 M  ho hX hT hr hc hx h
    · have h := (if_pos g3).symm.trans h
      refine r_aload_n hX dX8_lightAll_25 rfl ?_
      refine r_getf (v := .ref 12) hX dX8_lightAll_26 fl_8_28 rfl (by decide) (by decide) rfl ?_
      refine r_aload_n hX dX8_lightAll_29 rfl ?_
      refine r_aload_n hX dX8_lightAll_30 rfl ?_
      refine r_getf (v := .ref (o + 7)) hX dX8_lightAll_31 fl_8_232 (kdS0 ho) (by decide) (ltS0 ho) (rfS5 ho) ?_
      refine r_iload hX dX8_lightAll_34 rfl ?_
      obtain ⟨k4, h⟩ := grd_s h
      refine r_iald hX dX8_lightAll_36 (kdS7 ho) (ltS7 ho) (inb_at (lnS7 ho) k4) ?_
      refine r_aload_n hX dX8_lightAll_37 rfl ?_
      refine r_getf (v := .ref (o + 8)) hX dX8_lightAll_38 fl_8_235 (kdS0 ho) (by decide) (ltS0 ho) (rfS6 ho) ?_
      refine r_iload hX dX8_lightAll_41 rfl ?_
      obtain ⟨k5, h⟩ := grd_s h
      refine r_iald hX dX8_lightAll_43 (kdS8 ho) (ltS8 ho) (inb_at (lnS8 ho) k5) ?_
      refine r_aload_n hX dX8_lightAll_44 rfl ?_
      refine r_getf (v := .ref (o + 9)) hX dX8_lightAll_45 fl_8_238 (kdS0 ho) (by decide) (ltS0 ho) (rfS7 ho) ?_
      refine r_iload hX dX8_lightAll_48 rfl ?_
      obtain ⟨k6, h⟩ := grd_s h
      refine r_iald hX dX8_lightAll_50 (kdS9 ho) (ltS9 ho) (inb_at (lnS9 ho) k6) ?_
      refine r_iload_n hX dX8_lightAll_51 rfl ?_
      obtain ⟨z7, p8, h⟩ := bnd_s h
      refine r_callV (As := [.ref o, .int (M.1 (o + 7) (tn v4)), .int (M.1 (o + 8) (tn v4)), .int (M.1 (o + 9) (tn v4)), .int c2]) hX dX8_lightAll_52 mk_Fi_find mi_Fi_find ml_8_152 rfl rfl rfl rfl (by decide) (by decide) (Nat.le_of_ble_eq_true rfl) hr (ok_Fi_find (d := d + 0) n o (M.1 (o + 7) (tn v4)) (M.1 (o + 8) (tn v4)) (M.1 (o + 9) (tn v4)) c2 M ho p8) ?_
      refine r_ifb_eq (tgt := 88) hX dX8_lightAll_55 (by decide) (fun g9 => ?_) (fun g9 => ?_)
      · have h := (if_neg (show ¬ z7.1 = true from fun e => by rw [g9] at e; cases e)).symm.trans h
        exact ok_Fg_lightAll_j88 n o v3 v4 z7.2  ho hX hT hr hc hx h
      · have h := (if_pos g9).symm.trans h
        refine r_aload_n hX dX8_lightAll_58 rfl ?_
        refine r_iload hX dX8_lightAll_59 rfl ?_
        refine r_aload_n hX dX8_lightAll_61 rfl ?_
        refine r_getf (v := .ref 12) hX dX8_lightAll_62 fl_8_28 rfl (by decide) (by decide) rfl ?_
        refine r_getf (v := .int (z7.2.1 12 2)) hX dX8_lightAll_65 fl_8_156 rfl (by decide) (by decide) rfl ?_
        refine r_aload_n hX dX8_lightAll_68 rfl ?_
        refine r_getf (v := .ref 12) hX dX8_lightAll_69 fl_8_28 rfl (by decide) (by decide) rfl ?_
        refine r_getf (v := .int (z7.2.1 12 3)) hX dX8_lightAll_72 fl_8_159 rfl (by decide) (by decide) rfl ?_
        refine r_aload_n hX dX8_lightAll_75 rfl ?_
        refine r_getf (v := .ref 12) hX dX8_lightAll_76 fl_8_28 rfl (by decide) (by decide) rfl ?_
        refine r_getf (v := .int (z7.2.1 12 4)) hX dX8_lightAll_79 fl_8_162 rfl (by decide) (by decide) rfl ?_
        obtain ⟨z10, p11, h⟩ := bnd_s h
        refine r_callV (As := [.int v4, .int (z7.2.1 12 2), .int (z7.2.1 12 3), .int (z7.2.1 12 4)]) hX dX8_lightAll_82 mk_St_put mi_St_put ml_8_165 rfl rfl rfl (kdS0 ho) (by decide) (ltS0 ho) (Nat.le_of_ble_eq_true rfl) hr (ok_St_put (d := d + 11) n o v4 (z7.2.1 12 2) (z7.2.1 12 3) (z7.2.1 12 4) z7.2 ho p11) ?_
        refine r_iinc (v := v3 + (1 : Int32)) (L1 := [.ref 0, .ref o, .int c2, .int (v3 + (1 : Int32)), .int v4]) hX dX8_lightAll_85 rfl rfl rfl ?_
        exact ok_Fg_lightAll_j88 n o (v3 + (1 : Int32)) v4 z10  ho hX hT hr hc hx h
set_option maxRecDepth 100000 in
theorem ok_Fg_lightAll {G : Gm} {l : Launch} {d : Nat} (n : Nat) (o : Nat) (v2 : Int32) (M : Mm) {z : Int32 × Mm} (ho : isSt o) (h : Fg_lightAll n o v2 M = some z) : CK G l (d + 13) md_Fg_lightAll [.ref 0, .ref o, .int v2] M SS (some (.int z.1)) z.2 SS := by
  refine ck_of mk_Fg_lightAll (Nat.le_of_ble_eq_true rfl) ⟨Nat.le_refl _, Nat.le_refl _⟩ (fun X hX hT hS hr hl => ?_)
  subst hl
  unfold Fg_lightAll at h
  show WR G X (mQ G X (some (.int z.1)) z.2 SS) 0 [.ref 0, .ref o, .int v2, vU, vU] [] M SS
  refine r_iconst (v := (0 : Int32)) hX dX8_lightAll_0 (by decide) ?_
  refine r_istore_n (L1 := [.ref 0, .ref o, .int v2, .int (0 : Int32), vU]) hX dX8_lightAll_1 (Nat.le_of_ble_eq_true rfl) rfl ?_
  refine r_iconst (v := (0 : Int32)) hX dX8_lightAll_2 (by decide) ?_
  refine r_istore (L1 := [.ref 0, .ref o, .int v2, .int (0 : Int32), .int (0 : Int32)]) hX dX8_lightAll_3 (Nat.le_of_ble_eq_true rfl) rfl ?_
  obtain ⟨y12, h1, h⟩ := bnd_s h
  refine loop_ok (P := fun s1 : Int32 × Int32 × Mm => WR G X (mQ G X (some (.int z.1)) z.2 SS) 5 [.ref 0, .ref o, .int v2, .int s1.1, .int s1.2.1] [] s1.2.2 SS) (E := fun x1 : Int32 × Mm => WR G X (mQ G X (some (.int z.1)) z.2 SS) 94 [.ref 0, vU, vU, .int x1.1, vU] [] x1.2 SS) (fun s1 o1 g1 g2 g3 => ok_Fg_lightAll_b5 n o s1.1 s1.2.1 s1.2.2 ho hX hT hr g2 g3 g1) n ((0 : Int32), (0 : Int32), M) y12 h1 ?_
  show WR G X (mQ G X (some (.int z.1)) z.2 SS) 94 [.ref 0, vU, vU, .int y12.1, vU] [] y12.2 SS
  refine r_iload_n hX dX8_lightAll_94 rfl ?_
  obtain rfl := Option.some.inj h
  exact r_iret hX hT dX8_lightAll_95 rfl
def Fg_relight (n : Nat) (v1 : Int32) (M : Mm) : Option (Int32 × Mm) :=
  bnd (Fg_isRule v1 M) (fun z1 =>
  if z1 = true then
    bnd (Fg_lightAll n 18 v1 M) (fun z4 =>
    some (z4.1, z4.2))
  else
    some ((-1 : Int32), M))
set_option maxRecDepth 100000 in
theorem ok_Fg_relight {G : Gm} {l : Launch} {d : Nat} (n : Nat) (v1 : Int32) (M : Mm) {z : Int32 × Mm}  (h : Fg_relight n v1 M = some z) : CK G l (d + 14) md_Fg_relight [.ref 0, .int v1] M SS (some (.int z.1)) z.2 SS := by
  refine ck_of mk_Fg_relight (Nat.le_of_ble_eq_true rfl) ⟨Nat.le_refl _, Nat.le_refl _⟩ (fun X hX hT hS hr hl => ?_)
  subst hl
  unfold Fg_relight at h
  show WR G X (mQ G X (some (.int z.1)) z.2 SS) 0 [.ref 0, .int v1] [] M SS
  refine r_iload_n hX dX8_relight_0 rfl ?_
  obtain ⟨z1, p2, h⟩ := bnd_s h
  refine r_callS (As := [.int v1]) hX dX8_relight_1 mk_Fg_isRule ms_Fg_isRule ml_8_142 rfl rfl rfl (Nat.le_of_ble_eq_true rfl) hr (ok_Fg_isRule (d := d + 13) v1 M p2) ?_
  refine r_ifb_ne (tgt := 9) hX dX8_relight_4 (by decide) (fun g3 => ?_) (fun g3 => ?_)
  · have h := (if_pos g3).symm.trans h
    refine r_aload_n hX dX8_relight_9 rfl ?_
    refine r_aload_n hX dX8_relight_10 rfl ?_
    refine r_getf (v := .ref 18) hX dX8_relight_11 fl_8_35 rfl (by decide) (by decide) rfl ?_
    refine r_iload_n hX dX8_relight_14 rfl ?_
    obtain ⟨z4, p5, h⟩ := bnd_s h
    refine r_callV (As := [.ref 18, .int v1]) hX dX8_relight_15 mk_Fg_lightAll mi_Fg_lightAll ml_8_228 rfl rfl rfl rfl (by decide) (by decide) (Nat.le_of_ble_eq_true rfl) hr (ok_Fg_lightAll (d := d + 0) n 18 v1 M st18 p5) ?_
    obtain rfl := Option.some.inj h
    exact r_iret hX hT dX8_relight_18 rfl
  · have h := (if_neg (show ¬ z1 = true from fun e => by rw [g3] at e; cases e)).symm.trans h
    refine r_iconst (v := (-1 : Int32)) hX dX8_relight_7 (by decide) ?_
    obtain rfl := Option.some.inj h
    exact r_iret hX hT dX8_relight_8 rfl
def Fg_slideDown (n : Nat) (v1 : Int32) (M : Mm) : Option (Int32 × Mm) :=
  bnd (St_slideRoom n 18 v1 M) (fun z1 =>
  if z1 ≤ (0 : Int32) then
    some (z1, M)
  else
    grd (inb v1 40) (
    grd (inb v1 40) (
    grd (inb v1 40) (
    bnd (St_move n 18 v1 (M.1 30 (tn v1)) ((M.1 31 (tn v1)) - z1) (M.1 32 (tn v1)) M) (fun z7 =>
    some (z1, z7))))))
set_option maxRecDepth 100000 in
theorem ok_Fg_slideDown {G : Gm} {l : Launch} {d : Nat} (n : Nat) (v1 : Int32) (M : Mm) {z : Int32 × Mm}  (h : Fg_slideDown n v1 M = some z) : CK G l (d + 3) md_Fg_slideDown [.ref 0, .int v1] M SS (some (.int z.1)) z.2 SS := by
  refine ck_of mk_Fg_slideDown (Nat.le_of_ble_eq_true rfl) ⟨Nat.le_refl _, Nat.le_refl _⟩ (fun X hX hT hS hr hl => ?_)
  subst hl
  unfold Fg_slideDown at h
  show WR G X (mQ G X (some (.int z.1)) z.2 SS) 0 [.ref 0, .int v1, vU] [] M SS
  refine r_aload_n hX dX8_slideDown_0 rfl ?_
  refine r_getf (v := .ref 18) hX dX8_slideDown_1 fl_8_35 rfl (by decide) (by decide) rfl ?_
  refine r_iload_n hX dX8_slideDown_4 rfl ?_
  obtain ⟨z1, p2, h⟩ := bnd_s h
  refine r_callV (As := [.int v1]) hX dX8_slideDown_5 mk_St_slideRoom mi_St_slideRoom ml_8_186 rfl rfl rfl rfl (by decide) (by decide) (Nat.le_of_ble_eq_true rfl) hr (ok_St_slideRoom (d := d + 0) n 18 v1 M st18 p2) ?_
  refine r_istore_n (L1 := [.ref 0, .int v1, .int z1]) hX dX8_slideDown_8 (Nat.le_of_ble_eq_true rfl) rfl ?_
  refine r_iload_n hX dX8_slideDown_9 rfl ?_
  refine r_if_le (tgt := 50) hX dX8_slideDown_10 (by decide) (fun g3 => ?_) (fun g3 => ?_)
  · have h := (if_pos g3).symm.trans h
    refine r_iload_n hX dX8_slideDown_50 rfl ?_
    obtain rfl := Option.some.inj h
    exact r_iret hX hT dX8_slideDown_51 rfl
  · have h := (if_neg g3).symm.trans h
    refine r_aload_n hX dX8_slideDown_13 rfl ?_
    refine r_getf (v := .ref 18) hX dX8_slideDown_14 fl_8_35 rfl (by decide) (by decide) rfl ?_
    refine r_iload_n hX dX8_slideDown_17 rfl ?_
    refine r_aload_n hX dX8_slideDown_18 rfl ?_
    refine r_getf (v := .ref 18) hX dX8_slideDown_19 fl_8_35 rfl (by decide) (by decide) rfl ?_
    refine r_getf (v := .ref 30) hX dX8_slideDown_22 fl_8_189 rfl (by decide) (by decide) rfl ?_
    refine r_iload_n hX dX8_slideDown_25 rfl ?_
    obtain ⟨k4, h⟩ := grd_s h
    refine r_iald hX dX8_slideDown_26 rfl (by decide) (inb_at rfl k4) ?_
    refine r_aload_n hX dX8_slideDown_27 rfl ?_
    refine r_getf (v := .ref 18) hX dX8_slideDown_28 fl_8_35 rfl (by decide) (by decide) rfl ?_
    refine r_getf (v := .ref 31) hX dX8_slideDown_31 fl_8_191 rfl (by decide) (by decide) rfl ?_
    refine r_iload_n hX dX8_slideDown_34 rfl ?_
    obtain ⟨k5, h⟩ := grd_s h
    refine r_iald hX dX8_slideDown_35 rfl (by decide) (inb_at rfl k5) ?_
    refine r_iload_n hX dX8_slideDown_36 rfl ?_
    refine r_isub hX dX8_slideDown_37 ?_
    refine r_aload_n hX dX8_slideDown_38 rfl ?_
    refine r_getf (v := .ref 18) hX dX8_slideDown_39 fl_8_35 rfl (by decide) (by decide) rfl ?_
    refine r_getf (v := .ref 32) hX dX8_slideDown_42 fl_8_193 rfl (by decide) (by decide) rfl ?_
    refine r_iload_n hX dX8_slideDown_45 rfl ?_
    obtain ⟨k6, h⟩ := grd_s h
    refine r_iald hX dX8_slideDown_46 rfl (by decide) (inb_at rfl k6) ?_
    obtain ⟨z7, p8, h⟩ := bnd_s h
    refine r_callV (As := [.int v1, .int (M.1 30 (tn v1)), .int ((M.1 31 (tn v1)) - z1), .int (M.1 32 (tn v1))]) hX dX8_slideDown_47 mk_St_move mi_St_move ml_8_195 rfl rfl rfl rfl (by decide) (by decide) (Nat.le_of_ble_eq_true rfl) hr (ok_St_move (d := d + 0) n 18 v1 (M.1 30 (tn v1)) ((M.1 31 (tn v1)) - z1) (M.1 32 (tn v1)) M st18 p8) ?_
    refine r_iload_n hX dX8_slideDown_50 rfl ?_
    obtain rfl := Option.some.inj h
    exact r_iret hX hT dX8_slideDown_51 rfl
def Fg_slide (n : Nat) (v1 : Int32) (M : Mm) : Option (Int32 × Mm) :=
  bnd (St_isLit 18 v1 M) (fun z1 =>
  if z1 = true then
    bnd (Fg_slideDown n v1 M) (fun z4 =>
    some (z4.1, z4.2))
  else
    some ((-1 : Int32), M))
set_option maxRecDepth 100000 in
theorem ok_Fg_slide {G : Gm} {l : Launch} {d : Nat} (n : Nat) (v1 : Int32) (M : Mm) {z : Int32 × Mm}  (h : Fg_slide n v1 M = some z) : CK G l (d + 4) md_Fg_slide [.ref 0, .int v1] M SS (some (.int z.1)) z.2 SS := by
  refine ck_of mk_Fg_slide (Nat.le_of_ble_eq_true rfl) ⟨Nat.le_refl _, Nat.le_refl _⟩ (fun X hX hT hS hr hl => ?_)
  subst hl
  unfold Fg_slide at h
  show WR G X (mQ G X (some (.int z.1)) z.2 SS) 0 [.ref 0, .int v1] [] M SS
  refine r_aload_n hX dX8_slide_0 rfl ?_
  refine r_getf (v := .ref 18) hX dX8_slide_1 fl_8_35 rfl (by decide) (by decide) rfl ?_
  refine r_iload_n hX dX8_slide_4 rfl ?_
  obtain ⟨z1, p2, h⟩ := bnd_s h
  refine r_callV (As := [.int v1]) hX dX8_slide_5 mk_St_isLit mi_St_isLit ml_8_180 rfl rfl rfl rfl (by decide) (by decide) (Nat.le_of_ble_eq_true rfl) hr (ok_St_isLit (d := d + 2) 18 v1 M st18 p2) ?_
  refine r_ifb_ne (tgt := 13) hX dX8_slide_8 (by decide) (fun g3 => ?_) (fun g3 => ?_)
  · have h := (if_pos g3).symm.trans h
    refine r_aload_n hX dX8_slide_13 rfl ?_
    refine r_iload_n hX dX8_slide_14 rfl ?_
    obtain ⟨z4, p5, h⟩ := bnd_s h
    refine r_callV (As := [.int v1]) hX dX8_slide_15 mk_Fg_slideDown mi_Fg_slideDown ml_8_183 rfl rfl rfl rfl (by decide) (by decide) (Nat.le_of_ble_eq_true rfl) hr (ok_Fg_slideDown (d := d + 0) n v1 M p5) ?_
    obtain rfl := Option.some.inj h
    exact r_iret hX hT dX8_slide_18 rfl
  · have h := (if_neg (show ¬ z1 = true from fun e => by rw [g3] at e; cases e)).symm.trans h
    refine r_iconst (v := (-1 : Int32)) hX dX8_slide_11 (by decide) ?_
    obtain rfl := Option.some.inj h
    exact r_iret hX hT dX8_slide_12 rfl
def Fg_sweep_j36 (v2 : Int32) (v3 : Int32) (M : Mm) : Option ((Int32 × Int32 × Mm) ⊕ (Int32 × Mm)) :=
  some (.inl (v2, v3 + (1 : Int32), M))
def Fg_sweep_b12 (n : Nat) (c1 : Int32) (v2 : Int32) (v3 : Int32) (M : Mm) : Option ((Int32 × Int32 × Mm) ⊕ (Int32 × Mm)) :=
  if c1 ≤ v3 then
    some (.inr (v2, M))
  else
    grd (inb v3 40) (
    bnd (Fg_slideDown n (M.1 35 (tn v3)) M) (fun z5 =>
    if z5.1 ≤ (0 : Int32) then
      Fg_sweep_j36 v2 v3 z5.2
    else
      Fg_sweep_j36 (v2 + (1 : Int32)) v3 z5.2))
def Fg_sweep (n : Nat) (M : Mm) : Option (Int32 × Mm) :=
  bnd (St_orderByFirst n 18 M) (fun z1 =>
  bnd (loop (fun s1 : Int32 × Int32 × Mm => Fg_sweep_b12 n z1.1 s1.1 s1.2.1 s1.2.2) n ((0 : Int32), (0 : Int32), z1.2)) (fun y8 =>
  some (y8.1, y8.2)))
set_option maxRecDepth 100000 in
theorem ok_Fg_sweep_j36 (n : Nat) (v2 : Int32) (v3 : Int32) (M : Mm) {c1 : Int32} {z : Int32 × Mm} {oo : (Int32 × Int32 × Mm) ⊕ (Int32 × Mm)} {G : Gm} {X : Cx} {d : Nat}  (hX : XK G X 8 cX8_sweep 4 (d + 4)) (hT : XT X (some .int) "sweep") (hr : XR X SS) (hc : ∀ s1 : Int32 × Int32 × Mm, oo = .inl s1 → WR G X (mQ G X (some (.int z.1)) z.2 SS) 12 [.ref 0, .int c1, .int s1.1, .int s1.2.1] [] s1.2.2 SS) (hx : ∀ x1 : Int32 × Mm, oo = .inr x1 → WR G X (mQ G X (some (.int z.1)) z.2 SS) 42 [.ref 0, vU, .int x1.1, vU] [] x1.2 SS) (h : Fg_sweep_j36 v2 v3 M = some oo) : WR G X (mQ G X (some (.int z.1)) z.2 SS) 36 [.ref 0, .int c1, .int v2, .int v3] [] M SS := by
  unfold Fg_sweep_j36 at h
  refine r_iinc (v := v3 + (1 : Int32)) (L1 := [.ref 0, .int c1, .int v2, .int (v3 + (1 : Int32))]) hX dX8_sweep_36 rfl rfl rfl ?_
  refine r_goto (tgt := 12) hX dX8_sweep_39 (by decide) ?_
  exact hc (v2, v3 + (1 : Int32), M) (Option.some.inj h).symm
set_option maxRecDepth 100000 in
theorem ok_Fg_sweep_b12 (n : Nat) (v2 : Int32) (v3 : Int32) (M : Mm) {c1 : Int32} {z : Int32 × Mm} {oo : (Int32 × Int32 × Mm) ⊕ (Int32 × Mm)} {G : Gm} {X : Cx} {d : Nat}  (hX : XK G X 8 cX8_sweep 4 (d + 4)) (hT : XT X (some .int) "sweep") (hr : XR X SS) (hc : ∀ s1 : Int32 × Int32 × Mm, oo = .inl s1 → WR G X (mQ G X (some (.int z.1)) z.2 SS) 12 [.ref 0, .int c1, .int s1.1, .int s1.2.1] [] s1.2.2 SS) (hx : ∀ x1 : Int32 × Mm, oo = .inr x1 → WR G X (mQ G X (some (.int z.1)) z.2 SS) 42 [.ref 0, vU, .int x1.1, vU] [] x1.2 SS) (h : Fg_sweep_b12 n c1 v2 v3 M = some oo) : WR G X (mQ G X (some (.int z.1)) z.2 SS) 12 [.ref 0, .int c1, .int v2, .int v3] [] M SS := by
  unfold Fg_sweep_b12 at h
  refine r_iload_n hX dX8_sweep_12 rfl ?_
  refine r_iload_n hX dX8_sweep_13 rfl ?_
  refine r_icmp_ge (tgt := 42) hX dX8_sweep_14 (by decide) (fun g3 => ?_) (fun g3 => ?_)
  · have h := (if_pos g3).symm.trans h
    refine WR.fg (L' := [.ref 0, vU, .int v2, vU]) ⟨Or.inr rfl, Or.inl rfl, Or.inr rfl, Or.inl rfl, trivial⟩ ?_
    exact hx _ (Option.some.inj h).symm
  · have h := (if_neg g3).symm.trans h
    refine r_aload_n hX dX8_sweep_17 rfl ?_
    refine r_aload_n hX dX8_sweep_18 rfl ?_
    refine r_getf (v := .ref 18) hX dX8_sweep_19 fl_8_35 rfl (by decide) (by decide) rfl ?_
    refine r_getf (v := .ref 35) hX dX8_sweep_22 fl_8_201 rfl (by decide) (by decide) rfl ?_
    refine r_iload_n hX dX8_sweep_25 rfl ?_
    obtain ⟨k4, h⟩ := grd_s h
    refine r_iald hX dX8_sweep_26 rfl (by decide) (inb_at rfl k4) ?_
    obtain ⟨z5, p6, h⟩ := bnd_s h
    refine r_callV (As := [.int (M.1 35 (tn v3))]) hX dX8_sweep_27 mk_Fg_slideDown mi_Fg_slideDown ml_8_183 rfl rfl rfl rfl (by decide) (by decide) (Nat.le_of_ble_eq_true rfl) hr (ok_Fg_slideDown (d := d + 0) n (M.1 35 (tn v3)) M p6) ?_
    refine r_if_le (tgt := 36) hX dX8_sweep_30 (by decide) (fun g7 => ?_) (fun g7 => ?_)
    · have h := (if_pos g7).symm.trans h
      exact ok_Fg_sweep_j36 n v2 v3 z5.2   hX hT hr hc hx h
    · have h := (if_neg g7).symm.trans h
      refine r_iinc (v := v2 + (1 : Int32)) (L1 := [.ref 0, .int c1, .int (v2 + (1 : Int32)), .int v3]) hX dX8_sweep_33 rfl rfl rfl ?_
      exact ok_Fg_sweep_j36 n (v2 + (1 : Int32)) v3 z5.2   hX hT hr hc hx h
set_option maxRecDepth 100000 in
theorem ok_Fg_sweep {G : Gm} {l : Launch} {d : Nat} (n : Nat) (M : Mm) {z : Int32 × Mm}  (h : Fg_sweep n M = some z) : CK G l (d + 4) md_Fg_sweep [.ref 0] M SS (some (.int z.1)) z.2 SS := by
  refine ck_of mk_Fg_sweep (Nat.le_of_ble_eq_true rfl) ⟨Nat.le_refl _, Nat.le_refl _⟩ (fun X hX hT hS hr hl => ?_)
  subst hl
  unfold Fg_sweep at h
  show WR G X (mQ G X (some (.int z.1)) z.2 SS) 0 [.ref 0, vU, vU, vU] [] M SS
  refine r_aload_n hX dX8_sweep_0 rfl ?_
  refine r_getf (v := .ref 18) hX dX8_sweep_1 fl_8_35 rfl (by decide) (by decide) rfl ?_
  obtain ⟨z1, p2, h⟩ := bnd_s h
  refine r_callV (As := []) hX dX8_sweep_4 mk_St_orderByFirst mi_St_orderByFirst ml_8_198 rfl rfl rfl rfl (by decide) (by decide) (Nat.le_of_ble_eq_true rfl) hr (ok_St_orderByFirst (d := d + 3) n 18 M st18 p2) ?_
  refine r_istore_n (L1 := [.ref 0, .int z1.1, vU, vU]) hX dX8_sweep_7 (Nat.le_of_ble_eq_true rfl) rfl ?_
  refine r_iconst (v := (0 : Int32)) hX dX8_sweep_8 (by decide) ?_
  refine r_istore_n (L1 := [.ref 0, .int z1.1, .int (0 : Int32), vU]) hX dX8_sweep_9 (Nat.le_of_ble_eq_true rfl) rfl ?_
  refine r_iconst (v := (0 : Int32)) hX dX8_sweep_10 (by decide) ?_
  refine r_istore_n (L1 := [.ref 0, .int z1.1, .int (0 : Int32), .int (0 : Int32)]) hX dX8_sweep_11 (Nat.le_of_ble_eq_true rfl) rfl ?_
  obtain ⟨y8, h1, h⟩ := bnd_s h
  refine loop_ok (P := fun s1 : Int32 × Int32 × Mm => WR G X (mQ G X (some (.int z.1)) z.2 SS) 12 [.ref 0, .int z1.1, .int s1.1, .int s1.2.1] [] s1.2.2 SS) (E := fun x1 : Int32 × Mm => WR G X (mQ G X (some (.int z.1)) z.2 SS) 42 [.ref 0, vU, .int x1.1, vU] [] x1.2 SS) (fun s1 o1 g1 g2 g3 => ok_Fg_sweep_b12 n s1.1 s1.2.1 s1.2.2  hX hT hr g2 g3 g1) n ((0 : Int32), (0 : Int32), z1.2) y8 h1 ?_
  show WR G X (mQ G X (some (.int z.1)) z.2 SS) 42 [.ref 0, vU, .int y8.1, vU] [] y8.2 SS
  refine r_iload_n hX dX8_sweep_42 rfl ?_
  obtain rfl := Option.some.inj h
  exact r_iret hX hT dX8_sweep_43 rfl
def Fg_ticks (n : Nat) (v1 : Int32) (M : Mm) : Option (Int32 × Mm) :=
  if v1 < (1 : Int32) then
    some ((-1 : Int32), M)
  else
    if v1 ≤ (1000 : Int32) then
      if ((M.1 18 2) + v1) ≤ (99999 : Int32) then
        bnd (St_endThoseDue n 18 ((up2 M.1 18 2 ((M.1 18 2) + v1)), M.2)) (fun z4 =>
        some (z4.1, z4.2))
      else
        some ((-3 : Int32), M)
    else
      some ((-1 : Int32), M)
set_option maxRecDepth 100000 in
theorem ok_Fg_ticks {G : Gm} {l : Launch} {d : Nat} (n : Nat) (v1 : Int32) (M : Mm) {z : Int32 × Mm}  (h : Fg_ticks n v1 M = some z) : CK G l (d + 3) md_Fg_ticks [.ref 0, .int v1] M SS (some (.int z.1)) z.2 SS := by
  refine ck_of mk_Fg_ticks (Nat.le_of_ble_eq_true rfl) ⟨Nat.le_refl _, Nat.le_refl _⟩ (fun X hX hT hS hr hl => ?_)
  subst hl
  unfold Fg_ticks at h
  show WR G X (mQ G X (some (.int z.1)) z.2 SS) 0 [.ref 0, .int v1] [] M SS
  refine r_iload_n hX dX8_ticks_0 rfl ?_
  refine r_iconst (v := (1 : Int32)) hX dX8_ticks_1 (by decide) ?_
  refine r_icmp_lt (tgt := 12) hX dX8_ticks_2 (by decide) (fun g1 => ?_) (fun g1 => ?_)
  · have h := (if_pos g1).symm.trans h
    refine r_iconst (v := (-1 : Int32)) hX dX8_ticks_12 (by decide) ?_
    obtain rfl := Option.some.inj h
    exact r_iret hX hT dX8_ticks_13 rfl
  · have h := (if_neg g1).symm.trans h
    refine r_iload_n hX dX8_ticks_5 rfl ?_
    refine r_sipush (v := (1000 : Int32)) hX dX8_ticks_6 (by decide) ?_
    refine r_icmp_le (tgt := 14) hX dX8_ticks_9 (by decide) (fun g2 => ?_) (fun g2 => ?_)
    · have h := (if_pos g2).symm.trans h
      refine r_aload_n hX dX8_ticks_14 rfl ?_
      refine r_getf (v := .ref 18) hX dX8_ticks_15 fl_8_35 rfl (by decide) (by decide) rfl ?_
      refine r_getf (v := .int (M.1 18 2)) hX dX8_ticks_18 fl_8_254 rfl (by decide) (by decide) rfl ?_
      refine r_iload_n hX dX8_ticks_21 rfl ?_
      refine r_iadd hX dX8_ticks_22 ?_
      refine r_ldcw hX dX8_ticks_23 ki_8_257 ?_
      refine r_icmp_le (tgt := 32) hX dX8_ticks_26 (by decide) (fun g3 => ?_) (fun g3 => ?_)
      · have h := (if_pos g3).symm.trans h
        refine r_aload_n hX dX8_ticks_32 rfl ?_
        refine r_getf (v := .ref 18) hX dX8_ticks_33 fl_8_35 rfl (by decide) (by decide) rfl ?_
        refine r_dup hX dX8_ticks_36 rfl ?_
        refine r_getf (v := .int (M.1 18 2)) hX dX8_ticks_37 fl_8_254 rfl (by decide) (by decide) rfl ?_
        refine r_iload_n hX dX8_ticks_40 rfl ?_
        refine r_iadd hX dX8_ticks_41 ?_
        refine r_putI hX dX8_ticks_42 fl_8_254 rfl (by decide) (by decide) (okI_int _) ?_
        refine r_aload_n hX dX8_ticks_45 rfl ?_
        refine r_getf (v := .ref 18) hX dX8_ticks_46 fl_8_35 rfl (by decide) (by decide) rfl ?_
        obtain ⟨z4, p5, h⟩ := bnd_s h
        refine r_callV (As := []) hX dX8_ticks_49 mk_St_endThoseDue mi_St_endThoseDue ml_8_258 rfl rfl rfl rfl (by decide) (by decide) (Nat.le_of_ble_eq_true rfl) hr (ok_St_endThoseDue (d := d + 0) n 18 ((up2 M.1 18 2 ((M.1 18 2) + v1)), M.2) st18 p5) ?_
        obtain rfl := Option.some.inj h
        exact r_iret hX hT dX8_ticks_52 rfl
      · have h := (if_neg g3).symm.trans h
        refine r_bipush (v := (-3 : Int32)) hX dX8_ticks_29 (by decide) ?_
        obtain rfl := Option.some.inj h
        exact r_iret hX hT dX8_ticks_31 rfl
    · have h := (if_neg g2).symm.trans h
      refine r_iconst (v := (-1 : Int32)) hX dX8_ticks_12 (by decide) ?_
      obtain rfl := Option.some.inj h
      exact r_iret hX hT dX8_ticks_13 rfl
def Fg_stepIsDone_j126 (M : Mm) : Option (Bool × Mm) :=
  some (true, M)
def Fg_stepIsDone (n : Nat) (v1 : Int32) (M : Mm) : Option (Bool × Mm) :=
  bnd (Rd_numberOf v1 (0 : Int32) M) (fun z1 =>
  bnd (Rd_numberOf v1 (1 : Int32) M) (fun z3 =>
  bnd (Rd_wordOf v1 M) (fun z5 =>
  if z5 = (0 : Int32) then
    bnd (Rd_numberOf v1 (2 : Int32) M) (fun z8 =>
    bnd (Rd_numberOf v1 (3 : Int32) M) (fun z10 =>
    bnd (Fg_ask n z1 z3 z8 z10 M) (fun z12 =>
    if (0 : Int32) ≤ z12.1 then
      Fg_stepIsDone_j126 z12.2
    else
      if z12.1 = (-2 : Int32) then
        Fg_stepIsDone_j126 z12.2
      else
        some (false, z12.2))))
  else
    if z5 = (1 : Int32) then
      bnd (Fg_drop n z1 M) (fun z17 =>
      some (z17.1, z17.2))
    else
      if z5 = (2 : Int32) then
        bnd (Fg_slide n z1 M) (fun z20 =>
        if z20.1 < (0 : Int32) then
          some (false, z20.2)
        else
          some (true, z20.2))
      else
        if z5 = (3 : Int32) then
          bnd (Fg_sweep n M) (fun z24 =>
          if z24.1 < (0 : Int32) then
            some (false, z24.2)
          else
            some (true, z24.2))
        else
          if z5 = (4 : Int32) then
            bnd (Fg_jump n z1 z3 M) (fun z28 =>
            if z28.1 ≤ (-1000 : Int32) then
              some (false, z28.2)
            else
              some (true, z28.2))
          else
            if z5 = (5 : Int32) then
              bnd (Fg_cut n z1 M) (fun z32 =>
              if z32.1 < (0 : Int32) then
                some (false, z32.2)
              else
                some (true, z32.2))
            else
              if z5 = (6 : Int32) then
                bnd (Fg_mend z1 M) (fun z36 =>
                some (z36.1, z36.2))
              else
                if z5 = (7 : Int32) then
                  bnd (Fg_relight n z1 M) (fun z39 =>
                  if z39.1 < (0 : Int32) then
                    some (false, z39.2)
                  else
                    some (true, z39.2))
                else
                  if z5 = (8 : Int32) then
                    bnd (Fg_plan n z1 M) (fun z43 =>
                    if z43.1 < (0 : Int32) then
                      some (false, z43.2)
                    else
                      some (true, z43.2))
                  else
                    if z5 = (9 : Int32) then
                      bnd (Fg_lasts z1 z3 M) (fun z47 =>
                      if z47.1 < (0 : Int32) then
                        some (false, z47.2)
                      else
                        some (true, z47.2))
                    else
                      if z5 = (10 : Int32) then
                        bnd (Fg_ticks n z1 M) (fun z51 =>
                        if z51.1 < (0 : Int32) then
                          some (false, z51.2)
                        else
                          some (true, z51.2))
                      else
                        some (false, M))))
set_option maxRecDepth 100000 in
theorem ok_Fg_stepIsDone_j126 (n : Nat) (M : Mm) {z : Bool × Mm} {G : Gm} {X : Cx} {d : Nat}  (hX : XK G X 8 cX8_stepIsDone 5 (d + 15)) (hT : XT X (some .boolean) "stepIsDone") (hr : XR X SS) (h : Fg_stepIsDone_j126 M = some z) : WR G X (mQ G X (some (.int (b2i z.1))) z.2 SS) 126 [.ref 0, vU, vU, vU, vU] [] M SS := by
  unfold Fg_stepIsDone_j126 at h
  refine r_iconst (v := (1 : Int32)) hX dX8_stepIsDone_126 (by decide) ?_
  refine r_goto (tgt := 131) hX dX8_stepIsDone_127 (by decide) ?_
  obtain rfl := Option.some.inj h
  exact r_iret (v := b2i true) hX hT dX8_stepIsDone_131 (okI_b true).1
set_option maxRecDepth 100000 in
theorem ok_Fg_stepIsDone {G : Gm} {l : Launch} {d : Nat} (n : Nat) (v1 : Int32) (M : Mm) {z : Bool × Mm}  (h : Fg_stepIsDone n v1 M = some z) : CK G l (d + 15) md_Fg_stepIsDone [.ref 0, .int v1] M SS (some (.int (b2i z.1))) z.2 SS := by
  refine ck_of mk_Fg_stepIsDone (Nat.le_of_ble_eq_true rfl) ⟨Nat.le_refl _, Nat.le_refl _⟩ (fun X hX hT hS hr hl => ?_)
  subst hl
  unfold Fg_stepIsDone at h
  show WR G X (mQ G X (some (.int (b2i z.1))) z.2 SS) 0 [.ref 0, .int v1, vU, vU, vU] [] M SS
  refine r_aload_n hX dX8_stepIsDone_0 rfl ?_
  refine r_getf (v := .ref 3) hX dX8_stepIsDone_1 fl_8_21 rfl (by decide) (by decide) rfl ?_
  refine r_iload_n hX dX8_stepIsDone_4 rfl ?_
  refine r_iconst (v := (0 : Int32)) hX dX8_stepIsDone_5 (by decide) ?_
  obtain ⟨z1, p2, h⟩ := bnd_s h
  refine r_callV (As := [.int v1, .int (0 : Int32)]) hX dX8_stepIsDone_6 mk_Rd_numberOf mi_Rd_numberOf ml_8_95 rfl rfl rfl rfl (by decide) (by decide) (Nat.le_of_ble_eq_true rfl) hr (ok_Rd_numberOf (d := d + 14) v1 (0 : Int32) M p2) ?_
  refine r_istore_n (L1 := [.ref 0, .int v1, .int z1, vU, vU]) hX dX8_stepIsDone_9 (Nat.le_of_ble_eq_true rfl) rfl ?_
  refine r_aload_n hX dX8_stepIsDone_10 rfl ?_
  refine r_getf (v := .ref 3) hX dX8_stepIsDone_11 fl_8_21 rfl (by decide) (by decide) rfl ?_
  refine r_iload_n hX dX8_stepIsDone_14 rfl ?_
  refine r_iconst (v := (1 : Int32)) hX dX8_stepIsDone_15 (by decide) ?_
  obtain ⟨z3, p4, h⟩ := bnd_s h
  refine r_callV (As := [.int v1, .int (1 : Int32)]) hX dX8_stepIsDone_16 mk_Rd_numberOf mi_Rd_numberOf ml_8_95 rfl rfl rfl rfl (by decide) (by decide) (Nat.le_of_ble_eq_true rfl) hr (ok_Rd_numberOf (d := d + 14) v1 (1 : Int32) M p4) ?_
  refine r_istore_n (L1 := [.ref 0, .int v1, .int z1, .int z3, vU]) hX dX8_stepIsDone_19 (Nat.le_of_ble_eq_true rfl) rfl ?_
  refine r_aload_n hX dX8_stepIsDone_20 rfl ?_
  refine r_getf (v := .ref 3) hX dX8_stepIsDone_21 fl_8_21 rfl (by decide) (by decide) rfl ?_
  refine r_iload_n hX dX8_stepIsDone_24 rfl ?_
  obtain ⟨z5, p6, h⟩ := bnd_s h
  refine r_callV (As := [.int v1]) hX dX8_stepIsDone_25 mk_Rd_wordOf mi_Rd_wordOf ml_8_99 rfl rfl rfl rfl (by decide) (by decide) (Nat.le_of_ble_eq_true rfl) hr (ok_Rd_wordOf (d := d + 14) v1 M p6) ?_
  by_cases g7 : z5 = (0 : Int32)
  · have h := (if_pos g7).symm.trans h
    refine r_tabEq (tgt := 88) hX dX8_stepIsDone_28 g7 ⟨by decide, by decide, rfl⟩ (by decide) ?_
    refine r_aload_n hX dX8_stepIsDone_88 rfl ?_
    refine r_iload_n hX dX8_stepIsDone_89 rfl ?_
    refine r_iload_n hX dX8_stepIsDone_90 rfl ?_
    refine r_aload_n hX dX8_stepIsDone_91 rfl ?_
    refine r_getf (v := .ref 3) hX dX8_stepIsDone_92 fl_8_21 rfl (by decide) (by decide) rfl ?_
    refine r_iload_n hX dX8_stepIsDone_95 rfl ?_
    refine r_iconst (v := (2 : Int32)) hX dX8_stepIsDone_96 (by decide) ?_
    obtain ⟨z8, p9, h⟩ := bnd_s h
    refine r_callV (As := [.int v1, .int (2 : Int32)]) hX dX8_stepIsDone_97 mk_Rd_numberOf mi_Rd_numberOf ml_8_95 rfl rfl rfl rfl (by decide) (by decide) (Nat.le_of_ble_eq_true rfl) hr (ok_Rd_numberOf (d := d + 14) v1 (2 : Int32) M p9) ?_
    refine r_aload_n hX dX8_stepIsDone_100 rfl ?_
    refine r_getf (v := .ref 3) hX dX8_stepIsDone_101 fl_8_21 rfl (by decide) (by decide) rfl ?_
    refine r_iload_n hX dX8_stepIsDone_104 rfl ?_
    refine r_iconst (v := (3 : Int32)) hX dX8_stepIsDone_105 (by decide) ?_
    obtain ⟨z10, p11, h⟩ := bnd_s h
    refine r_callV (As := [.int v1, .int (3 : Int32)]) hX dX8_stepIsDone_106 mk_Rd_numberOf mi_Rd_numberOf ml_8_95 rfl rfl rfl rfl (by decide) (by decide) (Nat.le_of_ble_eq_true rfl) hr (ok_Rd_numberOf (d := d + 14) v1 (3 : Int32) M p11) ?_
    obtain ⟨z12, p13, h⟩ := bnd_s h
    refine r_callV (As := [.int z1, .int z3, .int z8, .int z10]) hX dX8_stepIsDone_109 mk_Fg_ask mi_Fg_ask ml_8_103 rfl rfl rfl rfl (by decide) (by decide) (Nat.le_of_ble_eq_true rfl) hr (ok_Fg_ask (d := d + 1) n z1 z3 z8 z10 M p13) ?_
    refine r_istore (L1 := [.ref 0, .int v1, .int z1, .int z3, .int z12.1]) hX dX8_stepIsDone_112 (Nat.le_of_ble_eq_true rfl) rfl ?_
    refine r_iload hX dX8_stepIsDone_114 rfl ?_
    refine r_if_ge (tgt := 126) hX dX8_stepIsDone_116 (by decide) (fun g14 => ?_) (fun g14 => ?_)
    · have h := (if_pos g14).symm.trans h
      refine WR.fg (L' := [.ref 0, vU, vU, vU, vU]) ⟨Or.inr rfl, Or.inl rfl, Or.inl rfl, Or.inl rfl, Or.inl rfl, trivial⟩ ?_
      exact ok_Fg_stepIsDone_j126 n z12.2   hX hT hr h
    · have h := (if_neg g14).symm.trans h
      refine r_iload hX dX8_stepIsDone_119 rfl ?_
      refine r_bipush (v := (-2 : Int32)) hX dX8_stepIsDone_121 (by decide) ?_
      refine r_icmp_ne (tgt := 130) hX dX8_stepIsDone_123 (by decide) (fun g15 => ?_) (fun g15 => ?_)
      · have h := (if_neg g15).symm.trans h
        refine r_iconst (v := (0 : Int32)) hX dX8_stepIsDone_130 (by decide) ?_
        obtain rfl := Option.some.inj h
        exact r_iret (v := b2i false) hX hT dX8_stepIsDone_131 (okI_b false).1
      · have h := (if_pos g15).symm.trans h
        refine WR.fg (L' := [.ref 0, vU, vU, vU, vU]) ⟨Or.inr rfl, Or.inl rfl, Or.inl rfl, Or.inl rfl, Or.inl rfl, trivial⟩ ?_
        exact ok_Fg_stepIsDone_j126 n z12.2   hX hT hr h
  · have h := (if_neg g7).symm.trans h
    by_cases g16 : z5 = (1 : Int32)
    · have h := (if_pos g16).symm.trans h
      refine r_tabEq (tgt := 132) hX dX8_stepIsDone_28 g16 ⟨by decide, by decide, rfl⟩ (by decide) ?_
      refine r_aload_n hX dX8_stepIsDone_132 rfl ?_
      refine r_iload_n hX dX8_stepIsDone_133 rfl ?_
      obtain ⟨z17, p18, h⟩ := bnd_s h
      refine r_callV (As := [.int z1]) hX dX8_stepIsDone_134 mk_Fg_drop mi_Fg_drop ml_8_107 rfl rfl rfl rfl (by decide) (by decide) (Nat.le_of_ble_eq_true rfl) hr (ok_Fg_drop (d := d + 13) n z1 M p18) ?_
      obtain rfl := Option.some.inj h
      exact r_iret hX hT dX8_stepIsDone_137 (okI_b _).1
    · have h := (if_neg g16).symm.trans h
      by_cases g19 : z5 = (2 : Int32)
      · have h := (if_pos g19).symm.trans h
        refine r_tabEq (tgt := 138) hX dX8_stepIsDone_28 g19 ⟨by decide, by decide, rfl⟩ (by decide) ?_
        refine r_aload_n hX dX8_stepIsDone_138 rfl ?_
        refine r_iload_n hX dX8_stepIsDone_139 rfl ?_
        obtain ⟨z20, p21, h⟩ := bnd_s h
        refine r_callV (As := [.int z1]) hX dX8_stepIsDone_140 mk_Fg_slide mi_Fg_slide ml_8_110 rfl rfl rfl rfl (by decide) (by decide) (Nat.le_of_ble_eq_true rfl) hr (ok_Fg_slide (d := d + 10) n z1 M p21) ?_
        refine r_if_lt (tgt := 150) hX dX8_stepIsDone_143 (by decide) (fun g22 => ?_) (fun g22 => ?_)
        · have h := (if_pos g22).symm.trans h
          refine r_iconst (v := (0 : Int32)) hX dX8_stepIsDone_150 (by decide) ?_
          obtain rfl := Option.some.inj h
          exact r_iret (v := b2i false) hX hT dX8_stepIsDone_151 (okI_b false).1
        · have h := (if_neg g22).symm.trans h
          refine r_iconst (v := (1 : Int32)) hX dX8_stepIsDone_146 (by decide) ?_
          refine r_goto (tgt := 151) hX dX8_stepIsDone_147 (by decide) ?_
          obtain rfl := Option.some.inj h
          exact r_iret (v := b2i true) hX hT dX8_stepIsDone_151 (okI_b true).1
      · have h := (if_neg g19).symm.trans h
        by_cases g23 : z5 = (3 : Int32)
        · have h := (if_pos g23).symm.trans h
          refine r_tabEq (tgt := 152) hX dX8_stepIsDone_28 g23 ⟨by decide, by decide, rfl⟩ (by decide) ?_
          refine r_aload_n hX dX8_stepIsDone_152 rfl ?_
          obtain ⟨z24, p25, h⟩ := bnd_s h
          refine r_callV (As := []) hX dX8_stepIsDone_153 mk_Fg_sweep mi_Fg_sweep ml_8_113 rfl rfl rfl rfl (by decide) (by decide) (Nat.le_of_ble_eq_true rfl) hr (ok_Fg_sweep (d := d + 10) n M p25) ?_
          refine r_if_lt (tgt := 163) hX dX8_stepIsDone_156 (by decide) (fun g26 => ?_) (fun g26 => ?_)
          · have h := (if_pos g26).symm.trans h
            refine r_iconst (v := (0 : Int32)) hX dX8_stepIsDone_163 (by decide) ?_
            obtain rfl := Option.some.inj h
            exact r_iret (v := b2i false) hX hT dX8_stepIsDone_164 (okI_b false).1
          · have h := (if_neg g26).symm.trans h
            refine r_iconst (v := (1 : Int32)) hX dX8_stepIsDone_159 (by decide) ?_
            refine r_goto (tgt := 164) hX dX8_stepIsDone_160 (by decide) ?_
            obtain rfl := Option.some.inj h
            exact r_iret (v := b2i true) hX hT dX8_stepIsDone_164 (okI_b true).1
        · have h := (if_neg g23).symm.trans h
          by_cases g27 : z5 = (4 : Int32)
          · have h := (if_pos g27).symm.trans h
            refine r_tabEq (tgt := 165) hX dX8_stepIsDone_28 g27 ⟨by decide, by decide, rfl⟩ (by decide) ?_
            refine r_aload_n hX dX8_stepIsDone_165 rfl ?_
            refine r_iload_n hX dX8_stepIsDone_166 rfl ?_
            refine r_iload_n hX dX8_stepIsDone_167 rfl ?_
            obtain ⟨z28, p29, h⟩ := bnd_s h
            refine r_callV (As := [.int z1, .int z3]) hX dX8_stepIsDone_168 mk_Fg_jump mi_Fg_jump ml_8_117 rfl rfl rfl rfl (by decide) (by decide) (Nat.le_of_ble_eq_true rfl) hr (ok_Fg_jump (d := d + 11) n z1 z3 M p29) ?_
            refine r_sipush (v := (-1000 : Int32)) hX dX8_stepIsDone_171 (by decide) ?_
            refine r_icmp_le (tgt := 181) hX dX8_stepIsDone_174 (by decide) (fun g30 => ?_) (fun g30 => ?_)
            · have h := (if_pos g30).symm.trans h
              refine r_iconst (v := (0 : Int32)) hX dX8_stepIsDone_181 (by decide) ?_
              obtain rfl := Option.some.inj h
              exact r_iret (v := b2i false) hX hT dX8_stepIsDone_182 (okI_b false).1
            · have h := (if_neg g30).symm.trans h
              refine r_iconst (v := (1 : Int32)) hX dX8_stepIsDone_177 (by decide) ?_
              refine r_goto (tgt := 182) hX dX8_stepIsDone_178 (by decide) ?_
              obtain rfl := Option.some.inj h
              exact r_iret (v := b2i true) hX hT dX8_stepIsDone_182 (okI_b true).1
          · have h := (if_neg g27).symm.trans h
            by_cases g31 : z5 = (5 : Int32)
            · have h := (if_pos g31).symm.trans h
              refine r_tabEq (tgt := 183) hX dX8_stepIsDone_28 g31 ⟨by decide, by decide, rfl⟩ (by decide) ?_
              refine r_aload_n hX dX8_stepIsDone_183 rfl ?_
              refine r_iload_n hX dX8_stepIsDone_184 rfl ?_
              obtain ⟨z32, p33, h⟩ := bnd_s h
              refine r_callV (As := [.int z1]) hX dX8_stepIsDone_185 mk_Fg_cut mi_Fg_cut ml_8_120 rfl rfl rfl rfl (by decide) (by decide) (Nat.le_of_ble_eq_true rfl) hr (ok_Fg_cut (d := d + 12) n z1 M p33) ?_
              refine r_if_lt (tgt := 195) hX dX8_stepIsDone_188 (by decide) (fun g34 => ?_) (fun g34 => ?_)
              · have h := (if_pos g34).symm.trans h
                refine r_iconst (v := (0 : Int32)) hX dX8_stepIsDone_195 (by decide) ?_
                obtain rfl := Option.some.inj h
                exact r_iret (v := b2i false) hX hT dX8_stepIsDone_196 (okI_b false).1
              · have h := (if_neg g34).symm.trans h
                refine r_iconst (v := (1 : Int32)) hX dX8_stepIsDone_191 (by decide) ?_
                refine r_goto (tgt := 196) hX dX8_stepIsDone_192 (by decide) ?_
                obtain rfl := Option.some.inj h
                exact r_iret (v := b2i true) hX hT dX8_stepIsDone_196 (okI_b true).1
            · have h := (if_neg g31).symm.trans h
              by_cases g35 : z5 = (6 : Int32)
              · have h := (if_pos g35).symm.trans h
                refine r_tabEq (tgt := 197) hX dX8_stepIsDone_28 g35 ⟨by decide, by decide, rfl⟩ (by decide) ?_
                refine r_aload_n hX dX8_stepIsDone_197 rfl ?_
                refine r_iload_n hX dX8_stepIsDone_198 rfl ?_
                obtain ⟨z36, p37, h⟩ := bnd_s h
                refine r_callV (As := [.int z1]) hX dX8_stepIsDone_199 mk_Fg_mend mi_Fg_mend ml_8_123 rfl rfl rfl rfl (by decide) (by decide) (Nat.le_of_ble_eq_true rfl) hr (ok_Fg_mend (d := d + 13) z1 M p37) ?_
                obtain rfl := Option.some.inj h
                exact r_iret hX hT dX8_stepIsDone_202 (okI_b _).1
              · have h := (if_neg g35).symm.trans h
                by_cases g38 : z5 = (7 : Int32)
                · have h := (if_pos g38).symm.trans h
                  refine r_tabEq (tgt := 203) hX dX8_stepIsDone_28 g38 ⟨by decide, by decide, rfl⟩ (by decide) ?_
                  refine r_aload_n hX dX8_stepIsDone_203 rfl ?_
                  refine r_iload_n hX dX8_stepIsDone_204 rfl ?_
                  obtain ⟨z39, p40, h⟩ := bnd_s h
                  refine r_callV (As := [.int z1]) hX dX8_stepIsDone_205 mk_Fg_relight mi_Fg_relight ml_8_126 rfl rfl rfl rfl (by decide) (by decide) (Nat.le_of_ble_eq_true rfl) hr (ok_Fg_relight (d := d + 0) n z1 M p40) ?_
                  refine r_if_lt (tgt := 215) hX dX8_stepIsDone_208 (by decide) (fun g41 => ?_) (fun g41 => ?_)
                  · have h := (if_pos g41).symm.trans h
                    refine r_iconst (v := (0 : Int32)) hX dX8_stepIsDone_215 (by decide) ?_
                    obtain rfl := Option.some.inj h
                    exact r_iret (v := b2i false) hX hT dX8_stepIsDone_216 (okI_b false).1
                  · have h := (if_neg g41).symm.trans h
                    refine r_iconst (v := (1 : Int32)) hX dX8_stepIsDone_211 (by decide) ?_
                    refine r_goto (tgt := 216) hX dX8_stepIsDone_212 (by decide) ?_
                    obtain rfl := Option.some.inj h
                    exact r_iret (v := b2i true) hX hT dX8_stepIsDone_216 (okI_b true).1
                · have h := (if_neg g38).symm.trans h
                  by_cases g42 : z5 = (8 : Int32)
                  · have h := (if_pos g42).symm.trans h
                    refine r_tabEq (tgt := 217) hX dX8_stepIsDone_28 g42 ⟨by decide, by decide, rfl⟩ (by decide) ?_
                    refine r_aload_n hX dX8_stepIsDone_217 rfl ?_
                    refine r_iload_n hX dX8_stepIsDone_218 rfl ?_
                    obtain ⟨z43, p44, h⟩ := bnd_s h
                    refine r_callV (As := [.int z1]) hX dX8_stepIsDone_219 mk_Fg_plan mi_Fg_plan ml_8_129 rfl rfl rfl rfl (by decide) (by decide) (Nat.le_of_ble_eq_true rfl) hr (ok_Fg_plan (d := d + 0) n z1 M p44) ?_
                    refine r_if_lt (tgt := 229) hX dX8_stepIsDone_222 (by decide) (fun g45 => ?_) (fun g45 => ?_)
                    · have h := (if_pos g45).symm.trans h
                      refine r_iconst (v := (0 : Int32)) hX dX8_stepIsDone_229 (by decide) ?_
                      obtain rfl := Option.some.inj h
                      exact r_iret (v := b2i false) hX hT dX8_stepIsDone_230 (okI_b false).1
                    · have h := (if_neg g45).symm.trans h
                      refine r_iconst (v := (1 : Int32)) hX dX8_stepIsDone_225 (by decide) ?_
                      refine r_goto (tgt := 230) hX dX8_stepIsDone_226 (by decide) ?_
                      obtain rfl := Option.some.inj h
                      exact r_iret (v := b2i true) hX hT dX8_stepIsDone_230 (okI_b true).1
                  · have h := (if_neg g42).symm.trans h
                    by_cases g46 : z5 = (9 : Int32)
                    · have h := (if_pos g46).symm.trans h
                      refine r_tabEq (tgt := 231) hX dX8_stepIsDone_28 g46 ⟨by decide, by decide, rfl⟩ (by decide) ?_
                      refine r_aload_n hX dX8_stepIsDone_231 rfl ?_
                      refine r_iload_n hX dX8_stepIsDone_232 rfl ?_
                      refine r_iload_n hX dX8_stepIsDone_233 rfl ?_
                      obtain ⟨z47, p48, h⟩ := bnd_s h
                      refine r_callV (As := [.int z1, .int z3]) hX dX8_stepIsDone_234 mk_Fg_lasts mi_Fg_lasts ml_8_132 rfl rfl rfl rfl (by decide) (by decide) (Nat.le_of_ble_eq_true rfl) hr (ok_Fg_lasts (d := d + 12) z1 z3 M p48) ?_
                      refine r_if_lt (tgt := 244) hX dX8_stepIsDone_237 (by decide) (fun g49 => ?_) (fun g49 => ?_)
                      · have h := (if_pos g49).symm.trans h
                        refine r_iconst (v := (0 : Int32)) hX dX8_stepIsDone_244 (by decide) ?_
                        obtain rfl := Option.some.inj h
                        exact r_iret (v := b2i false) hX hT dX8_stepIsDone_245 (okI_b false).1
                      · have h := (if_neg g49).symm.trans h
                        refine r_iconst (v := (1 : Int32)) hX dX8_stepIsDone_240 (by decide) ?_
                        refine r_goto (tgt := 245) hX dX8_stepIsDone_241 (by decide) ?_
                        obtain rfl := Option.some.inj h
                        exact r_iret (v := b2i true) hX hT dX8_stepIsDone_245 (okI_b true).1
                    · have h := (if_neg g46).symm.trans h
                      by_cases g50 : z5 = (10 : Int32)
                      · have h := (if_pos g50).symm.trans h
                        refine r_tabEq (tgt := 246) hX dX8_stepIsDone_28 g50 ⟨by decide, by decide, rfl⟩ (by decide) ?_
                        refine r_aload_n hX dX8_stepIsDone_246 rfl ?_
                        refine r_iload_n hX dX8_stepIsDone_247 rfl ?_
                        obtain ⟨z51, p52, h⟩ := bnd_s h
                        refine r_callV (As := [.int z1]) hX dX8_stepIsDone_248 mk_Fg_ticks mi_Fg_ticks ml_8_135 rfl rfl rfl rfl (by decide) (by decide) (Nat.le_of_ble_eq_true rfl) hr (ok_Fg_ticks (d := d + 11) n z1 M p52) ?_
                        refine r_if_lt (tgt := 258) hX dX8_stepIsDone_251 (by decide) (fun g53 => ?_) (fun g53 => ?_)
                        · have h := (if_pos g53).symm.trans h
                          refine r_iconst (v := (0 : Int32)) hX dX8_stepIsDone_258 (by decide) ?_
                          obtain rfl := Option.some.inj h
                          exact r_iret (v := b2i false) hX hT dX8_stepIsDone_259 (okI_b false).1
                        · have h := (if_neg g53).symm.trans h
                          refine r_iconst (v := (1 : Int32)) hX dX8_stepIsDone_254 (by decide) ?_
                          refine r_goto (tgt := 259) hX dX8_stepIsDone_255 (by decide) ?_
                          obtain rfl := Option.some.inj h
                          exact r_iret (v := b2i true) hX hT dX8_stepIsDone_259 (okI_b true).1
                      · have h := (if_neg g50).symm.trans h
                        refine r_tabOut (tgt := 260) hX dX8_stepIsDone_28 (by have q0 := ne_ti g7 (k := 0) (by decide); have q1 := ne_ti g16 (k := 1) (by decide); have q2 := ne_ti g19 (k := 2) (by decide); have q3 := ne_ti g23 (k := 3) (by decide); have q4 := ne_ti g27 (k := 4) (by decide); have q5 := ne_ti g31 (k := 5) (by decide); have q6 := ne_ti g35 (k := 6) (by decide); have q7 := ne_ti g38 (k := 7) (by decide); have q8 := ne_ti g42 (k := 8) (by decide); have q9 := ne_ti g46 (k := 9) (by decide); have q10 := ne_ti g50 (k := 10) (by decide); omega) (by decide) ?_
                        refine r_iconst (v := (0 : Int32)) hX dX8_stepIsDone_260 (by decide) ?_
                        obtain rfl := Option.some.inj h
                        exact r_iret (v := b2i false) hX hT dX8_stepIsDone_261 (okI_b false).1
def Fg_works_b36 (n : Nat) (c2 : Int32) (v3 : Int32) (M : Mm) : Option ((Int32 × Mm) ⊕ (Int32 × Mm)) :=
  if c2 ≤ v3 then
    some (.inr (v3, M))
  else
    bnd (Fg_stepIsDone n v3 M) (fun z8 =>
    if z8.1 = true then
      some (.inl (v3 + (1 : Int32), z8.2))
    else
      some (.inr (v3, z8.2)))
def Fg_works (n : Nat) (v1 : Int32) (M : Mm) : Option (Int32 × Mm) :=
  bnd (Fg_isText v1 M) (fun z1 =>
  if z1 = true then
    bnd (Rd_readText n v1 false M) (fun z4 =>
    if (0 : Int32) ≤ z4.1 then
      bnd (loop (fun s1 : Int32 × Mm => Fg_works_b36 n z4.1 s1.1 s1.2) n ((0 : Int32), ((up2 z4.2.1 1 1 (0 : Int32)), z4.2.2))) (fun y11 =>
      some (y11.1, y11.2))
    else
      some (z4.1, ((up2 z4.2.1 1 1 (0 : Int32)), z4.2.2)))
  else
    some ((-1 : Int32), M))
set_option maxRecDepth 100000 in
theorem ok_Fg_works_b36 (n : Nat) (v3 : Int32) (M : Mm) {c2 : Int32} {z : Int32 × Mm} {oo : (Int32 × Mm) ⊕ (Int32 × Mm)} {G : Gm} {X : Cx} {d : Nat}  (hX : XK G X 8 cX8_works 4 (d + 16)) (hT : XT X (some .int) "works") (hr : XR X SS) (hc : ∀ s1 : Int32 × Mm, oo = .inl s1 → WR G X (mQ G X (some (.int z.1)) z.2 SS) 36 [.ref 0, vU, .int c2, .int s1.1] [] s1.2 SS) (hx : ∀ x1 : Int32 × Mm, oo = .inr x1 → WR G X (mQ G X (some (.int z.1)) z.2 SS) 55 [.ref 0, vU, vU, .int x1.1] [] x1.2 SS) (h : Fg_works_b36 n c2 v3 M = some oo) : WR G X (mQ G X (some (.int z.1)) z.2 SS) 36 [.ref 0, vU, .int c2, .int v3] [] M SS := by
  unfold Fg_works_b36 at h
  refine r_iload_n hX dX8_works_36 rfl ?_
  refine r_iload_n hX dX8_works_37 rfl ?_
  refine r_icmp_ge (tgt := 55) hX dX8_works_38 (by decide) (fun g7 => ?_) (fun g7 => ?_)
  · have h := (if_pos g7).symm.trans h
    refine WR.fg (L' := [.ref 0, vU, vU, .int v3]) ⟨Or.inr rfl, Or.inl rfl, Or.inl rfl, Or.inr rfl, trivial⟩ ?_
    exact hx _ (Option.some.inj h).symm
  · have h := (if_neg g7).symm.trans h
    refine r_aload_n hX dX8_works_41 rfl ?_
    refine r_iload_n hX dX8_works_42 rfl ?_
    obtain ⟨z8, p9, h⟩ := bnd_s h
    refine r_callV (As := [.int v3]) hX dX8_works_43 mk_Fg_stepIsDone mi_Fg_stepIsDone ml_8_92 rfl rfl rfl rfl (by decide) (by decide) (Nat.le_of_ble_eq_true rfl) hr (ok_Fg_stepIsDone (d := d + 0) n v3 M p9) ?_
    refine r_ifb_eq (tgt := 55) hX dX8_works_46 (by decide) (fun g10 => ?_) (fun g10 => ?_)
    · have h := (if_neg (show ¬ z8.1 = true from fun e => by rw [g10] at e; cases e)).symm.trans h
      refine WR.fg (L' := [.ref 0, vU, vU, .int v3]) ⟨Or.inr rfl, Or.inl rfl, Or.inl rfl, Or.inr rfl, trivial⟩ ?_
      exact hx _ (Option.some.inj h).symm
    · have h := (if_pos g10).symm.trans h
      refine r_iinc (v := v3 + (1 : Int32)) (L1 := [.ref 0, vU, .int c2, .int (v3 + (1 : Int32))]) hX dX8_works_49 rfl rfl rfl ?_
      refine r_goto (tgt := 36) hX dX8_works_52 (by decide) ?_
      exact hc (v3 + (1 : Int32), z8.2) (Option.some.inj h).symm
set_option maxRecDepth 100000 in
theorem ok_Fg_works {G : Gm} {l : Launch} {d : Nat} (n : Nat) (v1 : Int32) (M : Mm) {z : Int32 × Mm}  (h : Fg_works n v1 M = some z) : CK G l (d + 16) md_Fg_works [.ref 0, .int v1] M SS (some (.int z.1)) z.2 SS := by
  refine ck_of mk_Fg_works (Nat.le_of_ble_eq_true rfl) ⟨Nat.le_refl _, Nat.le_refl _⟩ (fun X hX hT hS hr hl => ?_)
  subst hl
  unfold Fg_works at h
  show WR G X (mQ G X (some (.int z.1)) z.2 SS) 0 [.ref 0, .int v1, vU, vU] [] M SS
  refine r_aload_n hX dX8_works_0 rfl ?_
  refine r_iload_n hX dX8_works_1 rfl ?_
  obtain ⟨z1, p2, h⟩ := bnd_s h
  refine r_callV (As := [.int v1]) hX dX8_works_2 mk_Fg_isText mi_Fg_isText ml_8_73 rfl rfl rfl rfl (by decide) (by decide) (Nat.le_of_ble_eq_true rfl) hr (ok_Fg_isText (d := d + 15) v1 M p2) ?_
  refine r_ifb_ne (tgt := 10) hX dX8_works_5 (by decide) (fun g3 => ?_) (fun g3 => ?_)
  · have h := (if_pos g3).symm.trans h
    refine r_aload_n hX dX8_works_10 rfl ?_
    refine r_getf (v := .ref 3) hX dX8_works_11 fl_8_21 rfl (by decide) (by decide) rfl ?_
    refine r_iload_n hX dX8_works_14 rfl ?_
    refine r_iconst (v := (0 : Int32)) hX dX8_works_15 (by decide) ?_
    obtain ⟨z4, p5, h⟩ := bnd_s h
    refine r_callV (As := [.int v1, .int (0 : Int32)]) hX dX8_works_16 mk_Rd_readText mi_Rd_readText ml_8_77 rfl rfl rfl rfl (by decide) (by decide) (Nat.le_of_ble_eq_true rfl) hr (ok_Rd_readText (d := d + 8) n v1 false M p5) ?_
    refine r_istore_n (L1 := [.ref 0, .int v1, .int z4.1, vU]) hX dX8_works_19 (Nat.le_of_ble_eq_true rfl) rfl ?_
    refine r_aload_n hX dX8_works_20 rfl ?_
    refine r_getf (v := .ref 1) hX dX8_works_21 fl_8_10 rfl (by decide) (by decide) rfl ?_
    refine r_iconst (v := (0 : Int32)) hX dX8_works_24 (by decide) ?_
    refine r_putI hX dX8_works_25 fl_8_65 rfl (by decide) (by decide) (okI_int _) ?_
    refine r_iload_n hX dX8_works_28 rfl ?_
    refine r_if_ge (tgt := 34) hX dX8_works_29 (by decide) (fun g6 => ?_) (fun g6 => ?_)
    · have h := (if_pos g6).symm.trans h
      refine r_iconst (v := (0 : Int32)) hX dX8_works_34 (by decide) ?_
      refine r_istore_n (L1 := [.ref 0, .int v1, .int z4.1, .int (0 : Int32)]) hX dX8_works_35 (Nat.le_of_ble_eq_true rfl) rfl ?_
      refine WR.fg (L' := [.ref 0, vU, .int z4.1, .int (0 : Int32)]) ⟨Or.inr rfl, Or.inl rfl, Or.inr rfl, Or.inr rfl, trivial⟩ ?_
      obtain ⟨y11, h1, h⟩ := bnd_s h
      refine loop_ok (P := fun s1 : Int32 × Mm => WR G X (mQ G X (some (.int z.1)) z.2 SS) 36 [.ref 0, vU, .int z4.1, .int s1.1] [] s1.2 SS) (E := fun x1 : Int32 × Mm => WR G X (mQ G X (some (.int z.1)) z.2 SS) 55 [.ref 0, vU, vU, .int x1.1] [] x1.2 SS) (fun s1 o1 g1 g2 g3 => ok_Fg_works_b36 n s1.1 s1.2  hX hT hr g2 g3 g1) n ((0 : Int32), ((up2 z4.2.1 1 1 (0 : Int32)), z4.2.2)) y11 h1 ?_
      show WR G X (mQ G X (some (.int z.1)) z.2 SS) 55 [.ref 0, vU, vU, .int y11.1] [] y11.2 SS
      refine r_iload_n hX dX8_works_55 rfl ?_
      obtain rfl := Option.some.inj h
      exact r_iret hX hT dX8_works_56 rfl
    · have h := (if_neg g6).symm.trans h
      refine r_iload_n hX dX8_works_32 rfl ?_
      obtain rfl := Option.some.inj h
      exact r_iret hX hT dX8_works_33 rfl
  · have h := (if_neg (show ¬ z1 = true from fun e => by rw [g3] at e; cases e)).symm.trans h
    refine r_iconst (v := (-1 : Int32)) hX dX8_works_8 (by decide) ?_
    obtain rfl := Option.some.inj h
    exact r_iret hX hT dX8_works_9 rfl
def Fg_sweeps_b6 (n : Nat) (c1 : Int32) (v2 : Int32) (M : Mm) : Option ((Int32 × Mm) ⊕ (Int32 × Mm)) :=
  if c1 ≤ v2 then
    some (.inr (v2, M))
  else
    bnd (Fg_sweep n M) (fun z2 =>
    if z2.1 ≤ (0 : Int32) then
      some (.inr (v2, z2.2))
    else
      some (.inl (v2 + (1 : Int32), z2.2)))
def Fg_sweeps (n : Nat) (M : Mm) : Option (Int32 × Mm) :=
  bnd (loop (fun s1 : Int32 × Mm => Fg_sweeps_b6 n (2400 : Int32) s1.1 s1.2) n ((0 : Int32), M)) (fun y5 =>
  some (y5.1, y5.2))
set_option maxRecDepth 100000 in
theorem ok_Fg_sweeps_b6 (n : Nat) (v2 : Int32) (M : Mm) {c1 : Int32} {z : Int32 × Mm} {oo : (Int32 × Mm) ⊕ (Int32 × Mm)} {G : Gm} {X : Cx} {d : Nat}  (hX : XK G X 8 cX8_sweeps 3 (d + 5)) (hT : XT X (some .int) "sweeps") (hr : XR X SS) (hc : ∀ s1 : Int32 × Mm, oo = .inl s1 → WR G X (mQ G X (some (.int z.1)) z.2 SS) 6 [.ref 0, .int c1, .int s1.1] [] s1.2 SS) (hx : ∀ x1 : Int32 × Mm, oo = .inr x1 → WR G X (mQ G X (some (.int z.1)) z.2 SS) 24 [.ref 0, vU, .int x1.1] [] x1.2 SS) (h : Fg_sweeps_b6 n c1 v2 M = some oo) : WR G X (mQ G X (some (.int z.1)) z.2 SS) 6 [.ref 0, .int c1, .int v2] [] M SS := by
  unfold Fg_sweeps_b6 at h
  refine r_iload_n hX dX8_sweeps_6 rfl ?_
  refine r_iload_n hX dX8_sweeps_7 rfl ?_
  refine r_icmp_ge (tgt := 24) hX dX8_sweeps_8 (by decide) (fun g1 => ?_) (fun g1 => ?_)
  · have h := (if_pos g1).symm.trans h
    refine WR.fg (L' := [.ref 0, vU, .int v2]) ⟨Or.inr rfl, Or.inl rfl, Or.inr rfl, trivial⟩ ?_
    exact hx _ (Option.some.inj h).symm
  · have h := (if_neg g1).symm.trans h
    refine r_aload_n hX dX8_sweeps_11 rfl ?_
    obtain ⟨z2, p3, h⟩ := bnd_s h
    refine r_callV (As := []) hX dX8_sweeps_12 mk_Fg_sweep mi_Fg_sweep ml_8_113 rfl rfl rfl rfl (by decide) (by decide) (Nat.le_of_ble_eq_true rfl) hr (ok_Fg_sweep (d := d + 0) n M p3) ?_
    refine r_if_le (tgt := 24) hX dX8_sweeps_15 (by decide) (fun g4 => ?_) (fun g4 => ?_)
    · have h := (if_pos g4).symm.trans h
      refine WR.fg (L' := [.ref 0, vU, .int v2]) ⟨Or.inr rfl, Or.inl rfl, Or.inr rfl, trivial⟩ ?_
      exact hx _ (Option.some.inj h).symm
    · have h := (if_neg g4).symm.trans h
      refine r_iinc (v := v2 + (1 : Int32)) (L1 := [.ref 0, .int c1, .int (v2 + (1 : Int32))]) hX dX8_sweeps_18 rfl rfl rfl ?_
      refine r_goto (tgt := 6) hX dX8_sweeps_21 (by decide) ?_
      exact hc (v2 + (1 : Int32), z2.2) (Option.some.inj h).symm
set_option maxRecDepth 100000 in
theorem ok_Fg_sweeps {G : Gm} {l : Launch} {d : Nat} (n : Nat) (M : Mm) {z : Int32 × Mm}  (h : Fg_sweeps n M = some z) : CK G l (d + 5) md_Fg_sweeps [.ref 0] M SS (some (.int z.1)) z.2 SS := by
  refine ck_of mk_Fg_sweeps (Nat.le_of_ble_eq_true rfl) ⟨Nat.le_refl _, Nat.le_refl _⟩ (fun X hX hT hS hr hl => ?_)
  subst hl
  unfold Fg_sweeps at h
  show WR G X (mQ G X (some (.int z.1)) z.2 SS) 0 [.ref 0, vU, vU] [] M SS
  refine r_sipush (v := (2400 : Int32)) hX dX8_sweeps_0 (by decide) ?_
  refine r_istore_n (L1 := [.ref 0, .int (2400 : Int32), vU]) hX dX8_sweeps_3 (Nat.le_of_ble_eq_true rfl) rfl ?_
  refine r_iconst (v := (0 : Int32)) hX dX8_sweeps_4 (by decide) ?_
  refine r_istore_n (L1 := [.ref 0, .int (2400 : Int32), .int (0 : Int32)]) hX dX8_sweeps_5 (Nat.le_of_ble_eq_true rfl) rfl ?_
  obtain ⟨y5, h1, h⟩ := bnd_s h
  refine loop_ok (P := fun s1 : Int32 × Mm => WR G X (mQ G X (some (.int z.1)) z.2 SS) 6 [.ref 0, .int (2400 : Int32), .int s1.1] [] s1.2 SS) (E := fun x1 : Int32 × Mm => WR G X (mQ G X (some (.int z.1)) z.2 SS) 24 [.ref 0, vU, .int x1.1] [] x1.2 SS) (fun s1 o1 g1 g2 g3 => ok_Fg_sweeps_b6 n s1.1 s1.2  hX hT hr g2 g3 g1) n ((0 : Int32), M) y5 h1 ?_
  show WR G X (mQ G X (some (.int z.1)) z.2 SS) 24 [.ref 0, vU, .int y5.1] [] y5.2 SS
  refine r_iload_n hX dX8_sweeps_24 rfl ?_
  obtain rfl := Option.some.inj h
  exact r_iret hX hT dX8_sweeps_25 rfl
def Fg_ifCut (n : Nat) (v1 : Int32) (v2 : Int32) (v3 : Int32) (M : Mm) : Option (Int32 × Mm) :=
  bnd (St_hasLink 18 v1 M) (fun z1 =>
  if z1 = true then
    bnd (Fg_isRule v2 M) (fun z4 =>
    if z4 = true then
      if v3 < (0 : Int32) then
        some ((-1 : Int32), M)
      else
        if v3 ≤ (2 : Int32) then
          bnd (St_isUp 18 v1 M) (fun z9 =>
          if z9 = true then
            bnd (St_copy 54 18 M) (fun z12 =>
            bnd (St_sever n 54 v1 z12) (fun z14 =>
            if v3 = (0 : Int32) then
              some (z14.1, z14.2)
            else
              bnd (Fg_lightAll n 54 v2 z14.2) (fun z17 =>
              if v3 = (1 : Int32) then
                some (z17.1, z17.2)
              else
                bnd (St_top n 54 z17.2) (fun z20 =>
                some (z20, z17.2)))))
          else
            some ((-2 : Int32), M))
        else
          some ((-1 : Int32), M)
    else
      some ((-1 : Int32), M))
  else
    some ((-1 : Int32), M))
set_option maxRecDepth 100000 in
theorem ok_Fg_ifCut {G : Gm} {l : Launch} {d : Nat} (n : Nat) (v1 : Int32) (v2 : Int32) (v3 : Int32) (M : Mm) {z : Int32 × Mm}  (h : Fg_ifCut n v1 v2 v3 M = some z) : CK G l (d + 14) md_Fg_ifCut [.ref 0, .int v1, .int v2, .int v3] M SS (some (.int z.1)) z.2 SS := by
  refine ck_of mk_Fg_ifCut (Nat.le_of_ble_eq_true rfl) ⟨Nat.le_refl _, Nat.le_refl _⟩ (fun X hX hT hS hr hl => ?_)
  subst hl
  unfold Fg_ifCut at h
  show WR G X (mQ G X (some (.int z.1)) z.2 SS) 0 [.ref 0, .int v1, .int v2, .int v3, vU, vU] [] M SS
  refine r_aload_n hX dX8_ifCut_0 rfl ?_
  refine r_getf (v := .ref 18) hX dX8_ifCut_1 fl_8_35 rfl (by decide) (by decide) rfl ?_
  refine r_iload_n hX dX8_ifCut_4 rfl ?_
  obtain ⟨z1, p2, h⟩ := bnd_s h
  refine r_callV (As := [.int v1]) hX dX8_ifCut_5 mk_St_hasLink mi_St_hasLink ml_8_216 rfl rfl rfl rfl (by decide) (by decide) (Nat.le_of_ble_eq_true rfl) hr (ok_St_hasLink (d := d + 13) 18 v1 M st18 p2) ?_
  refine r_ifb_eq (tgt := 27) hX dX8_ifCut_8 (by decide) (fun g3 => ?_) (fun g3 => ?_)
  · have h := (if_neg (show ¬ z1 = true from fun e => by rw [g3] at e; cases e)).symm.trans h
    refine r_iconst (v := (-1 : Int32)) hX dX8_ifCut_27 (by decide) ?_
    obtain rfl := Option.some.inj h
    exact r_iret hX hT dX8_ifCut_28 rfl
  · have h := (if_pos g3).symm.trans h
    refine r_iload_n hX dX8_ifCut_11 rfl ?_
    obtain ⟨z4, p5, h⟩ := bnd_s h
    refine r_callS (As := [.int v2]) hX dX8_ifCut_12 mk_Fg_isRule ms_Fg_isRule ml_8_142 rfl rfl rfl (Nat.le_of_ble_eq_true rfl) hr (ok_Fg_isRule (d := d + 13) v2 M p5) ?_
    refine r_ifb_eq (tgt := 27) hX dX8_ifCut_15 (by decide) (fun g6 => ?_) (fun g6 => ?_)
    · have h := (if_neg (show ¬ z4 = true from fun e => by rw [g6] at e; cases e)).symm.trans h
      refine r_iconst (v := (-1 : Int32)) hX dX8_ifCut_27 (by decide) ?_
      obtain rfl := Option.some.inj h
      exact r_iret hX hT dX8_ifCut_28 rfl
    · have h := (if_pos g6).symm.trans h
      refine r_iload_n hX dX8_ifCut_18 rfl ?_
      refine r_if_lt (tgt := 27) hX dX8_ifCut_19 (by decide) (fun g7 => ?_) (fun g7 => ?_)
      · have h := (if_pos g7).symm.trans h
        refine r_iconst (v := (-1 : Int32)) hX dX8_ifCut_27 (by decide) ?_
        obtain rfl := Option.some.inj h
        exact r_iret hX hT dX8_ifCut_28 rfl
      · have h := (if_neg g7).symm.trans h
        refine r_iload_n hX dX8_ifCut_22 rfl ?_
        refine r_iconst (v := (2 : Int32)) hX dX8_ifCut_23 (by decide) ?_
        refine r_icmp_le (tgt := 29) hX dX8_ifCut_24 (by decide) (fun g8 => ?_) (fun g8 => ?_)
        · have h := (if_pos g8).symm.trans h
          refine r_aload_n hX dX8_ifCut_29 rfl ?_
          refine r_getf (v := .ref 18) hX dX8_ifCut_30 fl_8_35 rfl (by decide) (by decide) rfl ?_
          refine r_iload_n hX dX8_ifCut_33 rfl ?_
          obtain ⟨z9, p10, h⟩ := bnd_s h
          refine r_callV (As := [.int v1]) hX dX8_ifCut_34 mk_St_isUp mi_St_isUp ml_8_219 rfl rfl rfl rfl (by decide) (by decide) (Nat.le_of_ble_eq_true rfl) hr (ok_St_isUp (d := d + 13) 18 v1 M st18 p10) ?_
          refine r_ifb_ne (tgt := 43) hX dX8_ifCut_37 (by decide) (fun g11 => ?_) (fun g11 => ?_)
          · have h := (if_pos g11).symm.trans h
            refine r_aload_n hX dX8_ifCut_43 rfl ?_
            refine r_getf (v := .ref 54) hX dX8_ifCut_44 fl_8_42 rfl (by decide) (by decide) rfl ?_
            refine r_aload_n hX dX8_ifCut_47 rfl ?_
            refine r_getf (v := .ref 18) hX dX8_ifCut_48 fl_8_35 rfl (by decide) (by decide) rfl ?_
            obtain ⟨z12, p13, h⟩ := bnd_s h
            refine r_callV (As := [.ref 18]) hX dX8_ifCut_51 mk_St_copy mi_St_copy ml_8_241 rfl rfl rfl rfl (by decide) (by decide) (Nat.le_of_ble_eq_true rfl) hr (ok_St_copy (d := d + 12) 54 18 M st54 st18 p13) ?_
            refine r_aload_n hX dX8_ifCut_54 rfl ?_
            refine r_getf (v := .ref 54) hX dX8_ifCut_55 fl_8_42 rfl (by decide) (by decide) rfl ?_
            refine r_iload_n hX dX8_ifCut_58 rfl ?_
            obtain ⟨z14, p15, h⟩ := bnd_s h
            refine r_callV (As := [.int v1]) hX dX8_ifCut_59 mk_St_sever mi_St_sever ml_8_222 rfl rfl rfl rfl (by decide) (by decide) (Nat.le_of_ble_eq_true rfl) hr (ok_St_sever (d := d + 12) n 54 v1 z12 st54 p15) ?_
            refine r_istore (L1 := [.ref 0, .int v1, .int v2, .int v3, .int z14.1, vU]) hX dX8_ifCut_62 (Nat.le_of_ble_eq_true rfl) rfl ?_
            refine r_iload_n hX dX8_ifCut_64 rfl ?_
            refine r_if_ne (tgt := 71) hX dX8_ifCut_65 (by decide) (fun g16 => ?_) (fun g16 => ?_)
            · have h := (if_neg g16).symm.trans h
              refine r_aload_n hX dX8_ifCut_71 rfl ?_
              refine r_aload_n hX dX8_ifCut_72 rfl ?_
              refine r_getf (v := .ref 54) hX dX8_ifCut_73 fl_8_42 rfl (by decide) (by decide) rfl ?_
              refine r_iload_n hX dX8_ifCut_76 rfl ?_
              obtain ⟨z17, p18, h⟩ := bnd_s h
              refine r_callV (As := [.ref 54, .int v2]) hX dX8_ifCut_77 mk_Fg_lightAll mi_Fg_lightAll ml_8_228 rfl rfl rfl rfl (by decide) (by decide) (Nat.le_of_ble_eq_true rfl) hr (ok_Fg_lightAll (d := d + 0) n 54 v2 z14.2 st54 p18) ?_
              refine r_istore (L1 := [.ref 0, .int v1, .int v2, .int v3, .int z14.1, .int z17.1]) hX dX8_ifCut_80 (Nat.le_of_ble_eq_true rfl) rfl ?_
              refine r_iload_n hX dX8_ifCut_82 rfl ?_
              refine r_iconst (v := (1 : Int32)) hX dX8_ifCut_83 (by decide) ?_
              refine r_icmp_ne (tgt := 92) hX dX8_ifCut_84 (by decide) (fun g19 => ?_) (fun g19 => ?_)
              · have h := (if_neg g19).symm.trans h
                refine r_aload_n hX dX8_ifCut_92 rfl ?_
                refine r_getf (v := .ref 54) hX dX8_ifCut_93 fl_8_42 rfl (by decide) (by decide) rfl ?_
                obtain ⟨z20, p21, h⟩ := bnd_s h
                refine r_callV (As := []) hX dX8_ifCut_96 mk_St_top mi_St_top ml_8_245 rfl rfl rfl rfl (by decide) (by decide) (Nat.le_of_ble_eq_true rfl) hr (ok_St_top (d := d + 11) n 54 z17.2 st54 p21) ?_
                obtain rfl := Option.some.inj h
                exact r_iret hX hT dX8_ifCut_99 rfl
              · have h := (if_pos g19).symm.trans h
                refine r_iload hX dX8_ifCut_87 rfl ?_
                refine r_goto (tgt := 99) hX dX8_ifCut_89 (by decide) ?_
                obtain rfl := Option.some.inj h
                exact r_iret hX hT dX8_ifCut_99 rfl
            · have h := (if_pos g16).symm.trans h
              refine r_iload hX dX8_ifCut_68 rfl ?_
              obtain rfl := Option.some.inj h
              exact r_iret hX hT dX8_ifCut_70 rfl
          · have h := (if_neg (show ¬ z9 = true from fun e => by rw [g11] at e; cases e)).symm.trans h
            refine r_bipush (v := (-2 : Int32)) hX dX8_ifCut_40 (by decide) ?_
            obtain rfl := Option.some.inj h
            exact r_iret hX hT dX8_ifCut_42 rfl
        · have h := (if_neg g8).symm.trans h
          refine r_iconst (v := (-1 : Int32)) hX dX8_ifCut_27 (by decide) ?_
          obtain rfl := Option.some.inj h
          exact r_iret hX hT dX8_ifCut_28 rfl
def Fg_seed (v1 : Int32) (M : Mm) : Option (Bool × Mm) :=
  if v1 < (0 : Int32) then
    some (false, M)
  else
    if v1 ≤ (65535 : Int32) then
      some (true, ((up2 M.1 18 3 v1), M.2))
    else
      some (false, M)
set_option maxRecDepth 100000 in
theorem ok_Fg_seed {G : Gm} {l : Launch} {d : Nat} (v1 : Int32) (M : Mm) {z : Bool × Mm}  (h : Fg_seed v1 M = some z) : CK G l (d + 0) md_Fg_seed [.ref 0, .int v1] M SS (some (.int (b2i z.1))) z.2 SS := by
  refine ck_of mk_Fg_seed (Nat.le_of_ble_eq_true rfl) ⟨Nat.le_refl _, Nat.le_refl _⟩ (fun X hX hT hS hr hl => ?_)
  subst hl
  unfold Fg_seed at h
  show WR G X (mQ G X (some (.int (b2i z.1))) z.2 SS) 0 [.ref 0, .int v1] [] M SS
  refine r_iload_n hX dX8_seed_0 rfl ?_
  refine r_if_lt (tgt := 11) hX dX8_seed_1 (by decide) (fun g1 => ?_) (fun g1 => ?_)
  · have h := (if_pos g1).symm.trans h
    refine r_iconst (v := (0 : Int32)) hX dX8_seed_11 (by decide) ?_
    obtain rfl := Option.some.inj h
    exact r_iret (v := b2i false) hX hT dX8_seed_12 (okI_b false).1
  · have h := (if_neg g1).symm.trans h
    refine r_iload_n hX dX8_seed_4 rfl ?_
    refine r_ldcw hX dX8_seed_5 ki_8_261 ?_
    refine r_icmp_le (tgt := 13) hX dX8_seed_8 (by decide) (fun g2 => ?_) (fun g2 => ?_)
    · have h := (if_pos g2).symm.trans h
      refine r_aload_n hX dX8_seed_13 rfl ?_
      refine r_getf (v := .ref 18) hX dX8_seed_14 fl_8_35 rfl (by decide) (by decide) rfl ?_
      refine r_iload_n hX dX8_seed_17 rfl ?_
      refine r_putI hX dX8_seed_18 fl_8_262 rfl (by decide) (by decide) (okI_int _) ?_
      refine r_iconst (v := (1 : Int32)) hX dX8_seed_21 (by decide) ?_
      obtain rfl := Option.some.inj h
      exact r_iret (v := b2i true) hX hT dX8_seed_22 (okI_b true).1
    · have h := (if_neg g2).symm.trans h
      refine r_iconst (v := (0 : Int32)) hX dX8_seed_11 (by decide) ?_
      obtain rfl := Option.some.inj h
      exact r_iret (v := b2i false) hX hT dX8_seed_12 (okI_b false).1
def Fg_gridIs_j30 (n : Nat) (v1 : Int32) (M : Mm) : Option (Int32) :=
  if v1 = (0 : Int32) then
    some (M.1 19 0)
  else
    if v1 = (1 : Int32) then
      some (M.1 19 1)
    else
      if v1 = (2 : Int32) then
        some (M.1 19 2)
      else
        if v1 = (3 : Int32) then
          some (M.1 19 3)
        else
          if v1 = (4 : Int32) then
            some (M.1 18 1)
          else
            if v1 = (5 : Int32) then
              some (M.1 18 4)
            else
              if v1 = (6 : Int32) then
                bnd (St_howMany n 18 (0 : Int32) M) (fun z9 =>
                some z9)
              else
                if v1 = (7 : Int32) then
                  bnd (St_howMany n 18 (1 : Int32) M) (fun z12 =>
                  some z12)
                else
                  if v1 = (8 : Int32) then
                    bnd (St_howMany n 18 (2 : Int32) M) (fun z15 =>
                    some z15)
                  else
                    if v1 = (9 : Int32) then
                      bnd (St_howMany n 18 (3 : Int32) M) (fun z18 =>
                      some z18)
                    else
                      if v1 = (10 : Int32) then
                        bnd (St_top n 18 M) (fun z21 =>
                        some z21)
                      else
                        if v1 = (11 : Int32) then
                          bnd (St_slotsUsed n 18 M) (fun z24 =>
                          some z24)
                        else
                          if v1 = (12 : Int32) then
                            some (M.1 18 2)
                          else
                            if v1 = (13 : Int32) then
                              some (M.1 18 3)
                            else
                              some (-2 : Int32)
def Fg_gridIs (n : Nat) (v1 : Int32) (M : Mm) : Option (Int32) :=
  if v1 < (20 : Int32) then
    Fg_gridIs_j30 n v1 M
  else
    if (24 : Int32) ≤ v1 then
      Fg_gridIs_j30 n v1 M
    else
      grd (inb (v1 - (20 : Int32)) 4) (
      some (M.1 20 (tn (v1 - (20 : Int32)))))
set_option maxRecDepth 100000 in
theorem ok_Fg_gridIs_j30 (n : Nat) (v1 : Int32) (M : Mm) {z : Int32} {G : Gm} {X : Cx} {d : Nat}  (hX : XK G X 8 cX8_gridIs 3 (d + 3)) (hT : XT X (some .int) "gridIs") (hr : XR X SS) (h : Fg_gridIs_j30 n v1 M = some z) : WR G X (mQ G X (some (.int z)) M SS) 30 [.ref 0, .int v1, .ref 19] [] M SS := by
  unfold Fg_gridIs_j30 at h
  refine r_iload_n hX dX8_gridIs_30 rfl ?_
  by_cases g2 : v1 = (0 : Int32)
  · have h := (if_pos g2).symm.trans h
    refine r_tabEq (tgt := 100) hX dX8_gridIs_31 g2 ⟨by decide, by decide, rfl⟩ (by decide) ?_
    refine r_aload_n hX dX8_gridIs_100 rfl ?_
    refine r_getf (v := .int (M.1 19 0)) hX dX8_gridIs_101 fl_8_268 rfl (by decide) (by decide) rfl ?_
    obtain rfl := Option.some.inj h
    exact r_iret hX hT dX8_gridIs_104 rfl
  · have h := (if_neg g2).symm.trans h
    by_cases g3 : v1 = (1 : Int32)
    · have h := (if_pos g3).symm.trans h
      refine r_tabEq (tgt := 105) hX dX8_gridIs_31 g3 ⟨by decide, by decide, rfl⟩ (by decide) ?_
      refine r_aload_n hX dX8_gridIs_105 rfl ?_
      refine r_getf (v := .int (M.1 19 1)) hX dX8_gridIs_106 fl_8_207 rfl (by decide) (by decide) rfl ?_
      obtain rfl := Option.some.inj h
      exact r_iret hX hT dX8_gridIs_109 rfl
    · have h := (if_neg g3).symm.trans h
      by_cases g4 : v1 = (2 : Int32)
      · have h := (if_pos g4).symm.trans h
        refine r_tabEq (tgt := 110) hX dX8_gridIs_31 g4 ⟨by decide, by decide, rfl⟩ (by decide) ?_
        refine r_aload_n hX dX8_gridIs_110 rfl ?_
        refine r_getf (v := .int (M.1 19 2)) hX dX8_gridIs_111 fl_8_271 rfl (by decide) (by decide) rfl ?_
        obtain rfl := Option.some.inj h
        exact r_iret hX hT dX8_gridIs_114 rfl
      · have h := (if_neg g4).symm.trans h
        by_cases g5 : v1 = (3 : Int32)
        · have h := (if_pos g5).symm.trans h
          refine r_tabEq (tgt := 115) hX dX8_gridIs_31 g5 ⟨by decide, by decide, rfl⟩ (by decide) ?_
          refine r_aload_n hX dX8_gridIs_115 rfl ?_
          refine r_getf (v := .int (M.1 19 3)) hX dX8_gridIs_116 fl_8_274 rfl (by decide) (by decide) rfl ?_
          obtain rfl := Option.some.inj h
          exact r_iret hX hT dX8_gridIs_119 rfl
        · have h := (if_neg g5).symm.trans h
          by_cases g6 : v1 = (4 : Int32)
          · have h := (if_pos g6).symm.trans h
            refine r_tabEq (tgt := 120) hX dX8_gridIs_31 g6 ⟨by decide, by decide, rfl⟩ (by decide) ?_
            refine r_aload_n hX dX8_gridIs_120 rfl ?_
            refine r_getf (v := .ref 18) hX dX8_gridIs_121 fl_8_35 rfl (by decide) (by decide) rfl ?_
            refine r_getf (v := .int (M.1 18 1)) hX dX8_gridIs_124 fl_8_225 rfl (by decide) (by decide) rfl ?_
            obtain rfl := Option.some.inj h
            exact r_iret hX hT dX8_gridIs_127 rfl
          · have h := (if_neg g6).symm.trans h
            by_cases g7 : v1 = (5 : Int32)
            · have h := (if_pos g7).symm.trans h
              refine r_tabEq (tgt := 128) hX dX8_gridIs_31 g7 ⟨by decide, by decide, rfl⟩ (by decide) ?_
              refine r_aload_n hX dX8_gridIs_128 rfl ?_
              refine r_getf (v := .ref 18) hX dX8_gridIs_129 fl_8_35 rfl (by decide) (by decide) rfl ?_
              refine r_getf (v := .int (M.1 18 4)) hX dX8_gridIs_132 fl_8_145 rfl (by decide) (by decide) rfl ?_
              obtain rfl := Option.some.inj h
              exact r_iret hX hT dX8_gridIs_135 rfl
            · have h := (if_neg g7).symm.trans h
              by_cases g8 : v1 = (6 : Int32)
              · have h := (if_pos g8).symm.trans h
                refine r_tabEq (tgt := 136) hX dX8_gridIs_31 g8 ⟨by decide, by decide, rfl⟩ (by decide) ?_
                refine r_aload_n hX dX8_gridIs_136 rfl ?_
                refine r_getf (v := .ref 18) hX dX8_gridIs_137 fl_8_35 rfl (by decide) (by decide) rfl ?_
                refine r_iconst (v := (0 : Int32)) hX dX8_gridIs_140 (by decide) ?_
                obtain ⟨z9, p10, h⟩ := bnd_s h
                refine r_callV (As := [.int (0 : Int32)]) hX dX8_gridIs_141 mk_St_howMany mi_St_howMany ml_8_275 rfl rfl rfl rfl (by decide) (by decide) (Nat.le_of_ble_eq_true rfl) hr (ok_St_howMany (d := d + 2) n 18 (0 : Int32) M st18 p10) ?_
                obtain rfl := Option.some.inj h
                exact r_iret hX hT dX8_gridIs_144 rfl
              · have h := (if_neg g8).symm.trans h
                by_cases g11 : v1 = (7 : Int32)
                · have h := (if_pos g11).symm.trans h
                  refine r_tabEq (tgt := 145) hX dX8_gridIs_31 g11 ⟨by decide, by decide, rfl⟩ (by decide) ?_
                  refine r_aload_n hX dX8_gridIs_145 rfl ?_
                  refine r_getf (v := .ref 18) hX dX8_gridIs_146 fl_8_35 rfl (by decide) (by decide) rfl ?_
                  refine r_iconst (v := (1 : Int32)) hX dX8_gridIs_149 (by decide) ?_
                  obtain ⟨z12, p13, h⟩ := bnd_s h
                  refine r_callV (As := [.int (1 : Int32)]) hX dX8_gridIs_150 mk_St_howMany mi_St_howMany ml_8_275 rfl rfl rfl rfl (by decide) (by decide) (Nat.le_of_ble_eq_true rfl) hr (ok_St_howMany (d := d + 2) n 18 (1 : Int32) M st18 p13) ?_
                  obtain rfl := Option.some.inj h
                  exact r_iret hX hT dX8_gridIs_153 rfl
                · have h := (if_neg g11).symm.trans h
                  by_cases g14 : v1 = (8 : Int32)
                  · have h := (if_pos g14).symm.trans h
                    refine r_tabEq (tgt := 154) hX dX8_gridIs_31 g14 ⟨by decide, by decide, rfl⟩ (by decide) ?_
                    refine r_aload_n hX dX8_gridIs_154 rfl ?_
                    refine r_getf (v := .ref 18) hX dX8_gridIs_155 fl_8_35 rfl (by decide) (by decide) rfl ?_
                    refine r_iconst (v := (2 : Int32)) hX dX8_gridIs_158 (by decide) ?_
                    obtain ⟨z15, p16, h⟩ := bnd_s h
                    refine r_callV (As := [.int (2 : Int32)]) hX dX8_gridIs_159 mk_St_howMany mi_St_howMany ml_8_275 rfl rfl rfl rfl (by decide) (by decide) (Nat.le_of_ble_eq_true rfl) hr (ok_St_howMany (d := d + 2) n 18 (2 : Int32) M st18 p16) ?_
                    obtain rfl := Option.some.inj h
                    exact r_iret hX hT dX8_gridIs_162 rfl
                  · have h := (if_neg g14).symm.trans h
                    by_cases g17 : v1 = (9 : Int32)
                    · have h := (if_pos g17).symm.trans h
                      refine r_tabEq (tgt := 163) hX dX8_gridIs_31 g17 ⟨by decide, by decide, rfl⟩ (by decide) ?_
                      refine r_aload_n hX dX8_gridIs_163 rfl ?_
                      refine r_getf (v := .ref 18) hX dX8_gridIs_164 fl_8_35 rfl (by decide) (by decide) rfl ?_
                      refine r_iconst (v := (3 : Int32)) hX dX8_gridIs_167 (by decide) ?_
                      obtain ⟨z18, p19, h⟩ := bnd_s h
                      refine r_callV (As := [.int (3 : Int32)]) hX dX8_gridIs_168 mk_St_howMany mi_St_howMany ml_8_275 rfl rfl rfl rfl (by decide) (by decide) (Nat.le_of_ble_eq_true rfl) hr (ok_St_howMany (d := d + 2) n 18 (3 : Int32) M st18 p19) ?_
                      obtain rfl := Option.some.inj h
                      exact r_iret hX hT dX8_gridIs_171 rfl
                    · have h := (if_neg g17).symm.trans h
                      by_cases g20 : v1 = (10 : Int32)
                      · have h := (if_pos g20).symm.trans h
                        refine r_tabEq (tgt := 172) hX dX8_gridIs_31 g20 ⟨by decide, by decide, rfl⟩ (by decide) ?_
                        refine r_aload_n hX dX8_gridIs_172 rfl ?_
                        refine r_getf (v := .ref 18) hX dX8_gridIs_173 fl_8_35 rfl (by decide) (by decide) rfl ?_
                        obtain ⟨z21, p22, h⟩ := bnd_s h
                        refine r_callV (As := []) hX dX8_gridIs_176 mk_St_top mi_St_top ml_8_245 rfl rfl rfl rfl (by decide) (by decide) (Nat.le_of_ble_eq_true rfl) hr (ok_St_top (d := d + 0) n 18 M st18 p22) ?_
                        obtain rfl := Option.some.inj h
                        exact r_iret hX hT dX8_gridIs_179 rfl
                      · have h := (if_neg g20).symm.trans h
                        by_cases g23 : v1 = (11 : Int32)
                        · have h := (if_pos g23).symm.trans h
                          refine r_tabEq (tgt := 180) hX dX8_gridIs_31 g23 ⟨by decide, by decide, rfl⟩ (by decide) ?_
                          refine r_aload_n hX dX8_gridIs_180 rfl ?_
                          refine r_getf (v := .ref 18) hX dX8_gridIs_181 fl_8_35 rfl (by decide) (by decide) rfl ?_
                          obtain ⟨z24, p25, h⟩ := bnd_s h
                          refine r_callV (As := []) hX dX8_gridIs_184 mk_St_slotsUsed mi_St_slotsUsed ml_8_278 rfl rfl rfl rfl (by decide) (by decide) (Nat.le_of_ble_eq_true rfl) hr (ok_St_slotsUsed (d := d + 1) n 18 M st18 p25) ?_
                          obtain rfl := Option.some.inj h
                          exact r_iret hX hT dX8_gridIs_187 rfl
                        · have h := (if_neg g23).symm.trans h
                          by_cases g26 : v1 = (12 : Int32)
                          · have h := (if_pos g26).symm.trans h
                            refine r_tabEq (tgt := 188) hX dX8_gridIs_31 g26 ⟨by decide, by decide, rfl⟩ (by decide) ?_
                            refine r_aload_n hX dX8_gridIs_188 rfl ?_
                            refine r_getf (v := .ref 18) hX dX8_gridIs_189 fl_8_35 rfl (by decide) (by decide) rfl ?_
                            refine r_getf (v := .int (M.1 18 2)) hX dX8_gridIs_192 fl_8_254 rfl (by decide) (by decide) rfl ?_
                            obtain rfl := Option.some.inj h
                            exact r_iret hX hT dX8_gridIs_195 rfl
                          · have h := (if_neg g26).symm.trans h
                            by_cases g27 : v1 = (13 : Int32)
                            · have h := (if_pos g27).symm.trans h
                              refine r_tabEq (tgt := 196) hX dX8_gridIs_31 g27 ⟨by decide, by decide, rfl⟩ (by decide) ?_
                              refine r_aload_n hX dX8_gridIs_196 rfl ?_
                              refine r_getf (v := .ref 18) hX dX8_gridIs_197 fl_8_35 rfl (by decide) (by decide) rfl ?_
                              refine r_getf (v := .int (M.1 18 3)) hX dX8_gridIs_200 fl_8_262 rfl (by decide) (by decide) rfl ?_
                              obtain rfl := Option.some.inj h
                              exact r_iret hX hT dX8_gridIs_203 rfl
                            · have h := (if_neg g27).symm.trans h
                              refine r_tabOut (tgt := 204) hX dX8_gridIs_31 (by have q0 := ne_ti g2 (k := 0) (by decide); have q1 := ne_ti g3 (k := 1) (by decide); have q2 := ne_ti g4 (k := 2) (by decide); have q3 := ne_ti g5 (k := 3) (by decide); have q4 := ne_ti g6 (k := 4) (by decide); have q5 := ne_ti g7 (k := 5) (by decide); have q6 := ne_ti g8 (k := 6) (by decide); have q7 := ne_ti g11 (k := 7) (by decide); have q8 := ne_ti g14 (k := 8) (by decide); have q9 := ne_ti g17 (k := 9) (by decide); have q10 := ne_ti g20 (k := 10) (by decide); have q11 := ne_ti g23 (k := 11) (by decide); have q12 := ne_ti g26 (k := 12) (by decide); have q13 := ne_ti g27 (k := 13) (by decide); omega) (by decide) ?_
                              refine r_bipush (v := (-2 : Int32)) hX dX8_gridIs_204 (by decide) ?_
                              obtain rfl := Option.some.inj h
                              exact r_iret hX hT dX8_gridIs_206 rfl
set_option maxRecDepth 100000 in
theorem ok_Fg_gridIs {G : Gm} {l : Launch} {d : Nat} (n : Nat) (v1 : Int32) (M : Mm) {z : Int32}  (h : Fg_gridIs n v1 M = some z) : CK G l (d + 3) md_Fg_gridIs [.ref 0, .int v1] M SS (some (.int z)) M SS := by
  refine ck_of mk_Fg_gridIs (Nat.le_of_ble_eq_true rfl) ⟨Nat.le_refl _, Nat.le_refl _⟩ (fun X hX hT hS hr hl => ?_)
  subst hl
  unfold Fg_gridIs at h
  show WR G X (mQ G X (some (.int z)) M SS) 0 [.ref 0, .int v1, vU] [] M SS
  refine r_aload_n hX dX8_gridIs_0 rfl ?_
  refine r_getf (v := .ref 18) hX dX8_gridIs_1 fl_8_35 rfl (by decide) (by decide) rfl ?_
  refine r_getf (v := .ref 19) hX dX8_gridIs_4 fl_8_204 rfl (by decide) (by decide) rfl ?_
  refine r_astore_n (L1 := [.ref 0, .int v1, .ref 19]) hX dX8_gridIs_7 (Nat.le_of_ble_eq_true rfl) rfl ?_
  refine r_iload_n hX dX8_gridIs_8 rfl ?_
  refine r_bipush (v := (20 : Int32)) hX dX8_gridIs_9 (by decide) ?_
  refine r_icmp_lt (tgt := 30) hX dX8_gridIs_11 (by decide) (fun g1 => ?_) (fun g1 => ?_)
  · have h := (if_pos g1).symm.trans h
    exact ok_Fg_gridIs_j30 n v1 M   hX hT hr h
  · have h := (if_neg g1).symm.trans h
    refine r_iload_n hX dX8_gridIs_14 rfl ?_
    refine r_bipush (v := (24 : Int32)) hX dX8_gridIs_15 (by decide) ?_
    refine r_icmp_ge (tgt := 30) hX dX8_gridIs_17 (by decide) (fun g28 => ?_) (fun g28 => ?_)
    · have h := (if_pos g28).symm.trans h
      exact ok_Fg_gridIs_j30 n v1 M   hX hT hr h
    · have h := (if_neg g28).symm.trans h
      refine r_aload_n hX dX8_gridIs_20 rfl ?_
      refine r_getf (v := .ref 20) hX dX8_gridIs_21 fl_8_265 rfl (by decide) (by decide) rfl ?_
      refine r_iload_n hX dX8_gridIs_24 rfl ?_
      refine r_bipush (v := (20 : Int32)) hX dX8_gridIs_25 (by decide) ?_
      refine r_isub hX dX8_gridIs_27 ?_
      obtain ⟨k29, h⟩ := grd_s h
      refine r_iald hX dX8_gridIs_28 rfl (by decide) (inb_at rfl k29) ?_
      obtain rfl := Option.some.inj h
      exact r_iret hX hT dX8_gridIs_29 rfl
def Fg_freeRows (v1 : Int32) (M : Mm) : Option (Int32) :=
  bnd (Nt_allSlots 19 M) (fun z1 =>
  grd (inb v1 14) (
  bnd (Jl_bitCount ((z1 &&& ((M.2 34 (tn v1)) ^^^ (-1 : Int64))) &&& ((lshl (z1 &&& ((M.2 34 (tn v1)) ^^^ (-1 : Int64))) (1 : Int32)) ^^^ (-1 : Int64))) M) (fun z4 =>
  some z4)))
set_option maxRecDepth 100000 in
theorem ok_Fg_freeRows {G : Gm} {l : Launch} {d : Nat} (v1 : Int32) (M : Mm) {z : Int32}  (h : Fg_freeRows v1 M = some z) : CK G l (d + 1) md_Fg_freeRows [.ref 0, .int v1] M SS (some (.int z)) M SS := by
  refine ck_of mk_Fg_freeRows (Nat.le_of_ble_eq_true rfl) ⟨Nat.le_refl _, Nat.le_refl _⟩ (fun X hX hT hS hr hl => ?_)
  subst hl
  unfold Fg_freeRows at h
  show WR G X (mQ G X (some (.int z)) M SS) 0 [.ref 0, .int v1, vU, vU] [] M SS
  refine r_aload_n hX dX8_freeRows_0 rfl ?_
  refine r_getf (v := .ref 18) hX dX8_freeRows_1 fl_8_35 rfl (by decide) (by decide) rfl ?_
  refine r_getf (v := .ref 19) hX dX8_freeRows_4 fl_8_204 rfl (by decide) (by decide) rfl ?_
  obtain ⟨z1, p2, h⟩ := bnd_s h
  refine r_callV (As := []) hX dX8_freeRows_7 mk_Nt_allSlots mi_Nt_allSlots ml_8_285 rfl rfl rfl rfl (by decide) (by decide) (Nat.le_of_ble_eq_true rfl) hr (ok_Nt_allSlots (d := d + 0) 19 M (nt_st st18) p2) ?_
  refine r_aload_n hX dX8_freeRows_10 rfl ?_
  refine r_getf (v := .ref 18) hX dX8_freeRows_11 fl_8_35 rfl (by decide) (by decide) rfl ?_
  refine r_getf (v := .ref 34) hX dX8_freeRows_14 fl_8_281 rfl (by decide) (by decide) rfl ?_
  refine r_iload_n hX dX8_freeRows_17 rfl ?_
  obtain ⟨k3, h⟩ := grd_s h
  refine r_lald hX dX8_freeRows_18 rfl (by decide) (inb_at rfl k3) ?_
  refine r_ldc2 hX dX8_freeRows_19 kl_8_289 ?_
  refine r_lxor hX dX8_freeRows_22 ?_
  refine r_land hX dX8_freeRows_23 ?_
  refine r_lstore_n (L1 := [.ref 0, .int v1, .long (z1 &&& ((M.2 34 (tn v1)) ^^^ (-1 : Int64))), vU]) hX dX8_freeRows_24 (Nat.le_of_ble_eq_true rfl) rfl ?_
  refine r_lload_n hX dX8_freeRows_25 rfl ?_
  refine r_lload_n hX dX8_freeRows_26 rfl ?_
  refine r_iconst (v := (1 : Int32)) hX dX8_freeRows_27 (by decide) ?_
  refine r_lshl hX dX8_freeRows_28 ?_
  refine r_ldc2 hX dX8_freeRows_29 kl_8_289 ?_
  refine r_lxor hX dX8_freeRows_32 ?_
  refine r_land hX dX8_freeRows_33 ?_
  obtain ⟨z4, p5, h⟩ := bnd_s h
  refine r_callS (As := [.long ((z1 &&& ((M.2 34 (tn v1)) ^^^ (-1 : Int64))) &&& ((lshl (z1 &&& ((M.2 34 (tn v1)) ^^^ (-1 : Int64))) (1 : Int32)) ^^^ (-1 : Int64)))]) hX dX8_freeRows_34 mk_Jl_bitCount ms_Jl_bitCount ml_8_295 rfl rfl rfl (Nat.le_of_ble_eq_true rfl) hr (ok_Jl_bitCount (d := d + 0) ((z1 &&& ((M.2 34 (tn v1)) ^^^ (-1 : Int64))) &&& ((lshl (z1 &&& ((M.2 34 (tn v1)) ^^^ (-1 : Int64))) (1 : Int32)) ^^^ (-1 : Int64))) M p5) ?_
  obtain rfl := Option.some.inj h
  exact r_iret hX hT dX8_freeRows_37 rfl
def Fg_longestFree_j53 (v4 : Int32) (v6 : Int32) (w0 : Int32) : Option ((Int32 × Int32 × Int32) ⊕ (Int32)) :=
  some (.inl (imx v4 w0, w0, v6 + (1 : Int32)))
def Fg_longestFree_b19 (c2 : Int64) (Mc : Mm) (v4 : Int32) (v5 : Int32) (v6 : Int32) : Option ((Int32 × Int32 × Int32) ⊕ (Int32)) :=
  if (Mc.1 19 1) ≤ v6 then
    some (.inr v4)
  else
    if ((lushr c2 v6) &&& (1 : Int64)) = (0 : Int64) then
      Fg_longestFree_j53 v4 v6 (v5 + (1 : Int32))
    else
      Fg_longestFree_j53 v4 v6 (0 : Int32)
def Fg_longestFree (n : Nat) (v1 : Int32) (M : Mm) : Option (Int32) :=
  grd (inb v1 14) (
  bnd (loop (fun s1 : Int32 × Int32 × Int32 => Fg_longestFree_b19 (M.2 34 (tn v1)) M s1.1 s1.2.1 s1.2.2) n ((0 : Int32), (0 : Int32), (0 : Int32))) (fun y4 =>
  some y4))
set_option maxRecDepth 100000 in
theorem ok_Fg_longestFree_j53 (n : Nat) (v4 : Int32) (v6 : Int32) (w0 : Int32) {c2 : Int64} {Mc : Mm} {z : Int32} {oo : (Int32 × Int32 × Int32) ⊕ (Int32)} {G : Gm} {X : Cx} {d : Nat}  (hX : XK G X 8 cX8_longestFree 7 (d + 0)) (hT : XT X (some .int) "longestFree") (hr : XR X SS) (hc : ∀ s1 : Int32 × Int32 × Int32, oo = .inl s1 → WR G X (mQ G X (some (.int z)) Mc SS) 19 [.ref 0, vU, .long c2, vU, .int s1.1, .int s1.2.1, .int s1.2.2] [] Mc SS) (hx : ∀ x1 : Int32, oo = .inr x1 → WR G X (mQ G X (some (.int z)) Mc SS) 70 [.ref 0, vU, vU, vU, .int x1, vU, vU] [] Mc SS) (h : Fg_longestFree_j53 v4 v6 w0 = some oo) : WR G X (mQ G X (some (.int z)) Mc SS) 53 [.ref 0, vU, .long c2, vU, .int v4, vU, .int v6] [.int w0] Mc SS := by
  unfold Fg_longestFree_j53 at h
  refine r_istore (L1 := [.ref 0, vU, .long c2, vU, .int v4, .int w0, .int v6]) hX dX8_longestFree_53 (Nat.le_of_ble_eq_true rfl) rfl ?_
  refine r_iload hX dX8_longestFree_55 rfl ?_
  refine r_iload hX dX8_longestFree_57 rfl ?_
  refine r_max hX dX8_longestFree_59 ml_8_325 rfl (Nat.le_of_ble_eq_true rfl) hr ?_
  refine r_istore (L1 := [.ref 0, vU, .long c2, vU, .int (imx v4 w0), .int w0, .int v6]) hX dX8_longestFree_62 (Nat.le_of_ble_eq_true rfl) rfl ?_
  refine r_iinc (v := v6 + (1 : Int32)) (L1 := [.ref 0, vU, .long c2, vU, .int (imx v4 w0), .int w0, .int (v6 + (1 : Int32))]) hX dX8_longestFree_64 rfl rfl rfl ?_
  refine r_goto (tgt := 19) hX dX8_longestFree_67 (by decide) ?_
  exact hc (imx v4 w0, w0, v6 + (1 : Int32)) (Option.some.inj h).symm
set_option maxRecDepth 100000 in
theorem ok_Fg_longestFree_b19 (n : Nat) (v4 : Int32) (v5 : Int32) (v6 : Int32) {c2 : Int64} {Mc : Mm} {z : Int32} {oo : (Int32 × Int32 × Int32) ⊕ (Int32)} {G : Gm} {X : Cx} {d : Nat}  (hX : XK G X 8 cX8_longestFree 7 (d + 0)) (hT : XT X (some .int) "longestFree") (hr : XR X SS) (hc : ∀ s1 : Int32 × Int32 × Int32, oo = .inl s1 → WR G X (mQ G X (some (.int z)) Mc SS) 19 [.ref 0, vU, .long c2, vU, .int s1.1, .int s1.2.1, .int s1.2.2] [] Mc SS) (hx : ∀ x1 : Int32, oo = .inr x1 → WR G X (mQ G X (some (.int z)) Mc SS) 70 [.ref 0, vU, vU, vU, .int x1, vU, vU] [] Mc SS) (h : Fg_longestFree_b19 c2 Mc v4 v5 v6 = some oo) : WR G X (mQ G X (some (.int z)) Mc SS) 19 [.ref 0, vU, .long c2, vU, .int v4, .int v5, .int v6] [] Mc SS := by
  unfold Fg_longestFree_b19 at h
  refine r_iload hX dX8_longestFree_19 rfl ?_
  refine r_aload_n hX dX8_longestFree_21 rfl ?_
  refine r_getf (v := .ref 18) hX dX8_longestFree_22 fl_8_35 rfl (by decide) (by decide) rfl ?_
  refine r_getf (v := .ref 19) hX dX8_longestFree_25 fl_8_204 rfl (by decide) (by decide) rfl ?_
  refine r_getf (v := .int (Mc.1 19 1)) hX dX8_longestFree_28 fl_8_207 rfl (by decide) (by decide) rfl ?_
  refine r_icmp_ge (tgt := 70) hX dX8_longestFree_31 (by decide) (fun g2 => ?_) (fun g2 => ?_)
  · have h := (if_pos g2).symm.trans h
    refine WR.fg (L' := [.ref 0, vU, vU, vU, .int v4, vU, vU]) ⟨Or.inr rfl, Or.inl rfl, Or.inl rfl, Or.inl rfl, Or.inr rfl, Or.inl rfl, Or.inl rfl, trivial⟩ ?_
    exact hx _ (Option.some.inj h).symm
  · have h := (if_neg g2).symm.trans h
    refine r_lload_n hX dX8_longestFree_34 rfl ?_
    refine r_iload hX dX8_longestFree_35 rfl ?_
    refine r_lushr hX dX8_longestFree_37 ?_
    refine r_lconst (v := (1 : Int64)) hX dX8_longestFree_38 (by decide) ?_
    refine r_land hX dX8_longestFree_39 ?_
    refine r_lconst (v := (0 : Int64)) hX dX8_longestFree_40 (by decide) ?_
    refine r_lcmp_ne (tgt := 52) hX dX8_longestFree_41 dX8_longestFree_42 (by decide) (fun g3 => ?_) (fun g3 => ?_)
    · have h := (if_neg g3).symm.trans h
      refine r_iconst (v := (0 : Int32)) hX dX8_longestFree_52 (by decide) ?_
      refine WR.fg (L' := [.ref 0, vU, .long c2, vU, .int v4, vU, .int v6]) ⟨Or.inr rfl, Or.inl rfl, Or.inr rfl, Or.inl rfl, Or.inr rfl, Or.inl rfl, Or.inr rfl, trivial⟩ ?_
      exact ok_Fg_longestFree_j53 n v4 v6 (0 : Int32)   hX hT hr hc hx h
    · have h := (if_pos g3).symm.trans h
      refine r_iload hX dX8_longestFree_45 rfl ?_
      refine r_iconst (v := (1 : Int32)) hX dX8_longestFree_47 (by decide) ?_
      refine r_iadd hX dX8_longestFree_48 ?_
      refine r_goto (tgt := 53) hX dX8_longestFree_49 (by decide) ?_
      refine WR.fg (L' := [.ref 0, vU, .long c2, vU, .int v4, vU, .int v6]) ⟨Or.inr rfl, Or.inl rfl, Or.inr rfl, Or.inl rfl, Or.inr rfl, Or.inl rfl, Or.inr rfl, trivial⟩ ?_
      exact ok_Fg_longestFree_j53 n v4 v6 (v5 + (1 : Int32))   hX hT hr hc hx h
set_option maxRecDepth 100000 in
theorem ok_Fg_longestFree {G : Gm} {l : Launch} {d : Nat} (n : Nat) (v1 : Int32) (M : Mm) {z : Int32}  (h : Fg_longestFree n v1 M = some z) : CK G l (d + 0) md_Fg_longestFree [.ref 0, .int v1] M SS (some (.int z)) M SS := by
  refine ck_of mk_Fg_longestFree (Nat.le_of_ble_eq_true rfl) ⟨Nat.le_refl _, Nat.le_refl _⟩ (fun X hX hT hS hr hl => ?_)
  subst hl
  unfold Fg_longestFree at h
  show WR G X (mQ G X (some (.int z)) M SS) 0 [.ref 0, .int v1, vU, vU, vU, vU, vU] [] M SS
  refine r_aload_n hX dX8_longestFree_0 rfl ?_
  refine r_getf (v := .ref 18) hX dX8_longestFree_1 fl_8_35 rfl (by decide) (by decide) rfl ?_
  refine r_getf (v := .ref 34) hX dX8_longestFree_4 fl_8_281 rfl (by decide) (by decide) rfl ?_
  refine r_iload_n hX dX8_longestFree_7 rfl ?_
  obtain ⟨k1, h⟩ := grd_s h
  refine r_lald hX dX8_longestFree_8 rfl (by decide) (inb_at rfl k1) ?_
  refine r_lstore_n (L1 := [.ref 0, .int v1, .long (M.2 34 (tn v1)), vU, vU, vU, vU]) hX dX8_longestFree_9 (Nat.le_of_ble_eq_true rfl) rfl ?_
  refine r_iconst (v := (0 : Int32)) hX dX8_longestFree_10 (by decide) ?_
  refine r_istore (L1 := [.ref 0, .int v1, .long (M.2 34 (tn v1)), vU, .int (0 : Int32), vU, vU]) hX dX8_longestFree_11 (Nat.le_of_ble_eq_true rfl) rfl ?_
  refine r_iconst (v := (0 : Int32)) hX dX8_longestFree_13 (by decide) ?_
  refine r_istore (L1 := [.ref 0, .int v1, .long (M.2 34 (tn v1)), vU, .int (0 : Int32), .int (0 : Int32), vU]) hX dX8_longestFree_14 (Nat.le_of_ble_eq_true rfl) rfl ?_
  refine r_iconst (v := (0 : Int32)) hX dX8_longestFree_16 (by decide) ?_
  refine r_istore (L1 := [.ref 0, .int v1, .long (M.2 34 (tn v1)), vU, .int (0 : Int32), .int (0 : Int32), .int (0 : Int32)]) hX dX8_longestFree_17 (Nat.le_of_ble_eq_true rfl) rfl ?_
  refine WR.fg (L' := [.ref 0, vU, .long (M.2 34 (tn v1)), vU, .int (0 : Int32), .int (0 : Int32), .int (0 : Int32)]) ⟨Or.inr rfl, Or.inl rfl, Or.inr rfl, Or.inl rfl, Or.inr rfl, Or.inr rfl, Or.inr rfl, trivial⟩ ?_
  obtain ⟨y4, h1, h⟩ := bnd_s h
  refine loop_ok (P := fun s1 : Int32 × Int32 × Int32 => WR G X (mQ G X (some (.int z)) M SS) 19 [.ref 0, vU, .long (M.2 34 (tn v1)), vU, .int s1.1, .int s1.2.1, .int s1.2.2] [] M SS) (E := fun x1 : Int32 => WR G X (mQ G X (some (.int z)) M SS) 70 [.ref 0, vU, vU, vU, .int x1, vU, vU] [] M SS) (fun s1 o1 g1 g2 g3 => ok_Fg_longestFree_b19 n s1.1 s1.2.1 s1.2.2  hX hT hr g2 g3 g1) n ((0 : Int32), (0 : Int32), (0 : Int32)) y4 h1 ?_
  show WR G X (mQ G X (some (.int z)) M SS) 70 [.ref 0, vU, vU, vU, .int y4, vU, vU] [] M SS
  refine r_iload hX dX8_longestFree_70 rfl ?_
  obtain rfl := Option.some.inj h
  exact r_iret hX hT dX8_longestFree_72 rfl
def Fg_torn (n : Nat) (v1 : Int32) (M : Mm) : Option (Int32) :=
  bnd (Nt_allSlots 19 M) (fun z1 =>
  grd (inb v1 14) (
  bnd (Jl_bitCount (z1 &&& ((M.2 34 (tn v1)) ^^^ (-1 : Int64))) M) (fun z4 =>
  if (0 : Int32) < z4 then
    bnd (Fg_longestFree n v1 M) (fun z7 =>
    grd (nz z4) (
    some (((z4 - z7) * (10000 : Int32)) / z4)))
  else
    some (0 : Int32))))
set_option maxRecDepth 100000 in
theorem ok_Fg_torn {G : Gm} {l : Launch} {d : Nat} (n : Nat) (v1 : Int32) (M : Mm) {z : Int32}  (h : Fg_torn n v1 M = some z) : CK G l (d + 1) md_Fg_torn [.ref 0, .int v1] M SS (some (.int z)) M SS := by
  refine ck_of mk_Fg_torn (Nat.le_of_ble_eq_true rfl) ⟨Nat.le_refl _, Nat.le_refl _⟩ (fun X hX hT hS hr hl => ?_)
  subst hl
  unfold Fg_torn at h
  show WR G X (mQ G X (some (.int z)) M SS) 0 [.ref 0, .int v1, vU] [] M SS
  refine r_aload_n hX dX8_torn_0 rfl ?_
  refine r_getf (v := .ref 18) hX dX8_torn_1 fl_8_35 rfl (by decide) (by decide) rfl ?_
  refine r_getf (v := .ref 19) hX dX8_torn_4 fl_8_204 rfl (by decide) (by decide) rfl ?_
  obtain ⟨z1, p2, h⟩ := bnd_s h
  refine r_callV (As := []) hX dX8_torn_7 mk_Nt_allSlots mi_Nt_allSlots ml_8_285 rfl rfl rfl rfl (by decide) (by decide) (Nat.le_of_ble_eq_true rfl) hr (ok_Nt_allSlots (d := d + 0) 19 M (nt_st st18) p2) ?_
  refine r_aload_n hX dX8_torn_10 rfl ?_
  refine r_getf (v := .ref 18) hX dX8_torn_11 fl_8_35 rfl (by decide) (by decide) rfl ?_
  refine r_getf (v := .ref 34) hX dX8_torn_14 fl_8_281 rfl (by decide) (by decide) rfl ?_
  refine r_iload_n hX dX8_torn_17 rfl ?_
  obtain ⟨k3, h⟩ := grd_s h
  refine r_lald hX dX8_torn_18 rfl (by decide) (inb_at rfl k3) ?_
  refine r_ldc2 hX dX8_torn_19 kl_8_289 ?_
  refine r_lxor hX dX8_torn_22 ?_
  refine r_land hX dX8_torn_23 ?_
  obtain ⟨z4, p5, h⟩ := bnd_s h
  refine r_callS (As := [.long (z1 &&& ((M.2 34 (tn v1)) ^^^ (-1 : Int64)))]) hX dX8_torn_24 mk_Jl_bitCount ms_Jl_bitCount ml_8_295 rfl rfl rfl (Nat.le_of_ble_eq_true rfl) hr (ok_Jl_bitCount (d := d + 0) (z1 &&& ((M.2 34 (tn v1)) ^^^ (-1 : Int64))) M p5) ?_
  refine r_istore_n (L1 := [.ref 0, .int v1, .int z4]) hX dX8_torn_27 (Nat.le_of_ble_eq_true rfl) rfl ?_
  refine r_iload_n hX dX8_torn_28 rfl ?_
  refine r_if_gt (tgt := 34) hX dX8_torn_29 (by decide) (fun g6 => ?_) (fun g6 => ?_)
  · have h := (if_pos g6).symm.trans h
    refine r_iload_n hX dX8_torn_34 rfl ?_
    refine r_aload_n hX dX8_torn_35 rfl ?_
    refine r_iload_n hX dX8_torn_36 rfl ?_
    obtain ⟨z7, p8, h⟩ := bnd_s h
    refine r_callV (As := [.int v1]) hX dX8_torn_37 mk_Fg_longestFree mi_Fg_longestFree ml_8_313 rfl rfl rfl rfl (by decide) (by decide) (Nat.le_of_ble_eq_true rfl) hr (ok_Fg_longestFree (d := d + 0) n v1 M p8) ?_
    refine r_isub hX dX8_torn_40 ?_
    refine r_sipush (v := (10000 : Int32)) hX dX8_torn_41 (by decide) ?_
    refine r_imul hX dX8_torn_44 ?_
    refine r_iload_n hX dX8_torn_45 rfl ?_
    obtain ⟨k9, h⟩ := grd_s h
    refine r_idiv hX dX8_torn_46 (nz_ne k9) ?_
    obtain rfl := Option.some.inj h
    exact r_iret hX hT dX8_torn_47 rfl
  · have h := (if_neg g6).symm.trans h
    refine r_iconst (v := (0 : Int32)) hX dX8_torn_32 (by decide) ?_
    obtain rfl := Option.some.inj h
    exact r_iret hX hT dX8_torn_33 rfl
def Fg_linkIs_j62 (n : Nat) (v1 : Int32) (v2 : Int32) (v3 : Int64) (M : Mm) : Option (Int32) :=
  if v2 = (0 : Int32) then
    grd (inb v1 14) (
    some (M.1 21 (tn v1)))
  else
    if v2 = (1 : Int32) then
      grd (inb v1 14) (
      some (M.1 22 (tn v1)))
    else
      if v2 = (2 : Int32) then
        grd (inb v1 14) (
        some (M.1 23 (tn v1)))
      else
        if v2 = (3 : Int32) then
          bnd (St_isUp 18 v1 M) (fun z13 =>
          if z13 = true then
            some (1 : Int32)
          else
            some (0 : Int32))
        else
          if v2 = (4 : Int32) then
            bnd (Jl_bitCount v3 M) (fun z17 =>
            some z17)
          else
            if v2 = (5 : Int32) then
              if v3 = (0 : Int64) then
                some (-2 : Int32)
              else
                bnd (Fg_highest n v3 M) (fun z21 =>
                some z21)
            else
              if v2 = (6 : Int32) then
                bnd (Fg_longestFree n v1 M) (fun z24 =>
                some z24)
              else
                if v2 = (7 : Int32) then
                  bnd (Fg_freeRows v1 M) (fun z27 =>
                  some z27)
                else
                  if v2 = (8 : Int32) then
                    bnd (Fg_torn n v1 M) (fun z30 =>
                    some z30)
                  else
                    if v2 = (9 : Int32) then
                      bnd (St_litOn n 18 v1 M) (fun z33 =>
                      some z33)
                    else
                      some (-1 : Int32)
def Fg_linkIs (n : Nat) (v1 : Int32) (v2 : Int32) (M : Mm) : Option (Int32) :=
  bnd (St_hasLink 18 v1 M) (fun z1 =>
  if z1 = true then
    grd (inb v1 14) (
    if v2 ≤ (20 : Int32) then
      Fg_linkIs_j62 n v1 v2 (M.2 34 (tn v1)) M
    else
      if (84 : Int32) < v2 then
        Fg_linkIs_j62 n v1 v2 (M.2 34 (tn v1)) M
      else
        bnd (Nt_allSlots 19 M) (fun z36 =>
        bnd (Fg_rowStarts n (z36 &&& ((M.2 34 (tn v1)) ^^^ (-1 : Int64))) (v2 - (20 : Int32)) M) (fun z38 =>
        bnd (Jl_bitCount z38 M) (fun z40 =>
        some z40))))
  else
    some (-1 : Int32))
set_option maxRecDepth 100000 in
theorem ok_Fg_linkIs_j62 (n : Nat) (v1 : Int32) (v2 : Int32) (v3 : Int64) (M : Mm) {z : Int32} {G : Gm} {X : Cx} {d : Nat}  (hX : XK G X 8 cX8_linkIs 5 (d + 2)) (hT : XT X (some .int) "linkIs") (hr : XR X SS) (h : Fg_linkIs_j62 n v1 v2 v3 M = some z) : WR G X (mQ G X (some (.int z)) M SS) 62 [.ref 0, .int v1, .int v2, .long v3, vU] [] M SS := by
  unfold Fg_linkIs_j62 at h
  refine r_iload_n hX dX8_linkIs_62 rfl ?_
  by_cases g6 : v2 = (0 : Int32)
  · have h := (if_pos g6).symm.trans h
    refine r_tabEq (tgt := 116) hX dX8_linkIs_63 g6 ⟨by decide, by decide, rfl⟩ (by decide) ?_
    refine r_aload_n hX dX8_linkIs_116 rfl ?_
    refine r_getf (v := .ref 18) hX dX8_linkIs_117 fl_8_35 rfl (by decide) (by decide) rfl ?_
    refine r_getf (v := .ref 19) hX dX8_linkIs_120 fl_8_204 rfl (by decide) (by decide) rfl ?_
    refine r_getf (v := .ref 21) hX dX8_linkIs_123 fl_8_301 rfl (by decide) (by decide) rfl ?_
    refine r_iload_n hX dX8_linkIs_126 rfl ?_
    obtain ⟨k7, h⟩ := grd_s h
    refine r_iald hX dX8_linkIs_127 rfl (by decide) (inb_at rfl k7) ?_
    obtain rfl := Option.some.inj h
    exact r_iret hX hT dX8_linkIs_128 rfl
  · have h := (if_neg g6).symm.trans h
    by_cases g8 : v2 = (1 : Int32)
    · have h := (if_pos g8).symm.trans h
      refine r_tabEq (tgt := 129) hX dX8_linkIs_63 g8 ⟨by decide, by decide, rfl⟩ (by decide) ?_
      refine r_aload_n hX dX8_linkIs_129 rfl ?_
      refine r_getf (v := .ref 18) hX dX8_linkIs_130 fl_8_35 rfl (by decide) (by decide) rfl ?_
      refine r_getf (v := .ref 19) hX dX8_linkIs_133 fl_8_204 rfl (by decide) (by decide) rfl ?_
      refine r_getf (v := .ref 22) hX dX8_linkIs_136 fl_8_304 rfl (by decide) (by decide) rfl ?_
      refine r_iload_n hX dX8_linkIs_139 rfl ?_
      obtain ⟨k9, h⟩ := grd_s h
      refine r_iald hX dX8_linkIs_140 rfl (by decide) (inb_at rfl k9) ?_
      obtain rfl := Option.some.inj h
      exact r_iret hX hT dX8_linkIs_141 rfl
    · have h := (if_neg g8).symm.trans h
      by_cases g10 : v2 = (2 : Int32)
      · have h := (if_pos g10).symm.trans h
        refine r_tabEq (tgt := 142) hX dX8_linkIs_63 g10 ⟨by decide, by decide, rfl⟩ (by decide) ?_
        refine r_aload_n hX dX8_linkIs_142 rfl ?_
        refine r_getf (v := .ref 18) hX dX8_linkIs_143 fl_8_35 rfl (by decide) (by decide) rfl ?_
        refine r_getf (v := .ref 19) hX dX8_linkIs_146 fl_8_204 rfl (by decide) (by decide) rfl ?_
        refine r_getf (v := .ref 23) hX dX8_linkIs_149 fl_8_307 rfl (by decide) (by decide) rfl ?_
        refine r_iload_n hX dX8_linkIs_152 rfl ?_
        obtain ⟨k11, h⟩ := grd_s h
        refine r_iald hX dX8_linkIs_153 rfl (by decide) (inb_at rfl k11) ?_
        obtain rfl := Option.some.inj h
        exact r_iret hX hT dX8_linkIs_154 rfl
      · have h := (if_neg g10).symm.trans h
        by_cases g12 : v2 = (3 : Int32)
        · have h := (if_pos g12).symm.trans h
          refine r_tabEq (tgt := 155) hX dX8_linkIs_63 g12 ⟨by decide, by decide, rfl⟩ (by decide) ?_
          refine r_aload_n hX dX8_linkIs_155 rfl ?_
          refine r_getf (v := .ref 18) hX dX8_linkIs_156 fl_8_35 rfl (by decide) (by decide) rfl ?_
          refine r_iload_n hX dX8_linkIs_159 rfl ?_
          obtain ⟨z13, p14, h⟩ := bnd_s h
          refine r_callV (As := [.int v1]) hX dX8_linkIs_160 mk_St_isUp mi_St_isUp ml_8_219 rfl rfl rfl rfl (by decide) (by decide) (Nat.le_of_ble_eq_true rfl) hr (ok_St_isUp (d := d + 1) 18 v1 M st18 p14) ?_
          refine r_ifb_eq (tgt := 170) hX dX8_linkIs_163 (by decide) (fun g15 => ?_) (fun g15 => ?_)
          · have h := (if_neg (show ¬ z13 = true from fun e => by rw [g15] at e; cases e)).symm.trans h
            refine r_iconst (v := (0 : Int32)) hX dX8_linkIs_170 (by decide) ?_
            obtain rfl := Option.some.inj h
            exact r_iret hX hT dX8_linkIs_171 rfl
          · have h := (if_pos g15).symm.trans h
            refine r_iconst (v := (1 : Int32)) hX dX8_linkIs_166 (by decide) ?_
            refine r_goto (tgt := 171) hX dX8_linkIs_167 (by decide) ?_
            obtain rfl := Option.some.inj h
            exact r_iret hX hT dX8_linkIs_171 rfl
        · have h := (if_neg g12).symm.trans h
          by_cases g16 : v2 = (4 : Int32)
          · have h := (if_pos g16).symm.trans h
            refine r_tabEq (tgt := 172) hX dX8_linkIs_63 g16 ⟨by decide, by decide, rfl⟩ (by decide) ?_
            refine r_lload_n hX dX8_linkIs_172 rfl ?_
            obtain ⟨z17, p18, h⟩ := bnd_s h
            refine r_callS (As := [.long v3]) hX dX8_linkIs_173 mk_Jl_bitCount ms_Jl_bitCount ml_8_295 rfl rfl rfl (Nat.le_of_ble_eq_true rfl) hr (ok_Jl_bitCount (d := d + 1) v3 M p18) ?_
            obtain rfl := Option.some.inj h
            exact r_iret hX hT dX8_linkIs_176 rfl
          · have h := (if_neg g16).symm.trans h
            by_cases g19 : v2 = (5 : Int32)
            · have h := (if_pos g19).symm.trans h
              refine r_tabEq (tgt := 177) hX dX8_linkIs_63 g19 ⟨by decide, by decide, rfl⟩ (by decide) ?_
              refine r_lload_n hX dX8_linkIs_177 rfl ?_
              refine r_lconst (v := (0 : Int64)) hX dX8_linkIs_178 (by decide) ?_
              refine r_lcmp_ne (tgt := 188) hX dX8_linkIs_179 dX8_linkIs_180 (by decide) (fun g20 => ?_) (fun g20 => ?_)
              · have h := (if_neg g20).symm.trans h
                refine r_lload_n hX dX8_linkIs_188 rfl ?_
                obtain ⟨z21, p22, h⟩ := bnd_s h
                refine r_callS (As := [.long v3]) hX dX8_linkIs_189 mk_Fg_highest ms_Fg_highest ml_8_310 rfl rfl rfl (Nat.le_of_ble_eq_true rfl) hr (ok_Fg_highest (d := d + 0) n v3 M p22) ?_
                obtain rfl := Option.some.inj h
                exact r_iret hX hT dX8_linkIs_192 rfl
              · have h := (if_pos g20).symm.trans h
                refine r_bipush (v := (-2 : Int32)) hX dX8_linkIs_183 (by decide) ?_
                refine r_goto (tgt := 192) hX dX8_linkIs_185 (by decide) ?_
                obtain rfl := Option.some.inj h
                exact r_iret hX hT dX8_linkIs_192 rfl
            · have h := (if_neg g19).symm.trans h
              by_cases g23 : v2 = (6 : Int32)
              · have h := (if_pos g23).symm.trans h
                refine r_tabEq (tgt := 193) hX dX8_linkIs_63 g23 ⟨by decide, by decide, rfl⟩ (by decide) ?_
                refine r_aload_n hX dX8_linkIs_193 rfl ?_
                refine r_iload_n hX dX8_linkIs_194 rfl ?_
                obtain ⟨z24, p25, h⟩ := bnd_s h
                refine r_callV (As := [.int v1]) hX dX8_linkIs_195 mk_Fg_longestFree mi_Fg_longestFree ml_8_313 rfl rfl rfl rfl (by decide) (by decide) (Nat.le_of_ble_eq_true rfl) hr (ok_Fg_longestFree (d := d + 1) n v1 M p25) ?_
                obtain rfl := Option.some.inj h
                exact r_iret hX hT dX8_linkIs_198 rfl
              · have h := (if_neg g23).symm.trans h
                by_cases g26 : v2 = (7 : Int32)
                · have h := (if_pos g26).symm.trans h
                  refine r_tabEq (tgt := 199) hX dX8_linkIs_63 g26 ⟨by decide, by decide, rfl⟩ (by decide) ?_
                  refine r_aload_n hX dX8_linkIs_199 rfl ?_
                  refine r_iload_n hX dX8_linkIs_200 rfl ?_
                  obtain ⟨z27, p28, h⟩ := bnd_s h
                  refine r_callV (As := [.int v1]) hX dX8_linkIs_201 mk_Fg_freeRows mi_Fg_freeRows ml_8_316 rfl rfl rfl rfl (by decide) (by decide) (Nat.le_of_ble_eq_true rfl) hr (ok_Fg_freeRows (d := d + 0) v1 M p28) ?_
                  obtain rfl := Option.some.inj h
                  exact r_iret hX hT dX8_linkIs_204 rfl
                · have h := (if_neg g26).symm.trans h
                  by_cases g29 : v2 = (8 : Int32)
                  · have h := (if_pos g29).symm.trans h
                    refine r_tabEq (tgt := 205) hX dX8_linkIs_63 g29 ⟨by decide, by decide, rfl⟩ (by decide) ?_
                    refine r_aload_n hX dX8_linkIs_205 rfl ?_
                    refine r_iload_n hX dX8_linkIs_206 rfl ?_
                    obtain ⟨z30, p31, h⟩ := bnd_s h
                    refine r_callV (As := [.int v1]) hX dX8_linkIs_207 mk_Fg_torn mi_Fg_torn ml_8_319 rfl rfl rfl rfl (by decide) (by decide) (Nat.le_of_ble_eq_true rfl) hr (ok_Fg_torn (d := d + 0) n v1 M p31) ?_
                    obtain rfl := Option.some.inj h
                    exact r_iret hX hT dX8_linkIs_210 rfl
                  · have h := (if_neg g29).symm.trans h
                    by_cases g32 : v2 = (9 : Int32)
                    · have h := (if_pos g32).symm.trans h
                      refine r_tabEq (tgt := 211) hX dX8_linkIs_63 g32 ⟨by decide, by decide, rfl⟩ (by decide) ?_
                      refine r_aload_n hX dX8_linkIs_211 rfl ?_
                      refine r_getf (v := .ref 18) hX dX8_linkIs_212 fl_8_35 rfl (by decide) (by decide) rfl ?_
                      refine r_iload_n hX dX8_linkIs_215 rfl ?_
                      obtain ⟨z33, p34, h⟩ := bnd_s h
                      refine r_callV (As := [.int v1]) hX dX8_linkIs_216 mk_St_litOn mi_St_litOn ml_8_322 rfl rfl rfl rfl (by decide) (by decide) (Nat.le_of_ble_eq_true rfl) hr (ok_St_litOn (d := d + 1) n 18 v1 M st18 p34) ?_
                      obtain rfl := Option.some.inj h
                      exact r_iret hX hT dX8_linkIs_219 rfl
                    · have h := (if_neg g32).symm.trans h
                      refine r_tabOut (tgt := 220) hX dX8_linkIs_63 (by have q0 := ne_ti g6 (k := 0) (by decide); have q1 := ne_ti g8 (k := 1) (by decide); have q2 := ne_ti g10 (k := 2) (by decide); have q3 := ne_ti g12 (k := 3) (by decide); have q4 := ne_ti g16 (k := 4) (by decide); have q5 := ne_ti g19 (k := 5) (by decide); have q6 := ne_ti g23 (k := 6) (by decide); have q7 := ne_ti g26 (k := 7) (by decide); have q8 := ne_ti g29 (k := 8) (by decide); have q9 := ne_ti g32 (k := 9) (by decide); omega) (by decide) ?_
                      refine r_iconst (v := (-1 : Int32)) hX dX8_linkIs_220 (by decide) ?_
                      obtain rfl := Option.some.inj h
                      exact r_iret hX hT dX8_linkIs_221 rfl
set_option maxRecDepth 100000 in
theorem ok_Fg_linkIs {G : Gm} {l : Launch} {d : Nat} (n : Nat) (v1 : Int32) (v2 : Int32) (M : Mm) {z : Int32}  (h : Fg_linkIs n v1 v2 M = some z) : CK G l (d + 2) md_Fg_linkIs [.ref 0, .int v1, .int v2] M SS (some (.int z)) M SS := by
  refine ck_of mk_Fg_linkIs (Nat.le_of_ble_eq_true rfl) ⟨Nat.le_refl _, Nat.le_refl _⟩ (fun X hX hT hS hr hl => ?_)
  subst hl
  unfold Fg_linkIs at h
  show WR G X (mQ G X (some (.int z)) M SS) 0 [.ref 0, .int v1, .int v2, vU, vU] [] M SS
  refine r_aload_n hX dX8_linkIs_0 rfl ?_
  refine r_getf (v := .ref 18) hX dX8_linkIs_1 fl_8_35 rfl (by decide) (by decide) rfl ?_
  refine r_iload_n hX dX8_linkIs_4 rfl ?_
  obtain ⟨z1, p2, h⟩ := bnd_s h
  refine r_callV (As := [.int v1]) hX dX8_linkIs_5 mk_St_hasLink mi_St_hasLink ml_8_216 rfl rfl rfl rfl (by decide) (by decide) (Nat.le_of_ble_eq_true rfl) hr (ok_St_hasLink (d := d + 1) 18 v1 M st18 p2) ?_
  refine r_ifb_ne (tgt := 13) hX dX8_linkIs_8 (by decide) (fun g3 => ?_) (fun g3 => ?_)
  · have h := (if_pos g3).symm.trans h
    refine r_aload_n hX dX8_linkIs_13 rfl ?_
    refine r_getf (v := .ref 18) hX dX8_linkIs_14 fl_8_35 rfl (by decide) (by decide) rfl ?_
    refine r_getf (v := .ref 34) hX dX8_linkIs_17 fl_8_281 rfl (by decide) (by decide) rfl ?_
    refine r_iload_n hX dX8_linkIs_20 rfl ?_
    obtain ⟨k4, h⟩ := grd_s h
    refine r_lald hX dX8_linkIs_21 rfl (by decide) (inb_at rfl k4) ?_
    refine r_lstore_n (L1 := [.ref 0, .int v1, .int v2, .long (M.2 34 (tn v1)), vU]) hX dX8_linkIs_22 (Nat.le_of_ble_eq_true rfl) rfl ?_
    refine r_iload_n hX dX8_linkIs_23 rfl ?_
    refine r_bipush (v := (20 : Int32)) hX dX8_linkIs_24 (by decide) ?_
    refine r_icmp_le (tgt := 62) hX dX8_linkIs_26 (by decide) (fun g5 => ?_) (fun g5 => ?_)
    · have h := (if_pos g5).symm.trans h
      exact ok_Fg_linkIs_j62 n v1 v2 (M.2 34 (tn v1)) M   hX hT hr h
    · have h := (if_neg g5).symm.trans h
      refine r_iload_n hX dX8_linkIs_29 rfl ?_
      refine r_bipush (v := (84 : Int32)) hX dX8_linkIs_30 (by decide) ?_
      refine r_icmp_gt (tgt := 62) hX dX8_linkIs_32 (by decide) (fun g35 => ?_) (fun g35 => ?_)
      · have h := (if_pos g35).symm.trans h
        exact ok_Fg_linkIs_j62 n v1 v2 (M.2 34 (tn v1)) M   hX hT hr h
      · have h := (if_neg g35).symm.trans h
        refine r_aload_n hX dX8_linkIs_35 rfl ?_
        refine r_getf (v := .ref 18) hX dX8_linkIs_36 fl_8_35 rfl (by decide) (by decide) rfl ?_
        refine r_getf (v := .ref 19) hX dX8_linkIs_39 fl_8_204 rfl (by decide) (by decide) rfl ?_
        obtain ⟨z36, p37, h⟩ := bnd_s h
        refine r_callV (As := []) hX dX8_linkIs_42 mk_Nt_allSlots mi_Nt_allSlots ml_8_285 rfl rfl rfl rfl (by decide) (by decide) (Nat.le_of_ble_eq_true rfl) hr (ok_Nt_allSlots (d := d + 1) 19 M (nt_st st18) p37) ?_
        refine r_lload_n hX dX8_linkIs_45 rfl ?_
        refine r_ldc2 hX dX8_linkIs_46 kl_8_289 ?_
        refine r_lxor hX dX8_linkIs_49 ?_
        refine r_land hX dX8_linkIs_50 ?_
        refine r_iload_n hX dX8_linkIs_51 rfl ?_
        refine r_bipush (v := (20 : Int32)) hX dX8_linkIs_52 (by decide) ?_
        refine r_isub hX dX8_linkIs_54 ?_
        obtain ⟨z38, p39, h⟩ := bnd_s h
        refine r_callS (As := [.long (z36 &&& ((M.2 34 (tn v1)) ^^^ (-1 : Int64))), .int (v2 - (20 : Int32))]) hX dX8_linkIs_55 mk_Fg_rowStarts ms_Fg_rowStarts ml_8_291 rfl rfl rfl (Nat.le_of_ble_eq_true rfl) hr (ok_Fg_rowStarts (d := d + 1) n (z36 &&& ((M.2 34 (tn v1)) ^^^ (-1 : Int64))) (v2 - (20 : Int32)) M p39) ?_
        obtain ⟨z40, p41, h⟩ := bnd_s h
        refine r_callS (As := [.long z38]) hX dX8_linkIs_58 mk_Jl_bitCount ms_Jl_bitCount ml_8_295 rfl rfl rfl (Nat.le_of_ble_eq_true rfl) hr (ok_Jl_bitCount (d := d + 1) z38 M p41) ?_
        obtain rfl := Option.some.inj h
        exact r_iret hX hT dX8_linkIs_61 rfl
  · have h := (if_neg (show ¬ z1 = true from fun e => by rw [g3] at e; cases e)).symm.trans h
    refine r_iconst (v := (-1 : Int32)) hX dX8_linkIs_11 (by decide) ?_
    obtain rfl := Option.some.inj h
    exact r_iret hX hT dX8_linkIs_12 rfl
def Ji_bitCount (v0 : Int32) (M : Mm) : Option (Int32) :=
  some ((((((((v0 - ((ushr v0 (1 : Int32)) &&& (1431655765 : Int32))) &&& (858993459 : Int32)) + ((ushr (v0 - ((ushr v0 (1 : Int32)) &&& (1431655765 : Int32))) (2 : Int32)) &&& (858993459 : Int32))) + (ushr (((v0 - ((ushr v0 (1 : Int32)) &&& (1431655765 : Int32))) &&& (858993459 : Int32)) + ((ushr (v0 - ((ushr v0 (1 : Int32)) &&& (1431655765 : Int32))) (2 : Int32)) &&& (858993459 : Int32))) (4 : Int32))) &&& (252645135 : Int32)) + (ushr (((((v0 - ((ushr v0 (1 : Int32)) &&& (1431655765 : Int32))) &&& (858993459 : Int32)) + ((ushr (v0 - ((ushr v0 (1 : Int32)) &&& (1431655765 : Int32))) (2 : Int32)) &&& (858993459 : Int32))) + (ushr (((v0 - ((ushr v0 (1 : Int32)) &&& (1431655765 : Int32))) &&& (858993459 : Int32)) + ((ushr (v0 - ((ushr v0 (1 : Int32)) &&& (1431655765 : Int32))) (2 : Int32)) &&& (858993459 : Int32))) (4 : Int32))) &&& (252645135 : Int32)) (8 : Int32))) + (ushr ((((((v0 - ((ushr v0 (1 : Int32)) &&& (1431655765 : Int32))) &&& (858993459 : Int32)) + ((ushr (v0 - ((ushr v0 (1 : Int32)) &&& (1431655765 : Int32))) (2 : Int32)) &&& (858993459 : Int32))) + (ushr (((v0 - ((ushr v0 (1 : Int32)) &&& (1431655765 : Int32))) &&& (858993459 : Int32)) + ((ushr (v0 - ((ushr v0 (1 : Int32)) &&& (1431655765 : Int32))) (2 : Int32)) &&& (858993459 : Int32))) (4 : Int32))) &&& (252645135 : Int32)) + (ushr (((((v0 - ((ushr v0 (1 : Int32)) &&& (1431655765 : Int32))) &&& (858993459 : Int32)) + ((ushr (v0 - ((ushr v0 (1 : Int32)) &&& (1431655765 : Int32))) (2 : Int32)) &&& (858993459 : Int32))) + (ushr (((v0 - ((ushr v0 (1 : Int32)) &&& (1431655765 : Int32))) &&& (858993459 : Int32)) + ((ushr (v0 - ((ushr v0 (1 : Int32)) &&& (1431655765 : Int32))) (2 : Int32)) &&& (858993459 : Int32))) (4 : Int32))) &&& (252645135 : Int32)) (8 : Int32))) (16 : Int32))) &&& (63 : Int32))
set_option maxRecDepth 100000 in
theorem ok_Ji_bitCount {G : Gm} {l : Launch} {d : Nat} (v0 : Int32) (M : Mm) {z : Int32}  (h : Ji_bitCount v0 M = some z) : CK G l (d + 0) md_Ji_bitCount [.int v0] M SS (some (.int z)) M SS := by
  refine ck_of mk_Ji_bitCount (Nat.le_of_ble_eq_true rfl) ⟨Nat.le_refl _, Nat.le_refl _⟩ (fun X hX hT hS hr hl => ?_)
  subst hl
  unfold Ji_bitCount at h
  show WR G X (mQ G X (some (.int z)) M SS) 0 [.int v0] [] M SS
  refine r_iload_n hX dJ6_bitCount_0f7a4_0 rfl ?_
  refine r_iload_n hX dJ6_bitCount_0f7a4_1 rfl ?_
  refine r_iconst (v := (1 : Int32)) hX dJ6_bitCount_0f7a4_2 (by decide) ?_
  refine r_iushr hX dJ6_bitCount_0f7a4_3 ?_
  refine r_ldcw hX dJ6_bitCount_0f7a4_4 ki_10_265 ?_
  refine r_iand hX dJ6_bitCount_0f7a4_7 ?_
  refine r_isub hX dJ6_bitCount_0f7a4_8 ?_
  refine r_istore_n (L1 := [.int (v0 - ((ushr v0 (1 : Int32)) &&& (1431655765 : Int32)))]) hX dJ6_bitCount_0f7a4_9 (Nat.le_of_ble_eq_true rfl) rfl ?_
  refine r_iload_n hX dJ6_bitCount_0f7a4_10 rfl ?_
  refine r_ldcw hX dJ6_bitCount_0f7a4_11 ki_10_266 ?_
  refine r_iand hX dJ6_bitCount_0f7a4_14 ?_
  refine r_iload_n hX dJ6_bitCount_0f7a4_15 rfl ?_
  refine r_iconst (v := (2 : Int32)) hX dJ6_bitCount_0f7a4_16 (by decide) ?_
  refine r_iushr hX dJ6_bitCount_0f7a4_17 ?_
  refine r_ldcw hX dJ6_bitCount_0f7a4_18 ki_10_266 ?_
  refine r_iand hX dJ6_bitCount_0f7a4_21 ?_
  refine r_iadd hX dJ6_bitCount_0f7a4_22 ?_
  refine r_istore_n (L1 := [.int (((v0 - ((ushr v0 (1 : Int32)) &&& (1431655765 : Int32))) &&& (858993459 : Int32)) + ((ushr (v0 - ((ushr v0 (1 : Int32)) &&& (1431655765 : Int32))) (2 : Int32)) &&& (858993459 : Int32)))]) hX dJ6_bitCount_0f7a4_23 (Nat.le_of_ble_eq_true rfl) rfl ?_
  refine r_iload_n hX dJ6_bitCount_0f7a4_24 rfl ?_
  refine r_iload_n hX dJ6_bitCount_0f7a4_25 rfl ?_
  refine r_iconst (v := (4 : Int32)) hX dJ6_bitCount_0f7a4_26 (by decide) ?_
  refine r_iushr hX dJ6_bitCount_0f7a4_27 ?_
  refine r_iadd hX dJ6_bitCount_0f7a4_28 ?_
  refine r_ldcw hX dJ6_bitCount_0f7a4_29 ki_10_267 ?_
  refine r_iand hX dJ6_bitCount_0f7a4_32 ?_
  refine r_istore_n (L1 := [.int (((((v0 - ((ushr v0 (1 : Int32)) &&& (1431655765 : Int32))) &&& (858993459 : Int32)) + ((ushr (v0 - ((ushr v0 (1 : Int32)) &&& (1431655765 : Int32))) (2 : Int32)) &&& (858993459 : Int32))) + (ushr (((v0 - ((ushr v0 (1 : Int32)) &&& (1431655765 : Int32))) &&& (858993459 : Int32)) + ((ushr (v0 - ((ushr v0 (1 : Int32)) &&& (1431655765 : Int32))) (2 : Int32)) &&& (858993459 : Int32))) (4 : Int32))) &&& (252645135 : Int32))]) hX dJ6_bitCount_0f7a4_33 (Nat.le_of_ble_eq_true rfl) rfl ?_
  refine r_iload_n hX dJ6_bitCount_0f7a4_34 rfl ?_
  refine r_iload_n hX dJ6_bitCount_0f7a4_35 rfl ?_
  refine r_bipush (v := (8 : Int32)) hX dJ6_bitCount_0f7a4_36 (by decide) ?_
  refine r_iushr hX dJ6_bitCount_0f7a4_38 ?_
  refine r_iadd hX dJ6_bitCount_0f7a4_39 ?_
  refine r_istore_n (L1 := [.int ((((((v0 - ((ushr v0 (1 : Int32)) &&& (1431655765 : Int32))) &&& (858993459 : Int32)) + ((ushr (v0 - ((ushr v0 (1 : Int32)) &&& (1431655765 : Int32))) (2 : Int32)) &&& (858993459 : Int32))) + (ushr (((v0 - ((ushr v0 (1 : Int32)) &&& (1431655765 : Int32))) &&& (858993459 : Int32)) + ((ushr (v0 - ((ushr v0 (1 : Int32)) &&& (1431655765 : Int32))) (2 : Int32)) &&& (858993459 : Int32))) (4 : Int32))) &&& (252645135 : Int32)) + (ushr (((((v0 - ((ushr v0 (1 : Int32)) &&& (1431655765 : Int32))) &&& (858993459 : Int32)) + ((ushr (v0 - ((ushr v0 (1 : Int32)) &&& (1431655765 : Int32))) (2 : Int32)) &&& (858993459 : Int32))) + (ushr (((v0 - ((ushr v0 (1 : Int32)) &&& (1431655765 : Int32))) &&& (858993459 : Int32)) + ((ushr (v0 - ((ushr v0 (1 : Int32)) &&& (1431655765 : Int32))) (2 : Int32)) &&& (858993459 : Int32))) (4 : Int32))) &&& (252645135 : Int32)) (8 : Int32)))]) hX dJ6_bitCount_0f7a4_40 (Nat.le_of_ble_eq_true rfl) rfl ?_
  refine r_iload_n hX dJ6_bitCount_0f7a4_41 rfl ?_
  refine r_iload_n hX dJ6_bitCount_0f7a4_42 rfl ?_
  refine r_bipush (v := (16 : Int32)) hX dJ6_bitCount_0f7a4_43 (by decide) ?_
  refine r_iushr hX dJ6_bitCount_0f7a4_45 ?_
  refine r_iadd hX dJ6_bitCount_0f7a4_46 ?_
  refine r_istore_n (L1 := [.int (((((((v0 - ((ushr v0 (1 : Int32)) &&& (1431655765 : Int32))) &&& (858993459 : Int32)) + ((ushr (v0 - ((ushr v0 (1 : Int32)) &&& (1431655765 : Int32))) (2 : Int32)) &&& (858993459 : Int32))) + (ushr (((v0 - ((ushr v0 (1 : Int32)) &&& (1431655765 : Int32))) &&& (858993459 : Int32)) + ((ushr (v0 - ((ushr v0 (1 : Int32)) &&& (1431655765 : Int32))) (2 : Int32)) &&& (858993459 : Int32))) (4 : Int32))) &&& (252645135 : Int32)) + (ushr (((((v0 - ((ushr v0 (1 : Int32)) &&& (1431655765 : Int32))) &&& (858993459 : Int32)) + ((ushr (v0 - ((ushr v0 (1 : Int32)) &&& (1431655765 : Int32))) (2 : Int32)) &&& (858993459 : Int32))) + (ushr (((v0 - ((ushr v0 (1 : Int32)) &&& (1431655765 : Int32))) &&& (858993459 : Int32)) + ((ushr (v0 - ((ushr v0 (1 : Int32)) &&& (1431655765 : Int32))) (2 : Int32)) &&& (858993459 : Int32))) (4 : Int32))) &&& (252645135 : Int32)) (8 : Int32))) + (ushr ((((((v0 - ((ushr v0 (1 : Int32)) &&& (1431655765 : Int32))) &&& (858993459 : Int32)) + ((ushr (v0 - ((ushr v0 (1 : Int32)) &&& (1431655765 : Int32))) (2 : Int32)) &&& (858993459 : Int32))) + (ushr (((v0 - ((ushr v0 (1 : Int32)) &&& (1431655765 : Int32))) &&& (858993459 : Int32)) + ((ushr (v0 - ((ushr v0 (1 : Int32)) &&& (1431655765 : Int32))) (2 : Int32)) &&& (858993459 : Int32))) (4 : Int32))) &&& (252645135 : Int32)) + (ushr (((((v0 - ((ushr v0 (1 : Int32)) &&& (1431655765 : Int32))) &&& (858993459 : Int32)) + ((ushr (v0 - ((ushr v0 (1 : Int32)) &&& (1431655765 : Int32))) (2 : Int32)) &&& (858993459 : Int32))) + (ushr (((v0 - ((ushr v0 (1 : Int32)) &&& (1431655765 : Int32))) &&& (858993459 : Int32)) + ((ushr (v0 - ((ushr v0 (1 : Int32)) &&& (1431655765 : Int32))) (2 : Int32)) &&& (858993459 : Int32))) (4 : Int32))) &&& (252645135 : Int32)) (8 : Int32))) (16 : Int32)))]) hX dJ6_bitCount_0f7a4_47 (Nat.le_of_ble_eq_true rfl) rfl ?_
  refine r_iload_n hX dJ6_bitCount_0f7a4_48 rfl ?_
  refine r_bipush (v := (63 : Int32)) hX dJ6_bitCount_0f7a4_49 (by decide) ?_
  refine r_iand hX dJ6_bitCount_0f7a4_51 ?_
  obtain rfl := Option.some.inj h
  exact r_iret hX hT dJ6_bitCount_0f7a4_52 rfl
def Fg_litDemandIs (n : Nat) (v1 : Int32) (v2 : Int32) (M : Mm) : Option (Int32) :=
  grd (inb v1 40) (
  if v2 = (4 : Int32) then
    grd (inb v1 40) (
    some (M.1 31 (tn v1)))
  else
    if v2 = (5 : Int32) then
      grd (inb v1 40) (
      some (M.1 32 (tn v1)))
    else
      if v2 = (6 : Int32) then
        bnd (Ji_bitCount (M.1 30 (tn v1)) M) (fun z7 =>
        some z7)
      else
        if v2 = (7 : Int32) then
          some (M.1 30 (tn v1))
        else
          if v2 = (8 : Int32) then
            bnd (Nt_lengthOf n 19 (M.1 30 (tn v1)) M) (fun z11 =>
            some z11)
          else
            if v2 = (9 : Int32) then
              bnd (Nt_lengthOf n 19 (M.1 30 (tn v1)) M) (fun z14 =>
              bnd (Nt_formatOf n 19 z14 M) (fun z16 =>
              some z16))
            else
              bnd (St_slideRoom n 18 v1 M) (fun z18 =>
              some z18))
set_option maxRecDepth 100000 in
theorem ok_Fg_litDemandIs {G : Gm} {l : Launch} {d : Nat} (n : Nat) (v1 : Int32) (v2 : Int32) (M : Mm) {z : Int32}  (h : Fg_litDemandIs n v1 v2 M = some z) : CK G l (d + 3) md_Fg_litDemandIs [.ref 0, .int v1, .int v2] M SS (some (.int z)) M SS := by
  refine ck_of mk_Fg_litDemandIs (Nat.le_of_ble_eq_true rfl) ⟨Nat.le_refl _, Nat.le_refl _⟩ (fun X hX hT hS hr hl => ?_)
  subst hl
  unfold Fg_litDemandIs at h
  show WR G X (mQ G X (some (.int z)) M SS) 0 [.ref 0, .int v1, .int v2, vU] [] M SS
  refine r_aload_n hX dX8_litDemandIs_0 rfl ?_
  refine r_getf (v := .ref 18) hX dX8_litDemandIs_1 fl_8_35 rfl (by decide) (by decide) rfl ?_
  refine r_getf (v := .ref 30) hX dX8_litDemandIs_4 fl_8_189 rfl (by decide) (by decide) rfl ?_
  refine r_iload_n hX dX8_litDemandIs_7 rfl ?_
  obtain ⟨k1, h⟩ := grd_s h
  refine r_iald hX dX8_litDemandIs_8 rfl (by decide) (inb_at rfl k1) ?_
  refine r_istore_n (L1 := [.ref 0, .int v1, .int v2, .int (M.1 30 (tn v1))]) hX dX8_litDemandIs_9 (Nat.le_of_ble_eq_true rfl) rfl ?_
  refine r_iload_n hX dX8_litDemandIs_10 rfl ?_
  by_cases g2 : v2 = (4 : Int32)
  · have h := (if_pos g2).symm.trans h
    refine r_tabEq (tgt := 48) hX dX8_litDemandIs_11 g2 ⟨by decide, by decide, rfl⟩ (by decide) ?_
    refine r_aload_n hX dX8_litDemandIs_48 rfl ?_
    refine r_getf (v := .ref 18) hX dX8_litDemandIs_49 fl_8_35 rfl (by decide) (by decide) rfl ?_
    refine r_getf (v := .ref 31) hX dX8_litDemandIs_52 fl_8_191 rfl (by decide) (by decide) rfl ?_
    refine r_iload_n hX dX8_litDemandIs_55 rfl ?_
    obtain ⟨k3, h⟩ := grd_s h
    refine r_iald hX dX8_litDemandIs_56 rfl (by decide) (inb_at rfl k3) ?_
    obtain rfl := Option.some.inj h
    exact r_iret hX hT dX8_litDemandIs_57 rfl
  · have h := (if_neg g2).symm.trans h
    by_cases g4 : v2 = (5 : Int32)
    · have h := (if_pos g4).symm.trans h
      refine r_tabEq (tgt := 58) hX dX8_litDemandIs_11 g4 ⟨by decide, by decide, rfl⟩ (by decide) ?_
      refine r_aload_n hX dX8_litDemandIs_58 rfl ?_
      refine r_getf (v := .ref 18) hX dX8_litDemandIs_59 fl_8_35 rfl (by decide) (by decide) rfl ?_
      refine r_getf (v := .ref 32) hX dX8_litDemandIs_62 fl_8_193 rfl (by decide) (by decide) rfl ?_
      refine r_iload_n hX dX8_litDemandIs_65 rfl ?_
      obtain ⟨k5, h⟩ := grd_s h
      refine r_iald hX dX8_litDemandIs_66 rfl (by decide) (inb_at rfl k5) ?_
      obtain rfl := Option.some.inj h
      exact r_iret hX hT dX8_litDemandIs_67 rfl
    · have h := (if_neg g4).symm.trans h
      by_cases g6 : v2 = (6 : Int32)
      · have h := (if_pos g6).symm.trans h
        refine r_tabEq (tgt := 68) hX dX8_litDemandIs_11 g6 ⟨by decide, by decide, rfl⟩ (by decide) ?_
        refine r_iload_n hX dX8_litDemandIs_68 rfl ?_
        obtain ⟨z7, p8, h⟩ := bnd_s h
        refine r_callS (As := [.int (M.1 30 (tn v1))]) hX dX8_litDemandIs_69 mk_Ji_bitCount ms_Ji_bitCount ml_8_333 rfl rfl rfl (Nat.le_of_ble_eq_true rfl) hr (ok_Ji_bitCount (d := d + 2) (M.1 30 (tn v1)) M p8) ?_
        obtain rfl := Option.some.inj h
        exact r_iret hX hT dX8_litDemandIs_72 rfl
      · have h := (if_neg g6).symm.trans h
        by_cases g9 : v2 = (7 : Int32)
        · have h := (if_pos g9).symm.trans h
          refine r_tabEq (tgt := 73) hX dX8_litDemandIs_11 g9 ⟨by decide, by decide, rfl⟩ (by decide) ?_
          refine r_iload_n hX dX8_litDemandIs_73 rfl ?_
          obtain rfl := Option.some.inj h
          exact r_iret hX hT dX8_litDemandIs_74 rfl
        · have h := (if_neg g9).symm.trans h
          by_cases g10 : v2 = (8 : Int32)
          · have h := (if_pos g10).symm.trans h
            refine r_tabEq (tgt := 75) hX dX8_litDemandIs_11 g10 ⟨by decide, by decide, rfl⟩ (by decide) ?_
            refine r_aload_n hX dX8_litDemandIs_75 rfl ?_
            refine r_getf (v := .ref 18) hX dX8_litDemandIs_76 fl_8_35 rfl (by decide) (by decide) rfl ?_
            refine r_getf (v := .ref 19) hX dX8_litDemandIs_79 fl_8_204 rfl (by decide) (by decide) rfl ?_
            refine r_iload_n hX dX8_litDemandIs_82 rfl ?_
            obtain ⟨z11, p12, h⟩ := bnd_s h
            refine r_callV (As := [.int (M.1 30 (tn v1))]) hX dX8_litDemandIs_83 mk_Nt_lengthOf mi_Nt_lengthOf ml_8_337 rfl rfl rfl rfl (by decide) (by decide) (Nat.le_of_ble_eq_true rfl) hr (ok_Nt_lengthOf (d := d + 2) n 19 (M.1 30 (tn v1)) M (nt_st st18) p12) ?_
            obtain rfl := Option.some.inj h
            exact r_iret hX hT dX8_litDemandIs_86 rfl
          · have h := (if_neg g10).symm.trans h
            by_cases g13 : v2 = (9 : Int32)
            · have h := (if_pos g13).symm.trans h
              refine r_tabEq (tgt := 87) hX dX8_litDemandIs_11 g13 ⟨by decide, by decide, rfl⟩ (by decide) ?_
              refine r_aload_n hX dX8_litDemandIs_87 rfl ?_
              refine r_getf (v := .ref 18) hX dX8_litDemandIs_88 fl_8_35 rfl (by decide) (by decide) rfl ?_
              refine r_getf (v := .ref 19) hX dX8_litDemandIs_91 fl_8_204 rfl (by decide) (by decide) rfl ?_
              refine r_aload_n hX dX8_litDemandIs_94 rfl ?_
              refine r_getf (v := .ref 18) hX dX8_litDemandIs_95 fl_8_35 rfl (by decide) (by decide) rfl ?_
              refine r_getf (v := .ref 19) hX dX8_litDemandIs_98 fl_8_204 rfl (by decide) (by decide) rfl ?_
              refine r_iload_n hX dX8_litDemandIs_101 rfl ?_
              obtain ⟨z14, p15, h⟩ := bnd_s h
              refine r_callV (As := [.int (M.1 30 (tn v1))]) hX dX8_litDemandIs_102 mk_Nt_lengthOf mi_Nt_lengthOf ml_8_337 rfl rfl rfl rfl (by decide) (by decide) (Nat.le_of_ble_eq_true rfl) hr (ok_Nt_lengthOf (d := d + 2) n 19 (M.1 30 (tn v1)) M (nt_st st18) p15) ?_
              obtain ⟨z16, p17, h⟩ := bnd_s h
              refine r_callV (As := [.int z14]) hX dX8_litDemandIs_105 mk_Nt_formatOf mi_Nt_formatOf ml_8_340 rfl rfl rfl rfl (by decide) (by decide) (Nat.le_of_ble_eq_true rfl) hr (ok_Nt_formatOf (d := d + 2) n 19 z14 M (nt_st st18) p17) ?_
              obtain rfl := Option.some.inj h
              exact r_iret hX hT dX8_litDemandIs_108 rfl
            · have h := (if_neg g13).symm.trans h
              refine r_tabOut (tgt := 109) hX dX8_litDemandIs_11 (by have q0 := ne_ti g2 (k := 4) (by decide); have q1 := ne_ti g4 (k := 5) (by decide); have q2 := ne_ti g6 (k := 6) (by decide); have q3 := ne_ti g9 (k := 7) (by decide); have q4 := ne_ti g10 (k := 8) (by decide); have q5 := ne_ti g13 (k := 9) (by decide); omega) (by decide) ?_
              refine r_aload_n hX dX8_litDemandIs_109 rfl ?_
              refine r_getf (v := .ref 18) hX dX8_litDemandIs_110 fl_8_35 rfl (by decide) (by decide) rfl ?_
              refine r_iload_n hX dX8_litDemandIs_113 rfl ?_
              obtain ⟨z18, p19, h⟩ := bnd_s h
              refine r_callV (As := [.int v1]) hX dX8_litDemandIs_114 mk_St_slideRoom mi_St_slideRoom ml_8_186 rfl rfl rfl rfl (by decide) (by decide) (Nat.le_of_ble_eq_true rfl) hr (ok_St_slideRoom (d := d + 0) n 18 v1 M st18 p19) ?_
              obtain rfl := Option.some.inj h
              exact r_iret hX hT dX8_litDemandIs_117 rfl
def Fg_demandIs (n : Nat) (v1 : Int32) (v2 : Int32) (M : Mm) : Option (Int32) :=
  bnd (St_has 18 v1 M) (fun z1 =>
  if z1 = true then
    if v2 < (0 : Int32) then
      some (-1 : Int32)
    else
      if v2 ≤ (11 : Int32) then
        if v2 = (0 : Int32) then
          grd (inb v1 40) (
          some (M.1 25 (tn v1)))
        else
          if v2 = (1 : Int32) then
            grd (inb v1 40) (
            some (M.1 26 (tn v1)))
          else
            if v2 = (2 : Int32) then
              grd (inb v1 40) (
              some (M.1 27 (tn v1)))
            else
              if v2 = (3 : Int32) then
                grd (inb v1 40) (
                some (M.1 28 (tn v1)))
              else
                if v2 = (4 : Int32) then
                  bnd (St_isLit 18 v1 M) (fun z15 =>
                  if z15 = true then
                    bnd (Fg_litDemandIs n v1 v2 M) (fun z18 =>
                    some z18)
                  else
                    some (-2 : Int32))
                else
                  if v2 = (5 : Int32) then
                    bnd (St_isLit 18 v1 M) (fun z21 =>
                    if z21 = true then
                      bnd (Fg_litDemandIs n v1 v2 M) (fun z24 =>
                      some z24)
                    else
                      some (-2 : Int32))
                  else
                    if v2 = (6 : Int32) then
                      bnd (St_isLit 18 v1 M) (fun z27 =>
                      if z27 = true then
                        bnd (Fg_litDemandIs n v1 v2 M) (fun z30 =>
                        some z30)
                      else
                        some (-2 : Int32))
                    else
                      if v2 = (7 : Int32) then
                        bnd (St_isLit 18 v1 M) (fun z33 =>
                        if z33 = true then
                          bnd (Fg_litDemandIs n v1 v2 M) (fun z36 =>
                          some z36)
                        else
                          some (-2 : Int32))
                      else
                        if v2 = (8 : Int32) then
                          bnd (St_isLit 18 v1 M) (fun z39 =>
                          if z39 = true then
                            bnd (Fg_litDemandIs n v1 v2 M) (fun z42 =>
                            some z42)
                          else
                            some (-2 : Int32))
                        else
                          if v2 = (9 : Int32) then
                            bnd (St_isLit 18 v1 M) (fun z45 =>
                            if z45 = true then
                              bnd (Fg_litDemandIs n v1 v2 M) (fun z48 =>
                              some z48)
                            else
                              some (-2 : Int32))
                          else
                            if v2 = (10 : Int32) then
                              bnd (St_isLit 18 v1 M) (fun z51 =>
                              if z51 = true then
                                bnd (Fg_litDemandIs n v1 v2 M) (fun z54 =>
                                some z54)
                              else
                                some (-2 : Int32))
                            else
                              if v2 = (11 : Int32) then
                                bnd (St_isLitOrDark 18 v1 M) (fun z57 =>
                                if z57 = true then
                                  grd (inb v1 40) (
                                  if (M.1 29 (tn v1)) < (0 : Int32) then
                                    some (-2 : Int32)
                                  else
                                    grd (inb v1 40) (
                                    some (M.1 29 (tn v1))))
                                else
                                  some (-2 : Int32))
                              else
                                bnd (St_isLit 18 v1 M) (fun z63 =>
                                if z63 = true then
                                  bnd (Fg_litDemandIs n v1 v2 M) (fun z66 =>
                                  some z66)
                                else
                                  some (-2 : Int32))
      else
        some (-1 : Int32)
  else
    some (-1 : Int32))
set_option maxRecDepth 100000 in
theorem ok_Fg_demandIs {G : Gm} {l : Launch} {d : Nat} (n : Nat) (v1 : Int32) (v2 : Int32) (M : Mm) {z : Int32}  (h : Fg_demandIs n v1 v2 M = some z) : CK G l (d + 4) md_Fg_demandIs [.ref 0, .int v1, .int v2] M SS (some (.int z)) M SS := by
  refine ck_of mk_Fg_demandIs (Nat.le_of_ble_eq_true rfl) ⟨Nat.le_refl _, Nat.le_refl _⟩ (fun X hX hT hS hr hl => ?_)
  subst hl
  unfold Fg_demandIs at h
  show WR G X (mQ G X (some (.int z)) M SS) 0 [.ref 0, .int v1, .int v2] [] M SS
  refine r_aload_n hX dX8_demandIs_0 rfl ?_
  refine r_getf (v := .ref 18) hX dX8_demandIs_1 fl_8_35 rfl (by decide) (by decide) rfl ?_
  refine r_iload_n hX dX8_demandIs_4 rfl ?_
  obtain ⟨z1, p2, h⟩ := bnd_s h
  refine r_callV (As := [.int v1]) hX dX8_demandIs_5 mk_St_has mi_St_has ml_8_169 rfl rfl rfl rfl (by decide) (by decide) (Nat.le_of_ble_eq_true rfl) hr (ok_St_has (d := d + 3) 18 v1 M st18 p2) ?_
  refine r_ifb_eq (tgt := 21) hX dX8_demandIs_8 (by decide) (fun g3 => ?_) (fun g3 => ?_)
  · have h := (if_neg (show ¬ z1 = true from fun e => by rw [g3] at e; cases e)).symm.trans h
    refine r_iconst (v := (-1 : Int32)) hX dX8_demandIs_21 (by decide) ?_
    obtain rfl := Option.some.inj h
    exact r_iret hX hT dX8_demandIs_22 rfl
  · have h := (if_pos g3).symm.trans h
    refine r_iload_n hX dX8_demandIs_11 rfl ?_
    refine r_if_lt (tgt := 21) hX dX8_demandIs_12 (by decide) (fun g4 => ?_) (fun g4 => ?_)
    · have h := (if_pos g4).symm.trans h
      refine r_iconst (v := (-1 : Int32)) hX dX8_demandIs_21 (by decide) ?_
      obtain rfl := Option.some.inj h
      exact r_iret hX hT dX8_demandIs_22 rfl
    · have h := (if_neg g4).symm.trans h
      refine r_iload_n hX dX8_demandIs_15 rfl ?_
      refine r_bipush (v := (11 : Int32)) hX dX8_demandIs_16 (by decide) ?_
      refine r_icmp_le (tgt := 23) hX dX8_demandIs_18 (by decide) (fun g5 => ?_) (fun g5 => ?_)
      · have h := (if_pos g5).symm.trans h
        refine r_iload_n hX dX8_demandIs_23 rfl ?_
        by_cases g6 : v2 = (0 : Int32)
        · have h := (if_pos g6).symm.trans h
          refine r_tabEq (tgt := 88) hX dX8_demandIs_24 g6 ⟨by decide, by decide, rfl⟩ (by decide) ?_
          refine r_aload_n hX dX8_demandIs_88 rfl ?_
          refine r_getf (v := .ref 18) hX dX8_demandIs_89 fl_8_35 rfl (by decide) (by decide) rfl ?_
          refine r_getf (v := .ref 25) hX dX8_demandIs_92 fl_8_232 rfl (by decide) (by decide) rfl ?_
          refine r_iload_n hX dX8_demandIs_95 rfl ?_
          obtain ⟨k7, h⟩ := grd_s h
          refine r_iald hX dX8_demandIs_96 rfl (by decide) (inb_at rfl k7) ?_
          obtain rfl := Option.some.inj h
          exact r_iret hX hT dX8_demandIs_97 rfl
        · have h := (if_neg g6).symm.trans h
          by_cases g8 : v2 = (1 : Int32)
          · have h := (if_pos g8).symm.trans h
            refine r_tabEq (tgt := 98) hX dX8_demandIs_24 g8 ⟨by decide, by decide, rfl⟩ (by decide) ?_
            refine r_aload_n hX dX8_demandIs_98 rfl ?_
            refine r_getf (v := .ref 18) hX dX8_demandIs_99 fl_8_35 rfl (by decide) (by decide) rfl ?_
            refine r_getf (v := .ref 26) hX dX8_demandIs_102 fl_8_235 rfl (by decide) (by decide) rfl ?_
            refine r_iload_n hX dX8_demandIs_105 rfl ?_
            obtain ⟨k9, h⟩ := grd_s h
            refine r_iald hX dX8_demandIs_106 rfl (by decide) (inb_at rfl k9) ?_
            obtain rfl := Option.some.inj h
            exact r_iret hX hT dX8_demandIs_107 rfl
          · have h := (if_neg g8).symm.trans h
            by_cases g10 : v2 = (2 : Int32)
            · have h := (if_pos g10).symm.trans h
              refine r_tabEq (tgt := 108) hX dX8_demandIs_24 g10 ⟨by decide, by decide, rfl⟩ (by decide) ?_
              refine r_aload_n hX dX8_demandIs_108 rfl ?_
              refine r_getf (v := .ref 18) hX dX8_demandIs_109 fl_8_35 rfl (by decide) (by decide) rfl ?_
              refine r_getf (v := .ref 27) hX dX8_demandIs_112 fl_8_238 rfl (by decide) (by decide) rfl ?_
              refine r_iload_n hX dX8_demandIs_115 rfl ?_
              obtain ⟨k11, h⟩ := grd_s h
              refine r_iald hX dX8_demandIs_116 rfl (by decide) (inb_at rfl k11) ?_
              obtain rfl := Option.some.inj h
              exact r_iret hX hT dX8_demandIs_117 rfl
            · have h := (if_neg g10).symm.trans h
              by_cases g12 : v2 = (3 : Int32)
              · have h := (if_pos g12).symm.trans h
                refine r_tabEq (tgt := 118) hX dX8_demandIs_24 g12 ⟨by decide, by decide, rfl⟩ (by decide) ?_
                refine r_aload_n hX dX8_demandIs_118 rfl ?_
                refine r_getf (v := .ref 18) hX dX8_demandIs_119 fl_8_35 rfl (by decide) (by decide) rfl ?_
                refine r_getf (v := .ref 28) hX dX8_demandIs_122 fl_8_172 rfl (by decide) (by decide) rfl ?_
                refine r_iload_n hX dX8_demandIs_125 rfl ?_
                obtain ⟨k13, h⟩ := grd_s h
                refine r_iald hX dX8_demandIs_126 rfl (by decide) (inb_at rfl k13) ?_
                obtain rfl := Option.some.inj h
                exact r_iret hX hT dX8_demandIs_127 rfl
              · have h := (if_neg g12).symm.trans h
                by_cases g14 : v2 = (4 : Int32)
                · have h := (if_pos g14).symm.trans h
                  refine r_tabEq (tgt := 166) hX dX8_demandIs_24 g14 ⟨by decide, by decide, rfl⟩ (by decide) ?_
                  refine r_aload_n hX dX8_demandIs_166 rfl ?_
                  refine r_getf (v := .ref 18) hX dX8_demandIs_167 fl_8_35 rfl (by decide) (by decide) rfl ?_
                  refine r_iload_n hX dX8_demandIs_170 rfl ?_
                  obtain ⟨z15, p16, h⟩ := bnd_s h
                  refine r_callV (As := [.int v1]) hX dX8_demandIs_171 mk_St_isLit mi_St_isLit ml_8_180 rfl rfl rfl rfl (by decide) (by decide) (Nat.le_of_ble_eq_true rfl) hr (ok_St_isLit (d := d + 2) 18 v1 M st18 p16) ?_
                  refine r_ifb_eq (tgt := 186) hX dX8_demandIs_174 (by decide) (fun g17 => ?_) (fun g17 => ?_)
                  · have h := (if_neg (show ¬ z15 = true from fun e => by rw [g17] at e; cases e)).symm.trans h
                    refine r_bipush (v := (-2 : Int32)) hX dX8_demandIs_186 (by decide) ?_
                    obtain rfl := Option.some.inj h
                    exact r_iret hX hT dX8_demandIs_188 rfl
                  · have h := (if_pos g17).symm.trans h
                    refine r_aload_n hX dX8_demandIs_177 rfl ?_
                    refine r_iload_n hX dX8_demandIs_178 rfl ?_
                    refine r_iload_n hX dX8_demandIs_179 rfl ?_
                    obtain ⟨z18, p19, h⟩ := bnd_s h
                    refine r_callV (As := [.int v1, .int v2]) hX dX8_demandIs_180 mk_Fg_litDemandIs mi_Fg_litDemandIs ml_8_330 rfl rfl rfl rfl (by decide) (by decide) (Nat.le_of_ble_eq_true rfl) hr (ok_Fg_litDemandIs (d := d + 0) n v1 v2 M p19) ?_
                    refine r_goto (tgt := 188) hX dX8_demandIs_183 (by decide) ?_
                    obtain rfl := Option.some.inj h
                    exact r_iret hX hT dX8_demandIs_188 rfl
                · have h := (if_neg g14).symm.trans h
                  by_cases g20 : v2 = (5 : Int32)
                  · have h := (if_pos g20).symm.trans h
                    refine r_tabEq (tgt := 166) hX dX8_demandIs_24 g20 ⟨by decide, by decide, rfl⟩ (by decide) ?_
                    refine r_aload_n hX dX8_demandIs_166 rfl ?_
                    refine r_getf (v := .ref 18) hX dX8_demandIs_167 fl_8_35 rfl (by decide) (by decide) rfl ?_
                    refine r_iload_n hX dX8_demandIs_170 rfl ?_
                    obtain ⟨z21, p22, h⟩ := bnd_s h
                    refine r_callV (As := [.int v1]) hX dX8_demandIs_171 mk_St_isLit mi_St_isLit ml_8_180 rfl rfl rfl rfl (by decide) (by decide) (Nat.le_of_ble_eq_true rfl) hr (ok_St_isLit (d := d + 2) 18 v1 M st18 p22) ?_
                    refine r_ifb_eq (tgt := 186) hX dX8_demandIs_174 (by decide) (fun g23 => ?_) (fun g23 => ?_)
                    · have h := (if_neg (show ¬ z21 = true from fun e => by rw [g23] at e; cases e)).symm.trans h
                      refine r_bipush (v := (-2 : Int32)) hX dX8_demandIs_186 (by decide) ?_
                      obtain rfl := Option.some.inj h
                      exact r_iret hX hT dX8_demandIs_188 rfl
                    · have h := (if_pos g23).symm.trans h
                      refine r_aload_n hX dX8_demandIs_177 rfl ?_
                      refine r_iload_n hX dX8_demandIs_178 rfl ?_
                      refine r_iload_n hX dX8_demandIs_179 rfl ?_
                      obtain ⟨z24, p25, h⟩ := bnd_s h
                      refine r_callV (As := [.int v1, .int v2]) hX dX8_demandIs_180 mk_Fg_litDemandIs mi_Fg_litDemandIs ml_8_330 rfl rfl rfl rfl (by decide) (by decide) (Nat.le_of_ble_eq_true rfl) hr (ok_Fg_litDemandIs (d := d + 0) n v1 v2 M p25) ?_
                      refine r_goto (tgt := 188) hX dX8_demandIs_183 (by decide) ?_
                      obtain rfl := Option.some.inj h
                      exact r_iret hX hT dX8_demandIs_188 rfl
                  · have h := (if_neg g20).symm.trans h
                    by_cases g26 : v2 = (6 : Int32)
                    · have h := (if_pos g26).symm.trans h
                      refine r_tabEq (tgt := 166) hX dX8_demandIs_24 g26 ⟨by decide, by decide, rfl⟩ (by decide) ?_
                      refine r_aload_n hX dX8_demandIs_166 rfl ?_
                      refine r_getf (v := .ref 18) hX dX8_demandIs_167 fl_8_35 rfl (by decide) (by decide) rfl ?_
                      refine r_iload_n hX dX8_demandIs_170 rfl ?_
                      obtain ⟨z27, p28, h⟩ := bnd_s h
                      refine r_callV (As := [.int v1]) hX dX8_demandIs_171 mk_St_isLit mi_St_isLit ml_8_180 rfl rfl rfl rfl (by decide) (by decide) (Nat.le_of_ble_eq_true rfl) hr (ok_St_isLit (d := d + 2) 18 v1 M st18 p28) ?_
                      refine r_ifb_eq (tgt := 186) hX dX8_demandIs_174 (by decide) (fun g29 => ?_) (fun g29 => ?_)
                      · have h := (if_neg (show ¬ z27 = true from fun e => by rw [g29] at e; cases e)).symm.trans h
                        refine r_bipush (v := (-2 : Int32)) hX dX8_demandIs_186 (by decide) ?_
                        obtain rfl := Option.some.inj h
                        exact r_iret hX hT dX8_demandIs_188 rfl
                      · have h := (if_pos g29).symm.trans h
                        refine r_aload_n hX dX8_demandIs_177 rfl ?_
                        refine r_iload_n hX dX8_demandIs_178 rfl ?_
                        refine r_iload_n hX dX8_demandIs_179 rfl ?_
                        obtain ⟨z30, p31, h⟩ := bnd_s h
                        refine r_callV (As := [.int v1, .int v2]) hX dX8_demandIs_180 mk_Fg_litDemandIs mi_Fg_litDemandIs ml_8_330 rfl rfl rfl rfl (by decide) (by decide) (Nat.le_of_ble_eq_true rfl) hr (ok_Fg_litDemandIs (d := d + 0) n v1 v2 M p31) ?_
                        refine r_goto (tgt := 188) hX dX8_demandIs_183 (by decide) ?_
                        obtain rfl := Option.some.inj h
                        exact r_iret hX hT dX8_demandIs_188 rfl
                    · have h := (if_neg g26).symm.trans h
                      by_cases g32 : v2 = (7 : Int32)
                      · have h := (if_pos g32).symm.trans h
                        refine r_tabEq (tgt := 166) hX dX8_demandIs_24 g32 ⟨by decide, by decide, rfl⟩ (by decide) ?_
                        refine r_aload_n hX dX8_demandIs_166 rfl ?_
                        refine r_getf (v := .ref 18) hX dX8_demandIs_167 fl_8_35 rfl (by decide) (by decide) rfl ?_
                        refine r_iload_n hX dX8_demandIs_170 rfl ?_
                        obtain ⟨z33, p34, h⟩ := bnd_s h
                        refine r_callV (As := [.int v1]) hX dX8_demandIs_171 mk_St_isLit mi_St_isLit ml_8_180 rfl rfl rfl rfl (by decide) (by decide) (Nat.le_of_ble_eq_true rfl) hr (ok_St_isLit (d := d + 2) 18 v1 M st18 p34) ?_
                        refine r_ifb_eq (tgt := 186) hX dX8_demandIs_174 (by decide) (fun g35 => ?_) (fun g35 => ?_)
                        · have h := (if_neg (show ¬ z33 = true from fun e => by rw [g35] at e; cases e)).symm.trans h
                          refine r_bipush (v := (-2 : Int32)) hX dX8_demandIs_186 (by decide) ?_
                          obtain rfl := Option.some.inj h
                          exact r_iret hX hT dX8_demandIs_188 rfl
                        · have h := (if_pos g35).symm.trans h
                          refine r_aload_n hX dX8_demandIs_177 rfl ?_
                          refine r_iload_n hX dX8_demandIs_178 rfl ?_
                          refine r_iload_n hX dX8_demandIs_179 rfl ?_
                          obtain ⟨z36, p37, h⟩ := bnd_s h
                          refine r_callV (As := [.int v1, .int v2]) hX dX8_demandIs_180 mk_Fg_litDemandIs mi_Fg_litDemandIs ml_8_330 rfl rfl rfl rfl (by decide) (by decide) (Nat.le_of_ble_eq_true rfl) hr (ok_Fg_litDemandIs (d := d + 0) n v1 v2 M p37) ?_
                          refine r_goto (tgt := 188) hX dX8_demandIs_183 (by decide) ?_
                          obtain rfl := Option.some.inj h
                          exact r_iret hX hT dX8_demandIs_188 rfl
                      · have h := (if_neg g32).symm.trans h
                        by_cases g38 : v2 = (8 : Int32)
                        · have h := (if_pos g38).symm.trans h
                          refine r_tabEq (tgt := 166) hX dX8_demandIs_24 g38 ⟨by decide, by decide, rfl⟩ (by decide) ?_
                          refine r_aload_n hX dX8_demandIs_166 rfl ?_
                          refine r_getf (v := .ref 18) hX dX8_demandIs_167 fl_8_35 rfl (by decide) (by decide) rfl ?_
                          refine r_iload_n hX dX8_demandIs_170 rfl ?_
                          obtain ⟨z39, p40, h⟩ := bnd_s h
                          refine r_callV (As := [.int v1]) hX dX8_demandIs_171 mk_St_isLit mi_St_isLit ml_8_180 rfl rfl rfl rfl (by decide) (by decide) (Nat.le_of_ble_eq_true rfl) hr (ok_St_isLit (d := d + 2) 18 v1 M st18 p40) ?_
                          refine r_ifb_eq (tgt := 186) hX dX8_demandIs_174 (by decide) (fun g41 => ?_) (fun g41 => ?_)
                          · have h := (if_neg (show ¬ z39 = true from fun e => by rw [g41] at e; cases e)).symm.trans h
                            refine r_bipush (v := (-2 : Int32)) hX dX8_demandIs_186 (by decide) ?_
                            obtain rfl := Option.some.inj h
                            exact r_iret hX hT dX8_demandIs_188 rfl
                          · have h := (if_pos g41).symm.trans h
                            refine r_aload_n hX dX8_demandIs_177 rfl ?_
                            refine r_iload_n hX dX8_demandIs_178 rfl ?_
                            refine r_iload_n hX dX8_demandIs_179 rfl ?_
                            obtain ⟨z42, p43, h⟩ := bnd_s h
                            refine r_callV (As := [.int v1, .int v2]) hX dX8_demandIs_180 mk_Fg_litDemandIs mi_Fg_litDemandIs ml_8_330 rfl rfl rfl rfl (by decide) (by decide) (Nat.le_of_ble_eq_true rfl) hr (ok_Fg_litDemandIs (d := d + 0) n v1 v2 M p43) ?_
                            refine r_goto (tgt := 188) hX dX8_demandIs_183 (by decide) ?_
                            obtain rfl := Option.some.inj h
                            exact r_iret hX hT dX8_demandIs_188 rfl
                        · have h := (if_neg g38).symm.trans h
                          by_cases g44 : v2 = (9 : Int32)
                          · have h := (if_pos g44).symm.trans h
                            refine r_tabEq (tgt := 166) hX dX8_demandIs_24 g44 ⟨by decide, by decide, rfl⟩ (by decide) ?_
                            refine r_aload_n hX dX8_demandIs_166 rfl ?_
                            refine r_getf (v := .ref 18) hX dX8_demandIs_167 fl_8_35 rfl (by decide) (by decide) rfl ?_
                            refine r_iload_n hX dX8_demandIs_170 rfl ?_
                            obtain ⟨z45, p46, h⟩ := bnd_s h
                            refine r_callV (As := [.int v1]) hX dX8_demandIs_171 mk_St_isLit mi_St_isLit ml_8_180 rfl rfl rfl rfl (by decide) (by decide) (Nat.le_of_ble_eq_true rfl) hr (ok_St_isLit (d := d + 2) 18 v1 M st18 p46) ?_
                            refine r_ifb_eq (tgt := 186) hX dX8_demandIs_174 (by decide) (fun g47 => ?_) (fun g47 => ?_)
                            · have h := (if_neg (show ¬ z45 = true from fun e => by rw [g47] at e; cases e)).symm.trans h
                              refine r_bipush (v := (-2 : Int32)) hX dX8_demandIs_186 (by decide) ?_
                              obtain rfl := Option.some.inj h
                              exact r_iret hX hT dX8_demandIs_188 rfl
                            · have h := (if_pos g47).symm.trans h
                              refine r_aload_n hX dX8_demandIs_177 rfl ?_
                              refine r_iload_n hX dX8_demandIs_178 rfl ?_
                              refine r_iload_n hX dX8_demandIs_179 rfl ?_
                              obtain ⟨z48, p49, h⟩ := bnd_s h
                              refine r_callV (As := [.int v1, .int v2]) hX dX8_demandIs_180 mk_Fg_litDemandIs mi_Fg_litDemandIs ml_8_330 rfl rfl rfl rfl (by decide) (by decide) (Nat.le_of_ble_eq_true rfl) hr (ok_Fg_litDemandIs (d := d + 0) n v1 v2 M p49) ?_
                              refine r_goto (tgt := 188) hX dX8_demandIs_183 (by decide) ?_
                              obtain rfl := Option.some.inj h
                              exact r_iret hX hT dX8_demandIs_188 rfl
                          · have h := (if_neg g44).symm.trans h
                            by_cases g50 : v2 = (10 : Int32)
                            · have h := (if_pos g50).symm.trans h
                              refine r_tabEq (tgt := 166) hX dX8_demandIs_24 g50 ⟨by decide, by decide, rfl⟩ (by decide) ?_
                              refine r_aload_n hX dX8_demandIs_166 rfl ?_
                              refine r_getf (v := .ref 18) hX dX8_demandIs_167 fl_8_35 rfl (by decide) (by decide) rfl ?_
                              refine r_iload_n hX dX8_demandIs_170 rfl ?_
                              obtain ⟨z51, p52, h⟩ := bnd_s h
                              refine r_callV (As := [.int v1]) hX dX8_demandIs_171 mk_St_isLit mi_St_isLit ml_8_180 rfl rfl rfl rfl (by decide) (by decide) (Nat.le_of_ble_eq_true rfl) hr (ok_St_isLit (d := d + 2) 18 v1 M st18 p52) ?_
                              refine r_ifb_eq (tgt := 186) hX dX8_demandIs_174 (by decide) (fun g53 => ?_) (fun g53 => ?_)
                              · have h := (if_neg (show ¬ z51 = true from fun e => by rw [g53] at e; cases e)).symm.trans h
                                refine r_bipush (v := (-2 : Int32)) hX dX8_demandIs_186 (by decide) ?_
                                obtain rfl := Option.some.inj h
                                exact r_iret hX hT dX8_demandIs_188 rfl
                              · have h := (if_pos g53).symm.trans h
                                refine r_aload_n hX dX8_demandIs_177 rfl ?_
                                refine r_iload_n hX dX8_demandIs_178 rfl ?_
                                refine r_iload_n hX dX8_demandIs_179 rfl ?_
                                obtain ⟨z54, p55, h⟩ := bnd_s h
                                refine r_callV (As := [.int v1, .int v2]) hX dX8_demandIs_180 mk_Fg_litDemandIs mi_Fg_litDemandIs ml_8_330 rfl rfl rfl rfl (by decide) (by decide) (Nat.le_of_ble_eq_true rfl) hr (ok_Fg_litDemandIs (d := d + 0) n v1 v2 M p55) ?_
                                refine r_goto (tgt := 188) hX dX8_demandIs_183 (by decide) ?_
                                obtain rfl := Option.some.inj h
                                exact r_iret hX hT dX8_demandIs_188 rfl
                            · have h := (if_neg g50).symm.trans h
                              by_cases g56 : v2 = (11 : Int32)
                              · have h := (if_pos g56).symm.trans h
                                refine r_tabEq (tgt := 128) hX dX8_demandIs_24 g56 ⟨by decide, by decide, rfl⟩ (by decide) ?_
                                refine r_aload_n hX dX8_demandIs_128 rfl ?_
                                refine r_getf (v := .ref 18) hX dX8_demandIs_129 fl_8_35 rfl (by decide) (by decide) rfl ?_
                                refine r_iload_n hX dX8_demandIs_132 rfl ?_
                                obtain ⟨z57, p58, h⟩ := bnd_s h
                                refine r_callV (As := [.int v1]) hX dX8_demandIs_133 mk_St_isLitOrDark mi_St_isLitOrDark ml_8_248 rfl rfl rfl rfl (by decide) (by decide) (Nat.le_of_ble_eq_true rfl) hr (ok_St_isLitOrDark (d := d + 2) 18 v1 M st18 p58) ?_
                                refine r_ifb_eq (tgt := 163) hX dX8_demandIs_136 (by decide) (fun g59 => ?_) (fun g59 => ?_)
                                · have h := (if_neg (show ¬ z57 = true from fun e => by rw [g59] at e; cases e)).symm.trans h
                                  refine r_bipush (v := (-2 : Int32)) hX dX8_demandIs_163 (by decide) ?_
                                  obtain rfl := Option.some.inj h
                                  exact r_iret hX hT dX8_demandIs_165 rfl
                                · have h := (if_pos g59).symm.trans h
                                  refine r_aload_n hX dX8_demandIs_139 rfl ?_
                                  refine r_getf (v := .ref 18) hX dX8_demandIs_140 fl_8_35 rfl (by decide) (by decide) rfl ?_
                                  refine r_getf (v := .ref 29) hX dX8_demandIs_143 fl_8_251 rfl (by decide) (by decide) rfl ?_
                                  refine r_iload_n hX dX8_demandIs_146 rfl ?_
                                  obtain ⟨k60, h⟩ := grd_s h
                                  refine r_iald hX dX8_demandIs_147 rfl (by decide) (inb_at rfl k60) ?_
                                  refine r_if_lt (tgt := 163) hX dX8_demandIs_148 (by decide) (fun g61 => ?_) (fun g61 => ?_)
                                  · have h := (if_pos g61).symm.trans h
                                    refine r_bipush (v := (-2 : Int32)) hX dX8_demandIs_163 (by decide) ?_
                                    obtain rfl := Option.some.inj h
                                    exact r_iret hX hT dX8_demandIs_165 rfl
                                  · have h := (if_neg g61).symm.trans h
                                    refine r_aload_n hX dX8_demandIs_151 rfl ?_
                                    refine r_getf (v := .ref 18) hX dX8_demandIs_152 fl_8_35 rfl (by decide) (by decide) rfl ?_
                                    refine r_getf (v := .ref 29) hX dX8_demandIs_155 fl_8_251 rfl (by decide) (by decide) rfl ?_
                                    refine r_iload_n hX dX8_demandIs_158 rfl ?_
                                    obtain ⟨k62, h⟩ := grd_s h
                                    refine r_iald hX dX8_demandIs_159 rfl (by decide) (inb_at rfl k62) ?_
                                    refine r_goto (tgt := 165) hX dX8_demandIs_160 (by decide) ?_
                                    obtain rfl := Option.some.inj h
                                    exact r_iret hX hT dX8_demandIs_165 rfl
                              · have h := (if_neg g56).symm.trans h
                                refine r_tabOut (tgt := 166) hX dX8_demandIs_24 (by have q0 := ne_ti g6 (k := 0) (by decide); have q1 := ne_ti g8 (k := 1) (by decide); have q2 := ne_ti g10 (k := 2) (by decide); have q3 := ne_ti g12 (k := 3) (by decide); have q4 := ne_ti g14 (k := 4) (by decide); have q5 := ne_ti g20 (k := 5) (by decide); have q6 := ne_ti g26 (k := 6) (by decide); have q7 := ne_ti g32 (k := 7) (by decide); have q8 := ne_ti g38 (k := 8) (by decide); have q9 := ne_ti g44 (k := 9) (by decide); have q10 := ne_ti g50 (k := 10) (by decide); have q11 := ne_ti g56 (k := 11) (by decide); omega) (by decide) ?_
                                refine r_aload_n hX dX8_demandIs_166 rfl ?_
                                refine r_getf (v := .ref 18) hX dX8_demandIs_167 fl_8_35 rfl (by decide) (by decide) rfl ?_
                                refine r_iload_n hX dX8_demandIs_170 rfl ?_
                                obtain ⟨z63, p64, h⟩ := bnd_s h
                                refine r_callV (As := [.int v1]) hX dX8_demandIs_171 mk_St_isLit mi_St_isLit ml_8_180 rfl rfl rfl rfl (by decide) (by decide) (Nat.le_of_ble_eq_true rfl) hr (ok_St_isLit (d := d + 2) 18 v1 M st18 p64) ?_
                                refine r_ifb_eq (tgt := 186) hX dX8_demandIs_174 (by decide) (fun g65 => ?_) (fun g65 => ?_)
                                · have h := (if_neg (show ¬ z63 = true from fun e => by rw [g65] at e; cases e)).symm.trans h
                                  refine r_bipush (v := (-2 : Int32)) hX dX8_demandIs_186 (by decide) ?_
                                  obtain rfl := Option.some.inj h
                                  exact r_iret hX hT dX8_demandIs_188 rfl
                                · have h := (if_pos g65).symm.trans h
                                  refine r_aload_n hX dX8_demandIs_177 rfl ?_
                                  refine r_iload_n hX dX8_demandIs_178 rfl ?_
                                  refine r_iload_n hX dX8_demandIs_179 rfl ?_
                                  obtain ⟨z66, p67, h⟩ := bnd_s h
                                  refine r_callV (As := [.int v1, .int v2]) hX dX8_demandIs_180 mk_Fg_litDemandIs mi_Fg_litDemandIs ml_8_330 rfl rfl rfl rfl (by decide) (by decide) (Nat.le_of_ble_eq_true rfl) hr (ok_Fg_litDemandIs (d := d + 0) n v1 v2 M p67) ?_
                                  refine r_goto (tgt := 188) hX dX8_demandIs_183 (by decide) ?_
                                  obtain rfl := Option.some.inj h
                                  exact r_iret hX hT dX8_demandIs_188 rfl
      · have h := (if_neg g5).symm.trans h
        refine r_iconst (v := (-1 : Int32)) hX dX8_demandIs_21 (by decide) ?_
        obtain rfl := Option.some.inj h
        exact r_iret hX hT dX8_demandIs_22 rfl
def Fg_way (n : Nat) (v1 : Int32) (v2 : Int32) (v3 : Int32) (v4 : Int32) (M : Mm) : Option (Int32 × Mm) :=
  bnd (Fg_arePlaces v1 v2 M) (fun z1 =>
  if z1 = true then
    if v3 < (0 : Int32) then
      some ((-1 : Int32), M)
    else
      if (4 : Int32) ≤ v3 then
        some ((-1 : Int32), M)
      else
        if v4 < (0 : Int32) then
          some ((-1 : Int32), M)
        else
          if v4 ≤ (4 : Int32) then
            bnd (Wy_pairOf n 18 v1 v2 M) (fun z8 =>
            if v4 = (4 : Int32) then
              grd (inb z8.1 64) (
              some (z8.2.1 14 (tn z8.1), z8.2))
            else
              grd (inb z8.1 64) (
              if v3 < (z8.2.1 14 (tn z8.1)) then
                if v4 = (0 : Int32) then
                  grd (inb ((z8.1 * (4 : Int32)) + v3) 256) (
                  some (z8.2.1 17 (tn ((z8.1 * (4 : Int32)) + v3)), z8.2))
                else
                  if v4 = (1 : Int32) then
                    grd (inb ((z8.1 * (4 : Int32)) + v3) 256) (
                    some (z8.2.1 115 (tn ((z8.1 * (4 : Int32)) + v3)), z8.2))
                  else
                    if v4 = (2 : Int32) then
                      grd (inb ((z8.1 * (4 : Int32)) + v3) 256) (
                      some (z8.2.1 16 (tn ((z8.1 * (4 : Int32)) + v3)), z8.2))
                    else
                      grd (inb ((z8.1 * (4 : Int32)) + v3) 256) (
                      bnd (Nt_formatOf n 19 (z8.2.1 17 (tn ((z8.1 * (4 : Int32)) + v3))) z8.2) (fun z20 =>
                      if (0 : Int32) ≤ z20 then
                        some (z20, z8.2)
                      else
                        some ((-2 : Int32), z8.2)))
              else
                some ((-2 : Int32), z8.2)))
          else
            some ((-1 : Int32), M)
  else
    some ((-1 : Int32), M))
set_option maxRecDepth 100000 in
theorem ok_Fg_way {G : Gm} {l : Launch} {d : Nat} (n : Nat) (v1 : Int32) (v2 : Int32) (v3 : Int32) (v4 : Int32) (M : Mm) {z : Int32 × Mm}  (h : Fg_way n v1 v2 v3 v4 M = some z) : CK G l (d + 12) md_Fg_way [.ref 0, .int v1, .int v2, .int v3, .int v4] M SS (some (.int z.1)) z.2 SS := by
  refine ck_of mk_Fg_way (Nat.le_of_ble_eq_true rfl) ⟨Nat.le_refl _, Nat.le_refl _⟩ (fun X hX hT hS hr hl => ?_)
  subst hl
  unfold Fg_way at h
  show WR G X (mQ G X (some (.int z.1)) z.2 SS) 0 [.ref 0, .int v1, .int v2, .int v3, .int v4, vU, vU, vU, vU] [] M SS
  refine r_aload_n hX dX8_way_0 rfl ?_
  refine r_iload_n hX dX8_way_1 rfl ?_
  refine r_iload_n hX dX8_way_2 rfl ?_
  obtain ⟨z1, p2, h⟩ := bnd_s h
  refine r_callV (As := [.int v1, .int v2]) hX dX8_way_3 mk_Fg_arePlaces mi_Fg_arePlaces ml_8_343 rfl rfl rfl rfl (by decide) (by decide) (Nat.le_of_ble_eq_true rfl) hr (ok_Fg_arePlaces (d := d + 11) v1 v2 M p2) ?_
  refine r_ifb_eq (tgt := 29) hX dX8_way_6 (by decide) (fun g3 => ?_) (fun g3 => ?_)
  · have h := (if_neg (show ¬ z1 = true from fun e => by rw [g3] at e; cases e)).symm.trans h
    refine r_iconst (v := (-1 : Int32)) hX dX8_way_29 (by decide) ?_
    obtain rfl := Option.some.inj h
    exact r_iret hX hT dX8_way_30 rfl
  · have h := (if_pos g3).symm.trans h
    refine r_iload_n hX dX8_way_9 rfl ?_
    refine r_if_lt (tgt := 29) hX dX8_way_10 (by decide) (fun g4 => ?_) (fun g4 => ?_)
    · have h := (if_pos g4).symm.trans h
      refine r_iconst (v := (-1 : Int32)) hX dX8_way_29 (by decide) ?_
      obtain rfl := Option.some.inj h
      exact r_iret hX hT dX8_way_30 rfl
    · have h := (if_neg g4).symm.trans h
      refine r_iload_n hX dX8_way_13 rfl ?_
      refine r_iconst (v := (4 : Int32)) hX dX8_way_14 (by decide) ?_
      refine r_icmp_ge (tgt := 29) hX dX8_way_15 (by decide) (fun g5 => ?_) (fun g5 => ?_)
      · have h := (if_pos g5).symm.trans h
        refine r_iconst (v := (-1 : Int32)) hX dX8_way_29 (by decide) ?_
        obtain rfl := Option.some.inj h
        exact r_iret hX hT dX8_way_30 rfl
      · have h := (if_neg g5).symm.trans h
        refine r_iload hX dX8_way_18 rfl ?_
        refine r_if_lt (tgt := 29) hX dX8_way_20 (by decide) (fun g6 => ?_) (fun g6 => ?_)
        · have h := (if_pos g6).symm.trans h
          refine r_iconst (v := (-1 : Int32)) hX dX8_way_29 (by decide) ?_
          obtain rfl := Option.some.inj h
          exact r_iret hX hT dX8_way_30 rfl
        · have h := (if_neg g6).symm.trans h
          refine r_iload hX dX8_way_23 rfl ?_
          refine r_iconst (v := (4 : Int32)) hX dX8_way_25 (by decide) ?_
          refine r_icmp_le (tgt := 31) hX dX8_way_26 (by decide) (fun g7 => ?_) (fun g7 => ?_)
          · have h := (if_pos g7).symm.trans h
            refine r_aload_n hX dX8_way_31 rfl ?_
            refine r_getf (v := .ref 12) hX dX8_way_32 fl_8_28 rfl (by decide) (by decide) rfl ?_
            refine r_getf (v := .ref 13) hX dX8_way_35 fl_8_347 rfl (by decide) (by decide) rfl ?_
            refine r_astore (L1 := [.ref 0, .int v1, .int v2, .int v3, .int v4, .ref 13, vU, vU, vU]) hX dX8_way_38 (Nat.le_of_ble_eq_true rfl) rfl ?_
            refine r_aload hX dX8_way_40 rfl ?_
            refine r_aload_n hX dX8_way_42 rfl ?_
            refine r_getf (v := .ref 18) hX dX8_way_43 fl_8_35 rfl (by decide) (by decide) rfl ?_
            refine r_iload_n hX dX8_way_46 rfl ?_
            refine r_iload_n hX dX8_way_47 rfl ?_
            obtain ⟨z8, p9, h⟩ := bnd_s h
            refine r_callV (As := [.ref 18, .int v1, .int v2]) hX dX8_way_48 mk_Wy_pairOf mi_Wy_pairOf ml_8_351 rfl rfl rfl rfl (by decide) (by decide) (Nat.le_of_ble_eq_true rfl) hr (ok_Wy_pairOf (d := d + 0) n 18 v1 v2 M st18 p9) ?_
            refine r_istore (L1 := [.ref 0, .int v1, .int v2, .int v3, .int v4, .ref 13, .int z8.1, vU, vU]) hX dX8_way_51 (Nat.le_of_ble_eq_true rfl) rfl ?_
            refine r_iload hX dX8_way_53 rfl ?_
            refine r_iconst (v := (4 : Int32)) hX dX8_way_55 (by decide) ?_
            refine r_icmp_ne (tgt := 68) hX dX8_way_56 (by decide) (fun g10 => ?_) (fun g10 => ?_)
            · have h := (if_neg g10).symm.trans h
              refine r_iload_n hX dX8_way_68 rfl ?_
              refine r_aload hX dX8_way_69 rfl ?_
              refine r_getf (v := .ref 14) hX dX8_way_71 fl_8_357 rfl (by decide) (by decide) rfl ?_
              refine r_iload hX dX8_way_74 rfl ?_
              obtain ⟨k11, h⟩ := grd_s h
              refine r_iald hX dX8_way_76 rfl (by decide) (inb_at rfl k11) ?_
              refine r_icmp_lt (tgt := 83) hX dX8_way_77 (by decide) (fun g12 => ?_) (fun g12 => ?_)
              · have h := (if_pos g12).symm.trans h
                refine r_iload hX dX8_way_83 rfl ?_
                refine r_iconst (v := (4 : Int32)) hX dX8_way_85 (by decide) ?_
                refine r_imul hX dX8_way_86 ?_
                refine r_iload_n hX dX8_way_87 rfl ?_
                refine r_iadd hX dX8_way_88 ?_
                refine r_istore (L1 := [.ref 0, .int v1, .int v2, .int v3, .int v4, .ref 13, .int z8.1, .int ((z8.1 * (4 : Int32)) + v3), vU]) hX dX8_way_89 (Nat.le_of_ble_eq_true rfl) rfl ?_
                refine r_iload hX dX8_way_91 rfl ?_
                by_cases g13 : v4 = (0 : Int32)
                · have h := (if_pos g13).symm.trans h
                  refine r_tabEq (tgt := 120) hX dX8_way_93 g13 ⟨by decide, by decide, rfl⟩ (by decide) ?_
                  refine r_aload hX dX8_way_120 rfl ?_
                  refine r_getf (v := .ref 17) hX dX8_way_122 fl_8_360 rfl (by decide) (by decide) rfl ?_
                  refine r_iload hX dX8_way_125 rfl ?_
                  obtain ⟨k14, h⟩ := grd_s h
                  refine r_iald hX dX8_way_127 rfl (by decide) (inb_at rfl k14) ?_
                  obtain rfl := Option.some.inj h
                  exact r_iret hX hT dX8_way_128 rfl
                · have h := (if_neg g13).symm.trans h
                  by_cases g15 : v4 = (1 : Int32)
                  · have h := (if_pos g15).symm.trans h
                    refine r_tabEq (tgt := 129) hX dX8_way_93 g15 ⟨by decide, by decide, rfl⟩ (by decide) ?_
                    refine r_aload hX dX8_way_129 rfl ?_
                    refine r_getf (v := .ref 115) hX dX8_way_131 fl_8_361 rfl (by decide) (by decide) rfl ?_
                    refine r_iload hX dX8_way_134 rfl ?_
                    obtain ⟨k16, h⟩ := grd_s h
                    refine r_iald hX dX8_way_136 rfl (by decide) (inb_at rfl k16) ?_
                    obtain rfl := Option.some.inj h
                    exact r_iret hX hT dX8_way_137 rfl
                  · have h := (if_neg g15).symm.trans h
                    by_cases g17 : v4 = (2 : Int32)
                    · have h := (if_pos g17).symm.trans h
                      refine r_tabEq (tgt := 138) hX dX8_way_93 g17 ⟨by decide, by decide, rfl⟩ (by decide) ?_
                      refine r_aload hX dX8_way_138 rfl ?_
                      refine r_getf (v := .ref 16) hX dX8_way_140 fl_8_364 rfl (by decide) (by decide) rfl ?_
                      refine r_iload hX dX8_way_143 rfl ?_
                      obtain ⟨k18, h⟩ := grd_s h
                      refine r_iald hX dX8_way_145 rfl (by decide) (inb_at rfl k18) ?_
                      obtain rfl := Option.some.inj h
                      exact r_iret hX hT dX8_way_146 rfl
                    · have h := (if_neg g17).symm.trans h
                      refine r_tabOut (tgt := 147) hX dX8_way_93 (by have q0 := ne_ti g13 (k := 0) (by decide); have q1 := ne_ti g15 (k := 1) (by decide); have q2 := ne_ti g17 (k := 2) (by decide); omega) (by decide) ?_
                      refine r_aload_n hX dX8_way_147 rfl ?_
                      refine r_getf (v := .ref 18) hX dX8_way_148 fl_8_35 rfl (by decide) (by decide) rfl ?_
                      refine r_getf (v := .ref 19) hX dX8_way_151 fl_8_204 rfl (by decide) (by decide) rfl ?_
                      refine r_aload hX dX8_way_154 rfl ?_
                      refine r_getf (v := .ref 17) hX dX8_way_156 fl_8_360 rfl (by decide) (by decide) rfl ?_
                      refine r_iload hX dX8_way_159 rfl ?_
                      obtain ⟨k19, h⟩ := grd_s h
                      refine r_iald hX dX8_way_161 rfl (by decide) (inb_at rfl k19) ?_
                      obtain ⟨z20, p21, h⟩ := bnd_s h
                      refine r_callV (As := [.int (z8.2.1 17 (tn ((z8.1 * (4 : Int32)) + v3)))]) hX dX8_way_162 mk_Nt_formatOf mi_Nt_formatOf ml_8_340 rfl rfl rfl rfl (by decide) (by decide) (Nat.le_of_ble_eq_true rfl) hr (ok_Nt_formatOf (d := d + 11) n 19 (z8.2.1 17 (tn ((z8.1 * (4 : Int32)) + v3))) z8.2 (nt_st st18) p21) ?_
                      refine r_istore (L1 := [.ref 0, .int v1, .int v2, .int v3, .int v4, .ref 13, .int z8.1, .int ((z8.1 * (4 : Int32)) + v3), .int z20]) hX dX8_way_165 (Nat.le_of_ble_eq_true rfl) rfl ?_
                      refine r_iload hX dX8_way_167 rfl ?_
                      refine r_if_ge (tgt := 177) hX dX8_way_169 (by decide) (fun g22 => ?_) (fun g22 => ?_)
                      · have h := (if_pos g22).symm.trans h
                        refine r_iload hX dX8_way_177 rfl ?_
                        obtain rfl := Option.some.inj h
                        exact r_iret hX hT dX8_way_179 rfl
                      · have h := (if_neg g22).symm.trans h
                        refine r_bipush (v := (-2 : Int32)) hX dX8_way_172 (by decide) ?_
                        refine r_goto (tgt := 179) hX dX8_way_174 (by decide) ?_
                        obtain rfl := Option.some.inj h
                        exact r_iret hX hT dX8_way_179 rfl
              · have h := (if_neg g12).symm.trans h
                refine r_bipush (v := (-2 : Int32)) hX dX8_way_80 (by decide) ?_
                obtain rfl := Option.some.inj h
                exact r_iret hX hT dX8_way_82 rfl
            · have h := (if_pos g10).symm.trans h
              refine r_aload hX dX8_way_59 rfl ?_
              refine r_getf (v := .ref 14) hX dX8_way_61 fl_8_357 rfl (by decide) (by decide) rfl ?_
              refine r_iload hX dX8_way_64 rfl ?_
              obtain ⟨k23, h⟩ := grd_s h
              refine r_iald hX dX8_way_66 rfl (by decide) (inb_at rfl k23) ?_
              obtain rfl := Option.some.inj h
              exact r_iret hX hT dX8_way_67 rfl
          · have h := (if_neg g7).symm.trans h
            refine r_iconst (v := (-1 : Int32)) hX dX8_way_29 (by decide) ?_
            obtain rfl := Option.some.inj h
            exact r_iret hX hT dX8_way_30 rfl
def Fg_found (n : Nat) (v1 : Int32) (v2 : Int32) (v3 : Int32) (v4 : Int32) (v5 : Int32) (M : Mm) : Option (Int32 × Mm) :=
  bnd (Fg_isWish v1 v2 v3 M) (fun z1 =>
  if z1 = true then
    bnd (Fg_isRule v4 M) (fun z4 =>
    if z4 = true then
      if v5 < (0 : Int32) then
        some ((-1 : Int32), M)
      else
        if v5 ≤ (2 : Int32) then
          bnd (Fi_find n 18 v1 v2 v3 v4 M) (fun z9 =>
          if z9.1 = true then
            if v5 = (0 : Int32) then
              some (z9.2.1 12 1, z9.2)
            else
              if v5 = (1 : Int32) then
                some (z9.2.1 12 3, z9.2)
              else
                some (z9.2.1 12 4, z9.2)
          else
            some ((-2 : Int32), z9.2))
        else
          some ((-1 : Int32), M)
    else
      some ((-1 : Int32), M))
  else
    some ((-1 : Int32), M))
set_option maxRecDepth 100000 in
theorem ok_Fg_found {G : Gm} {l : Launch} {d : Nat} (n : Nat) (v1 : Int32) (v2 : Int32) (v3 : Int32) (v4 : Int32) (v5 : Int32) (M : Mm) {z : Int32 × Mm}  (h : Fg_found n v1 v2 v3 v4 v5 M = some z) : CK G l (d + 13) md_Fg_found [.ref 0, .int v1, .int v2, .int v3, .int v4, .int v5] M SS (some (.int z.1)) z.2 SS := by
  refine ck_of mk_Fg_found (Nat.le_of_ble_eq_true rfl) ⟨Nat.le_refl _, Nat.le_refl _⟩ (fun X hX hT hS hr hl => ?_)
  subst hl
  unfold Fg_found at h
  show WR G X (mQ G X (some (.int z.1)) z.2 SS) 0 [.ref 0, .int v1, .int v2, .int v3, .int v4, .int v5] [] M SS
  refine r_aload_n hX dX8_found_0 rfl ?_
  refine r_iload_n hX dX8_found_1 rfl ?_
  refine r_iload_n hX dX8_found_2 rfl ?_
  refine r_iload_n hX dX8_found_3 rfl ?_
  obtain ⟨z1, p2, h⟩ := bnd_s h
  refine r_callV (As := [.int v1, .int v2, .int v3]) hX dX8_found_4 mk_Fg_isWish mi_Fg_isWish ml_8_138 rfl rfl rfl rfl (by decide) (by decide) (Nat.le_of_ble_eq_true rfl) hr (ok_Fg_isWish (d := d + 11) v1 v2 v3 M p2) ?_
  refine r_ifb_eq (tgt := 29) hX dX8_found_7 (by decide) (fun g3 => ?_) (fun g3 => ?_)
  · have h := (if_neg (show ¬ z1 = true from fun e => by rw [g3] at e; cases e)).symm.trans h
    refine r_iconst (v := (-1 : Int32)) hX dX8_found_29 (by decide) ?_
    obtain rfl := Option.some.inj h
    exact r_iret hX hT dX8_found_30 rfl
  · have h := (if_pos g3).symm.trans h
    refine r_iload hX dX8_found_10 rfl ?_
    obtain ⟨z4, p5, h⟩ := bnd_s h
    refine r_callS (As := [.int v4]) hX dX8_found_12 mk_Fg_isRule ms_Fg_isRule ml_8_142 rfl rfl rfl (Nat.le_of_ble_eq_true rfl) hr (ok_Fg_isRule (d := d + 12) v4 M p5) ?_
    refine r_ifb_eq (tgt := 29) hX dX8_found_15 (by decide) (fun g6 => ?_) (fun g6 => ?_)
    · have h := (if_neg (show ¬ z4 = true from fun e => by rw [g6] at e; cases e)).symm.trans h
      refine r_iconst (v := (-1 : Int32)) hX dX8_found_29 (by decide) ?_
      obtain rfl := Option.some.inj h
      exact r_iret hX hT dX8_found_30 rfl
    · have h := (if_pos g6).symm.trans h
      refine r_iload hX dX8_found_18 rfl ?_
      refine r_if_lt (tgt := 29) hX dX8_found_20 (by decide) (fun g7 => ?_) (fun g7 => ?_)
      · have h := (if_pos g7).symm.trans h
        refine r_iconst (v := (-1 : Int32)) hX dX8_found_29 (by decide) ?_
        obtain rfl := Option.some.inj h
        exact r_iret hX hT dX8_found_30 rfl
      · have h := (if_neg g7).symm.trans h
        refine r_iload hX dX8_found_23 rfl ?_
        refine r_iconst (v := (2 : Int32)) hX dX8_found_25 (by decide) ?_
        refine r_icmp_le (tgt := 31) hX dX8_found_26 (by decide) (fun g8 => ?_) (fun g8 => ?_)
        · have h := (if_pos g8).symm.trans h
          refine r_aload_n hX dX8_found_31 rfl ?_
          refine r_getf (v := .ref 12) hX dX8_found_32 fl_8_28 rfl (by decide) (by decide) rfl ?_
          refine r_aload_n hX dX8_found_35 rfl ?_
          refine r_getf (v := .ref 18) hX dX8_found_36 fl_8_35 rfl (by decide) (by decide) rfl ?_
          refine r_iload_n hX dX8_found_39 rfl ?_
          refine r_iload_n hX dX8_found_40 rfl ?_
          refine r_iload_n hX dX8_found_41 rfl ?_
          refine r_iload hX dX8_found_42 rfl ?_
          obtain ⟨z9, p10, h⟩ := bnd_s h
          refine r_callV (As := [.ref 18, .int v1, .int v2, .int v3, .int v4]) hX dX8_found_44 mk_Fi_find mi_Fi_find ml_8_152 rfl rfl rfl rfl (by decide) (by decide) (Nat.le_of_ble_eq_true rfl) hr (ok_Fi_find (d := d + 0) n 18 v1 v2 v3 v4 M st18 p10) ?_
          refine r_ifb_ne (tgt := 53) hX dX8_found_47 (by decide) (fun g11 => ?_) (fun g11 => ?_)
          · have h := (if_pos g11).symm.trans h
            refine r_iload hX dX8_found_53 rfl ?_
            refine r_if_ne (tgt := 66) hX dX8_found_55 (by decide) (fun g12 => ?_) (fun g12 => ?_)
            · have h := (if_neg g12).symm.trans h
              refine r_iload hX dX8_found_66 rfl ?_
              refine r_iconst (v := (1 : Int32)) hX dX8_found_68 (by decide) ?_
              refine r_icmp_ne (tgt := 82) hX dX8_found_69 (by decide) (fun g13 => ?_) (fun g13 => ?_)
              · have h := (if_neg g13).symm.trans h
                refine r_aload_n hX dX8_found_82 rfl ?_
                refine r_getf (v := .ref 12) hX dX8_found_83 fl_8_28 rfl (by decide) (by decide) rfl ?_
                refine r_getf (v := .int (z9.2.1 12 4)) hX dX8_found_86 fl_8_162 rfl (by decide) (by decide) rfl ?_
                obtain rfl := Option.some.inj h
                exact r_iret hX hT dX8_found_89 rfl
              · have h := (if_pos g13).symm.trans h
                refine r_aload_n hX dX8_found_72 rfl ?_
                refine r_getf (v := .ref 12) hX dX8_found_73 fl_8_28 rfl (by decide) (by decide) rfl ?_
                refine r_getf (v := .int (z9.2.1 12 3)) hX dX8_found_76 fl_8_159 rfl (by decide) (by decide) rfl ?_
                refine r_goto (tgt := 89) hX dX8_found_79 (by decide) ?_
                obtain rfl := Option.some.inj h
                exact r_iret hX hT dX8_found_89 rfl
            · have h := (if_pos g12).symm.trans h
              refine r_aload_n hX dX8_found_58 rfl ?_
              refine r_getf (v := .ref 12) hX dX8_found_59 fl_8_28 rfl (by decide) (by decide) rfl ?_
              refine r_getf (v := .int (z9.2.1 12 1)) hX dX8_found_62 fl_8_365 rfl (by decide) (by decide) rfl ?_
              obtain rfl := Option.some.inj h
              exact r_iret hX hT dX8_found_65 rfl
          · have h := (if_neg (show ¬ z9.1 = true from fun e => by rw [g11] at e; cases e)).symm.trans h
            refine r_bipush (v := (-2 : Int32)) hX dX8_found_50 (by decide) ?_
            obtain rfl := Option.some.inj h
            exact r_iret hX hT dX8_found_52 rfl
        · have h := (if_neg g8).symm.trans h
          refine r_iconst (v := (-1 : Int32)) hX dX8_found_29 (by decide) ?_
          obtain rfl := Option.some.inj h
          exact r_iret hX hT dX8_found_30 rfl
def Fg_witness_j116 (n : Nat) (v5 : Int32) (v7 : Int32) (w0 : Int32) (M : Mm) : Option (Int32 × Mm) :=
  if w0 = (0 : Int32) then
    some ((-4 : Int32), M)
  else
    if (v5 + w0) ≤ (M.1 19 1) then
      grd (inb v7 256) (
      bnd (St_inTheWay n 18 (M.1 16 (tn v7)) v5 w0 M) (fun z15 =>
      if (0 : Int32) ≤ z15 then
        some (z15, M)
      else
        some ((-2 : Int32), M)))
    else
      some ((-3 : Int32), M)
def Fg_witness (n : Nat) (v1 : Int32) (v2 : Int32) (v3 : Int32) (v4 : Int32) (v5 : Int32) (M : Mm) : Option (Int32 × Mm) :=
  bnd (Fg_isWish v1 v2 v3 M) (fun z1 =>
  if z1 = true then
    if v4 < (0 : Int32) then
      some ((-1 : Int32), M)
    else
      if (4 : Int32) ≤ v4 then
        some ((-1 : Int32), M)
      else
        if v5 < (0 : Int32) then
          some ((-1 : Int32), M)
        else
          if v5 < (M.1 19 1) then
            bnd (Wy_pairOf n 18 v1 v2 M) (fun z8 =>
            grd (inb z8.1 64) (
            if (z8.2.1 14 (tn z8.1)) ≤ v4 then
              Fg_witness_j116 n v5 ((z8.1 * (4 : Int32)) + v4) (0 : Int32) z8.2
            else
              grd (inb ((z8.1 * (4 : Int32)) + v4) 256) (
              bnd (Nt_widthOf n 19 v3 (z8.2.1 17 (tn ((z8.1 * (4 : Int32)) + v4))) z8.2) (fun z19 =>
              Fg_witness_j116 n v5 ((z8.1 * (4 : Int32)) + v4) z19 z8.2))))
          else
            some ((-1 : Int32), M)
  else
    some ((-1 : Int32), M))
set_option maxRecDepth 100000 in
theorem ok_Fg_witness_j116 (n : Nat) (v5 : Int32) (v7 : Int32) (w0 : Int32) (M : Mm) {z : Int32 × Mm} {G : Gm} {X : Cx} {d : Nat}  (hX : XK G X 8 cX8_witness 10 (d + 12)) (hT : XT X (some .int) "witness") (hr : XR X SS) (h : Fg_witness_j116 n v5 v7 w0 M = some z) : WR G X (mQ G X (some (.int z.1)) z.2 SS) 116 [.ref 0, vU, vU, vU, vU, .int v5, vU, .int v7, vU, vU] [.int w0] M SS := by
  unfold Fg_witness_j116 at h
  refine r_istore (L1 := [.ref 0, vU, vU, vU, vU, .int v5, vU, .int v7, .int w0, vU]) hX dX8_witness_116 (Nat.le_of_ble_eq_true rfl) rfl ?_
  refine r_iload hX dX8_witness_118 rfl ?_
  refine r_if_ne (tgt := 126) hX dX8_witness_120 (by decide) (fun g12 => ?_) (fun g12 => ?_)
  · have h := (if_neg g12).symm.trans h
    refine r_iload hX dX8_witness_126 rfl ?_
    refine r_iload hX dX8_witness_128 rfl ?_
    refine r_iadd hX dX8_witness_130 ?_
    refine r_aload_n hX dX8_witness_131 rfl ?_
    refine r_getf (v := .ref 18) hX dX8_witness_132 fl_8_35 rfl (by decide) (by decide) rfl ?_
    refine r_getf (v := .ref 19) hX dX8_witness_135 fl_8_204 rfl (by decide) (by decide) rfl ?_
    refine r_getf (v := .int (M.1 19 1)) hX dX8_witness_138 fl_8_207 rfl (by decide) (by decide) rfl ?_
    refine r_icmp_le (tgt := 147) hX dX8_witness_141 (by decide) (fun g13 => ?_) (fun g13 => ?_)
    · have h := (if_pos g13).symm.trans h
      refine r_aload_n hX dX8_witness_147 rfl ?_
      refine r_getf (v := .ref 18) hX dX8_witness_148 fl_8_35 rfl (by decide) (by decide) rfl ?_
      refine r_aload_n hX dX8_witness_151 rfl ?_
      refine r_getf (v := .ref 12) hX dX8_witness_152 fl_8_28 rfl (by decide) (by decide) rfl ?_
      refine r_getf (v := .ref 13) hX dX8_witness_155 fl_8_347 rfl (by decide) (by decide) rfl ?_
      refine r_getf (v := .ref 16) hX dX8_witness_158 fl_8_364 rfl (by decide) (by decide) rfl ?_
      refine r_iload hX dX8_witness_161 rfl ?_
      obtain ⟨k14, h⟩ := grd_s h
      refine r_iald hX dX8_witness_163 rfl (by decide) (inb_at rfl k14) ?_
      refine r_iload hX dX8_witness_164 rfl ?_
      refine r_iload hX dX8_witness_166 rfl ?_
      obtain ⟨z15, p16, h⟩ := bnd_s h
      refine r_callV (As := [.int (M.1 16 (tn v7)), .int v5, .int w0]) hX dX8_witness_168 mk_St_inTheWay mi_St_inTheWay ml_8_371 rfl rfl rfl rfl (by decide) (by decide) (Nat.le_of_ble_eq_true rfl) hr (ok_St_inTheWay (d := d + 10) n 18 (M.1 16 (tn v7)) v5 w0 M st18 p16) ?_
      refine r_istore (L1 := [.ref 0, vU, vU, vU, vU, .int v5, vU, .int v7, .int w0, .int z15]) hX dX8_witness_171 (Nat.le_of_ble_eq_true rfl) rfl ?_
      refine r_iload hX dX8_witness_173 rfl ?_
      refine r_if_ge (tgt := 183) hX dX8_witness_175 (by decide) (fun g17 => ?_) (fun g17 => ?_)
      · have h := (if_pos g17).symm.trans h
        refine r_iload hX dX8_witness_183 rfl ?_
        obtain rfl := Option.some.inj h
        exact r_iret hX hT dX8_witness_185 rfl
      · have h := (if_neg g17).symm.trans h
        refine r_bipush (v := (-2 : Int32)) hX dX8_witness_178 (by decide) ?_
        refine r_goto (tgt := 185) hX dX8_witness_180 (by decide) ?_
        obtain rfl := Option.some.inj h
        exact r_iret hX hT dX8_witness_185 rfl
    · have h := (if_neg g13).symm.trans h
      refine r_bipush (v := (-3 : Int32)) hX dX8_witness_144 (by decide) ?_
      obtain rfl := Option.some.inj h
      exact r_iret hX hT dX8_witness_146 rfl
  · have h := (if_pos g12).symm.trans h
    refine r_bipush (v := (-4 : Int32)) hX dX8_witness_123 (by decide) ?_
    obtain rfl := Option.some.inj h
    exact r_iret hX hT dX8_witness_125 rfl
set_option maxRecDepth 100000 in
theorem ok_Fg_witness {G : Gm} {l : Launch} {d : Nat} (n : Nat) (v1 : Int32) (v2 : Int32) (v3 : Int32) (v4 : Int32) (v5 : Int32) (M : Mm) {z : Int32 × Mm}  (h : Fg_witness n v1 v2 v3 v4 v5 M = some z) : CK G l (d + 12) md_Fg_witness [.ref 0, .int v1, .int v2, .int v3, .int v4, .int v5] M SS (some (.int z.1)) z.2 SS := by
  refine ck_of mk_Fg_witness (Nat.le_of_ble_eq_true rfl) ⟨Nat.le_refl _, Nat.le_refl _⟩ (fun X hX hT hS hr hl => ?_)
  subst hl
  unfold Fg_witness at h
  show WR G X (mQ G X (some (.int z.1)) z.2 SS) 0 [.ref 0, .int v1, .int v2, .int v3, .int v4, .int v5, vU, vU, vU, vU] [] M SS
  refine r_aload_n hX dX8_witness_0 rfl ?_
  refine r_iload_n hX dX8_witness_1 rfl ?_
  refine r_iload_n hX dX8_witness_2 rfl ?_
  refine r_iload_n hX dX8_witness_3 rfl ?_
  obtain ⟨z1, p2, h⟩ := bnd_s h
  refine r_callV (As := [.int v1, .int v2, .int v3]) hX dX8_witness_4 mk_Fg_isWish mi_Fg_isWish ml_8_138 rfl rfl rfl rfl (by decide) (by decide) (Nat.le_of_ble_eq_true rfl) hr (ok_Fg_isWish (d := d + 10) v1 v2 v3 M p2) ?_
  refine r_ifb_eq (tgt := 41) hX dX8_witness_7 (by decide) (fun g3 => ?_) (fun g3 => ?_)
  · have h := (if_neg (show ¬ z1 = true from fun e => by rw [g3] at e; cases e)).symm.trans h
    refine r_iconst (v := (-1 : Int32)) hX dX8_witness_41 (by decide) ?_
    obtain rfl := Option.some.inj h
    exact r_iret hX hT dX8_witness_42 rfl
  · have h := (if_pos g3).symm.trans h
    refine r_iload hX dX8_witness_10 rfl ?_
    refine r_if_lt (tgt := 41) hX dX8_witness_12 (by decide) (fun g4 => ?_) (fun g4 => ?_)
    · have h := (if_pos g4).symm.trans h
      refine r_iconst (v := (-1 : Int32)) hX dX8_witness_41 (by decide) ?_
      obtain rfl := Option.some.inj h
      exact r_iret hX hT dX8_witness_42 rfl
    · have h := (if_neg g4).symm.trans h
      refine r_iload hX dX8_witness_15 rfl ?_
      refine r_iconst (v := (4 : Int32)) hX dX8_witness_17 (by decide) ?_
      refine r_icmp_ge (tgt := 41) hX dX8_witness_18 (by decide) (fun g5 => ?_) (fun g5 => ?_)
      · have h := (if_pos g5).symm.trans h
        refine r_iconst (v := (-1 : Int32)) hX dX8_witness_41 (by decide) ?_
        obtain rfl := Option.some.inj h
        exact r_iret hX hT dX8_witness_42 rfl
      · have h := (if_neg g5).symm.trans h
        refine r_iload hX dX8_witness_21 rfl ?_
        refine r_if_lt (tgt := 41) hX dX8_witness_23 (by decide) (fun g6 => ?_) (fun g6 => ?_)
        · have h := (if_pos g6).symm.trans h
          refine r_iconst (v := (-1 : Int32)) hX dX8_witness_41 (by decide) ?_
          obtain rfl := Option.some.inj h
          exact r_iret hX hT dX8_witness_42 rfl
        · have h := (if_neg g6).symm.trans h
          refine r_iload hX dX8_witness_26 rfl ?_
          refine r_aload_n hX dX8_witness_28 rfl ?_
          refine r_getf (v := .ref 18) hX dX8_witness_29 fl_8_35 rfl (by decide) (by decide) rfl ?_
          refine r_getf (v := .ref 19) hX dX8_witness_32 fl_8_204 rfl (by decide) (by decide) rfl ?_
          refine r_getf (v := .int (M.1 19 1)) hX dX8_witness_35 fl_8_207 rfl (by decide) (by decide) rfl ?_
          refine r_icmp_lt (tgt := 43) hX dX8_witness_38 (by decide) (fun g7 => ?_) (fun g7 => ?_)
          · have h := (if_pos g7).symm.trans h
            refine r_aload_n hX dX8_witness_43 rfl ?_
            refine r_getf (v := .ref 12) hX dX8_witness_44 fl_8_28 rfl (by decide) (by decide) rfl ?_
            refine r_getf (v := .ref 13) hX dX8_witness_47 fl_8_347 rfl (by decide) (by decide) rfl ?_
            refine r_aload_n hX dX8_witness_50 rfl ?_
            refine r_getf (v := .ref 18) hX dX8_witness_51 fl_8_35 rfl (by decide) (by decide) rfl ?_
            refine r_iload_n hX dX8_witness_54 rfl ?_
            refine r_iload_n hX dX8_witness_55 rfl ?_
            obtain ⟨z8, p9, h⟩ := bnd_s h
            refine r_callV (As := [.ref 18, .int v1, .int v2]) hX dX8_witness_56 mk_Wy_pairOf mi_Wy_pairOf ml_8_351 rfl rfl rfl rfl (by decide) (by decide) (Nat.le_of_ble_eq_true rfl) hr (ok_Wy_pairOf (d := d + 0) n 18 v1 v2 M st18 p9) ?_
            refine r_istore (L1 := [.ref 0, .int v1, .int v2, .int v3, .int v4, .int v5, .int z8.1, vU, vU, vU]) hX dX8_witness_59 (Nat.le_of_ble_eq_true rfl) rfl ?_
            refine r_iload hX dX8_witness_61 rfl ?_
            refine r_iconst (v := (4 : Int32)) hX dX8_witness_63 (by decide) ?_
            refine r_imul hX dX8_witness_64 ?_
            refine r_iload hX dX8_witness_65 rfl ?_
            refine r_iadd hX dX8_witness_67 ?_
            refine r_istore (L1 := [.ref 0, .int v1, .int v2, .int v3, .int v4, .int v5, .int z8.1, .int ((z8.1 * (4 : Int32)) + v4), vU, vU]) hX dX8_witness_68 (Nat.le_of_ble_eq_true rfl) rfl ?_
            refine r_iload hX dX8_witness_70 rfl ?_
            refine r_aload_n hX dX8_witness_72 rfl ?_
            refine r_getf (v := .ref 12) hX dX8_witness_73 fl_8_28 rfl (by decide) (by decide) rfl ?_
            refine r_getf (v := .ref 13) hX dX8_witness_76 fl_8_347 rfl (by decide) (by decide) rfl ?_
            refine r_getf (v := .ref 14) hX dX8_witness_79 fl_8_357 rfl (by decide) (by decide) rfl ?_
            refine r_iload hX dX8_witness_82 rfl ?_
            obtain ⟨k10, h⟩ := grd_s h
            refine r_iald hX dX8_witness_84 rfl (by decide) (inb_at rfl k10) ?_
            refine r_icmp_ge (tgt := 115) hX dX8_witness_85 (by decide) (fun g11 => ?_) (fun g11 => ?_)
            · have h := (if_pos g11).symm.trans h
              refine r_iconst (v := (0 : Int32)) hX dX8_witness_115 (by decide) ?_
              refine WR.fg (L' := [.ref 0, vU, vU, vU, vU, .int v5, vU, .int ((z8.1 * (4 : Int32)) + v4), vU, vU]) ⟨Or.inr rfl, Or.inl rfl, Or.inl rfl, Or.inl rfl, Or.inl rfl, Or.inr rfl, Or.inl rfl, Or.inr rfl, Or.inl rfl, Or.inl rfl, trivial⟩ ?_
              exact ok_Fg_witness_j116 n v5 ((z8.1 * (4 : Int32)) + v4) (0 : Int32) z8.2   hX hT hr h
            · have h := (if_neg g11).symm.trans h
              refine r_aload_n hX dX8_witness_88 rfl ?_
              refine r_getf (v := .ref 18) hX dX8_witness_89 fl_8_35 rfl (by decide) (by decide) rfl ?_
              refine r_getf (v := .ref 19) hX dX8_witness_92 fl_8_204 rfl (by decide) (by decide) rfl ?_
              refine r_iload_n hX dX8_witness_95 rfl ?_
              refine r_aload_n hX dX8_witness_96 rfl ?_
              refine r_getf (v := .ref 12) hX dX8_witness_97 fl_8_28 rfl (by decide) (by decide) rfl ?_
              refine r_getf (v := .ref 13) hX dX8_witness_100 fl_8_347 rfl (by decide) (by decide) rfl ?_
              refine r_getf (v := .ref 17) hX dX8_witness_103 fl_8_360 rfl (by decide) (by decide) rfl ?_
              refine r_iload hX dX8_witness_106 rfl ?_
              obtain ⟨k18, h⟩ := grd_s h
              refine r_iald hX dX8_witness_108 rfl (by decide) (inb_at rfl k18) ?_
              obtain ⟨z19, p20, h⟩ := bnd_s h
              refine r_callV (As := [.int v3, .int (z8.2.1 17 (tn ((z8.1 * (4 : Int32)) + v4)))]) hX dX8_witness_109 mk_Nt_widthOf mi_Nt_widthOf ml_8_368 rfl rfl rfl rfl (by decide) (by decide) (Nat.le_of_ble_eq_true rfl) hr (ok_Nt_widthOf (d := d + 10) n 19 v3 (z8.2.1 17 (tn ((z8.1 * (4 : Int32)) + v4))) z8.2 (nt_st st18) p20) ?_
              refine r_goto (tgt := 116) hX dX8_witness_112 (by decide) ?_
              refine WR.fg (L' := [.ref 0, vU, vU, vU, vU, .int v5, vU, .int ((z8.1 * (4 : Int32)) + v4), vU, vU]) ⟨Or.inr rfl, Or.inl rfl, Or.inl rfl, Or.inl rfl, Or.inl rfl, Or.inr rfl, Or.inl rfl, Or.inr rfl, Or.inl rfl, Or.inl rfl, trivial⟩ ?_
              exact ok_Fg_witness_j116 n v5 ((z8.1 * (4 : Int32)) + v4) z19 z8.2   hX hT hr h
          · have h := (if_neg g7).symm.trans h
            refine r_iconst (v := (-1 : Int32)) hX dX8_witness_41 (by decide) ?_
            obtain rfl := Option.some.inj h
            exact r_iret hX hT dX8_witness_42 rfl
def Fg_blocked_j184 (v6 : Int32) (v7 : Int32) (v8 : Int64) (v10 : Int32) : Option ((Int32 × Int32 × Int64 × Int32) ⊕ (Int32 × Int32 × Int64)) :=
  some (.inl (v6, v7, v8, v10 + (1 : Int32)))
def Fg_blocked_b84 (n : Nat) (c3 : Int32) (c5 : Int32) (Mc : Mm) (v6 : Int32) (v7 : Int32) (v8 : Int64) (v10 : Int32) : Option ((Int32 × Int32 × Int64 × Int32) ⊕ (Int32 × Int32 × Int64)) :=
  grd (inb c5 64) (
  if (Mc.1 14 (tn c5)) ≤ v10 then
    some (.inr (v6, v7, v8))
  else
    grd (inb ((c5 * (4 : Int32)) + v10) 256) (
    grd (inb ((c5 * (4 : Int32)) + v10) 256) (
    bnd (Nt_widthOf n 19 c3 (Mc.1 17 (tn ((c5 * (4 : Int32)) + v10))) Mc) (fun z13 =>
    if z13 ≤ (0 : Int32) then
      Fg_blocked_j184 v6 v7 v8 v10
    else
      bnd (St_witnesses n 18 (Mc.1 16 (tn ((c5 * (4 : Int32)) + v10))) z13 Mc) (fun z16 =>
      Fg_blocked_j184 (1 : Int32) (v7 &&& (Mc.1 16 (tn ((c5 * (4 : Int32)) + v10)))) (v8 ||| z16) v10)))))
def Fg_blocked (n : Nat) (v1 : Int32) (v2 : Int32) (v3 : Int32) (v4 : Int32) (M : Mm) : Option (Int32 × Mm) :=
  bnd (Fg_isWish v1 v2 v3 M) (fun z1 =>
  if z1 = true then
    if v4 < (0 : Int32) then
      some ((-1 : Int32), M)
    else
      if v4 ≤ (2 : Int32) then
        if v4 = (0 : Int32) then
          bnd (Fi_find n 18 v1 v2 v3 (0 : Int32) M) (fun z23 =>
          if z23.1 = true then
            some ((0 : Int32), z23.2)
          else
            some ((1 : Int32), z23.2))
        else
          bnd (Wy_pairOf n 18 v1 v2 M) (fun z7 =>
          bnd (loop (fun s1 : Int32 × Int32 × Int64 × Int32 => Fg_blocked_b84 n v3 z7.1 z7.2 s1.1 s1.2.1 s1.2.2.1 s1.2.2.2) n ((0 : Int32), (16383 : Int32), (0 : Int64), (0 : Int32))) (fun y18 =>
          if y18.1 = (0 : Int32) then
            some ((-4 : Int32), z7.2)
          else
            if v4 = (1 : Int32) then
              bnd (Jl_bitCount y18.2.2 z7.2) (fun z21 =>
              some (z21, z7.2))
            else
              some (y18.2.1, z7.2)))
      else
        some ((-1 : Int32), M)
  else
    some ((-1 : Int32), M))
set_option maxRecDepth 100000 in
theorem ok_Fg_blocked_j184 (n : Nat) (v6 : Int32) (v7 : Int32) (v8 : Int64) (v10 : Int32) {c3 : Int32} {c4 : Int32} {c5 : Int32} {Mc : Mm} {z : Int32 × Mm} {oo : (Int32 × Int32 × Int64 × Int32) ⊕ (Int32 × Int32 × Int64)} {G : Gm} {X : Cx} {d : Nat}  (hX : XK G X 8 cX8_blocked 13 (d + 13)) (hT : XT X (some .int) "blocked") (hr : XR X SS) (hc : ∀ s1 : Int32 × Int32 × Int64 × Int32, oo = .inl s1 → WR G X (mQ G X (some (.int z.1)) z.2 SS) 84 [.ref 0, vU, vU, .int c3, .int c4, .int c5, .int s1.1, .int s1.2.1, .long s1.2.2.1, vU, .int s1.2.2.2, vU, vU] [] Mc SS) (hx : ∀ x1 : Int32 × Int32 × Int64, oo = .inr x1 → WR G X (mQ G X (some (.int z.1)) z.2 SS) 190 [.ref 0, vU, vU, vU, .int c4, vU, .int x1.1, .int x1.2.1, .long x1.2.2, vU, vU, vU, vU] [] Mc SS) (h : Fg_blocked_j184 v6 v7 v8 v10 = some oo) : WR G X (mQ G X (some (.int z.1)) z.2 SS) 184 [.ref 0, vU, vU, .int c3, .int c4, .int c5, .int v6, .int v7, .long v8, vU, .int v10, vU, vU] [] Mc SS := by
  unfold Fg_blocked_j184 at h
  refine r_iinc (v := v10 + (1 : Int32)) (L1 := [.ref 0, vU, vU, .int c3, .int c4, .int c5, .int v6, .int v7, .long v8, vU, .int (v10 + (1 : Int32)), vU, vU]) hX dX8_blocked_184 rfl rfl rfl ?_
  refine r_goto (tgt := 84) hX dX8_blocked_187 (by decide) ?_
  exact hc (v6, v7, v8, v10 + (1 : Int32)) (Option.some.inj h).symm
set_option maxRecDepth 100000 in
theorem ok_Fg_blocked_b84 (n : Nat) (v6 : Int32) (v7 : Int32) (v8 : Int64) (v10 : Int32) {c3 : Int32} {c4 : Int32} {c5 : Int32} {Mc : Mm} {z : Int32 × Mm} {oo : (Int32 × Int32 × Int64 × Int32) ⊕ (Int32 × Int32 × Int64)} {G : Gm} {X : Cx} {d : Nat}  (hX : XK G X 8 cX8_blocked 13 (d + 13)) (hT : XT X (some .int) "blocked") (hr : XR X SS) (hc : ∀ s1 : Int32 × Int32 × Int64 × Int32, oo = .inl s1 → WR G X (mQ G X (some (.int z.1)) z.2 SS) 84 [.ref 0, vU, vU, .int c3, .int c4, .int c5, .int s1.1, .int s1.2.1, .long s1.2.2.1, vU, .int s1.2.2.2, vU, vU] [] Mc SS) (hx : ∀ x1 : Int32 × Int32 × Int64, oo = .inr x1 → WR G X (mQ G X (some (.int z.1)) z.2 SS) 190 [.ref 0, vU, vU, vU, .int c4, vU, .int x1.1, .int x1.2.1, .long x1.2.2, vU, vU, vU, vU] [] Mc SS) (h : Fg_blocked_b84 n c3 c5 Mc v6 v7 v8 v10 = some oo) : WR G X (mQ G X (some (.int z.1)) z.2 SS) 84 [.ref 0, vU, vU, .int c3, .int c4, .int c5, .int v6, .int v7, .long v8, vU, .int v10, vU, vU] [] Mc SS := by
  unfold Fg_blocked_b84 at h
  refine r_iload hX dX8_blocked_84 rfl ?_
  refine r_aload_n hX dX8_blocked_86 rfl ?_
  refine r_getf (v := .ref 12) hX dX8_blocked_87 fl_8_28 rfl (by decide) (by decide) rfl ?_
  refine r_getf (v := .ref 13) hX dX8_blocked_90 fl_8_347 rfl (by decide) (by decide) rfl ?_
  refine r_getf (v := .ref 14) hX dX8_blocked_93 fl_8_357 rfl (by decide) (by decide) rfl ?_
  refine r_iload hX dX8_blocked_96 rfl ?_
  obtain ⟨k9, h⟩ := grd_s h
  refine r_iald hX dX8_blocked_98 rfl (by decide) (inb_at rfl k9) ?_
  refine r_icmp_ge (tgt := 190) hX dX8_blocked_99 (by decide) (fun g10 => ?_) (fun g10 => ?_)
  · have h := (if_pos g10).symm.trans h
    refine WR.fg (L' := [.ref 0, vU, vU, vU, .int c4, vU, .int v6, .int v7, .long v8, vU, vU, vU, vU]) ⟨Or.inr rfl, Or.inl rfl, Or.inl rfl, Or.inl rfl, Or.inr rfl, Or.inl rfl, Or.inr rfl, Or.inr rfl, Or.inr rfl, Or.inl rfl, Or.inl rfl, Or.inl rfl, Or.inl rfl, trivial⟩ ?_
    exact hx _ (Option.some.inj h).symm
  · have h := (if_neg g10).symm.trans h
    refine r_aload_n hX dX8_blocked_102 rfl ?_
    refine r_getf (v := .ref 12) hX dX8_blocked_103 fl_8_28 rfl (by decide) (by decide) rfl ?_
    refine r_getf (v := .ref 13) hX dX8_blocked_106 fl_8_347 rfl (by decide) (by decide) rfl ?_
    refine r_getf (v := .ref 16) hX dX8_blocked_109 fl_8_364 rfl (by decide) (by decide) rfl ?_
    refine r_iload hX dX8_blocked_112 rfl ?_
    refine r_iconst (v := (4 : Int32)) hX dX8_blocked_114 (by decide) ?_
    refine r_imul hX dX8_blocked_115 ?_
    refine r_iload hX dX8_blocked_116 rfl ?_
    refine r_iadd hX dX8_blocked_118 ?_
    obtain ⟨k11, h⟩ := grd_s h
    refine r_iald hX dX8_blocked_119 rfl (by decide) (inb_at rfl k11) ?_
    refine r_istore (L1 := [.ref 0, vU, vU, .int c3, .int c4, .int c5, .int v6, .int v7, .long v8, vU, .int v10, .int (Mc.1 16 (tn ((c5 * (4 : Int32)) + v10))), vU]) hX dX8_blocked_120 (Nat.le_of_ble_eq_true rfl) rfl ?_
    refine r_aload_n hX dX8_blocked_122 rfl ?_
    refine r_getf (v := .ref 18) hX dX8_blocked_123 fl_8_35 rfl (by decide) (by decide) rfl ?_
    refine r_getf (v := .ref 19) hX dX8_blocked_126 fl_8_204 rfl (by decide) (by decide) rfl ?_
    refine r_iload_n hX dX8_blocked_129 rfl ?_
    refine r_aload_n hX dX8_blocked_130 rfl ?_
    refine r_getf (v := .ref 12) hX dX8_blocked_131 fl_8_28 rfl (by decide) (by decide) rfl ?_
    refine r_getf (v := .ref 13) hX dX8_blocked_134 fl_8_347 rfl (by decide) (by decide) rfl ?_
    refine r_getf (v := .ref 17) hX dX8_blocked_137 fl_8_360 rfl (by decide) (by decide) rfl ?_
    refine r_iload hX dX8_blocked_140 rfl ?_
    refine r_iconst (v := (4 : Int32)) hX dX8_blocked_142 (by decide) ?_
    refine r_imul hX dX8_blocked_143 ?_
    refine r_iload hX dX8_blocked_144 rfl ?_
    refine r_iadd hX dX8_blocked_146 ?_
    obtain ⟨k12, h⟩ := grd_s h
    refine r_iald hX dX8_blocked_147 rfl (by decide) (inb_at rfl k12) ?_
    obtain ⟨z13, p14, h⟩ := bnd_s h
    refine r_callV (As := [.int c3, .int (Mc.1 17 (tn ((c5 * (4 : Int32)) + v10)))]) hX dX8_blocked_148 mk_Nt_widthOf mi_Nt_widthOf ml_8_368 rfl rfl rfl rfl (by decide) (by decide) (Nat.le_of_ble_eq_true rfl) hr (ok_Nt_widthOf (d := d + 11) n 19 c3 (Mc.1 17 (tn ((c5 * (4 : Int32)) + v10))) Mc (nt_st st18) p14) ?_
    refine r_istore (L1 := [.ref 0, vU, vU, .int c3, .int c4, .int c5, .int v6, .int v7, .long v8, vU, .int v10, .int (Mc.1 16 (tn ((c5 * (4 : Int32)) + v10))), .int z13]) hX dX8_blocked_151 (Nat.le_of_ble_eq_true rfl) rfl ?_
    refine r_iload hX dX8_blocked_153 rfl ?_
    refine r_if_le (tgt := 184) hX dX8_blocked_155 (by decide) (fun g15 => ?_) (fun g15 => ?_)
    · have h := (if_pos g15).symm.trans h
      refine WR.fg (L' := [.ref 0, vU, vU, .int c3, .int c4, .int c5, .int v6, .int v7, .long v8, vU, .int v10, vU, vU]) ⟨Or.inr rfl, Or.inl rfl, Or.inl rfl, Or.inr rfl, Or.inr rfl, Or.inr rfl, Or.inr rfl, Or.inr rfl, Or.inr rfl, Or.inl rfl, Or.inr rfl, Or.inl rfl, Or.inl rfl, trivial⟩ ?_
      exact ok_Fg_blocked_j184 n v6 v7 v8 v10   hX hT hr hc hx h
    · have h := (if_neg g15).symm.trans h
      refine r_iconst (v := (1 : Int32)) hX dX8_blocked_158 (by decide) ?_
      refine r_istore (L1 := [.ref 0, vU, vU, .int c3, .int c4, .int c5, .int (1 : Int32), .int v7, .long v8, vU, .int v10, .int (Mc.1 16 (tn ((c5 * (4 : Int32)) + v10))), .int z13]) hX dX8_blocked_159 (Nat.le_of_ble_eq_true rfl) rfl ?_
      refine r_iload hX dX8_blocked_161 rfl ?_
      refine r_iload hX dX8_blocked_163 rfl ?_
      refine r_iand hX dX8_blocked_165 ?_
      refine r_istore (L1 := [.ref 0, vU, vU, .int c3, .int c4, .int c5, .int (1 : Int32), .int (v7 &&& (Mc.1 16 (tn ((c5 * (4 : Int32)) + v10)))), .long v8, vU, .int v10, .int (Mc.1 16 (tn ((c5 * (4 : Int32)) + v10))), .int z13]) hX dX8_blocked_166 (Nat.le_of_ble_eq_true rfl) rfl ?_
      refine r_lload hX dX8_blocked_168 rfl ?_
      refine r_aload_n hX dX8_blocked_170 rfl ?_
      refine r_getf (v := .ref 18) hX dX8_blocked_171 fl_8_35 rfl (by decide) (by decide) rfl ?_
      refine r_iload hX dX8_blocked_174 rfl ?_
      refine r_iload hX dX8_blocked_176 rfl ?_
      obtain ⟨z16, p17, h⟩ := bnd_s h
      refine r_callV (As := [.int (Mc.1 16 (tn ((c5 * (4 : Int32)) + v10))), .int z13]) hX dX8_blocked_178 mk_St_witnesses mi_St_witnesses ml_8_374 rfl rfl rfl rfl (by decide) (by decide) (Nat.le_of_ble_eq_true rfl) hr (ok_St_witnesses (d := d + 10) n 18 (Mc.1 16 (tn ((c5 * (4 : Int32)) + v10))) z13 Mc st18 p17) ?_
      refine r_lor hX dX8_blocked_181 ?_
      refine r_lstore (L1 := [.ref 0, vU, vU, .int c3, .int c4, .int c5, .int (1 : Int32), .int (v7 &&& (Mc.1 16 (tn ((c5 * (4 : Int32)) + v10)))), .long (v8 ||| z16), vU, .int v10, .int (Mc.1 16 (tn ((c5 * (4 : Int32)) + v10))), .int z13]) hX dX8_blocked_182 (Nat.le_of_ble_eq_true rfl) rfl ?_
      refine WR.fg (L' := [.ref 0, vU, vU, .int c3, .int c4, .int c5, .int (1 : Int32), .int (v7 &&& (Mc.1 16 (tn ((c5 * (4 : Int32)) + v10)))), .long (v8 ||| z16), vU, .int v10, vU, vU]) ⟨Or.inr rfl, Or.inl rfl, Or.inl rfl, Or.inr rfl, Or.inr rfl, Or.inr rfl, Or.inr rfl, Or.inr rfl, Or.inr rfl, Or.inl rfl, Or.inr rfl, Or.inl rfl, Or.inl rfl, trivial⟩ ?_
      exact ok_Fg_blocked_j184 n (1 : Int32) (v7 &&& (Mc.1 16 (tn ((c5 * (4 : Int32)) + v10)))) (v8 ||| z16) v10   hX hT hr hc hx h
set_option maxRecDepth 100000 in
theorem ok_Fg_blocked {G : Gm} {l : Launch} {d : Nat} (n : Nat) (v1 : Int32) (v2 : Int32) (v3 : Int32) (v4 : Int32) (M : Mm) {z : Int32 × Mm}  (h : Fg_blocked n v1 v2 v3 v4 M = some z) : CK G l (d + 13) md_Fg_blocked [.ref 0, .int v1, .int v2, .int v3, .int v4] M SS (some (.int z.1)) z.2 SS := by
  refine ck_of mk_Fg_blocked (Nat.le_of_ble_eq_true rfl) ⟨Nat.le_refl _, Nat.le_refl _⟩ (fun X hX hT hS hr hl => ?_)
  subst hl
  unfold Fg_blocked at h
  show WR G X (mQ G X (some (.int z.1)) z.2 SS) 0 [.ref 0, .int v1, .int v2, .int v3, .int v4, vU, vU, vU, vU, vU, vU, vU, vU] [] M SS
  refine r_aload_n hX dX8_blocked_0 rfl ?_
  refine r_iload_n hX dX8_blocked_1 rfl ?_
  refine r_iload_n hX dX8_blocked_2 rfl ?_
  refine r_iload_n hX dX8_blocked_3 rfl ?_
  obtain ⟨z1, p2, h⟩ := bnd_s h
  refine r_callV (As := [.int v1, .int v2, .int v3]) hX dX8_blocked_4 mk_Fg_isWish mi_Fg_isWish ml_8_138 rfl rfl rfl rfl (by decide) (by decide) (Nat.le_of_ble_eq_true rfl) hr (ok_Fg_isWish (d := d + 11) v1 v2 v3 M p2) ?_
  refine r_ifb_eq (tgt := 21) hX dX8_blocked_7 (by decide) (fun g3 => ?_) (fun g3 => ?_)
  · have h := (if_neg (show ¬ z1 = true from fun e => by rw [g3] at e; cases e)).symm.trans h
    refine r_iconst (v := (-1 : Int32)) hX dX8_blocked_21 (by decide) ?_
    obtain rfl := Option.some.inj h
    exact r_iret hX hT dX8_blocked_22 rfl
  · have h := (if_pos g3).symm.trans h
    refine r_iload hX dX8_blocked_10 rfl ?_
    refine r_if_lt (tgt := 21) hX dX8_blocked_12 (by decide) (fun g4 => ?_) (fun g4 => ?_)
    · have h := (if_pos g4).symm.trans h
      refine r_iconst (v := (-1 : Int32)) hX dX8_blocked_21 (by decide) ?_
      obtain rfl := Option.some.inj h
      exact r_iret hX hT dX8_blocked_22 rfl
    · have h := (if_neg g4).symm.trans h
      refine r_iload hX dX8_blocked_15 rfl ?_
      refine r_iconst (v := (2 : Int32)) hX dX8_blocked_17 (by decide) ?_
      refine r_icmp_le (tgt := 23) hX dX8_blocked_18 (by decide) (fun g5 => ?_) (fun g5 => ?_)
      · have h := (if_pos g5).symm.trans h
        refine r_iload hX dX8_blocked_23 rfl ?_
        refine r_if_ne (tgt := 52) hX dX8_blocked_25 (by decide) (fun g6 => ?_) (fun g6 => ?_)
        · have h := (if_neg g6).symm.trans h
          refine r_aload_n hX dX8_blocked_52 rfl ?_
          refine r_getf (v := .ref 12) hX dX8_blocked_53 fl_8_28 rfl (by decide) (by decide) rfl ?_
          refine r_getf (v := .ref 13) hX dX8_blocked_56 fl_8_347 rfl (by decide) (by decide) rfl ?_
          refine r_aload_n hX dX8_blocked_59 rfl ?_
          refine r_getf (v := .ref 18) hX dX8_blocked_60 fl_8_35 rfl (by decide) (by decide) rfl ?_
          refine r_iload_n hX dX8_blocked_63 rfl ?_
          refine r_iload_n hX dX8_blocked_64 rfl ?_
          obtain ⟨z7, p8, h⟩ := bnd_s h
          refine r_callV (As := [.ref 18, .int v1, .int v2]) hX dX8_blocked_65 mk_Wy_pairOf mi_Wy_pairOf ml_8_351 rfl rfl rfl rfl (by decide) (by decide) (Nat.le_of_ble_eq_true rfl) hr (ok_Wy_pairOf (d := d + 1) n 18 v1 v2 M st18 p8) ?_
          refine r_istore (L1 := [.ref 0, .int v1, .int v2, .int v3, .int v4, .int z7.1, vU, vU, vU, vU, vU, vU, vU]) hX dX8_blocked_68 (Nat.le_of_ble_eq_true rfl) rfl ?_
          refine r_iconst (v := (0 : Int32)) hX dX8_blocked_70 (by decide) ?_
          refine r_istore (L1 := [.ref 0, .int v1, .int v2, .int v3, .int v4, .int z7.1, .int (0 : Int32), vU, vU, vU, vU, vU, vU]) hX dX8_blocked_71 (Nat.le_of_ble_eq_true rfl) rfl ?_
          refine r_sipush (v := (16383 : Int32)) hX dX8_blocked_73 (by decide) ?_
          refine r_istore (L1 := [.ref 0, .int v1, .int v2, .int v3, .int v4, .int z7.1, .int (0 : Int32), .int (16383 : Int32), vU, vU, vU, vU, vU]) hX dX8_blocked_76 (Nat.le_of_ble_eq_true rfl) rfl ?_
          refine r_lconst (v := (0 : Int64)) hX dX8_blocked_78 (by decide) ?_
          refine r_lstore (L1 := [.ref 0, .int v1, .int v2, .int v3, .int v4, .int z7.1, .int (0 : Int32), .int (16383 : Int32), .long (0 : Int64), vU, vU, vU, vU]) hX dX8_blocked_79 (Nat.le_of_ble_eq_true rfl) rfl ?_
          refine r_iconst (v := (0 : Int32)) hX dX8_blocked_81 (by decide) ?_
          refine r_istore (L1 := [.ref 0, .int v1, .int v2, .int v3, .int v4, .int z7.1, .int (0 : Int32), .int (16383 : Int32), .long (0 : Int64), vU, .int (0 : Int32), vU, vU]) hX dX8_blocked_82 (Nat.le_of_ble_eq_true rfl) rfl ?_
          refine WR.fg (L' := [.ref 0, vU, vU, .int v3, .int v4, .int z7.1, .int (0 : Int32), .int (16383 : Int32), .long (0 : Int64), vU, .int (0 : Int32), vU, vU]) ⟨Or.inr rfl, Or.inl rfl, Or.inl rfl, Or.inr rfl, Or.inr rfl, Or.inr rfl, Or.inr rfl, Or.inr rfl, Or.inr rfl, Or.inl rfl, Or.inr rfl, Or.inl rfl, Or.inl rfl, trivial⟩ ?_
          obtain ⟨y18, h1, h⟩ := bnd_s h
          refine loop_ok (P := fun s1 : Int32 × Int32 × Int64 × Int32 => WR G X (mQ G X (some (.int z.1)) z.2 SS) 84 [.ref 0, vU, vU, .int v3, .int v4, .int z7.1, .int s1.1, .int s1.2.1, .long s1.2.2.1, vU, .int s1.2.2.2, vU, vU] [] z7.2 SS) (E := fun x1 : Int32 × Int32 × Int64 => WR G X (mQ G X (some (.int z.1)) z.2 SS) 190 [.ref 0, vU, vU, vU, .int v4, vU, .int x1.1, .int x1.2.1, .long x1.2.2, vU, vU, vU, vU] [] z7.2 SS) (fun s1 o1 g1 g2 g3 => ok_Fg_blocked_b84 n s1.1 s1.2.1 s1.2.2.1 s1.2.2.2  hX hT hr g2 g3 g1) n ((0 : Int32), (16383 : Int32), (0 : Int64), (0 : Int32)) y18 h1 ?_
          show WR G X (mQ G X (some (.int z.1)) z.2 SS) 190 [.ref 0, vU, vU, vU, .int v4, vU, .int y18.1, .int y18.2.1, .long y18.2.2, vU, vU, vU, vU] [] z7.2 SS
          refine r_iload hX dX8_blocked_190 rfl ?_
          refine r_if_ne (tgt := 198) hX dX8_blocked_192 (by decide) (fun g19 => ?_) (fun g19 => ?_)
          · have h := (if_neg g19).symm.trans h
            refine r_iload hX dX8_blocked_198 rfl ?_
            refine r_iconst (v := (1 : Int32)) hX dX8_blocked_200 (by decide) ?_
            refine r_icmp_ne (tgt := 212) hX dX8_blocked_201 (by decide) (fun g20 => ?_) (fun g20 => ?_)
            · have h := (if_neg g20).symm.trans h
              refine r_iload hX dX8_blocked_212 rfl ?_
              obtain rfl := Option.some.inj h
              exact r_iret hX hT dX8_blocked_214 rfl
            · have h := (if_pos g20).symm.trans h
              refine r_lload hX dX8_blocked_204 rfl ?_
              obtain ⟨z21, p22, h⟩ := bnd_s h
              refine r_callS (As := [.long y18.2.2]) hX dX8_blocked_206 mk_Jl_bitCount ms_Jl_bitCount ml_8_295 rfl rfl rfl (Nat.le_of_ble_eq_true rfl) hr (ok_Jl_bitCount (d := d + 12) y18.2.2 z7.2 p22) ?_
              refine r_goto (tgt := 214) hX dX8_blocked_209 (by decide) ?_
              obtain rfl := Option.some.inj h
              exact r_iret hX hT dX8_blocked_214 rfl
          · have h := (if_pos g19).symm.trans h
            refine r_bipush (v := (-4 : Int32)) hX dX8_blocked_195 (by decide) ?_
            obtain rfl := Option.some.inj h
            exact r_iret hX hT dX8_blocked_197 rfl
        · have h := (if_pos g6).symm.trans h
          refine r_aload_n hX dX8_blocked_28 rfl ?_
          refine r_getf (v := .ref 12) hX dX8_blocked_29 fl_8_28 rfl (by decide) (by decide) rfl ?_
          refine r_aload_n hX dX8_blocked_32 rfl ?_
          refine r_getf (v := .ref 18) hX dX8_blocked_33 fl_8_35 rfl (by decide) (by decide) rfl ?_
          refine r_iload_n hX dX8_blocked_36 rfl ?_
          refine r_iload_n hX dX8_blocked_37 rfl ?_
          refine r_iload_n hX dX8_blocked_38 rfl ?_
          refine r_iconst (v := (0 : Int32)) hX dX8_blocked_39 (by decide) ?_
          obtain ⟨z23, p24, h⟩ := bnd_s h
          refine r_callV (As := [.ref 18, .int v1, .int v2, .int v3, .int (0 : Int32)]) hX dX8_blocked_40 mk_Fi_find mi_Fi_find ml_8_152 rfl rfl rfl rfl (by decide) (by decide) (Nat.le_of_ble_eq_true rfl) hr (ok_Fi_find (d := d + 0) n 18 v1 v2 v3 (0 : Int32) M st18 p24) ?_
          refine r_ifb_eq (tgt := 50) hX dX8_blocked_43 (by decide) (fun g25 => ?_) (fun g25 => ?_)
          · have h := (if_neg (show ¬ z23.1 = true from fun e => by rw [g25] at e; cases e)).symm.trans h
            refine r_iconst (v := (1 : Int32)) hX dX8_blocked_50 (by decide) ?_
            obtain rfl := Option.some.inj h
            exact r_iret hX hT dX8_blocked_51 rfl
          · have h := (if_pos g25).symm.trans h
            refine r_iconst (v := (0 : Int32)) hX dX8_blocked_46 (by decide) ?_
            refine r_goto (tgt := 51) hX dX8_blocked_47 (by decide) ?_
            obtain rfl := Option.some.inj h
            exact r_iret hX hT dX8_blocked_51 rfl
      · have h := (if_neg g5).symm.trans h
        refine r_iconst (v := (-1 : Int32)) hX dX8_blocked_21 (by decide) ?_
        obtain rfl := Option.some.inj h
        exact r_iret hX hT dX8_blocked_22 rfl
