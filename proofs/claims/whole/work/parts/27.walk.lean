def Fm_repack (n : Nat) (v1 : Int32) (v2 : Int32) (M : Mm) : Option (Int32 × Mm) :=
  bnd (Fm_isRule v1 M) (fun z1 =>
  if z1 = true then
    bnd (Fm_in v2 (0 : Int32) (5 : Int32) M) (fun z4 =>
    if z4 = true then
      bnd (Fm_aims n v1 M) (fun z7 =>
      if z7.1 = true then
        bnd (Fm_copies n (0 : Int32) (3 : Int32) z7.2) (fun z10 =>
        bnd (Fm_plans n z10) (fun z12 =>
        bnd (Fm_top n z12) (fun z14 =>
        bnd (Fm_rounds n z12) (fun z16 =>
        bnd (Fm_copies n (3 : Int32) (0 : Int32) z16.2) (fun z18 =>
        if v2 = (0 : Int32) then
          some (z18.1 94 31, z18)
        else
          if v2 = (1 : Int32) then
            some (z18.1 94 32, z18)
          else
            if v2 = (2 : Int32) then
              some (z18.1 94 33, z18)
            else
              if v2 = (3 : Int32) then
                some ((z18.1 94 32) - (z18.1 94 33), z18)
              else
                if v2 = (4 : Int32) then
                  some (z14, z18)
                else
                  some (z16.1, z18))))))
      else
        some ((-2 : Int32), z7.2))
    else
      some ((-1 : Int32), M))
  else
    some ((-1 : Int32), M))
set_option maxRecDepth 100000 in
theorem ok_Fm_repack {G : Gm} {l : Launch} {d : Nat} (n : Nat) (v1 : Int32) (v2 : Int32) (M : Mm) {z : Int32 × Mm}  (h : Fm_repack n v1 v2 M = some z) : CK G l (d + 7) md_Fm_repack [.ref 94, .int v1, .int v2] M SS (some (.int z.1)) z.2 SS := by
  refine ck_of mk_Fm_repack (Nat.le_of_ble_eq_true rfl) ⟨Nat.le_refl _, Nat.le_refl _⟩ (fun X hX hT hS hr hl => ?_)
  subst hl
  unfold Fm_repack at h
  show WR G X (mQ G X (some (.int z.1)) z.2 SS) 0 [.ref 94, .int v1, .int v2, vU, vU] [] M SS
  refine r_iload_n hX dX9_repack_0 rfl ?_
  obtain ⟨z1, p2, h⟩ := bnd_s h
  refine r_callS (As := [.int v1]) hX dX9_repack_1 mk_Fm_isRule ms_Fm_isRule ml_9_265 rfl rfl rfl (Nat.le_of_ble_eq_true rfl) hr (ok_Fm_isRule (d := d + 5) v1 M p2) ?_
  refine r_ifb_eq (tgt := 16) hX dX9_repack_4 (by decide) (fun g3 => ?_) (fun g3 => ?_)
  · have h := (if_neg (show ¬ z1 = true from fun e => by rw [g3] at e; cases e)).symm.trans h
    refine r_iconst (v := (-1 : Int32)) hX dX9_repack_16 (by decide) ?_
    obtain rfl := Option.some.inj h
    exact r_iret hX hT dX9_repack_17 rfl
  · have h := (if_pos g3).symm.trans h
    refine r_iload_n hX dX9_repack_7 rfl ?_
    refine r_iconst (v := (0 : Int32)) hX dX9_repack_8 (by decide) ?_
    refine r_iconst (v := (5 : Int32)) hX dX9_repack_9 (by decide) ?_
    obtain ⟨z4, p5, h⟩ := bnd_s h
    refine r_callS (As := [.int v2, .int (0 : Int32), .int (5 : Int32)]) hX dX9_repack_10 mk_Fm_in ms_Fm_in ml_9_83 rfl rfl rfl (Nat.le_of_ble_eq_true rfl) hr (ok_Fm_in (d := d + 6) v2 (0 : Int32) (5 : Int32) M p5) ?_
    refine r_ifb_ne (tgt := 18) hX dX9_repack_13 (by decide) (fun g6 => ?_) (fun g6 => ?_)
    · have h := (if_pos g6).symm.trans h
      refine r_aload_n hX dX9_repack_18 rfl ?_
      refine r_iload_n hX dX9_repack_19 rfl ?_
      obtain ⟨z7, p8, h⟩ := bnd_s h
      refine r_callV (As := [.int v1]) hX dX9_repack_20 mk_Fm_aims mi_Fm_aims ml_9_341 rfl rfl rfl rfl (by decide) (by decide) (Nat.le_of_ble_eq_true rfl) hr (ok_Fm_aims (d := d + 0) n v1 M p8) ?_
      refine r_ifb_ne (tgt := 29) hX dX9_repack_23 (by decide) (fun g9 => ?_) (fun g9 => ?_)
      · have h := (if_pos g9).symm.trans h
        refine r_aload_n hX dX9_repack_29 rfl ?_
        refine r_iconst (v := (0 : Int32)) hX dX9_repack_30 (by decide) ?_
        refine r_iconst (v := (3 : Int32)) hX dX9_repack_31 (by decide) ?_
        obtain ⟨z10, p11, h⟩ := bnd_s h
        refine r_callV (As := [.int (0 : Int32), .int (3 : Int32)]) hX dX9_repack_32 mk_Fm_copies mi_Fm_copies ml_9_311 rfl rfl rfl rfl (by decide) (by decide) (Nat.le_of_ble_eq_true rfl) hr (ok_Fm_copies (d := d + 6) n (0 : Int32) (3 : Int32) z7.2 p11) ?_
        refine r_aload_n hX dX9_repack_35 rfl ?_
        obtain ⟨z12, p13, h⟩ := bnd_s h
        refine r_callV (As := []) hX dX9_repack_36 mk_Fm_plans mi_Fm_plans ml_9_344 rfl rfl rfl rfl (by decide) (by decide) (Nat.le_of_ble_eq_true rfl) hr (ok_Fm_plans (d := d + 1) n z10 p13) ?_
        refine r_aload_n hX dX9_repack_39 rfl ?_
        obtain ⟨z14, p15, h⟩ := bnd_s h
        refine r_callV (As := []) hX dX9_repack_40 mk_Fm_top mi_Fm_top ml_9_317 rfl rfl rfl rfl (by decide) (by decide) (Nat.le_of_ble_eq_true rfl) hr (ok_Fm_top (d := d + 3) n z12 p15) ?_
        refine r_istore_n (L1 := [.ref 94, .int v1, .int v2, .int z14, vU]) hX dX9_repack_43 (Nat.le_of_ble_eq_true rfl) rfl ?_
        refine r_aload_n hX dX9_repack_44 rfl ?_
        obtain ⟨z16, p17, h⟩ := bnd_s h
        refine r_callV (As := []) hX dX9_repack_45 mk_Fm_rounds mi_Fm_rounds ml_9_347 rfl rfl rfl rfl (by decide) (by decide) (Nat.le_of_ble_eq_true rfl) hr (ok_Fm_rounds (d := d + 3) n z12 p17) ?_
        refine r_istore (L1 := [.ref 94, .int v1, .int v2, .int z14, .int z16.1]) hX dX9_repack_48 (Nat.le_of_ble_eq_true rfl) rfl ?_
        refine r_aload_n hX dX9_repack_50 rfl ?_
        refine r_iconst (v := (3 : Int32)) hX dX9_repack_51 (by decide) ?_
        refine r_iconst (v := (0 : Int32)) hX dX9_repack_52 (by decide) ?_
        obtain ⟨z18, p19, h⟩ := bnd_s h
        refine r_callV (As := [.int (3 : Int32), .int (0 : Int32)]) hX dX9_repack_53 mk_Fm_copies mi_Fm_copies ml_9_311 rfl rfl rfl rfl (by decide) (by decide) (Nat.le_of_ble_eq_true rfl) hr (ok_Fm_copies (d := d + 6) n (3 : Int32) (0 : Int32) z16.2 p19) ?_
        refine r_iload_n hX dX9_repack_56 rfl ?_
        by_cases g20 : v2 = (0 : Int32)
        · have h := (if_pos g20).symm.trans h
          refine r_tabEq (tgt := 92) hX dX9_repack_57 g20 ⟨by decide, by decide, rfl⟩ (by decide) ?_
          refine r_aload_n hX dX9_repack_92 rfl ?_
          refine r_getf (v := .int (z18.1 94 31)) hX dX9_repack_93 fl_9_320 rfl (by decide) (by decide) rfl ?_
          obtain rfl := Option.some.inj h
          exact r_iret hX hT dX9_repack_96 rfl
        · have h := (if_neg g20).symm.trans h
          by_cases g21 : v2 = (1 : Int32)
          · have h := (if_pos g21).symm.trans h
            refine r_tabEq (tgt := 97) hX dX9_repack_57 g21 ⟨by decide, by decide, rfl⟩ (by decide) ?_
            refine r_aload_n hX dX9_repack_97 rfl ?_
            refine r_getf (v := .int (z18.1 94 32)) hX dX9_repack_98 fl_9_314 rfl (by decide) (by decide) rfl ?_
            obtain rfl := Option.some.inj h
            exact r_iret hX hT dX9_repack_101 rfl
          · have h := (if_neg g21).symm.trans h
            by_cases g22 : v2 = (2 : Int32)
            · have h := (if_pos g22).symm.trans h
              refine r_tabEq (tgt := 102) hX dX9_repack_57 g22 ⟨by decide, by decide, rfl⟩ (by decide) ?_
              refine r_aload_n hX dX9_repack_102 rfl ?_
              refine r_getf (v := .int (z18.1 94 33)) hX dX9_repack_103 fl_9_323 rfl (by decide) (by decide) rfl ?_
              obtain rfl := Option.some.inj h
              exact r_iret hX hT dX9_repack_106 rfl
            · have h := (if_neg g22).symm.trans h
              by_cases g23 : v2 = (3 : Int32)
              · have h := (if_pos g23).symm.trans h
                refine r_tabEq (tgt := 107) hX dX9_repack_57 g23 ⟨by decide, by decide, rfl⟩ (by decide) ?_
                refine r_aload_n hX dX9_repack_107 rfl ?_
                refine r_getf (v := .int (z18.1 94 32)) hX dX9_repack_108 fl_9_314 rfl (by decide) (by decide) rfl ?_
                refine r_aload_n hX dX9_repack_111 rfl ?_
                refine r_getf (v := .int (z18.1 94 33)) hX dX9_repack_112 fl_9_323 rfl (by decide) (by decide) rfl ?_
                refine r_isub hX dX9_repack_115 ?_
                obtain rfl := Option.some.inj h
                exact r_iret hX hT dX9_repack_116 rfl
              · have h := (if_neg g23).symm.trans h
                by_cases g24 : v2 = (4 : Int32)
                · have h := (if_pos g24).symm.trans h
                  refine r_tabEq (tgt := 117) hX dX9_repack_57 g24 ⟨by decide, by decide, rfl⟩ (by decide) ?_
                  refine r_iload_n hX dX9_repack_117 rfl ?_
                  obtain rfl := Option.some.inj h
                  exact r_iret hX hT dX9_repack_118 rfl
                · have h := (if_neg g24).symm.trans h
                  refine r_tabOut (tgt := 119) hX dX9_repack_57 (by have q0 := ne_ti g20 (k := 0) (by decide); have q1 := ne_ti g21 (k := 1) (by decide); have q2 := ne_ti g22 (k := 2) (by decide); have q3 := ne_ti g23 (k := 3) (by decide); have q4 := ne_ti g24 (k := 4) (by decide); omega) (by decide) ?_
                  refine r_iload hX dX9_repack_119 rfl ?_
                  obtain rfl := Option.some.inj h
                  exact r_iret hX hT dX9_repack_121 rfl
      · have h := (if_neg (show ¬ z7.1 = true from fun e => by rw [g9] at e; cases e)).symm.trans h
        refine r_bipush (v := (-2 : Int32)) hX dX9_repack_26 (by decide) ?_
        obtain rfl := Option.some.inj h
        exact r_iret hX hT dX9_repack_28 rfl
    · have h := (if_neg (show ¬ z4 = true from fun e => by rw [g6] at e; cases e)).symm.trans h
      refine r_iconst (v := (-1 : Int32)) hX dX9_repack_16 (by decide) ?_
      obtain rfl := Option.some.inj h
      exact r_iret hX hT dX9_repack_17 rfl
def Fm_planned (n : Nat) (v1 : Int32) (v2 : Int32) (v3 : Int32) (M : Mm) : Option (Int32 × Mm) :=
  bnd (Fm_isRule v1 M) (fun z1 =>
  if z1 = true then
    if v2 < (0 : Int32) then
      some ((-1 : Int32), M)
    else
      bnd (Fm_in v3 (0 : Int32) (2 : Int32) M) (fun z5 =>
      if z5 = true then
        bnd (Fm_aims n v1 M) (fun z8 =>
        if z8.1 = true then
          bnd (Fm_copies n (0 : Int32) (3 : Int32) z8.2) (fun z11 =>
          bnd (Fm_plans n z11) (fun z13 =>
          bnd (Fm_copies n (3 : Int32) (0 : Int32) z13) (fun z15 =>
          if v2 < (z15.1 94 33) then
            grd (inb v2 40) (
            if v3 = (0 : Int32) then
              some (z15.1 108 (tn v2), z15)
            else
              if v3 = (1 : Int32) then
                grd (inb (z15.1 108 (tn v2)) 40) (
                some (z15.1 105 (tn (z15.1 108 (tn v2))), z15))
              else
                grd (inb (z15.1 108 (tn v2)) 40) (
                some (z15.1 107 (tn (z15.1 108 (tn v2))), z15)))
          else
            some ((-4 : Int32), z15))))
        else
          some ((-2 : Int32), z8.2))
      else
        some ((-1 : Int32), M))
  else
    some ((-1 : Int32), M))
set_option maxRecDepth 100000 in
theorem ok_Fm_planned {G : Gm} {l : Launch} {d : Nat} (n : Nat) (v1 : Int32) (v2 : Int32) (v3 : Int32) (M : Mm) {z : Int32 × Mm}  (h : Fm_planned n v1 v2 v3 M = some z) : CK G l (d + 7) md_Fm_planned [.ref 94, .int v1, .int v2, .int v3] M SS (some (.int z.1)) z.2 SS := by
  refine ck_of mk_Fm_planned (Nat.le_of_ble_eq_true rfl) ⟨Nat.le_refl _, Nat.le_refl _⟩ (fun X hX hT hS hr hl => ?_)
  subst hl
  unfold Fm_planned at h
  show WR G X (mQ G X (some (.int z.1)) z.2 SS) 0 [.ref 94, .int v1, .int v2, .int v3, vU] [] M SS
  refine r_iload_n hX dX9_planned_0 rfl ?_
  obtain ⟨z1, p2, h⟩ := bnd_s h
  refine r_callS (As := [.int v1]) hX dX9_planned_1 mk_Fm_isRule ms_Fm_isRule ml_9_265 rfl rfl rfl (Nat.le_of_ble_eq_true rfl) hr (ok_Fm_isRule (d := d + 5) v1 M p2) ?_
  refine r_ifb_eq (tgt := 20) hX dX9_planned_4 (by decide) (fun g3 => ?_) (fun g3 => ?_)
  · have h := (if_neg (show ¬ z1 = true from fun e => by rw [g3] at e; cases e)).symm.trans h
    refine r_iconst (v := (-1 : Int32)) hX dX9_planned_20 (by decide) ?_
    obtain rfl := Option.some.inj h
    exact r_iret hX hT dX9_planned_21 rfl
  · have h := (if_pos g3).symm.trans h
    refine r_iload_n hX dX9_planned_7 rfl ?_
    refine r_if_lt (tgt := 20) hX dX9_planned_8 (by decide) (fun g4 => ?_) (fun g4 => ?_)
    · have h := (if_pos g4).symm.trans h
      refine r_iconst (v := (-1 : Int32)) hX dX9_planned_20 (by decide) ?_
      obtain rfl := Option.some.inj h
      exact r_iret hX hT dX9_planned_21 rfl
    · have h := (if_neg g4).symm.trans h
      refine r_iload_n hX dX9_planned_11 rfl ?_
      refine r_iconst (v := (0 : Int32)) hX dX9_planned_12 (by decide) ?_
      refine r_iconst (v := (2 : Int32)) hX dX9_planned_13 (by decide) ?_
      obtain ⟨z5, p6, h⟩ := bnd_s h
      refine r_callS (As := [.int v3, .int (0 : Int32), .int (2 : Int32)]) hX dX9_planned_14 mk_Fm_in ms_Fm_in ml_9_83 rfl rfl rfl (Nat.le_of_ble_eq_true rfl) hr (ok_Fm_in (d := d + 6) v3 (0 : Int32) (2 : Int32) M p6) ?_
      refine r_ifb_ne (tgt := 22) hX dX9_planned_17 (by decide) (fun g7 => ?_) (fun g7 => ?_)
      · have h := (if_pos g7).symm.trans h
        refine r_aload_n hX dX9_planned_22 rfl ?_
        refine r_iload_n hX dX9_planned_23 rfl ?_
        obtain ⟨z8, p9, h⟩ := bnd_s h
        refine r_callV (As := [.int v1]) hX dX9_planned_24 mk_Fm_aims mi_Fm_aims ml_9_341 rfl rfl rfl rfl (by decide) (by decide) (Nat.le_of_ble_eq_true rfl) hr (ok_Fm_aims (d := d + 0) n v1 M p9) ?_
        refine r_ifb_ne (tgt := 33) hX dX9_planned_27 (by decide) (fun g10 => ?_) (fun g10 => ?_)
        · have h := (if_pos g10).symm.trans h
          refine r_aload_n hX dX9_planned_33 rfl ?_
          refine r_iconst (v := (0 : Int32)) hX dX9_planned_34 (by decide) ?_
          refine r_iconst (v := (3 : Int32)) hX dX9_planned_35 (by decide) ?_
          obtain ⟨z11, p12, h⟩ := bnd_s h
          refine r_callV (As := [.int (0 : Int32), .int (3 : Int32)]) hX dX9_planned_36 mk_Fm_copies mi_Fm_copies ml_9_311 rfl rfl rfl rfl (by decide) (by decide) (Nat.le_of_ble_eq_true rfl) hr (ok_Fm_copies (d := d + 6) n (0 : Int32) (3 : Int32) z8.2 p12) ?_
          refine r_aload_n hX dX9_planned_39 rfl ?_
          obtain ⟨z13, p14, h⟩ := bnd_s h
          refine r_callV (As := []) hX dX9_planned_40 mk_Fm_plans mi_Fm_plans ml_9_344 rfl rfl rfl rfl (by decide) (by decide) (Nat.le_of_ble_eq_true rfl) hr (ok_Fm_plans (d := d + 1) n z11 p14) ?_
          refine r_aload_n hX dX9_planned_43 rfl ?_
          refine r_iconst (v := (3 : Int32)) hX dX9_planned_44 (by decide) ?_
          refine r_iconst (v := (0 : Int32)) hX dX9_planned_45 (by decide) ?_
          obtain ⟨z15, p16, h⟩ := bnd_s h
          refine r_callV (As := [.int (3 : Int32), .int (0 : Int32)]) hX dX9_planned_46 mk_Fm_copies mi_Fm_copies ml_9_311 rfl rfl rfl rfl (by decide) (by decide) (Nat.le_of_ble_eq_true rfl) hr (ok_Fm_copies (d := d + 6) n (3 : Int32) (0 : Int32) z13 p16) ?_
          refine r_iload_n hX dX9_planned_49 rfl ?_
          refine r_aload_n hX dX9_planned_50 rfl ?_
          refine r_getf (v := .int (z15.1 94 33)) hX dX9_planned_51 fl_9_323 rfl (by decide) (by decide) rfl ?_
          refine r_icmp_lt (tgt := 60) hX dX9_planned_54 (by decide) (fun g17 => ?_) (fun g17 => ?_)
          · have h := (if_pos g17).symm.trans h
            refine r_aload_n hX dX9_planned_60 rfl ?_
            refine r_getf (v := .ref 108) hX dX9_planned_61 fl_9_50 rfl (by decide) (by decide) rfl ?_
            refine r_iload_n hX dX9_planned_64 rfl ?_
            obtain ⟨k18, h⟩ := grd_s h
            refine r_iald hX dX9_planned_65 rfl (by decide) (inb_at rfl k18) ?_
            refine r_istore (L1 := [.ref 94, .int v1, .int v2, .int v3, .int (z15.1 108 (tn v2))]) hX dX9_planned_66 (Nat.le_of_ble_eq_true rfl) rfl ?_
            refine r_iload_n hX dX9_planned_68 rfl ?_
            refine r_if_ne (tgt := 77) hX dX9_planned_69 (by decide) (fun g19 => ?_) (fun g19 => ?_)
            · have h := (if_neg g19).symm.trans h
              refine r_iload_n hX dX9_planned_77 rfl ?_
              refine r_iconst (v := (1 : Int32)) hX dX9_planned_78 (by decide) ?_
              refine r_icmp_ne (tgt := 92) hX dX9_planned_79 (by decide) (fun g20 => ?_) (fun g20 => ?_)
              · have h := (if_neg g20).symm.trans h
                refine r_aload_n hX dX9_planned_92 rfl ?_
                refine r_getf (v := .ref 107) hX dX9_planned_93 fl_9_47 rfl (by decide) (by decide) rfl ?_
                refine r_iload hX dX9_planned_96 rfl ?_
                obtain ⟨k21, h⟩ := grd_s h
                refine r_iald hX dX9_planned_98 rfl (by decide) (inb_at rfl k21) ?_
                obtain rfl := Option.some.inj h
                exact r_iret hX hT dX9_planned_99 rfl
              · have h := (if_pos g20).symm.trans h
                refine r_aload_n hX dX9_planned_82 rfl ?_
                refine r_getf (v := .ref 105) hX dX9_planned_83 fl_9_41 rfl (by decide) (by decide) rfl ?_
                refine r_iload hX dX9_planned_86 rfl ?_
                obtain ⟨k22, h⟩ := grd_s h
                refine r_iald hX dX9_planned_88 rfl (by decide) (inb_at rfl k22) ?_
                refine r_goto (tgt := 99) hX dX9_planned_89 (by decide) ?_
                obtain rfl := Option.some.inj h
                exact r_iret hX hT dX9_planned_99 rfl
            · have h := (if_pos g19).symm.trans h
              refine r_iload hX dX9_planned_72 rfl ?_
              refine r_goto (tgt := 99) hX dX9_planned_74 (by decide) ?_
              obtain rfl := Option.some.inj h
              exact r_iret hX hT dX9_planned_99 rfl
          · have h := (if_neg g17).symm.trans h
            refine r_bipush (v := (-4 : Int32)) hX dX9_planned_57 (by decide) ?_
            obtain rfl := Option.some.inj h
            exact r_iret hX hT dX9_planned_59 rfl
        · have h := (if_neg (show ¬ z8.1 = true from fun e => by rw [g10] at e; cases e)).symm.trans h
          refine r_bipush (v := (-2 : Int32)) hX dX9_planned_30 (by decide) ?_
          obtain rfl := Option.some.inj h
          exact r_iret hX hT dX9_planned_32 rfl
      · have h := (if_neg (show ¬ z5 = true from fun e => by rw [g7] at e; cases e)).symm.trans h
        refine r_iconst (v := (-1 : Int32)) hX dX9_planned_20 (by decide) ?_
        obtain rfl := Option.some.inj h
        exact r_iret hX hT dX9_planned_21 rfl
def Fm_waits (n : Nat) (v1 : Int32) (v2 : Int32) (M : Mm) : Option (Int32 × Mm) :=
  bnd (Fm_isRule v1 M) (fun z1 =>
  if z1 = true then
    bnd (Fm_isDemand v2 M) (fun z4 =>
    if z4 = true then
      bnd (Fm_aims n v1 M) (fun z7 =>
      if z7.1 = true then
        grd (inb v2 40) (
        if (z7.2.1 109 (tn v2)) = (0 : Int32) then
          some ((-4 : Int32), z7.2)
        else
          bnd (Fm_waitsMany n v2 z7.2) (fun z12 =>
          some (z12, z7.2)))
      else
        some ((-2 : Int32), z7.2))
    else
      some ((-1 : Int32), M))
  else
    some ((-1 : Int32), M))
set_option maxRecDepth 100000 in
theorem ok_Fm_waits {G : Gm} {l : Launch} {d : Nat} (n : Nat) (v1 : Int32) (v2 : Int32) (M : Mm) {z : Int32 × Mm}  (h : Fm_waits n v1 v2 M = some z) : CK G l (d + 7) md_Fm_waits [.ref 94, .int v1, .int v2] M SS (some (.int z.1)) z.2 SS := by
  refine ck_of mk_Fm_waits (Nat.le_of_ble_eq_true rfl) ⟨Nat.le_refl _, Nat.le_refl _⟩ (fun X hX hT hS hr hl => ?_)
  subst hl
  unfold Fm_waits at h
  show WR G X (mQ G X (some (.int z.1)) z.2 SS) 0 [.ref 94, .int v1, .int v2] [] M SS
  refine r_iload_n hX dX9_waits_0 rfl ?_
  obtain ⟨z1, p2, h⟩ := bnd_s h
  refine r_callS (As := [.int v1]) hX dX9_waits_1 mk_Fm_isRule ms_Fm_isRule ml_9_265 rfl rfl rfl (Nat.le_of_ble_eq_true rfl) hr (ok_Fm_isRule (d := d + 5) v1 M p2) ?_
  refine r_ifb_eq (tgt := 15) hX dX9_waits_4 (by decide) (fun g3 => ?_) (fun g3 => ?_)
  · have h := (if_neg (show ¬ z1 = true from fun e => by rw [g3] at e; cases e)).symm.trans h
    refine r_iconst (v := (-1 : Int32)) hX dX9_waits_15 (by decide) ?_
    obtain rfl := Option.some.inj h
    exact r_iret hX hT dX9_waits_16 rfl
  · have h := (if_pos g3).symm.trans h
    refine r_aload_n hX dX9_waits_7 rfl ?_
    refine r_iload_n hX dX9_waits_8 rfl ?_
    obtain ⟨z4, p5, h⟩ := bnd_s h
    refine r_callV (As := [.int v2]) hX dX9_waits_9 mk_Fm_isDemand mi_Fm_isDemand ml_9_281 rfl rfl rfl rfl (by decide) (by decide) (Nat.le_of_ble_eq_true rfl) hr (ok_Fm_isDemand (d := d + 5) v2 M p5) ?_
    refine r_ifb_ne (tgt := 17) hX dX9_waits_12 (by decide) (fun g6 => ?_) (fun g6 => ?_)
    · have h := (if_pos g6).symm.trans h
      refine r_aload_n hX dX9_waits_17 rfl ?_
      refine r_iload_n hX dX9_waits_18 rfl ?_
      obtain ⟨z7, p8, h⟩ := bnd_s h
      refine r_callV (As := [.int v1]) hX dX9_waits_19 mk_Fm_aims mi_Fm_aims ml_9_341 rfl rfl rfl rfl (by decide) (by decide) (Nat.le_of_ble_eq_true rfl) hr (ok_Fm_aims (d := d + 0) n v1 M p8) ?_
      refine r_ifb_ne (tgt := 28) hX dX9_waits_22 (by decide) (fun g9 => ?_) (fun g9 => ?_)
      · have h := (if_pos g9).symm.trans h
        refine r_aload_n hX dX9_waits_28 rfl ?_
        refine r_getf (v := .ref 109) hX dX9_waits_29 fl_9_53 rfl (by decide) (by decide) rfl ?_
        refine r_iload_n hX dX9_waits_32 rfl ?_
        obtain ⟨k10, h⟩ := grd_s h
        refine r_zald hX dX9_waits_33 rfl (by decide) (inb_at rfl k10) ?_
        refine r_if_eq (tgt := 45) hX dX9_waits_34 (by decide) (fun g11 => ?_) (fun g11 => ?_)
        · have h := (if_pos g11).symm.trans h
          refine r_bipush (v := (-4 : Int32)) hX dX9_waits_45 (by decide) ?_
          obtain rfl := Option.some.inj h
          exact r_iret hX hT dX9_waits_47 rfl
        · have h := (if_neg g11).symm.trans h
          refine r_aload_n hX dX9_waits_37 rfl ?_
          refine r_iload_n hX dX9_waits_38 rfl ?_
          obtain ⟨z12, p13, h⟩ := bnd_s h
          refine r_callV (As := [.int v2]) hX dX9_waits_39 mk_Fm_waitsMany mi_Fm_waitsMany ml_9_335 rfl rfl rfl rfl (by decide) (by decide) (Nat.le_of_ble_eq_true rfl) hr (ok_Fm_waitsMany (d := d + 3) n v2 z7.2 p13) ?_
          refine r_goto (tgt := 47) hX dX9_waits_42 (by decide) ?_
          obtain rfl := Option.some.inj h
          exact r_iret hX hT dX9_waits_47 rfl
      · have h := (if_neg (show ¬ z7.1 = true from fun e => by rw [g9] at e; cases e)).symm.trans h
        refine r_bipush (v := (-2 : Int32)) hX dX9_waits_25 (by decide) ?_
        obtain rfl := Option.some.inj h
        exact r_iret hX hT dX9_waits_27 rfl
    · have h := (if_neg (show ¬ z4 = true from fun e => by rw [g6] at e; cases e)).symm.trans h
      refine r_iconst (v := (-1 : Int32)) hX dX9_waits_15 (by decide) ?_
      obtain rfl := Option.some.inj h
      exact r_iret hX hT dX9_waits_16 rfl
def Fm_parkFor_b2 (n : Nat) (c1 : Int32) (Mc : Mm) (v2 : Int32) : Option ((Int32) ⊕ ((Unit) ⊕ (Int32))) :=
  bnd (Fm_of c1 (5 : Int32) Mc) (fun z1 =>
  grd (inb (1 : Int32) 12256) (
  if (Mc.1 95 (tn (1 : Int32))) < (v2 + z1) then
    some (.inr (.inl ()))
  else
    bnd (Fm_canJump n c1 v2 Mc) (fun z5 =>
    if z5 = true then
      some (.inr (.inr v2))
    else
      some (.inl (v2 + (1 : Int32))))))
def Fm_parkFor (n : Nat) (v1 : Int32) (M : Mm) : Option (Int32) :=
  bnd (loop (fun s1 : Int32 => Fm_parkFor_b2 n v1 M s1) n (0 : Int32)) (fun y8 =>
  elS y8 (fun x9 =>
    some (-1 : Int32))
    (fun e10 => some e10))
set_option maxRecDepth 100000 in
theorem ok_Fm_parkFor_b2 (n : Nat) (v2 : Int32) {c1 : Int32} {Mc : Mm} {z : Int32} {oo : (Int32) ⊕ ((Unit) ⊕ (Int32))} {G : Gm} {X : Cx} {d : Nat}  (hX : XK G X 9 cX9_parkFor 3 (d + 5)) (hT : XT X (some .int) "parkFor") (hr : XR X SS) (hc : ∀ s1 : Int32, oo = .inl s1 → WR G X (mQ G X (some (.int z)) Mc SS) 2 [.ref 94, .int c1, .int s1] [] Mc SS) (hx : ∀ x1 : (Unit) ⊕ (Int32), oo = .inr x1 → elS x1 (fun x2 => WR G X (mQ G X (some (.int z)) Mc SS) 36 [.ref 94, vU, vU] [] Mc SS) (fun y1 => y1 = z)) (h : Fm_parkFor_b2 n c1 Mc v2 = some oo) : WR G X (mQ G X (some (.int z)) Mc SS) 2 [.ref 94, .int c1, .int v2] [] Mc SS := by
  unfold Fm_parkFor_b2 at h
  refine r_iload_n hX dX9_parkFor_2 rfl ?_
  refine r_aload_n hX dX9_parkFor_3 rfl ?_
  refine r_iload_n hX dX9_parkFor_4 rfl ?_
  refine r_iconst (v := (5 : Int32)) hX dX9_parkFor_5 (by decide) ?_
  obtain ⟨z1, p2, h⟩ := bnd_s h
  refine r_callV (As := [.int c1, .int (5 : Int32)]) hX dX9_parkFor_6 mk_Fm_of mi_Fm_of ml_9_79 rfl rfl rfl rfl (by decide) (by decide) (Nat.le_of_ble_eq_true rfl) hr (ok_Fm_of (d := d + 4) c1 (5 : Int32) Mc p2) ?_
  refine r_iadd hX dX9_parkFor_9 ?_
  refine r_aload_n hX dX9_parkFor_10 rfl ?_
  refine r_getf (v := .ref 95) hX dX9_parkFor_11 fl_9_7 rfl (by decide) (by decide) rfl ?_
  refine r_iconst (v := (1 : Int32)) hX dX9_parkFor_14 (by decide) ?_
  obtain ⟨k3, h⟩ := grd_s h
  refine r_iald hX dX9_parkFor_15 rfl (by decide) (inb_at rfl k3) ?_
  refine r_icmp_gt (tgt := 36) hX dX9_parkFor_16 (by decide) (fun g4 => ?_) (fun g4 => ?_)
  · have h := (if_pos g4).symm.trans h
    refine WR.fg (L' := [.ref 94, vU, vU]) ⟨Or.inr rfl, Or.inl rfl, Or.inl rfl, trivial⟩ ?_
    exact hx _ (Option.some.inj h).symm
  · have h := (if_neg g4).symm.trans h
    refine r_aload_n hX dX9_parkFor_19 rfl ?_
    refine r_iload_n hX dX9_parkFor_20 rfl ?_
    refine r_iload_n hX dX9_parkFor_21 rfl ?_
    obtain ⟨z5, p6, h⟩ := bnd_s h
    refine r_callV (As := [.int c1, .int v2]) hX dX9_parkFor_22 mk_Fm_canJump mi_Fm_canJump ml_9_293 rfl rfl rfl rfl (by decide) (by decide) (Nat.le_of_ble_eq_true rfl) hr (ok_Fm_canJump (d := d + 0) n c1 v2 Mc p6) ?_
    refine r_ifb_eq (tgt := 30) hX dX9_parkFor_25 (by decide) (fun g7 => ?_) (fun g7 => ?_)
    · have h := (if_neg (show ¬ z5 = true from fun e => by rw [g7] at e; cases e)).symm.trans h
      refine r_iinc (v := v2 + (1 : Int32)) (L1 := [.ref 94, .int c1, .int (v2 + (1 : Int32))]) hX dX9_parkFor_30 rfl rfl rfl ?_
      refine r_goto (tgt := 2) hX dX9_parkFor_33 (by decide) ?_
      exact hc (v2 + (1 : Int32)) (Option.some.inj h).symm
    · have h := (if_pos g7).symm.trans h
      refine r_iload_n hX dX9_parkFor_28 rfl ?_
      obtain rfl := hx _ (Option.some.inj h).symm
      exact r_iret hX hT dX9_parkFor_29 rfl
set_option maxRecDepth 100000 in
theorem ok_Fm_parkFor {G : Gm} {l : Launch} {d : Nat} (n : Nat) (v1 : Int32) (M : Mm) {z : Int32}  (h : Fm_parkFor n v1 M = some z) : CK G l (d + 5) md_Fm_parkFor [.ref 94, .int v1] M SS (some (.int z)) M SS := by
  refine ck_of mk_Fm_parkFor (Nat.le_of_ble_eq_true rfl) ⟨Nat.le_refl _, Nat.le_refl _⟩ (fun X hX hT hS hr hl => ?_)
  subst hl
  unfold Fm_parkFor at h
  show WR G X (mQ G X (some (.int z)) M SS) 0 [.ref 94, .int v1, vU] [] M SS
  refine r_iconst (v := (0 : Int32)) hX dX9_parkFor_0 (by decide) ?_
  refine r_istore_n (L1 := [.ref 94, .int v1, .int (0 : Int32)]) hX dX9_parkFor_1 (Nat.le_of_ble_eq_true rfl) rfl ?_
  obtain ⟨y8, h1, h⟩ := bnd_s h
  refine loop_ok (P := fun s1 : Int32 => WR G X (mQ G X (some (.int z)) M SS) 2 [.ref 94, .int v1, .int s1] [] M SS) (E := fun x1 : (Unit) ⊕ (Int32) => elS x1 (fun x2 => WR G X (mQ G X (some (.int z)) M SS) 36 [.ref 94, vU, vU] [] M SS) (fun y1 => y1 = z)) (fun s1 o1 g1 g2 g3 => ok_Fm_parkFor_b2 n s1  hX hT hr g2 g3 g1) n (0 : Int32) y8 h1 ?_
  cases y8 with
  | inr e10 =>
    exact Option.some.inj h
  | inl x9 =>
    show WR G X (mQ G X (some (.int z)) M SS) 36 [.ref 94, vU, vU] [] M SS
    refine r_iconst (v := (-1 : Int32)) hX dX9_parkFor_36 (by decide) ?_
    obtain rfl := Option.some.inj h
    exact r_iret hX hT dX9_parkFor_37 rfl
def Fm_parks_j72 (v1 : Int32) : Option ((Int32) ⊕ ((Unit) ⊕ (Bool × Mm))) :=
  some (.inl (v1 + (1 : Int32)))
def Fm_parks_b2 (n : Nat) (Mc : Mm) (v1 : Int32) : Option ((Int32) ⊕ ((Unit) ⊕ (Bool × Mm))) :=
  grd (inb (7 : Int32) 12256) (
  if (Mc.1 95 (tn (7 : Int32))) ≤ v1 then
    some (.inr (.inl ()))
  else
    bnd (Fm_isLeft v1 Mc) (fun z3 =>
    if z3 = true then
      grd (inb v1 40) (
      if (Mc.1 111 (tn v1)) = (0 : Int32) then
        bnd (Fm_parkFor n v1 Mc) (fun z8 =>
        if z8 = (-1 : Int32) then
          Fm_parks_j72 v1
        else
          bnd (Fm_parkFor n v1 Mc) (fun z11 =>
          bnd (Fm_sets v1 (4 : Int32) z11 Mc) (fun z13 =>
          grd (inb v1 40) (
          some (.inr (.inr (true, ((up2 (up2 z13.1 111 (tn v1) (vp_nar .boolean (1 : Int32))) 94 34 (((up2 z13.1 111 (tn v1) (vp_nar .boolean (1 : Int32))) 94 34) + (1 : Int32))), z13.2))))))))
      else
        Fm_parks_j72 v1)
    else
      Fm_parks_j72 v1))
def Fm_parks (n : Nat) (M : Mm) : Option (Bool × Mm) :=
  bnd (loop (fun s1 : Int32 => Fm_parks_b2 n M s1) n (0 : Int32)) (fun y16 =>
  elS y16 (fun x17 =>
    some (false, M))
    (fun e18 => some e18))
set_option maxRecDepth 100000 in
theorem ok_Fm_parks_j72 (n : Nat) (v1 : Int32)  {Mc : Mm} {z : Bool × Mm} {oo : (Int32) ⊕ ((Unit) ⊕ (Bool × Mm))} {G : Gm} {X : Cx} {d : Nat}  (hX : XK G X 9 cX9_parks 2 (d + 6)) (hT : XT X (some .boolean) "parks") (hr : XR X SS) (hc : ∀ s1 : Int32, oo = .inl s1 → WR G X (mQ G X (some (.int (b2i z.1))) z.2 SS) 2 [.ref 94, .int s1] [] Mc SS) (hx : ∀ x1 : (Unit) ⊕ (Bool × Mm), oo = .inr x1 → elS x1 (fun x2 => WR G X (mQ G X (some (.int (b2i z.1))) z.2 SS) 78 [.ref 94, vU] [] Mc SS) (fun y1 => y1 = z)) (h : Fm_parks_j72 v1 = some oo) : WR G X (mQ G X (some (.int (b2i z.1))) z.2 SS) 72 [.ref 94, .int v1] [] Mc SS := by
  unfold Fm_parks_j72 at h
  refine r_iinc (v := v1 + (1 : Int32)) (L1 := [.ref 94, .int (v1 + (1 : Int32))]) hX dX9_parks_72 rfl rfl rfl ?_
  refine r_goto (tgt := 2) hX dX9_parks_75 (by decide) ?_
  exact hc (v1 + (1 : Int32)) (Option.some.inj h).symm
set_option maxRecDepth 100000 in
theorem ok_Fm_parks_b2 (n : Nat) (v1 : Int32)  {Mc : Mm} {z : Bool × Mm} {oo : (Int32) ⊕ ((Unit) ⊕ (Bool × Mm))} {G : Gm} {X : Cx} {d : Nat}  (hX : XK G X 9 cX9_parks 2 (d + 6)) (hT : XT X (some .boolean) "parks") (hr : XR X SS) (hc : ∀ s1 : Int32, oo = .inl s1 → WR G X (mQ G X (some (.int (b2i z.1))) z.2 SS) 2 [.ref 94, .int s1] [] Mc SS) (hx : ∀ x1 : (Unit) ⊕ (Bool × Mm), oo = .inr x1 → elS x1 (fun x2 => WR G X (mQ G X (some (.int (b2i z.1))) z.2 SS) 78 [.ref 94, vU] [] Mc SS) (fun y1 => y1 = z)) (h : Fm_parks_b2 n Mc v1 = some oo) : WR G X (mQ G X (some (.int (b2i z.1))) z.2 SS) 2 [.ref 94, .int v1] [] Mc SS := by
  unfold Fm_parks_b2 at h
  refine r_iload_n hX dX9_parks_2 rfl ?_
  refine r_aload_n hX dX9_parks_3 rfl ?_
  refine r_getf (v := .ref 95) hX dX9_parks_4 fl_9_7 rfl (by decide) (by decide) rfl ?_
  refine r_bipush (v := (7 : Int32)) hX dX9_parks_7 (by decide) ?_
  obtain ⟨k1, h⟩ := grd_s h
  refine r_iald hX dX9_parks_9 rfl (by decide) (inb_at rfl k1) ?_
  refine r_icmp_ge (tgt := 78) hX dX9_parks_10 (by decide) (fun g2 => ?_) (fun g2 => ?_)
  · have h := (if_pos g2).symm.trans h
    refine WR.fg (L' := [.ref 94, vU]) ⟨Or.inr rfl, Or.inl rfl, trivial⟩ ?_
    exact hx _ (Option.some.inj h).symm
  · have h := (if_neg g2).symm.trans h
    refine r_aload_n hX dX9_parks_13 rfl ?_
    refine r_iload_n hX dX9_parks_14 rfl ?_
    obtain ⟨z3, p4, h⟩ := bnd_s h
    refine r_callV (As := [.int v1]) hX dX9_parks_15 mk_Fm_isLeft mi_Fm_isLeft ml_9_332 rfl rfl rfl rfl (by decide) (by decide) (Nat.le_of_ble_eq_true rfl) hr (ok_Fm_isLeft (d := d + 5) v1 Mc p4) ?_
    refine r_ifb_eq (tgt := 72) hX dX9_parks_18 (by decide) (fun g5 => ?_) (fun g5 => ?_)
    · have h := (if_neg (show ¬ z3 = true from fun e => by rw [g5] at e; cases e)).symm.trans h
      exact ok_Fm_parks_j72 n v1   hX hT hr hc hx h
    · have h := (if_pos g5).symm.trans h
      refine r_aload_n hX dX9_parks_21 rfl ?_
      refine r_getf (v := .ref 111) hX dX9_parks_22 fl_9_60 rfl (by decide) (by decide) rfl ?_
      refine r_iload_n hX dX9_parks_25 rfl ?_
      obtain ⟨k6, h⟩ := grd_s h
      refine r_zald hX dX9_parks_26 rfl (by decide) (inb_at rfl k6) ?_
      refine r_if_ne (tgt := 72) hX dX9_parks_27 (by decide) (fun g7 => ?_) (fun g7 => ?_)
      · have h := (if_neg g7).symm.trans h
        exact ok_Fm_parks_j72 n v1   hX hT hr hc hx h
      · have h := (if_pos g7).symm.trans h
        refine r_aload_n hX dX9_parks_30 rfl ?_
        refine r_iload_n hX dX9_parks_31 rfl ?_
        obtain ⟨z8, p9, h⟩ := bnd_s h
        refine r_callV (As := [.int v1]) hX dX9_parks_32 mk_Fm_parkFor mi_Fm_parkFor ml_9_350 rfl rfl rfl rfl (by decide) (by decide) (Nat.le_of_ble_eq_true rfl) hr (ok_Fm_parkFor (d := d + 0) n v1 Mc p9) ?_
        refine r_iconst (v := (-1 : Int32)) hX dX9_parks_35 (by decide) ?_
        refine r_icmp_ne (tgt := 42) hX dX9_parks_36 (by decide) (fun g10 => ?_) (fun g10 => ?_)
        · have h := (if_neg g10).symm.trans h
          refine r_aload_n hX dX9_parks_42 rfl ?_
          refine r_iload_n hX dX9_parks_43 rfl ?_
          refine r_iconst (v := (4 : Int32)) hX dX9_parks_44 (by decide) ?_
          refine r_aload_n hX dX9_parks_45 rfl ?_
          refine r_iload_n hX dX9_parks_46 rfl ?_
          obtain ⟨z11, p12, h⟩ := bnd_s h
          refine r_callV (As := [.int v1]) hX dX9_parks_47 mk_Fm_parkFor mi_Fm_parkFor ml_9_350 rfl rfl rfl rfl (by decide) (by decide) (Nat.le_of_ble_eq_true rfl) hr (ok_Fm_parkFor (d := d + 0) n v1 Mc p12) ?_
          obtain ⟨z13, p14, h⟩ := bnd_s h
          refine r_callV (As := [.int v1, .int (4 : Int32), .int z11]) hX dX9_parks_50 mk_Fm_sets mi_Fm_sets ml_9_256 rfl rfl rfl rfl (by decide) (by decide) (Nat.le_of_ble_eq_true rfl) hr (ok_Fm_sets (d := d + 5) v1 (4 : Int32) z11 Mc p14) ?_
          refine r_aload_n hX dX9_parks_53 rfl ?_
          refine r_getf (v := .ref 111) hX dX9_parks_54 fl_9_60 rfl (by decide) (by decide) rfl ?_
          refine r_iload_n hX dX9_parks_57 rfl ?_
          refine r_iconst (v := (1 : Int32)) hX dX9_parks_58 (by decide) ?_
          obtain ⟨k15, h⟩ := grd_s h
          refine r_zast hX dX9_parks_59 rfl (by decide) (inb_at rfl k15) ?_
          refine r_aload_n hX dX9_parks_60 rfl ?_
          refine r_aload_n hX dX9_parks_61 rfl ?_
          refine r_getf (v := .int ((up2 z13.1 111 (tn v1) (vp_nar .boolean (1 : Int32))) 94 34)) hX dX9_parks_62 fl_9_326 rfl (by decide) (by decide) rfl ?_
          refine r_iconst (v := (1 : Int32)) hX dX9_parks_65 (by decide) ?_
          refine r_iadd hX dX9_parks_66 ?_
          refine r_putI' hX dX9_parks_67 fl_9_326 rfl (by decide) (by decide) (okI_int _) ?_
          refine r_iconst (v := (1 : Int32)) hX dX9_parks_70 (by decide) ?_
          obtain rfl := hx _ (Option.some.inj h).symm
          exact r_iret (v := b2i true) hX hT dX9_parks_71 (okI_b true).1
        · have h := (if_pos g10).symm.trans h
          refine r_goto (tgt := 72) hX dX9_parks_39 (by decide) ?_
          exact ok_Fm_parks_j72 n v1   hX hT hr hc hx h
set_option maxRecDepth 100000 in
theorem ok_Fm_parks {G : Gm} {l : Launch} {d : Nat} (n : Nat) (M : Mm) {z : Bool × Mm}  (h : Fm_parks n M = some z) : CK G l (d + 6) md_Fm_parks [.ref 94] M SS (some (.int (b2i z.1))) z.2 SS := by
  refine ck_of mk_Fm_parks (Nat.le_of_ble_eq_true rfl) ⟨Nat.le_refl _, Nat.le_refl _⟩ (fun X hX hT hS hr hl => ?_)
  subst hl
  unfold Fm_parks at h
  show WR G X (mQ G X (some (.int (b2i z.1))) z.2 SS) 0 [.ref 94, vU] [] M SS
  refine r_iconst (v := (0 : Int32)) hX dX9_parks_0 (by decide) ?_
  refine r_istore_n (L1 := [.ref 94, .int (0 : Int32)]) hX dX9_parks_1 (Nat.le_of_ble_eq_true rfl) rfl ?_
  obtain ⟨y16, h1, h⟩ := bnd_s h
  refine loop_ok (P := fun s1 : Int32 => WR G X (mQ G X (some (.int (b2i z.1))) z.2 SS) 2 [.ref 94, .int s1] [] M SS) (E := fun x1 : (Unit) ⊕ (Bool × Mm) => elS x1 (fun x2 => WR G X (mQ G X (some (.int (b2i z.1))) z.2 SS) 78 [.ref 94, vU] [] M SS) (fun y1 => y1 = z)) (fun s1 o1 g1 g2 g3 => ok_Fm_parks_b2 n s1  hX hT hr g2 g3 g1) n (0 : Int32) y16 h1 ?_
  cases y16 with
  | inr e18 =>
    exact Option.some.inj h
  | inl x17 =>
    show WR G X (mQ G X (some (.int (b2i z.1))) z.2 SS) 78 [.ref 94, vU] [] M SS
    refine r_iconst (v := (0 : Int32)) hX dX9_parks_78 (by decide) ?_
    obtain rfl := Option.some.inj h
    exact r_iret (v := b2i false) hX hT dX9_parks_79 (okI_b false).1
def Fm_unravel_b39 (n : Nat) (M : Mm) : Option ((Mm) ⊕ (Mm)) :=
  if (M.1 94 32) ≤ (M.1 94 33) then
    some (.inr M)
  else
    bnd (Fm_parks n M) (fun z15 =>
    if z15.1 = true then
      bnd (Fm_plans n z15.2) (fun z18 =>
      some (.inl z18))
    else
      some (.inr z15.2))
def Fm_unravel_j64 (n : Nat) (v2 : Int32) (M : Mm) : Option (Int32 × Mm) :=
  bnd (Fm_top n M) (fun z21 =>
  bnd (Fm_copies n (3 : Int32) (0 : Int32) M) (fun z23 =>
  if v2 = (0 : Int32) then
    some (z23.1 94 34, z23)
  else
    if v2 = (1 : Int32) then
      some (z23.1 94 33, z23)
    else
      if v2 = (2 : Int32) then
        some ((z23.1 94 32) - (z23.1 94 33), z23)
      else
        some (z21, z23)))
def Fm_unravel (n : Nat) (v1 : Int32) (v2 : Int32) (M : Mm) : Option (Int32 × Mm) :=
  bnd (Fm_isRule v1 M) (fun z1 =>
  if z1 = true then
    bnd (Fm_in v2 (0 : Int32) (3 : Int32) M) (fun z4 =>
    if z4 = true then
      bnd (Fm_aims n v1 M) (fun z7 =>
      if z7.1 = true then
        bnd (Fm_copies n (0 : Int32) (3 : Int32) z7.2) (fun z10 =>
        bnd (Fm_plans n z10) (fun z12 =>
        bnd (loop (fun s1 : Mm => Fm_unravel_b39 n s1) n z12) (fun y20 =>
        Fm_unravel_j64 n v2 y20)))
      else
        some ((-2 : Int32), z7.2))
    else
      some ((-1 : Int32), M))
  else
    some ((-1 : Int32), M))
set_option maxRecDepth 100000 in
theorem ok_Fm_unravel_b39 (n : Nat) (M : Mm) {c2 : Int32} {z : Int32 × Mm} {oo : (Mm) ⊕ (Mm)} {G : Gm} {X : Cx} {d : Nat}  (hX : XK G X 9 cX9_unravel 4 (d + 7)) (hT : XT X (some .int) "unravel") (hr : XR X SS) (hc : ∀ s1 : Mm, oo = .inl s1 → WR G X (mQ G X (some (.int z.1)) z.2 SS) 39 [.ref 94, vU, .int c2, vU] [] s1 SS) (hx : ∀ x1 : Mm, oo = .inr x1 → WR G X (mQ G X (some (.int z.1)) z.2 SS) 64 [.ref 94, vU, .int c2, vU] [] x1 SS) (h : Fm_unravel_b39 n M = some oo) : WR G X (mQ G X (some (.int z.1)) z.2 SS) 39 [.ref 94, vU, .int c2, vU] [] M SS := by
  unfold Fm_unravel_b39 at h
  refine r_aload_n hX dX9_unravel_39 rfl ?_
  refine r_getf (v := .int (M.1 94 33)) hX dX9_unravel_40 fl_9_323 rfl (by decide) (by decide) rfl ?_
  refine r_aload_n hX dX9_unravel_43 rfl ?_
  refine r_getf (v := .int (M.1 94 32)) hX dX9_unravel_44 fl_9_314 rfl (by decide) (by decide) rfl ?_
  refine r_icmp_ge (tgt := 64) hX dX9_unravel_47 (by decide) (fun g14 => ?_) (fun g14 => ?_)
  · have h := (if_pos g14).symm.trans h
    exact hx _ (Option.some.inj h).symm
  · have h := (if_neg g14).symm.trans h
    refine r_aload_n hX dX9_unravel_50 rfl ?_
    obtain ⟨z15, p16, h⟩ := bnd_s h
    refine r_callV (As := []) hX dX9_unravel_51 mk_Fm_parks mi_Fm_parks ml_9_353 rfl rfl rfl rfl (by decide) (by decide) (Nat.le_of_ble_eq_true rfl) hr (ok_Fm_parks (d := d + 0) n M p16) ?_
    refine r_ifb_eq (tgt := 64) hX dX9_unravel_54 (by decide) (fun g17 => ?_) (fun g17 => ?_)
    · have h := (if_neg (show ¬ z15.1 = true from fun e => by rw [g17] at e; cases e)).symm.trans h
      exact hx _ (Option.some.inj h).symm
    · have h := (if_pos g17).symm.trans h
      refine r_aload_n hX dX9_unravel_57 rfl ?_
      obtain ⟨z18, p19, h⟩ := bnd_s h
      refine r_callV (As := []) hX dX9_unravel_58 mk_Fm_plans mi_Fm_plans ml_9_344 rfl rfl rfl rfl (by decide) (by decide) (Nat.le_of_ble_eq_true rfl) hr (ok_Fm_plans (d := d + 1) n z15.2 p19) ?_
      refine r_goto (tgt := 39) hX dX9_unravel_61 (by decide) ?_
      exact hc z18 (Option.some.inj h).symm
set_option maxRecDepth 100000 in
theorem ok_Fm_unravel_j64 (n : Nat) (v2 : Int32) (M : Mm) {z : Int32 × Mm} {G : Gm} {X : Cx} {d : Nat}  (hX : XK G X 9 cX9_unravel 4 (d + 7)) (hT : XT X (some .int) "unravel") (hr : XR X SS) (h : Fm_unravel_j64 n v2 M = some z) : WR G X (mQ G X (some (.int z.1)) z.2 SS) 64 [.ref 94, vU, .int v2, vU] [] M SS := by
  unfold Fm_unravel_j64 at h
  refine r_aload_n hX dX9_unravel_64 rfl ?_
  obtain ⟨z21, p22, h⟩ := bnd_s h
  refine r_callV (As := []) hX dX9_unravel_65 mk_Fm_top mi_Fm_top ml_9_317 rfl rfl rfl rfl (by decide) (by decide) (Nat.le_of_ble_eq_true rfl) hr (ok_Fm_top (d := d + 3) n M p22) ?_
  refine r_istore_n (L1 := [.ref 94, vU, .int v2, .int z21]) hX dX9_unravel_68 (Nat.le_of_ble_eq_true rfl) rfl ?_
  refine r_aload_n hX dX9_unravel_69 rfl ?_
  refine r_iconst (v := (3 : Int32)) hX dX9_unravel_70 (by decide) ?_
  refine r_iconst (v := (0 : Int32)) hX dX9_unravel_71 (by decide) ?_
  obtain ⟨z23, p24, h⟩ := bnd_s h
  refine r_callV (As := [.int (3 : Int32), .int (0 : Int32)]) hX dX9_unravel_72 mk_Fm_copies mi_Fm_copies ml_9_311 rfl rfl rfl rfl (by decide) (by decide) (Nat.le_of_ble_eq_true rfl) hr (ok_Fm_copies (d := d + 6) n (3 : Int32) (0 : Int32) M p24) ?_
  refine r_iload_n hX dX9_unravel_75 rfl ?_
  refine r_if_ne (tgt := 86) hX dX9_unravel_76 (by decide) (fun g25 => ?_) (fun g25 => ?_)
  · have h := (if_neg g25).symm.trans h
    refine r_iload_n hX dX9_unravel_86 rfl ?_
    refine r_iconst (v := (1 : Int32)) hX dX9_unravel_87 (by decide) ?_
    refine r_icmp_ne (tgt := 98) hX dX9_unravel_88 (by decide) (fun g26 => ?_) (fun g26 => ?_)
    · have h := (if_neg g26).symm.trans h
      refine r_iload_n hX dX9_unravel_98 rfl ?_
      refine r_iconst (v := (2 : Int32)) hX dX9_unravel_99 (by decide) ?_
      refine r_icmp_ne (tgt := 115) hX dX9_unravel_100 (by decide) (fun g27 => ?_) (fun g27 => ?_)
      · have h := (if_neg g27).symm.trans h
        refine r_iload_n hX dX9_unravel_115 rfl ?_
        obtain rfl := Option.some.inj h
        exact r_iret hX hT dX9_unravel_116 rfl
      · have h := (if_pos g27).symm.trans h
        refine r_aload_n hX dX9_unravel_103 rfl ?_
        refine r_getf (v := .int (z23.1 94 32)) hX dX9_unravel_104 fl_9_314 rfl (by decide) (by decide) rfl ?_
        refine r_aload_n hX dX9_unravel_107 rfl ?_
        refine r_getf (v := .int (z23.1 94 33)) hX dX9_unravel_108 fl_9_323 rfl (by decide) (by decide) rfl ?_
        refine r_isub hX dX9_unravel_111 ?_
        refine r_goto (tgt := 116) hX dX9_unravel_112 (by decide) ?_
        obtain rfl := Option.some.inj h
        exact r_iret hX hT dX9_unravel_116 rfl
    · have h := (if_pos g26).symm.trans h
      refine r_aload_n hX dX9_unravel_91 rfl ?_
      refine r_getf (v := .int (z23.1 94 33)) hX dX9_unravel_92 fl_9_323 rfl (by decide) (by decide) rfl ?_
      refine r_goto (tgt := 116) hX dX9_unravel_95 (by decide) ?_
      obtain rfl := Option.some.inj h
      exact r_iret hX hT dX9_unravel_116 rfl
  · have h := (if_pos g25).symm.trans h
    refine r_aload_n hX dX9_unravel_79 rfl ?_
    refine r_getf (v := .int (z23.1 94 34)) hX dX9_unravel_80 fl_9_326 rfl (by decide) (by decide) rfl ?_
    refine r_goto (tgt := 116) hX dX9_unravel_83 (by decide) ?_
    obtain rfl := Option.some.inj h
    exact r_iret hX hT dX9_unravel_116 rfl
set_option maxRecDepth 100000 in
theorem ok_Fm_unravel {G : Gm} {l : Launch} {d : Nat} (n : Nat) (v1 : Int32) (v2 : Int32) (M : Mm) {z : Int32 × Mm}  (h : Fm_unravel n v1 v2 M = some z) : CK G l (d + 7) md_Fm_unravel [.ref 94, .int v1, .int v2] M SS (some (.int z.1)) z.2 SS := by
  refine ck_of mk_Fm_unravel (Nat.le_of_ble_eq_true rfl) ⟨Nat.le_refl _, Nat.le_refl _⟩ (fun X hX hT hS hr hl => ?_)
  subst hl
  unfold Fm_unravel at h
  show WR G X (mQ G X (some (.int z.1)) z.2 SS) 0 [.ref 94, .int v1, .int v2, vU] [] M SS
  refine r_iload_n hX dX9_unravel_0 rfl ?_
  obtain ⟨z1, p2, h⟩ := bnd_s h
  refine r_callS (As := [.int v1]) hX dX9_unravel_1 mk_Fm_isRule ms_Fm_isRule ml_9_265 rfl rfl rfl (Nat.le_of_ble_eq_true rfl) hr (ok_Fm_isRule (d := d + 5) v1 M p2) ?_
  refine r_ifb_eq (tgt := 16) hX dX9_unravel_4 (by decide) (fun g3 => ?_) (fun g3 => ?_)
  · have h := (if_neg (show ¬ z1 = true from fun e => by rw [g3] at e; cases e)).symm.trans h
    refine r_iconst (v := (-1 : Int32)) hX dX9_unravel_16 (by decide) ?_
    obtain rfl := Option.some.inj h
    exact r_iret hX hT dX9_unravel_17 rfl
  · have h := (if_pos g3).symm.trans h
    refine r_iload_n hX dX9_unravel_7 rfl ?_
    refine r_iconst (v := (0 : Int32)) hX dX9_unravel_8 (by decide) ?_
    refine r_iconst (v := (3 : Int32)) hX dX9_unravel_9 (by decide) ?_
    obtain ⟨z4, p5, h⟩ := bnd_s h
    refine r_callS (As := [.int v2, .int (0 : Int32), .int (3 : Int32)]) hX dX9_unravel_10 mk_Fm_in ms_Fm_in ml_9_83 rfl rfl rfl (Nat.le_of_ble_eq_true rfl) hr (ok_Fm_in (d := d + 6) v2 (0 : Int32) (3 : Int32) M p5) ?_
    refine r_ifb_ne (tgt := 18) hX dX9_unravel_13 (by decide) (fun g6 => ?_) (fun g6 => ?_)
    · have h := (if_pos g6).symm.trans h
      refine r_aload_n hX dX9_unravel_18 rfl ?_
      refine r_iload_n hX dX9_unravel_19 rfl ?_
      obtain ⟨z7, p8, h⟩ := bnd_s h
      refine r_callV (As := [.int v1]) hX dX9_unravel_20 mk_Fm_aims mi_Fm_aims ml_9_341 rfl rfl rfl rfl (by decide) (by decide) (Nat.le_of_ble_eq_true rfl) hr (ok_Fm_aims (d := d + 0) n v1 M p8) ?_
      refine r_ifb_ne (tgt := 29) hX dX9_unravel_23 (by decide) (fun g9 => ?_) (fun g9 => ?_)
      · have h := (if_pos g9).symm.trans h
        refine r_aload_n hX dX9_unravel_29 rfl ?_
        refine r_iconst (v := (0 : Int32)) hX dX9_unravel_30 (by decide) ?_
        refine r_iconst (v := (3 : Int32)) hX dX9_unravel_31 (by decide) ?_
        obtain ⟨z10, p11, h⟩ := bnd_s h
        refine r_callV (As := [.int (0 : Int32), .int (3 : Int32)]) hX dX9_unravel_32 mk_Fm_copies mi_Fm_copies ml_9_311 rfl rfl rfl rfl (by decide) (by decide) (Nat.le_of_ble_eq_true rfl) hr (ok_Fm_copies (d := d + 6) n (0 : Int32) (3 : Int32) z7.2 p11) ?_
        refine r_aload_n hX dX9_unravel_35 rfl ?_
        obtain ⟨z12, p13, h⟩ := bnd_s h
        refine r_callV (As := []) hX dX9_unravel_36 mk_Fm_plans mi_Fm_plans ml_9_344 rfl rfl rfl rfl (by decide) (by decide) (Nat.le_of_ble_eq_true rfl) hr (ok_Fm_plans (d := d + 1) n z10 p13) ?_
        refine WR.fg (L' := [.ref 94, vU, .int v2, vU]) ⟨Or.inr rfl, Or.inl rfl, Or.inr rfl, Or.inl rfl, trivial⟩ ?_
        obtain ⟨y20, h1, h⟩ := bnd_s h
        refine loop_ok (P := fun s1 : Mm => WR G X (mQ G X (some (.int z.1)) z.2 SS) 39 [.ref 94, vU, .int v2, vU] [] s1 SS) (E := fun x1 : Mm => WR G X (mQ G X (some (.int z.1)) z.2 SS) 64 [.ref 94, vU, .int v2, vU] [] x1 SS) (fun s1 o1 g1 g2 g3 => ok_Fm_unravel_b39 n s1  hX hT hr g2 g3 g1) n z12 y20 h1 ?_
        show WR G X (mQ G X (some (.int z.1)) z.2 SS) 64 [.ref 94, vU, .int v2, vU] [] y20 SS
        exact ok_Fm_unravel_j64 n v2 y20   hX hT hr h
      · have h := (if_neg (show ¬ z7.1 = true from fun e => by rw [g9] at e; cases e)).symm.trans h
        refine r_bipush (v := (-2 : Int32)) hX dX9_unravel_26 (by decide) ?_
        obtain rfl := Option.some.inj h
        exact r_iret hX hT dX9_unravel_28 rfl
    · have h := (if_neg (show ¬ z4 = true from fun e => by rw [g6] at e; cases e)).symm.trans h
      refine r_iconst (v := (-1 : Int32)) hX dX9_unravel_16 (by decide) ?_
      obtain rfl := Option.some.inj h
      exact r_iret hX hT dX9_unravel_17 rfl
def Fm_lasts_j27 (v1 : Int32) (v2 : Int32) (M : Mm) : Option (Int32 × Mm) :=
  bnd (Fm_in v2 (1 : Int32) (9999 : Int32) M) (fun z7 =>
  if z7 = true then
    grd (inb (5 : Int32) 12256) (
    bnd (Fm_sets v1 (7 : Int32) ((M.1 95 (tn (5 : Int32))) + v2) M) (fun z11 =>
    grd (inb (5 : Int32) 12256) (
    some ((z11.1 95 (tn (5 : Int32))) + v2, z11))))
  else
    some ((-1 : Int32), M))
def Fm_lasts (v1 : Int32) (v2 : Int32) (M : Mm) : Option (Int32 × Mm) :=
  bnd (Fm_isDemand v1 M) (fun z1 =>
  if z1 = true then
    bnd (Fm_of v1 (3 : Int32) M) (fun z4 =>
    if z4 = (0 : Int32) then
      Fm_lasts_j27 v1 v2 M
    else
      bnd (Fm_of v1 (3 : Int32) M) (fun z14 =>
      if z14 = (2 : Int32) then
        Fm_lasts_j27 v1 v2 M
      else
        some ((-1 : Int32), M)))
  else
    some ((-1 : Int32), M))
set_option maxRecDepth 100000 in
theorem ok_Fm_lasts_j27 (v1 : Int32) (v2 : Int32) (M : Mm) {z : Int32 × Mm} {G : Gm} {X : Cx} {d : Nat}  (hX : XK G X 9 cX9_lasts 3 (d + 2)) (hT : XT X (some .int) "lasts") (hr : XR X SS) (h : Fm_lasts_j27 v1 v2 M = some z) : WR G X (mQ G X (some (.int z.1)) z.2 SS) 27 [.ref 94, .int v1, .int v2] [] M SS := by
  unfold Fm_lasts_j27 at h
  refine r_iload_n hX dX9_lasts_27 rfl ?_
  refine r_iconst (v := (1 : Int32)) hX dX9_lasts_28 (by decide) ?_
  refine r_sipush (v := (9999 : Int32)) hX dX9_lasts_29 (by decide) ?_
  obtain ⟨z7, p8, h⟩ := bnd_s h
  refine r_callS (As := [.int v2, .int (1 : Int32), .int (9999 : Int32)]) hX dX9_lasts_32 mk_Fm_in ms_Fm_in ml_9_83 rfl rfl rfl (Nat.le_of_ble_eq_true rfl) hr (ok_Fm_in (d := d + 1) v2 (1 : Int32) (9999 : Int32) M p8) ?_
  refine r_ifb_ne (tgt := 40) hX dX9_lasts_35 (by decide) (fun g9 => ?_) (fun g9 => ?_)
  · have h := (if_pos g9).symm.trans h
    refine r_aload_n hX dX9_lasts_40 rfl ?_
    refine r_iload_n hX dX9_lasts_41 rfl ?_
    refine r_bipush (v := (7 : Int32)) hX dX9_lasts_42 (by decide) ?_
    refine r_aload_n hX dX9_lasts_44 rfl ?_
    refine r_getf (v := .ref 95) hX dX9_lasts_45 fl_9_7 rfl (by decide) (by decide) rfl ?_
    refine r_iconst (v := (5 : Int32)) hX dX9_lasts_48 (by decide) ?_
    obtain ⟨k10, h⟩ := grd_s h
    refine r_iald hX dX9_lasts_49 rfl (by decide) (inb_at rfl k10) ?_
    refine r_iload_n hX dX9_lasts_50 rfl ?_
    refine r_iadd hX dX9_lasts_51 ?_
    obtain ⟨z11, p12, h⟩ := bnd_s h
    refine r_callV (As := [.int v1, .int (7 : Int32), .int ((M.1 95 (tn (5 : Int32))) + v2)]) hX dX9_lasts_52 mk_Fm_sets mi_Fm_sets ml_9_256 rfl rfl rfl rfl (by decide) (by decide) (Nat.le_of_ble_eq_true rfl) hr (ok_Fm_sets (d := d + 1) v1 (7 : Int32) ((M.1 95 (tn (5 : Int32))) + v2) M p12) ?_
    refine r_aload_n hX dX9_lasts_55 rfl ?_
    refine r_getf (v := .ref 95) hX dX9_lasts_56 fl_9_7 rfl (by decide) (by decide) rfl ?_
    refine r_iconst (v := (5 : Int32)) hX dX9_lasts_59 (by decide) ?_
    obtain ⟨k13, h⟩ := grd_s h
    refine r_iald hX dX9_lasts_60 rfl (by decide) (inb_at rfl k13) ?_
    refine r_iload_n hX dX9_lasts_61 rfl ?_
    refine r_iadd hX dX9_lasts_62 ?_
    obtain rfl := Option.some.inj h
    exact r_iret hX hT dX9_lasts_63 rfl
  · have h := (if_neg (show ¬ z7 = true from fun e => by rw [g9] at e; cases e)).symm.trans h
    refine r_iconst (v := (-1 : Int32)) hX dX9_lasts_38 (by decide) ?_
    obtain rfl := Option.some.inj h
    exact r_iret hX hT dX9_lasts_39 rfl
set_option maxRecDepth 100000 in
theorem ok_Fm_lasts {G : Gm} {l : Launch} {d : Nat} (v1 : Int32) (v2 : Int32) (M : Mm) {z : Int32 × Mm}  (h : Fm_lasts v1 v2 M = some z) : CK G l (d + 2) md_Fm_lasts [.ref 94, .int v1, .int v2] M SS (some (.int z.1)) z.2 SS := by
  refine ck_of mk_Fm_lasts (Nat.le_of_ble_eq_true rfl) ⟨Nat.le_refl _, Nat.le_refl _⟩ (fun X hX hT hS hr hl => ?_)
  subst hl
  unfold Fm_lasts at h
  show WR G X (mQ G X (some (.int z.1)) z.2 SS) 0 [.ref 94, .int v1, .int v2] [] M SS
  refine r_aload_n hX dX9_lasts_0 rfl ?_
  refine r_iload_n hX dX9_lasts_1 rfl ?_
  obtain ⟨z1, p2, h⟩ := bnd_s h
  refine r_callV (As := [.int v1]) hX dX9_lasts_2 mk_Fm_isDemand mi_Fm_isDemand ml_9_281 rfl rfl rfl rfl (by decide) (by decide) (Nat.le_of_ble_eq_true rfl) hr (ok_Fm_isDemand (d := d + 0) v1 M p2) ?_
  refine r_ifb_eq (tgt := 38) hX dX9_lasts_5 (by decide) (fun g3 => ?_) (fun g3 => ?_)
  · have h := (if_neg (show ¬ z1 = true from fun e => by rw [g3] at e; cases e)).symm.trans h
    refine r_iconst (v := (-1 : Int32)) hX dX9_lasts_38 (by decide) ?_
    obtain rfl := Option.some.inj h
    exact r_iret hX hT dX9_lasts_39 rfl
  · have h := (if_pos g3).symm.trans h
    refine r_aload_n hX dX9_lasts_8 rfl ?_
    refine r_iload_n hX dX9_lasts_9 rfl ?_
    refine r_iconst (v := (3 : Int32)) hX dX9_lasts_10 (by decide) ?_
    obtain ⟨z4, p5, h⟩ := bnd_s h
    refine r_callV (As := [.int v1, .int (3 : Int32)]) hX dX9_lasts_11 mk_Fm_of mi_Fm_of ml_9_79 rfl rfl rfl rfl (by decide) (by decide) (Nat.le_of_ble_eq_true rfl) hr (ok_Fm_of (d := d + 1) v1 (3 : Int32) M p5) ?_
    refine r_if_eq (tgt := 27) hX dX9_lasts_14 (by decide) (fun g6 => ?_) (fun g6 => ?_)
    · have h := (if_pos g6).symm.trans h
      exact ok_Fm_lasts_j27 v1 v2 M   hX hT hr h
    · have h := (if_neg g6).symm.trans h
      refine r_aload_n hX dX9_lasts_17 rfl ?_
      refine r_iload_n hX dX9_lasts_18 rfl ?_
      refine r_iconst (v := (3 : Int32)) hX dX9_lasts_19 (by decide) ?_
      obtain ⟨z14, p15, h⟩ := bnd_s h
      refine r_callV (As := [.int v1, .int (3 : Int32)]) hX dX9_lasts_20 mk_Fm_of mi_Fm_of ml_9_79 rfl rfl rfl rfl (by decide) (by decide) (Nat.le_of_ble_eq_true rfl) hr (ok_Fm_of (d := d + 1) v1 (3 : Int32) M p15) ?_
      refine r_iconst (v := (2 : Int32)) hX dX9_lasts_23 (by decide) ?_
      refine r_icmp_ne (tgt := 38) hX dX9_lasts_24 (by decide) (fun g16 => ?_) (fun g16 => ?_)
      · have h := (if_neg g16).symm.trans h
        refine r_iconst (v := (-1 : Int32)) hX dX9_lasts_38 (by decide) ?_
        obtain rfl := Option.some.inj h
        exact r_iret hX hT dX9_lasts_39 rfl
      · have h := (if_pos g16).symm.trans h
        exact ok_Fm_lasts_j27 v1 v2 M   hX hT hr h
def Fm_ends_j59 (v2 : Int32) (v3 : Int32) (M : Mm) : Option ((Int32 × Int32 × Mm) ⊕ (Int32 × Mm)) :=
  some (.inl (v2, v3 + (1 : Int32), M))
def Fm_ends_j48 (v2 : Int32) (v3 : Int32) (M : Mm) : Option ((Int32 × Int32 × Mm) ⊕ (Int32 × Mm)) :=
  bnd (Fm_sets v3 (3 : Int32) (3 : Int32) M) (fun z9 =>
  Fm_ends_j59 (v2 + (1 : Int32)) v3 z9)
def Fm_ends_b4 (c1 : Int32) (v2 : Int32) (v3 : Int32) (M : Mm) : Option ((Int32 × Int32 × Mm) ⊕ (Int32 × Mm)) :=
  grd (inb (7 : Int32) 12256) (
  if (M.1 95 (tn (7 : Int32))) ≤ v3 then
    some (.inr (v2, M))
  else
    bnd (Fm_of v3 (7 : Int32) M) (fun z3 =>
    if z3 = c1 then
      bnd (Fm_of v3 (3 : Int32) M) (fun z6 =>
      if z6 = (0 : Int32) then
        Fm_ends_j48 v2 v3 M
      else
        bnd (Fm_of v3 (3 : Int32) M) (fun z11 =>
        if z11 = (2 : Int32) then
          Fm_ends_j48 v2 v3 M
        else
          Fm_ends_j59 v2 v3 M))
    else
      Fm_ends_j59 v2 v3 M))
def Fm_ends (n : Nat) (v1 : Int32) (M : Mm) : Option (Int32 × Mm) :=
  bnd (loop (fun s1 : Int32 × Int32 × Mm => Fm_ends_b4 v1 s1.1 s1.2.1 s1.2.2) n ((0 : Int32), (0 : Int32), M)) (fun y14 =>
  some (y14.1, y14.2))
set_option maxRecDepth 100000 in
theorem ok_Fm_ends_j59 (n : Nat) (v2 : Int32) (v3 : Int32) (M : Mm) {c1 : Int32} {z : Int32 × Mm} {oo : (Int32 × Int32 × Mm) ⊕ (Int32 × Mm)} {G : Gm} {X : Cx} {d : Nat}  (hX : XK G X 9 cX9_ends 4 (d + 1)) (hT : XT X (some .int) "ends") (hr : XR X SS) (hc : ∀ s1 : Int32 × Int32 × Mm, oo = .inl s1 → WR G X (mQ G X (some (.int z.1)) z.2 SS) 4 [.ref 94, .int c1, .int s1.1, .int s1.2.1] [] s1.2.2 SS) (hx : ∀ x1 : Int32 × Mm, oo = .inr x1 → WR G X (mQ G X (some (.int z.1)) z.2 SS) 65 [.ref 94, vU, .int x1.1, vU] [] x1.2 SS) (h : Fm_ends_j59 v2 v3 M = some oo) : WR G X (mQ G X (some (.int z.1)) z.2 SS) 59 [.ref 94, .int c1, .int v2, .int v3] [] M SS := by
  unfold Fm_ends_j59 at h
  refine r_iinc (v := v3 + (1 : Int32)) (L1 := [.ref 94, .int c1, .int v2, .int (v3 + (1 : Int32))]) hX dX9_ends_59 rfl rfl rfl ?_
  refine r_goto (tgt := 4) hX dX9_ends_62 (by decide) ?_
  exact hc (v2, v3 + (1 : Int32), M) (Option.some.inj h).symm
set_option maxRecDepth 100000 in
theorem ok_Fm_ends_j48 (n : Nat) (v2 : Int32) (v3 : Int32) (M : Mm) {c1 : Int32} {z : Int32 × Mm} {oo : (Int32 × Int32 × Mm) ⊕ (Int32 × Mm)} {G : Gm} {X : Cx} {d : Nat}  (hX : XK G X 9 cX9_ends 4 (d + 1)) (hT : XT X (some .int) "ends") (hr : XR X SS) (hc : ∀ s1 : Int32 × Int32 × Mm, oo = .inl s1 → WR G X (mQ G X (some (.int z.1)) z.2 SS) 4 [.ref 94, .int c1, .int s1.1, .int s1.2.1] [] s1.2.2 SS) (hx : ∀ x1 : Int32 × Mm, oo = .inr x1 → WR G X (mQ G X (some (.int z.1)) z.2 SS) 65 [.ref 94, vU, .int x1.1, vU] [] x1.2 SS) (h : Fm_ends_j48 v2 v3 M = some oo) : WR G X (mQ G X (some (.int z.1)) z.2 SS) 48 [.ref 94, .int c1, .int v2, .int v3] [] M SS := by
  unfold Fm_ends_j48 at h
  refine r_aload_n hX dX9_ends_48 rfl ?_
  refine r_iload_n hX dX9_ends_49 rfl ?_
  refine r_iconst (v := (3 : Int32)) hX dX9_ends_50 (by decide) ?_
  refine r_iconst (v := (3 : Int32)) hX dX9_ends_51 (by decide) ?_
  obtain ⟨z9, p10, h⟩ := bnd_s h
  refine r_callV (As := [.int v3, .int (3 : Int32), .int (3 : Int32)]) hX dX9_ends_52 mk_Fm_sets mi_Fm_sets ml_9_256 rfl rfl rfl rfl (by decide) (by decide) (Nat.le_of_ble_eq_true rfl) hr (ok_Fm_sets (d := d + 0) v3 (3 : Int32) (3 : Int32) M p10) ?_
  refine r_iload_n hX dX9_ends_55 rfl ?_
  refine r_iconst (v := (1 : Int32)) hX dX9_ends_56 (by decide) ?_
  refine r_iadd hX dX9_ends_57 ?_
  refine r_istore_n (L1 := [.ref 94, .int c1, .int (v2 + (1 : Int32)), .int v3]) hX dX9_ends_58 (Nat.le_of_ble_eq_true rfl) rfl ?_
  exact ok_Fm_ends_j59 n (v2 + (1 : Int32)) v3 z9   hX hT hr hc hx h
set_option maxRecDepth 100000 in
theorem ok_Fm_ends_b4 (n : Nat) (v2 : Int32) (v3 : Int32) (M : Mm) {c1 : Int32} {z : Int32 × Mm} {oo : (Int32 × Int32 × Mm) ⊕ (Int32 × Mm)} {G : Gm} {X : Cx} {d : Nat}  (hX : XK G X 9 cX9_ends 4 (d + 1)) (hT : XT X (some .int) "ends") (hr : XR X SS) (hc : ∀ s1 : Int32 × Int32 × Mm, oo = .inl s1 → WR G X (mQ G X (some (.int z.1)) z.2 SS) 4 [.ref 94, .int c1, .int s1.1, .int s1.2.1] [] s1.2.2 SS) (hx : ∀ x1 : Int32 × Mm, oo = .inr x1 → WR G X (mQ G X (some (.int z.1)) z.2 SS) 65 [.ref 94, vU, .int x1.1, vU] [] x1.2 SS) (h : Fm_ends_b4 c1 v2 v3 M = some oo) : WR G X (mQ G X (some (.int z.1)) z.2 SS) 4 [.ref 94, .int c1, .int v2, .int v3] [] M SS := by
  unfold Fm_ends_b4 at h
  refine r_iload_n hX dX9_ends_4 rfl ?_
  refine r_aload_n hX dX9_ends_5 rfl ?_
  refine r_getf (v := .ref 95) hX dX9_ends_6 fl_9_7 rfl (by decide) (by decide) rfl ?_
  refine r_bipush (v := (7 : Int32)) hX dX9_ends_9 (by decide) ?_
  obtain ⟨k1, h⟩ := grd_s h
  refine r_iald hX dX9_ends_11 rfl (by decide) (inb_at rfl k1) ?_
  refine r_icmp_ge (tgt := 65) hX dX9_ends_12 (by decide) (fun g2 => ?_) (fun g2 => ?_)
  · have h := (if_pos g2).symm.trans h
    refine WR.fg (L' := [.ref 94, vU, .int v2, vU]) ⟨Or.inr rfl, Or.inl rfl, Or.inr rfl, Or.inl rfl, trivial⟩ ?_
    exact hx _ (Option.some.inj h).symm
  · have h := (if_neg g2).symm.trans h
    refine r_aload_n hX dX9_ends_15 rfl ?_
    refine r_iload_n hX dX9_ends_16 rfl ?_
    refine r_bipush (v := (7 : Int32)) hX dX9_ends_17 (by decide) ?_
    obtain ⟨z3, p4, h⟩ := bnd_s h
    refine r_callV (As := [.int v3, .int (7 : Int32)]) hX dX9_ends_19 mk_Fm_of mi_Fm_of ml_9_79 rfl rfl rfl rfl (by decide) (by decide) (Nat.le_of_ble_eq_true rfl) hr (ok_Fm_of (d := d + 0) v3 (7 : Int32) M p4) ?_
    refine r_iload_n hX dX9_ends_22 rfl ?_
    refine r_icmp_ne (tgt := 59) hX dX9_ends_23 (by decide) (fun g5 => ?_) (fun g5 => ?_)
    · have h := (if_neg g5).symm.trans h
      exact ok_Fm_ends_j59 n v2 v3 M   hX hT hr hc hx h
    · have h := (if_pos g5).symm.trans h
      refine r_aload_n hX dX9_ends_26 rfl ?_
      refine r_iload_n hX dX9_ends_27 rfl ?_
      refine r_iconst (v := (3 : Int32)) hX dX9_ends_28 (by decide) ?_
      obtain ⟨z6, p7, h⟩ := bnd_s h
      refine r_callV (As := [.int v3, .int (3 : Int32)]) hX dX9_ends_29 mk_Fm_of mi_Fm_of ml_9_79 rfl rfl rfl rfl (by decide) (by decide) (Nat.le_of_ble_eq_true rfl) hr (ok_Fm_of (d := d + 0) v3 (3 : Int32) M p7) ?_
      refine r_if_eq (tgt := 48) hX dX9_ends_32 (by decide) (fun g8 => ?_) (fun g8 => ?_)
      · have h := (if_pos g8).symm.trans h
        exact ok_Fm_ends_j48 n v2 v3 M   hX hT hr hc hx h
      · have h := (if_neg g8).symm.trans h
        refine r_aload_n hX dX9_ends_35 rfl ?_
        refine r_iload_n hX dX9_ends_36 rfl ?_
        refine r_iconst (v := (3 : Int32)) hX dX9_ends_37 (by decide) ?_
        obtain ⟨z11, p12, h⟩ := bnd_s h
        refine r_callV (As := [.int v3, .int (3 : Int32)]) hX dX9_ends_38 mk_Fm_of mi_Fm_of ml_9_79 rfl rfl rfl rfl (by decide) (by decide) (Nat.le_of_ble_eq_true rfl) hr (ok_Fm_of (d := d + 0) v3 (3 : Int32) M p12) ?_
        refine r_iconst (v := (2 : Int32)) hX dX9_ends_41 (by decide) ?_
        refine r_icmp_eq (tgt := 48) hX dX9_ends_42 (by decide) (fun g13 => ?_) (fun g13 => ?_)
        · have h := (if_pos g13).symm.trans h
          exact ok_Fm_ends_j48 n v2 v3 M   hX hT hr hc hx h
        · have h := (if_neg g13).symm.trans h
          refine r_goto (tgt := 59) hX dX9_ends_45 (by decide) ?_
          exact ok_Fm_ends_j59 n v2 v3 M   hX hT hr hc hx h
set_option maxRecDepth 100000 in
theorem ok_Fm_ends {G : Gm} {l : Launch} {d : Nat} (n : Nat) (v1 : Int32) (M : Mm) {z : Int32 × Mm}  (h : Fm_ends n v1 M = some z) : CK G l (d + 1) md_Fm_ends [.ref 94, .int v1] M SS (some (.int z.1)) z.2 SS := by
  refine ck_of mk_Fm_ends (Nat.le_of_ble_eq_true rfl) ⟨Nat.le_refl _, Nat.le_refl _⟩ (fun X hX hT hS hr hl => ?_)
  subst hl
  unfold Fm_ends at h
  show WR G X (mQ G X (some (.int z.1)) z.2 SS) 0 [.ref 94, .int v1, vU, vU] [] M SS
  refine r_iconst (v := (0 : Int32)) hX dX9_ends_0 (by decide) ?_
  refine r_istore_n (L1 := [.ref 94, .int v1, .int (0 : Int32), vU]) hX dX9_ends_1 (Nat.le_of_ble_eq_true rfl) rfl ?_
  refine r_iconst (v := (0 : Int32)) hX dX9_ends_2 (by decide) ?_
  refine r_istore_n (L1 := [.ref 94, .int v1, .int (0 : Int32), .int (0 : Int32)]) hX dX9_ends_3 (Nat.le_of_ble_eq_true rfl) rfl ?_
  obtain ⟨y14, h1, h⟩ := bnd_s h
  refine loop_ok (P := fun s1 : Int32 × Int32 × Mm => WR G X (mQ G X (some (.int z.1)) z.2 SS) 4 [.ref 94, .int v1, .int s1.1, .int s1.2.1] [] s1.2.2 SS) (E := fun x1 : Int32 × Mm => WR G X (mQ G X (some (.int z.1)) z.2 SS) 65 [.ref 94, vU, .int x1.1, vU] [] x1.2 SS) (fun s1 o1 g1 g2 g3 => ok_Fm_ends_b4 n s1.1 s1.2.1 s1.2.2  hX hT hr g2 g3 g1) n ((0 : Int32), (0 : Int32), M) y14 h1 ?_
  show WR G X (mQ G X (some (.int z.1)) z.2 SS) 65 [.ref 94, vU, .int y14.1, vU] [] y14.2 SS
  refine r_iload_n hX dX9_ends_65 rfl ?_
  obtain rfl := Option.some.inj h
  exact r_iret hX hT dX9_ends_66 rfl
def Fm_ticks_b34 (n : Nat) (c1 : Int32) (v2 : Int32) (v3 : Int32) (M : Mm) : Option ((Int32 × Int32 × Mm) ⊕ (Int32 × Mm)) :=
  if c1 ≤ v3 then
    some (.inr (v2, M))
  else
    grd (inb (5 : Int32) 12256) (
    grd (inb (5 : Int32) 12256) (
    grd (inb (5 : Int32) 12256) (
    bnd (Fm_ends n ((up2 M.1 95 (tn (5 : Int32)) ((M.1 95 (tn (5 : Int32))) + (1 : Int32))) 95 (tn (5 : Int32))) ((up2 M.1 95 (tn (5 : Int32)) ((M.1 95 (tn (5 : Int32))) + (1 : Int32))), M.2)) (fun z10 =>
    some (.inl (v2 + z10.1, v3 + (1 : Int32), z10.2))))))
def Fm_ticks (n : Nat) (v1 : Int32) (M : Mm) : Option (Int32 × Mm) :=
  bnd (Fm_in v1 (1 : Int32) (1000 : Int32) M) (fun z1 =>
  if z1 = true then
    grd (inb (5 : Int32) 12256) (
    if ((M.1 95 (tn (5 : Int32))) + v1) ≤ (99999 : Int32) then
      bnd (loop (fun s1 : Int32 × Int32 × Mm => Fm_ticks_b34 n v1 s1.1 s1.2.1 s1.2.2) n ((0 : Int32), (0 : Int32), M)) (fun y12 =>
      some (y12.1, y12.2))
    else
      some ((-3 : Int32), M))
  else
    some ((-1 : Int32), M))
set_option maxRecDepth 100000 in
theorem ok_Fm_ticks_b34 (n : Nat) (v2 : Int32) (v3 : Int32) (M : Mm) {c1 : Int32} {z : Int32 × Mm} {oo : (Int32 × Int32 × Mm) ⊕ (Int32 × Mm)} {G : Gm} {X : Cx} {d : Nat}  (hX : XK G X 9 cX9_ticks 4 (d + 2)) (hT : XT X (some .int) "ticks") (hr : XR X SS) (hc : ∀ s1 : Int32 × Int32 × Mm, oo = .inl s1 → WR G X (mQ G X (some (.int z.1)) z.2 SS) 34 [.ref 94, .int c1, .int s1.1, .int s1.2.1] [] s1.2.2 SS) (hx : ∀ x1 : Int32 × Mm, oo = .inr x1 → WR G X (mQ G X (some (.int z.1)) z.2 SS) 72 [.ref 94, vU, .int x1.1, vU] [] x1.2 SS) (h : Fm_ticks_b34 n c1 v2 v3 M = some oo) : WR G X (mQ G X (some (.int z.1)) z.2 SS) 34 [.ref 94, .int c1, .int v2, .int v3] [] M SS := by
  unfold Fm_ticks_b34 at h
  refine r_iload_n hX dX9_ticks_34 rfl ?_
  refine r_iload_n hX dX9_ticks_35 rfl ?_
  refine r_icmp_ge (tgt := 72) hX dX9_ticks_36 (by decide) (fun g6 => ?_) (fun g6 => ?_)
  · have h := (if_pos g6).symm.trans h
    refine WR.fg (L' := [.ref 94, vU, .int v2, vU]) ⟨Or.inr rfl, Or.inl rfl, Or.inr rfl, Or.inl rfl, trivial⟩ ?_
    exact hx _ (Option.some.inj h).symm
  · have h := (if_neg g6).symm.trans h
    refine r_aload_n hX dX9_ticks_39 rfl ?_
    refine r_getf (v := .ref 95) hX dX9_ticks_40 fl_9_7 rfl (by decide) (by decide) rfl ?_
    refine r_iconst (v := (5 : Int32)) hX dX9_ticks_43 (by decide) ?_
    refine r_aload_n hX dX9_ticks_44 rfl ?_
    refine r_getf (v := .ref 95) hX dX9_ticks_45 fl_9_7 rfl (by decide) (by decide) rfl ?_
    refine r_iconst (v := (5 : Int32)) hX dX9_ticks_48 (by decide) ?_
    obtain ⟨k7, h⟩ := grd_s h
    refine r_iald hX dX9_ticks_49 rfl (by decide) (inb_at rfl k7) ?_
    refine r_iconst (v := (1 : Int32)) hX dX9_ticks_50 (by decide) ?_
    refine r_iadd hX dX9_ticks_51 ?_
    obtain ⟨k8, h⟩ := grd_s h
    refine r_iast hX dX9_ticks_52 rfl (by decide) (inb_at rfl k8) ?_
    refine r_iload_n hX dX9_ticks_53 rfl ?_
    refine r_aload_n hX dX9_ticks_54 rfl ?_
    refine r_aload_n hX dX9_ticks_55 rfl ?_
    refine r_getf (v := .ref 95) hX dX9_ticks_56 fl_9_7 rfl (by decide) (by decide) rfl ?_
    refine r_iconst (v := (5 : Int32)) hX dX9_ticks_59 (by decide) ?_
    obtain ⟨k9, h⟩ := grd_s h
    refine r_iald' hX dX9_ticks_60 rfl (by decide) (inb_at rfl k9) ?_
    obtain ⟨z10, p11, h⟩ := bnd_s h
    refine r_callV (As := [.int ((up2 M.1 95 (tn (5 : Int32)) ((M.1 95 (tn (5 : Int32))) + (1 : Int32))) 95 (tn (5 : Int32)))]) hX dX9_ticks_61 mk_Fm_ends mi_Fm_ends ml_9_357 rfl rfl rfl rfl (by decide) (by decide) (Nat.le_of_ble_eq_true rfl) hr (ok_Fm_ends (d := d + 0) n ((up2 M.1 95 (tn (5 : Int32)) ((M.1 95 (tn (5 : Int32))) + (1 : Int32))) 95 (tn (5 : Int32))) ((up2 M.1 95 (tn (5 : Int32)) ((M.1 95 (tn (5 : Int32))) + (1 : Int32))), M.2) p11) ?_
    refine r_iadd hX dX9_ticks_64 ?_
    refine r_istore_n (L1 := [.ref 94, .int c1, .int (v2 + z10.1), .int v3]) hX dX9_ticks_65 (Nat.le_of_ble_eq_true rfl) rfl ?_
    refine r_iinc (v := v3 + (1 : Int32)) (L1 := [.ref 94, .int c1, .int (v2 + z10.1), .int (v3 + (1 : Int32))]) hX dX9_ticks_66 rfl rfl rfl ?_
    refine r_goto (tgt := 34) hX dX9_ticks_69 (by decide) ?_
    exact hc (v2 + z10.1, v3 + (1 : Int32), z10.2) (Option.some.inj h).symm
set_option maxRecDepth 100000 in
theorem ok_Fm_ticks {G : Gm} {l : Launch} {d : Nat} (n : Nat) (v1 : Int32) (M : Mm) {z : Int32 × Mm}  (h : Fm_ticks n v1 M = some z) : CK G l (d + 2) md_Fm_ticks [.ref 94, .int v1] M SS (some (.int z.1)) z.2 SS := by
  refine ck_of mk_Fm_ticks (Nat.le_of_ble_eq_true rfl) ⟨Nat.le_refl _, Nat.le_refl _⟩ (fun X hX hT hS hr hl => ?_)
  subst hl
  unfold Fm_ticks at h
  show WR G X (mQ G X (some (.int z.1)) z.2 SS) 0 [.ref 94, .int v1, vU, vU] [] M SS
  refine r_iload_n hX dX9_ticks_0 rfl ?_
  refine r_iconst (v := (1 : Int32)) hX dX9_ticks_1 (by decide) ?_
  refine r_sipush (v := (1000 : Int32)) hX dX9_ticks_2 (by decide) ?_
  obtain ⟨z1, p2, h⟩ := bnd_s h
  refine r_callS (As := [.int v1, .int (1 : Int32), .int (1000 : Int32)]) hX dX9_ticks_5 mk_Fm_in ms_Fm_in ml_9_83 rfl rfl rfl (Nat.le_of_ble_eq_true rfl) hr (ok_Fm_in (d := d + 1) v1 (1 : Int32) (1000 : Int32) M p2) ?_
  refine r_ifb_ne (tgt := 13) hX dX9_ticks_8 (by decide) (fun g3 => ?_) (fun g3 => ?_)
  · have h := (if_pos g3).symm.trans h
    refine r_aload_n hX dX9_ticks_13 rfl ?_
    refine r_getf (v := .ref 95) hX dX9_ticks_14 fl_9_7 rfl (by decide) (by decide) rfl ?_
    refine r_iconst (v := (5 : Int32)) hX dX9_ticks_17 (by decide) ?_
    obtain ⟨k4, h⟩ := grd_s h
    refine r_iald hX dX9_ticks_18 rfl (by decide) (inb_at rfl k4) ?_
    refine r_iload_n hX dX9_ticks_19 rfl ?_
    refine r_iadd hX dX9_ticks_20 ?_
    refine r_ldcw hX dX9_ticks_21 ki_9_356 ?_
    refine r_icmp_le (tgt := 30) hX dX9_ticks_24 (by decide) (fun g5 => ?_) (fun g5 => ?_)
    · have h := (if_pos g5).symm.trans h
      refine r_iconst (v := (0 : Int32)) hX dX9_ticks_30 (by decide) ?_
      refine r_istore_n (L1 := [.ref 94, .int v1, .int (0 : Int32), vU]) hX dX9_ticks_31 (Nat.le_of_ble_eq_true rfl) rfl ?_
      refine r_iconst (v := (0 : Int32)) hX dX9_ticks_32 (by decide) ?_
      refine r_istore_n (L1 := [.ref 94, .int v1, .int (0 : Int32), .int (0 : Int32)]) hX dX9_ticks_33 (Nat.le_of_ble_eq_true rfl) rfl ?_
      obtain ⟨y12, h1, h⟩ := bnd_s h
      refine loop_ok (P := fun s1 : Int32 × Int32 × Mm => WR G X (mQ G X (some (.int z.1)) z.2 SS) 34 [.ref 94, .int v1, .int s1.1, .int s1.2.1] [] s1.2.2 SS) (E := fun x1 : Int32 × Mm => WR G X (mQ G X (some (.int z.1)) z.2 SS) 72 [.ref 94, vU, .int x1.1, vU] [] x1.2 SS) (fun s1 o1 g1 g2 g3 => ok_Fm_ticks_b34 n s1.1 s1.2.1 s1.2.2  hX hT hr g2 g3 g1) n ((0 : Int32), (0 : Int32), M) y12 h1 ?_
      show WR G X (mQ G X (some (.int z.1)) z.2 SS) 72 [.ref 94, vU, .int y12.1, vU] [] y12.2 SS
      refine r_iload_n hX dX9_ticks_72 rfl ?_
      obtain rfl := Option.some.inj h
      exact r_iret hX hT dX9_ticks_73 rfl
    · have h := (if_neg g5).symm.trans h
      refine r_bipush (v := (-3 : Int32)) hX dX9_ticks_27 (by decide) ?_
      obtain rfl := Option.some.inj h
      exact r_iret hX hT dX9_ticks_29 rfl
  · have h := (if_neg (show ¬ z1 = true from fun e => by rw [g3] at e; cases e)).symm.trans h
    refine r_iconst (v := (-1 : Int32)) hX dX9_ticks_11 (by decide) ?_
    obtain rfl := Option.some.inj h
    exact r_iret hX hT dX9_ticks_12 rfl
def Fm_drawn (v1 : Int32) (M : Mm) : Option (Int32 × Mm) :=
  grd (inb (6 : Int32) 12256) (
  grd (inb (6 : Int32) 12256) (
  grd (inb (6 : Int32) 12256) (
  grd (nz v1) (
  some (irm ((up2 M.1 95 (tn (6 : Int32)) (irm (((25173 : Int32) * (M.1 95 (tn (6 : Int32)))) + (13849 : Int32)) (65536 : Int32))) 95 (tn (6 : Int32))) v1, ((up2 M.1 95 (tn (6 : Int32)) (irm (((25173 : Int32) * (M.1 95 (tn (6 : Int32)))) + (13849 : Int32)) (65536 : Int32))), M.2))))))
set_option maxRecDepth 100000 in
theorem ok_Fm_drawn {G : Gm} {l : Launch} {d : Nat} (v1 : Int32) (M : Mm) {z : Int32 × Mm}  (h : Fm_drawn v1 M = some z) : CK G l (d + 0) md_Fm_drawn [.ref 94, .int v1] M SS (some (.int z.1)) z.2 SS := by
  refine ck_of mk_Fm_drawn (Nat.le_of_ble_eq_true rfl) ⟨Nat.le_refl _, Nat.le_refl _⟩ (fun X hX hT hS hr hl => ?_)
  subst hl
  unfold Fm_drawn at h
  show WR G X (mQ G X (some (.int z.1)) z.2 SS) 0 [.ref 94, .int v1] [] M SS
  refine r_aload_n hX dX9_drawn_0 rfl ?_
  refine r_getf (v := .ref 95) hX dX9_drawn_1 fl_9_7 rfl (by decide) (by decide) rfl ?_
  refine r_bipush (v := (6 : Int32)) hX dX9_drawn_4 (by decide) ?_
  refine r_sipush (v := (25173 : Int32)) hX dX9_drawn_6 (by decide) ?_
  refine r_aload_n hX dX9_drawn_9 rfl ?_
  refine r_getf (v := .ref 95) hX dX9_drawn_10 fl_9_7 rfl (by decide) (by decide) rfl ?_
  refine r_bipush (v := (6 : Int32)) hX dX9_drawn_13 (by decide) ?_
  obtain ⟨k1, h⟩ := grd_s h
  refine r_iald hX dX9_drawn_15 rfl (by decide) (inb_at rfl k1) ?_
  refine r_imul hX dX9_drawn_16 ?_
  refine r_sipush (v := (13849 : Int32)) hX dX9_drawn_17 (by decide) ?_
  refine r_iadd hX dX9_drawn_20 ?_
  refine r_ldcw hX dX9_drawn_21 ki_9_360 ?_
  refine r_irem hX dX9_drawn_24 (by decide) ?_
  obtain ⟨k2, h⟩ := grd_s h
  refine r_iast hX dX9_drawn_25 rfl (by decide) (inb_at rfl k2) ?_
  refine r_aload_n hX dX9_drawn_26 rfl ?_
  refine r_getf (v := .ref 95) hX dX9_drawn_27 fl_9_7 rfl (by decide) (by decide) rfl ?_
  refine r_bipush (v := (6 : Int32)) hX dX9_drawn_30 (by decide) ?_
  obtain ⟨k3, h⟩ := grd_s h
  refine r_iald' hX dX9_drawn_32 rfl (by decide) (inb_at rfl k3) ?_
  refine r_iload_n hX dX9_drawn_33 rfl ?_
  obtain ⟨k4, h⟩ := grd_s h
  refine r_irem hX dX9_drawn_34 (nz_ne k4) ?_
  obtain rfl := Option.some.inj h
  exact r_iret hX hT dX9_drawn_35 rfl
def Fm_litMany_j27 (v1 : Int32) (v2 : Int32) : Option ((Int32 × Int32) ⊕ (Int32)) :=
  some (.inl (v1, v2 + (1 : Int32)))
def Fm_litMany_b4 (Mc : Mm) (v1 : Int32) (v2 : Int32) : Option ((Int32 × Int32) ⊕ (Int32)) :=
  grd (inb (7 : Int32) 12256) (
  if (Mc.1 95 (tn (7 : Int32))) ≤ v2 then
    some (.inr v1)
  else
    bnd (Fm_isLit v2 Mc) (fun z3 =>
    if z3 = true then
      Fm_litMany_j27 (v1 + (1 : Int32)) v2
    else
      Fm_litMany_j27 v1 v2))
def Fm_litMany (n : Nat) (M : Mm) : Option (Int32) :=
  bnd (loop (fun s1 : Int32 × Int32 => Fm_litMany_b4 M s1.1 s1.2) n ((0 : Int32), (0 : Int32))) (fun y6 =>
  some y6)
set_option maxRecDepth 100000 in
theorem ok_Fm_litMany_j27 (n : Nat) (v1 : Int32) (v2 : Int32)  {Mc : Mm} {z : Int32} {oo : (Int32 × Int32) ⊕ (Int32)} {G : Gm} {X : Cx} {d : Nat}  (hX : XK G X 9 cX9_litMany 3 (d + 2)) (hT : XT X (some .int) "litMany") (hr : XR X SS) (hc : ∀ s1 : Int32 × Int32, oo = .inl s1 → WR G X (mQ G X (some (.int z)) Mc SS) 4 [.ref 94, .int s1.1, .int s1.2] [] Mc SS) (hx : ∀ x1 : Int32, oo = .inr x1 → WR G X (mQ G X (some (.int z)) Mc SS) 33 [.ref 94, .int x1, vU] [] Mc SS) (h : Fm_litMany_j27 v1 v2 = some oo) : WR G X (mQ G X (some (.int z)) Mc SS) 27 [.ref 94, .int v1, .int v2] [] Mc SS := by
  unfold Fm_litMany_j27 at h
  refine r_iinc (v := v2 + (1 : Int32)) (L1 := [.ref 94, .int v1, .int (v2 + (1 : Int32))]) hX dX9_litMany_27 rfl rfl rfl ?_
  refine r_goto (tgt := 4) hX dX9_litMany_30 (by decide) ?_
  exact hc (v1, v2 + (1 : Int32)) (Option.some.inj h).symm
set_option maxRecDepth 100000 in
theorem ok_Fm_litMany_b4 (n : Nat) (v1 : Int32) (v2 : Int32)  {Mc : Mm} {z : Int32} {oo : (Int32 × Int32) ⊕ (Int32)} {G : Gm} {X : Cx} {d : Nat}  (hX : XK G X 9 cX9_litMany 3 (d + 2)) (hT : XT X (some .int) "litMany") (hr : XR X SS) (hc : ∀ s1 : Int32 × Int32, oo = .inl s1 → WR G X (mQ G X (some (.int z)) Mc SS) 4 [.ref 94, .int s1.1, .int s1.2] [] Mc SS) (hx : ∀ x1 : Int32, oo = .inr x1 → WR G X (mQ G X (some (.int z)) Mc SS) 33 [.ref 94, .int x1, vU] [] Mc SS) (h : Fm_litMany_b4 Mc v1 v2 = some oo) : WR G X (mQ G X (some (.int z)) Mc SS) 4 [.ref 94, .int v1, .int v2] [] Mc SS := by
  unfold Fm_litMany_b4 at h
  refine r_iload_n hX dX9_litMany_4 rfl ?_
  refine r_aload_n hX dX9_litMany_5 rfl ?_
  refine r_getf (v := .ref 95) hX dX9_litMany_6 fl_9_7 rfl (by decide) (by decide) rfl ?_
  refine r_bipush (v := (7 : Int32)) hX dX9_litMany_9 (by decide) ?_
  obtain ⟨k1, h⟩ := grd_s h
  refine r_iald hX dX9_litMany_11 rfl (by decide) (inb_at rfl k1) ?_
  refine r_icmp_ge (tgt := 33) hX dX9_litMany_12 (by decide) (fun g2 => ?_) (fun g2 => ?_)
  · have h := (if_pos g2).symm.trans h
    refine WR.fg (L' := [.ref 94, .int v1, vU]) ⟨Or.inr rfl, Or.inr rfl, Or.inl rfl, trivial⟩ ?_
    exact hx _ (Option.some.inj h).symm
  · have h := (if_neg g2).symm.trans h
    refine r_aload_n hX dX9_litMany_15 rfl ?_
    refine r_iload_n hX dX9_litMany_16 rfl ?_
    obtain ⟨z3, p4, h⟩ := bnd_s h
    refine r_callV (As := [.int v2]) hX dX9_litMany_17 mk_Fm_isLit mi_Fm_isLit ml_9_219 rfl rfl rfl rfl (by decide) (by decide) (Nat.le_of_ble_eq_true rfl) hr (ok_Fm_isLit (d := d + 0) v2 Mc p4) ?_
    refine r_ifb_eq (tgt := 27) hX dX9_litMany_20 (by decide) (fun g5 => ?_) (fun g5 => ?_)
    · have h := (if_neg (show ¬ z3 = true from fun e => by rw [g5] at e; cases e)).symm.trans h
      exact ok_Fm_litMany_j27 n v1 v2   hX hT hr hc hx h
    · have h := (if_pos g5).symm.trans h
      refine r_iload_n hX dX9_litMany_23 rfl ?_
      refine r_iconst (v := (1 : Int32)) hX dX9_litMany_24 (by decide) ?_
      refine r_iadd hX dX9_litMany_25 ?_
      refine r_istore_n (L1 := [.ref 94, .int (v1 + (1 : Int32)), .int v2]) hX dX9_litMany_26 (Nat.le_of_ble_eq_true rfl) rfl ?_
      exact ok_Fm_litMany_j27 n (v1 + (1 : Int32)) v2   hX hT hr hc hx h
set_option maxRecDepth 100000 in
theorem ok_Fm_litMany {G : Gm} {l : Launch} {d : Nat} (n : Nat) (M : Mm) {z : Int32}  (h : Fm_litMany n M = some z) : CK G l (d + 2) md_Fm_litMany [.ref 94] M SS (some (.int z)) M SS := by
  refine ck_of mk_Fm_litMany (Nat.le_of_ble_eq_true rfl) ⟨Nat.le_refl _, Nat.le_refl _⟩ (fun X hX hT hS hr hl => ?_)
  subst hl
  unfold Fm_litMany at h
  show WR G X (mQ G X (some (.int z)) M SS) 0 [.ref 94, vU, vU] [] M SS
  refine r_iconst (v := (0 : Int32)) hX dX9_litMany_0 (by decide) ?_
  refine r_istore_n (L1 := [.ref 94, .int (0 : Int32), vU]) hX dX9_litMany_1 (Nat.le_of_ble_eq_true rfl) rfl ?_
  refine r_iconst (v := (0 : Int32)) hX dX9_litMany_2 (by decide) ?_
  refine r_istore_n (L1 := [.ref 94, .int (0 : Int32), .int (0 : Int32)]) hX dX9_litMany_3 (Nat.le_of_ble_eq_true rfl) rfl ?_
  obtain ⟨y6, h1, h⟩ := bnd_s h
  refine loop_ok (P := fun s1 : Int32 × Int32 => WR G X (mQ G X (some (.int z)) M SS) 4 [.ref 94, .int s1.1, .int s1.2] [] M SS) (E := fun x1 : Int32 => WR G X (mQ G X (some (.int z)) M SS) 33 [.ref 94, .int x1, vU] [] M SS) (fun s1 o1 g1 g2 g3 => ok_Fm_litMany_b4 n s1.1 s1.2  hX hT hr g2 g3 g1) n ((0 : Int32), (0 : Int32)) y6 h1 ?_
  show WR G X (mQ G X (some (.int z)) M SS) 33 [.ref 94, .int y6, vU] [] M SS
  refine r_iload_n hX dX9_litMany_33 rfl ?_
  obtain rfl := Option.some.inj h
  exact r_iret hX hT dX9_litMany_34 rfl
def Fm_tries_j179 (n : Nat) (v4 : Int32) (M : Mm) : Option ((Int32 × Mm) ⊕ (Mm)) :=
  bnd (Fm_top n M) (fun z28 =>
  bnd (Fm_max (M.1 94 38) z28 M) (fun z30 =>
  some (.inl (v4 + (1 : Int32), ((up2 M.1 94 38 z30), M.2)))))
def Fm_tries_j163 (n : Nat) (v4 : Int32) (v8 : Int32) (v10 : Int32) (M : Mm) : Option ((Int32 × Mm) ⊕ (Mm)) :=
  if v10 = (0 : Int32) then
    Fm_tries_j179 n v4 ((up2 M.1 94 37 ((M.1 94 37) + v8)), M.2)
  else
    Fm_tries_j179 n v4 M
def Fm_tries_j145 (n : Nat) (v4 : Int32) (v8 : Int32) (v10 : Int32) (w0 : Int32) (w1 : Int32) (w2 : Int32) (M : Mm) : Option ((Int32 × Mm) ⊕ (Mm)) :=
  bnd (Fm_sets w2 w1 w0 M) (fun z24 =>
  if v10 = (0 : Int32) then
    Fm_tries_j163 n v4 v8 v10 ((up2 z24.1 94 36 ((z24.1 94 36) + (1 : Int32))), z24.2)
  else
    Fm_tries_j163 n v4 v8 v10 z24)
def Fm_tries_b32 (n : Nat) (c1 : Int32) (c2 : Int32) (c3 : Int32) (v4 : Int32) (M : Mm) : Option ((Int32 × Mm) ⊕ (Mm)) :=
  if c1 ≤ v4 then
    some (.inr M)
  else
    bnd (Fm_ends n v4 M) (fun z5 =>
    grd (inb (0 : Int32) 12256) (
    bnd (Fm_drawn (z5.2.1 95 (tn (0 : Int32))) z5.2) (fun z8 =>
    grd (inb (0 : Int32) 12256) (
    bnd (Fm_drawn ((z8.2.1 95 (tn (0 : Int32))) - (1 : Int32)) z8.2) (fun z11 =>
    grd (inb (0 : Int32) 12256) (
    grd (nz (z11.2.1 95 (tn (0 : Int32)))) (
    bnd (Fm_drawn c2 z11.2) (fun z15 =>
    bnd (Fm_drawn (20 : Int32) z15.2) (fun z17 =>
    bnd (Fm_findsFor n z8.1 (irm ((z8.1 + (1 : Int32)) + z11.1) (z11.2.1 95 (tn (0 : Int32)))) ((1 : Int32) + z15.1) c3 z17.2) (fun z19 =>
    bnd (Fm_comes n z8.1 (irm ((z8.1 + (1 : Int32)) + z11.1) (z11.2.1 95 (tn (0 : Int32)))) ((1 : Int32) + z15.1) z19.1 z19.2) (fun z21 =>
    if z19.1 = true then
      Fm_tries_j145 n v4 ((1 : Int32) + z15.1) (b2i z19.1) ((v4 + (1 : Int32)) + z17.1) (7 : Int32) z21.1 z21.2
    else
      Fm_tries_j145 n v4 ((1 : Int32) + z15.1) (b2i z19.1) (-1 : Int32) (7 : Int32) z21.1 z21.2)))))))))))
def Fm_tries (n : Nat) (v1 : Int32) (v2 : Int32) (v3 : Int32) (M : Mm) : Option (Mm) :=
  bnd (Fm_copies n (0 : Int32) (2 : Int32) M) (fun z1 =>
  grd (inb (7 : Int32) 12256) (
  bnd (loop (fun s1 : Int32 × Mm => Fm_tries_b32 n v1 v2 v3 s1.1 s1.2) n ((0 : Int32), ((up2 (up2 (up2 (up2 z1.1 95 (tn (7 : Int32)) (0 : Int32)) 94 36 (0 : Int32)) 94 37 (0 : Int32)) 94 38 (-1 : Int32)), z1.2))) (fun y32 =>
  bnd (Fm_litMany n y32) (fun z33 =>
  bnd (Fm_copies n (2 : Int32) (0 : Int32) ((up2 y32.1 94 39 z33), y32.2)) (fun z35 =>
  some z35)))))
set_option maxRecDepth 100000 in
theorem ok_Fm_tries_j179 (n : Nat) (v4 : Int32) (M : Mm) {c1 : Int32} {c2 : Int32} {c3 : Int32} {z : Mm} {oo : (Int32 × Mm) ⊕ (Mm)} {G : Gm} {X : Cx} {d : Nat}  (hX : XK G X 9 cX9_tries 11 (d + 6)) (hT : XT X (none) "tries") (hr : XR X SS) (hc : ∀ s1 : Int32 × Mm, oo = .inl s1 → WR G X (mQ G X (none) z SS) 32 [.ref 94, .int c1, .int c2, .int c3, .int s1.1, vU, vU, vU, vU, vU, vU] [] s1.2 SS) (hx : ∀ x1 : Mm, oo = .inr x1 → WR G X (mQ G X (none) z SS) 200 [.ref 94, vU, vU, vU, vU, vU, vU, vU, vU, vU, vU] [] x1 SS) (h : Fm_tries_j179 n v4 M = some oo) : WR G X (mQ G X (none) z SS) 179 [.ref 94, .int c1, .int c2, .int c3, .int v4, vU, vU, vU, vU, vU, vU] [] M SS := by
  unfold Fm_tries_j179 at h
  refine r_aload_n hX dX9_tries_179 rfl ?_
  refine r_aload_n hX dX9_tries_180 rfl ?_
  refine r_getf (v := .int (M.1 94 38)) hX dX9_tries_181 fl_9_367 rfl (by decide) (by decide) rfl ?_
  refine r_aload_n hX dX9_tries_184 rfl ?_
  obtain ⟨z28, p29, h⟩ := bnd_s h
  refine r_callV (As := []) hX dX9_tries_185 mk_Fm_top mi_Fm_top ml_9_317 rfl rfl rfl rfl (by decide) (by decide) (Nat.le_of_ble_eq_true rfl) hr (ok_Fm_top (d := d + 2) n M p29) ?_
  obtain ⟨z30, p31, h⟩ := bnd_s h
  refine r_callS (As := [.int (M.1 94 38), .int z28]) hX dX9_tries_188 mk_Fm_max ms_Fm_max ml_9_305 rfl rfl rfl (Nat.le_of_ble_eq_true rfl) hr (ok_Fm_max (d := d + 5) (M.1 94 38) z28 M p31) ?_
  refine r_putI hX dX9_tries_191 fl_9_367 rfl (by decide) (by decide) (okI_int _) ?_
  refine r_iinc (v := v4 + (1 : Int32)) (L1 := [.ref 94, .int c1, .int c2, .int c3, .int (v4 + (1 : Int32)), vU, vU, vU, vU, vU, vU]) hX dX9_tries_194 rfl rfl rfl ?_
  refine r_goto (tgt := 32) hX dX9_tries_197 (by decide) ?_
  exact hc (v4 + (1 : Int32), ((up2 M.1 94 38 z30), M.2)) (Option.some.inj h).symm
set_option maxRecDepth 100000 in
theorem ok_Fm_tries_j163 (n : Nat) (v4 : Int32) (v8 : Int32) (v10 : Int32) (M : Mm) {c1 : Int32} {c2 : Int32} {c3 : Int32} {z : Mm} {oo : (Int32 × Mm) ⊕ (Mm)} {G : Gm} {X : Cx} {d : Nat}  (hX : XK G X 9 cX9_tries 11 (d + 6)) (hT : XT X (none) "tries") (hr : XR X SS) (hc : ∀ s1 : Int32 × Mm, oo = .inl s1 → WR G X (mQ G X (none) z SS) 32 [.ref 94, .int c1, .int c2, .int c3, .int s1.1, vU, vU, vU, vU, vU, vU] [] s1.2 SS) (hx : ∀ x1 : Mm, oo = .inr x1 → WR G X (mQ G X (none) z SS) 200 [.ref 94, vU, vU, vU, vU, vU, vU, vU, vU, vU, vU] [] x1 SS) (h : Fm_tries_j163 n v4 v8 v10 M = some oo) : WR G X (mQ G X (none) z SS) 163 [.ref 94, .int c1, .int c2, .int c3, .int v4, vU, vU, vU, .int v8, vU, .int v10] [] M SS := by
  unfold Fm_tries_j163 at h
  refine r_iload hX dX9_tries_163 rfl ?_
  refine r_if_ne (tgt := 179) hX dX9_tries_165 (by decide) (fun g27 => ?_) (fun g27 => ?_)
  · have h := (if_neg g27).symm.trans h
    refine WR.fg (L' := [.ref 94, .int c1, .int c2, .int c3, .int v4, vU, vU, vU, vU, vU, vU]) ⟨Or.inr rfl, Or.inr rfl, Or.inr rfl, Or.inr rfl, Or.inr rfl, Or.inl rfl, Or.inl rfl, Or.inl rfl, Or.inl rfl, Or.inl rfl, Or.inl rfl, trivial⟩ ?_
    exact ok_Fm_tries_j179 n v4 M   hX hT hr hc hx h
  · have h := (if_pos g27).symm.trans h
    refine r_aload_n hX dX9_tries_168 rfl ?_
    refine r_aload_n hX dX9_tries_169 rfl ?_
    refine r_getf (v := .int (M.1 94 37)) hX dX9_tries_170 fl_9_364 rfl (by decide) (by decide) rfl ?_
    refine r_iload hX dX9_tries_173 rfl ?_
    refine r_iadd hX dX9_tries_175 ?_
    refine r_putI hX dX9_tries_176 fl_9_364 rfl (by decide) (by decide) (okI_int _) ?_
    refine WR.fg (L' := [.ref 94, .int c1, .int c2, .int c3, .int v4, vU, vU, vU, vU, vU, vU]) ⟨Or.inr rfl, Or.inr rfl, Or.inr rfl, Or.inr rfl, Or.inr rfl, Or.inl rfl, Or.inl rfl, Or.inl rfl, Or.inl rfl, Or.inl rfl, Or.inl rfl, trivial⟩ ?_
    exact ok_Fm_tries_j179 n v4 ((up2 M.1 94 37 ((M.1 94 37) + v8)), M.2)   hX hT hr hc hx h
set_option maxRecDepth 100000 in
theorem ok_Fm_tries_j145 (n : Nat) (v4 : Int32) (v8 : Int32) (v10 : Int32) (w0 : Int32) (w1 : Int32) (w2 : Int32) (M : Mm) {c1 : Int32} {c2 : Int32} {c3 : Int32} {z : Mm} {oo : (Int32 × Mm) ⊕ (Mm)} {G : Gm} {X : Cx} {d : Nat}  (hX : XK G X 9 cX9_tries 11 (d + 6)) (hT : XT X (none) "tries") (hr : XR X SS) (hc : ∀ s1 : Int32 × Mm, oo = .inl s1 → WR G X (mQ G X (none) z SS) 32 [.ref 94, .int c1, .int c2, .int c3, .int s1.1, vU, vU, vU, vU, vU, vU] [] s1.2 SS) (hx : ∀ x1 : Mm, oo = .inr x1 → WR G X (mQ G X (none) z SS) 200 [.ref 94, vU, vU, vU, vU, vU, vU, vU, vU, vU, vU] [] x1 SS) (h : Fm_tries_j145 n v4 v8 v10 w0 w1 w2 M = some oo) : WR G X (mQ G X (none) z SS) 145 [.ref 94, .int c1, .int c2, .int c3, .int v4, vU, vU, vU, .int v8, vU, .int v10] [.int w0, .int w1, .int w2, .ref 94] M SS := by
  unfold Fm_tries_j145 at h
  obtain ⟨z24, p25, h⟩ := bnd_s h
  refine r_callV (As := [.int w2, .int w1, .int w0]) hX dX9_tries_145 mk_Fm_sets mi_Fm_sets ml_9_256 rfl rfl rfl rfl (by decide) (by decide) (Nat.le_of_ble_eq_true rfl) hr (ok_Fm_sets (d := d + 5) w2 w1 w0 M p25) ?_
  refine r_iload hX dX9_tries_148 rfl ?_
  refine r_if_ne (tgt := 163) hX dX9_tries_150 (by decide) (fun g26 => ?_) (fun g26 => ?_)
  · have h := (if_neg g26).symm.trans h
    exact ok_Fm_tries_j163 n v4 v8 v10 z24   hX hT hr hc hx h
  · have h := (if_pos g26).symm.trans h
    refine r_aload_n hX dX9_tries_153 rfl ?_
    refine r_aload_n hX dX9_tries_154 rfl ?_
    refine r_getf (v := .int (z24.1 94 36)) hX dX9_tries_155 fl_9_361 rfl (by decide) (by decide) rfl ?_
    refine r_iconst (v := (1 : Int32)) hX dX9_tries_158 (by decide) ?_
    refine r_iadd hX dX9_tries_159 ?_
    refine r_putI hX dX9_tries_160 fl_9_361 rfl (by decide) (by decide) (okI_int _) ?_
    exact ok_Fm_tries_j163 n v4 v8 v10 ((up2 z24.1 94 36 ((z24.1 94 36) + (1 : Int32))), z24.2)   hX hT hr hc hx h
set_option maxRecDepth 100000 in
theorem ok_Fm_tries_b32 (n : Nat) (v4 : Int32) (M : Mm) {c1 : Int32} {c2 : Int32} {c3 : Int32} {z : Mm} {oo : (Int32 × Mm) ⊕ (Mm)} {G : Gm} {X : Cx} {d : Nat}  (hX : XK G X 9 cX9_tries 11 (d + 6)) (hT : XT X (none) "tries") (hr : XR X SS) (hc : ∀ s1 : Int32 × Mm, oo = .inl s1 → WR G X (mQ G X (none) z SS) 32 [.ref 94, .int c1, .int c2, .int c3, .int s1.1, vU, vU, vU, vU, vU, vU] [] s1.2 SS) (hx : ∀ x1 : Mm, oo = .inr x1 → WR G X (mQ G X (none) z SS) 200 [.ref 94, vU, vU, vU, vU, vU, vU, vU, vU, vU, vU] [] x1 SS) (h : Fm_tries_b32 n c1 c2 c3 v4 M = some oo) : WR G X (mQ G X (none) z SS) 32 [.ref 94, .int c1, .int c2, .int c3, .int v4, vU, vU, vU, vU, vU, vU] [] M SS := by
  unfold Fm_tries_b32 at h
  refine r_iload hX dX9_tries_32 rfl ?_
  refine r_iload_n hX dX9_tries_34 rfl ?_
  refine r_icmp_ge (tgt := 200) hX dX9_tries_35 (by decide) (fun g4 => ?_) (fun g4 => ?_)
  · have h := (if_pos g4).symm.trans h
    refine WR.fg (L' := [.ref 94, vU, vU, vU, vU, vU, vU, vU, vU, vU, vU]) ⟨Or.inr rfl, Or.inl rfl, Or.inl rfl, Or.inl rfl, Or.inl rfl, Or.inl rfl, Or.inl rfl, Or.inl rfl, Or.inl rfl, Or.inl rfl, Or.inl rfl, trivial⟩ ?_
    exact hx _ (Option.some.inj h).symm
  · have h := (if_neg g4).symm.trans h
    refine r_aload_n hX dX9_tries_38 rfl ?_
    refine r_iload hX dX9_tries_39 rfl ?_
    obtain ⟨z5, p6, h⟩ := bnd_s h
    refine r_callV (As := [.int v4]) hX dX9_tries_41 mk_Fm_ends mi_Fm_ends ml_9_357 rfl rfl rfl rfl (by decide) (by decide) (Nat.le_of_ble_eq_true rfl) hr (ok_Fm_ends (d := d + 4) n v4 M p6) ?_
    refine r_istore (L1 := [.ref 94, .int c1, .int c2, .int c3, .int v4, .int z5.1, vU, vU, vU, vU, vU]) hX dX9_tries_44 (Nat.le_of_ble_eq_true rfl) rfl ?_
    refine r_aload_n hX dX9_tries_46 rfl ?_
    refine r_aload_n hX dX9_tries_47 rfl ?_
    refine r_getf (v := .ref 95) hX dX9_tries_48 fl_9_7 rfl (by decide) (by decide) rfl ?_
    refine r_iconst (v := (0 : Int32)) hX dX9_tries_51 (by decide) ?_
    obtain ⟨k7, h⟩ := grd_s h
    refine r_iald hX dX9_tries_52 rfl (by decide) (inb_at rfl k7) ?_
    obtain ⟨z8, p9, h⟩ := bnd_s h
    refine r_callV (As := [.int (z5.2.1 95 (tn (0 : Int32)))]) hX dX9_tries_53 mk_Fm_drawn mi_Fm_drawn ml_9_370 rfl rfl rfl rfl (by decide) (by decide) (Nat.le_of_ble_eq_true rfl) hr (ok_Fm_drawn (d := d + 5) (z5.2.1 95 (tn (0 : Int32))) z5.2 p9) ?_
    refine r_istore (L1 := [.ref 94, .int c1, .int c2, .int c3, .int v4, .int z5.1, .int z8.1, vU, vU, vU, vU]) hX dX9_tries_56 (Nat.le_of_ble_eq_true rfl) rfl ?_
    refine r_iload hX dX9_tries_58 rfl ?_
    refine r_iconst (v := (1 : Int32)) hX dX9_tries_60 (by decide) ?_
    refine r_iadd hX dX9_tries_61 ?_
    refine r_aload_n hX dX9_tries_62 rfl ?_
    refine r_aload_n hX dX9_tries_63 rfl ?_
    refine r_getf (v := .ref 95) hX dX9_tries_64 fl_9_7 rfl (by decide) (by decide) rfl ?_
    refine r_iconst (v := (0 : Int32)) hX dX9_tries_67 (by decide) ?_
    obtain ⟨k10, h⟩ := grd_s h
    refine r_iald hX dX9_tries_68 rfl (by decide) (inb_at rfl k10) ?_
    refine r_iconst (v := (1 : Int32)) hX dX9_tries_69 (by decide) ?_
    refine r_isub hX dX9_tries_70 ?_
    obtain ⟨z11, p12, h⟩ := bnd_s h
    refine r_callV (As := [.int ((z8.2.1 95 (tn (0 : Int32))) - (1 : Int32))]) hX dX9_tries_71 mk_Fm_drawn mi_Fm_drawn ml_9_370 rfl rfl rfl rfl (by decide) (by decide) (Nat.le_of_ble_eq_true rfl) hr (ok_Fm_drawn (d := d + 5) ((z8.2.1 95 (tn (0 : Int32))) - (1 : Int32)) z8.2 p12) ?_
    refine r_iadd hX dX9_tries_74 ?_
    refine r_aload_n hX dX9_tries_75 rfl ?_
    refine r_getf (v := .ref 95) hX dX9_tries_76 fl_9_7 rfl (by decide) (by decide) rfl ?_
    refine r_iconst (v := (0 : Int32)) hX dX9_tries_79 (by decide) ?_
    obtain ⟨k13, h⟩ := grd_s h
    refine r_iald hX dX9_tries_80 rfl (by decide) (inb_at rfl k13) ?_
    obtain ⟨k14, h⟩ := grd_s h
    refine r_irem hX dX9_tries_81 (nz_ne k14) ?_
    refine r_istore (L1 := [.ref 94, .int c1, .int c2, .int c3, .int v4, .int z5.1, .int z8.1, .int (irm ((z8.1 + (1 : Int32)) + z11.1) (z11.2.1 95 (tn (0 : Int32)))), vU, vU, vU]) hX dX9_tries_82 (Nat.le_of_ble_eq_true rfl) rfl ?_
    refine r_iconst (v := (1 : Int32)) hX dX9_tries_84 (by decide) ?_
    refine r_aload_n hX dX9_tries_85 rfl ?_
    refine r_iload_n hX dX9_tries_86 rfl ?_
    obtain ⟨z15, p16, h⟩ := bnd_s h
    refine r_callV (As := [.int c2]) hX dX9_tries_87 mk_Fm_drawn mi_Fm_drawn ml_9_370 rfl rfl rfl rfl (by decide) (by decide) (Nat.le_of_ble_eq_true rfl) hr (ok_Fm_drawn (d := d + 5) c2 z11.2 p16) ?_
    refine r_iadd hX dX9_tries_90 ?_
    refine r_istore (L1 := [.ref 94, .int c1, .int c2, .int c3, .int v4, .int z5.1, .int z8.1, .int (irm ((z8.1 + (1 : Int32)) + z11.1) (z11.2.1 95 (tn (0 : Int32)))), .int ((1 : Int32) + z15.1), vU, vU]) hX dX9_tries_91 (Nat.le_of_ble_eq_true rfl) rfl ?_
    refine r_iload hX dX9_tries_93 rfl ?_
    refine r_iconst (v := (1 : Int32)) hX dX9_tries_95 (by decide) ?_
    refine r_iadd hX dX9_tries_96 ?_
    refine r_aload_n hX dX9_tries_97 rfl ?_
    refine r_bipush (v := (20 : Int32)) hX dX9_tries_98 (by decide) ?_
    obtain ⟨z17, p18, h⟩ := bnd_s h
    refine r_callV (As := [.int (20 : Int32)]) hX dX9_tries_100 mk_Fm_drawn mi_Fm_drawn ml_9_370 rfl rfl rfl rfl (by decide) (by decide) (Nat.le_of_ble_eq_true rfl) hr (ok_Fm_drawn (d := d + 5) (20 : Int32) z15.2 p18) ?_
    refine r_iadd hX dX9_tries_103 ?_
    refine r_istore (L1 := [.ref 94, .int c1, .int c2, .int c3, .int v4, .int z5.1, .int z8.1, .int (irm ((z8.1 + (1 : Int32)) + z11.1) (z11.2.1 95 (tn (0 : Int32)))), .int ((1 : Int32) + z15.1), .int ((v4 + (1 : Int32)) + z17.1), vU]) hX dX9_tries_104 (Nat.le_of_ble_eq_true rfl) rfl ?_
    refine r_aload_n hX dX9_tries_106 rfl ?_
    refine r_iload hX dX9_tries_107 rfl ?_
    refine r_iload hX dX9_tries_109 rfl ?_
    refine r_iload hX dX9_tries_111 rfl ?_
    refine r_iload_n hX dX9_tries_113 rfl ?_
    obtain ⟨z19, p20, h⟩ := bnd_s h
    refine r_callV (As := [.int z8.1, .int (irm ((z8.1 + (1 : Int32)) + z11.1) (z11.2.1 95 (tn (0 : Int32)))), .int ((1 : Int32) + z15.1), .int c3]) hX dX9_tries_114 mk_Fm_findsFor mi_Fm_findsFor ml_9_271 rfl rfl rfl rfl (by decide) (by decide) (Nat.le_of_ble_eq_true rfl) hr (ok_Fm_findsFor (d := d + 0) n z8.1 (irm ((z8.1 + (1 : Int32)) + z11.1) (z11.2.1 95 (tn (0 : Int32)))) ((1 : Int32) + z15.1) c3 z17.2 p20) ?_
    refine r_istore (L1 := [.ref 94, .int c1, .int c2, .int c3, .int v4, .int z5.1, .int z8.1, .int (irm ((z8.1 + (1 : Int32)) + z11.1) (z11.2.1 95 (tn (0 : Int32)))), .int ((1 : Int32) + z15.1), .int ((v4 + (1 : Int32)) + z17.1), .int (b2i z19.1)]) hX dX9_tries_117 (Nat.le_of_ble_eq_true rfl) rfl ?_
    refine r_aload_n hX dX9_tries_119 rfl ?_
    refine r_aload_n hX dX9_tries_120 rfl ?_
    refine r_iload hX dX9_tries_121 rfl ?_
    refine r_iload hX dX9_tries_123 rfl ?_
    refine r_iload hX dX9_tries_125 rfl ?_
    refine r_iload hX dX9_tries_127 rfl ?_
    obtain ⟨z21, p22, h⟩ := bnd_s h
    refine r_callV (As := [.int z8.1, .int (irm ((z8.1 + (1 : Int32)) + z11.1) (z11.2.1 95 (tn (0 : Int32)))), .int ((1 : Int32) + z15.1), .int (b2i z19.1)]) hX dX9_tries_129 mk_Fm_comes mi_Fm_comes ml_9_274 rfl rfl rfl rfl (by decide) (by decide) (Nat.le_of_ble_eq_true rfl) hr (ok_Fm_comes (d := d + 3) n z8.1 (irm ((z8.1 + (1 : Int32)) + z11.1) (z11.2.1 95 (tn (0 : Int32)))) ((1 : Int32) + z15.1) z19.1 z19.2 p22) ?_
    refine r_bipush (v := (7 : Int32)) hX dX9_tries_132 (by decide) ?_
    refine r_iload hX dX9_tries_134 rfl ?_
    refine r_ifb_eq (tgt := 144) hX dX9_tries_136 (by decide) (fun g23 => ?_) (fun g23 => ?_)
    · have h := (if_neg (show ¬ z19.1 = true from fun e => by rw [g23] at e; cases e)).symm.trans h
      refine r_iconst (v := (-1 : Int32)) hX dX9_tries_144 (by decide) ?_
      refine WR.fg (L' := [.ref 94, .int c1, .int c2, .int c3, .int v4, vU, vU, vU, .int ((1 : Int32) + z15.1), vU, .int (b2i z19.1)]) ⟨Or.inr rfl, Or.inr rfl, Or.inr rfl, Or.inr rfl, Or.inr rfl, Or.inl rfl, Or.inl rfl, Or.inl rfl, Or.inr rfl, Or.inl rfl, Or.inr rfl, trivial⟩ ?_
      exact ok_Fm_tries_j145 n v4 ((1 : Int32) + z15.1) (b2i z19.1) (-1 : Int32) (7 : Int32) z21.1 z21.2   hX hT hr hc hx h
    · have h := (if_pos g23).symm.trans h
      refine r_iload hX dX9_tries_139 rfl ?_
      refine r_goto (tgt := 145) hX dX9_tries_141 (by decide) ?_
      refine WR.fg (L' := [.ref 94, .int c1, .int c2, .int c3, .int v4, vU, vU, vU, .int ((1 : Int32) + z15.1), vU, .int (b2i z19.1)]) ⟨Or.inr rfl, Or.inr rfl, Or.inr rfl, Or.inr rfl, Or.inr rfl, Or.inl rfl, Or.inl rfl, Or.inl rfl, Or.inr rfl, Or.inl rfl, Or.inr rfl, trivial⟩ ?_
      exact ok_Fm_tries_j145 n v4 ((1 : Int32) + z15.1) (b2i z19.1) ((v4 + (1 : Int32)) + z17.1) (7 : Int32) z21.1 z21.2   hX hT hr hc hx h
set_option maxRecDepth 100000 in
theorem ok_Fm_tries {G : Gm} {l : Launch} {d : Nat} (n : Nat) (v1 : Int32) (v2 : Int32) (v3 : Int32) (M : Mm) {z : Mm}  (h : Fm_tries n v1 v2 v3 M = some z) : CK G l (d + 6) md_Fm_tries [.ref 94, .int v1, .int v2, .int v3] M SS (none) z SS := by
  refine ck_of mk_Fm_tries (Nat.le_of_ble_eq_true rfl) ⟨Nat.le_refl _, Nat.le_refl _⟩ (fun X hX hT hS hr hl => ?_)
  subst hl
  unfold Fm_tries at h
  show WR G X (mQ G X (none) z SS) 0 [.ref 94, .int v1, .int v2, .int v3, vU, vU, vU, vU, vU, vU, vU] [] M SS
  refine r_aload_n hX dX9_tries_0 rfl ?_
  refine r_iconst (v := (0 : Int32)) hX dX9_tries_1 (by decide) ?_
  refine r_iconst (v := (2 : Int32)) hX dX9_tries_2 (by decide) ?_
  obtain ⟨z1, p2, h⟩ := bnd_s h
  refine r_callV (As := [.int (0 : Int32), .int (2 : Int32)]) hX dX9_tries_3 mk_Fm_copies mi_Fm_copies ml_9_311 rfl rfl rfl rfl (by decide) (by decide) (Nat.le_of_ble_eq_true rfl) hr (ok_Fm_copies (d := d + 5) n (0 : Int32) (2 : Int32) M p2) ?_
  refine r_aload_n hX dX9_tries_6 rfl ?_
  refine r_getf (v := .ref 95) hX dX9_tries_7 fl_9_7 rfl (by decide) (by decide) rfl ?_
  refine r_bipush (v := (7 : Int32)) hX dX9_tries_10 (by decide) ?_
  refine r_iconst (v := (0 : Int32)) hX dX9_tries_12 (by decide) ?_
  obtain ⟨k3, h⟩ := grd_s h
  refine r_iast hX dX9_tries_13 rfl (by decide) (inb_at rfl k3) ?_
  refine r_aload_n hX dX9_tries_14 rfl ?_
  refine r_iconst (v := (0 : Int32)) hX dX9_tries_15 (by decide) ?_
  refine r_putI' hX dX9_tries_16 fl_9_361 rfl (by decide) (by decide) (okI_int _) ?_
  refine r_aload_n hX dX9_tries_19 rfl ?_
  refine r_iconst (v := (0 : Int32)) hX dX9_tries_20 (by decide) ?_
  refine r_putI' hX dX9_tries_21 fl_9_364 rfl (by decide) (by decide) (okI_int _) ?_
  refine r_aload_n hX dX9_tries_24 rfl ?_
  refine r_iconst (v := (-1 : Int32)) hX dX9_tries_25 (by decide) ?_
  refine r_putI' hX dX9_tries_26 fl_9_367 rfl (by decide) (by decide) (okI_int _) ?_
  refine r_iconst (v := (0 : Int32)) hX dX9_tries_29 (by decide) ?_
  refine r_istore (L1 := [.ref 94, .int v1, .int v2, .int v3, .int (0 : Int32), vU, vU, vU, vU, vU, vU]) hX dX9_tries_30 (Nat.le_of_ble_eq_true rfl) rfl ?_
  obtain ⟨y32, h1, h⟩ := bnd_s h
  refine loop_ok (P := fun s1 : Int32 × Mm => WR G X (mQ G X (none) z SS) 32 [.ref 94, .int v1, .int v2, .int v3, .int s1.1, vU, vU, vU, vU, vU, vU] [] s1.2 SS) (E := fun x1 : Mm => WR G X (mQ G X (none) z SS) 200 [.ref 94, vU, vU, vU, vU, vU, vU, vU, vU, vU, vU] [] x1 SS) (fun s1 o1 g1 g2 g3 => ok_Fm_tries_b32 n s1.1 s1.2  hX hT hr g2 g3 g1) n ((0 : Int32), ((up2 (up2 (up2 (up2 z1.1 95 (tn (7 : Int32)) (0 : Int32)) 94 36 (0 : Int32)) 94 37 (0 : Int32)) 94 38 (-1 : Int32)), z1.2)) y32 h1 ?_
  show WR G X (mQ G X (none) z SS) 200 [.ref 94, vU, vU, vU, vU, vU, vU, vU, vU, vU, vU] [] y32 SS
  refine r_aload_n hX dX9_tries_200 rfl ?_
  refine r_aload_n hX dX9_tries_201 rfl ?_
  obtain ⟨z33, p34, h⟩ := bnd_s h
  refine r_callV (As := []) hX dX9_tries_202 mk_Fm_litMany mi_Fm_litMany ml_9_373 rfl rfl rfl rfl (by decide) (by decide) (Nat.le_of_ble_eq_true rfl) hr (ok_Fm_litMany (d := d + 3) n y32 p34) ?_
  refine r_putI hX dX9_tries_205 fl_9_376 rfl (by decide) (by decide) (okI_int _) ?_
  refine r_aload_n hX dX9_tries_208 rfl ?_
  refine r_iconst (v := (2 : Int32)) hX dX9_tries_209 (by decide) ?_
  refine r_iconst (v := (0 : Int32)) hX dX9_tries_210 (by decide) ?_
  obtain ⟨z35, p36, h⟩ := bnd_s h
  refine r_callV (As := [.int (2 : Int32), .int (0 : Int32)]) hX dX9_tries_211 mk_Fm_copies mi_Fm_copies ml_9_311 rfl rfl rfl rfl (by decide) (by decide) (Nat.le_of_ble_eq_true rfl) hr (ok_Fm_copies (d := d + 5) n (2 : Int32) (0 : Int32) ((up2 y32.1 94 39 z33), y32.2) p36) ?_
  obtain rfl := Option.some.inj h
  exact r_vret hX hT dX9_tries_214
def Fm_isTrial (v0 : Int32) (v1 : Int32) (M : Mm) : Option (Bool) :=
  bnd (Fm_in v0 (1 : Int32) (200 : Int32) M) (fun z1 =>
  if z1 = true then
    bnd (Fm_in v1 (1 : Int32) (64 : Int32) M) (fun z4 =>
    if z4 = true then
      some true
    else
      some false)
  else
    some false)
set_option maxRecDepth 100000 in
theorem ok_Fm_isTrial {G : Gm} {l : Launch} {d : Nat} (v0 : Int32) (v1 : Int32) (M : Mm) {z : Bool}  (h : Fm_isTrial v0 v1 M = some z) : CK G l (d + 1) md_Fm_isTrial [.int v0, .int v1] M SS (some (.int (b2i z))) M SS := by
  refine ck_of mk_Fm_isTrial (Nat.le_of_ble_eq_true rfl) ⟨Nat.le_refl _, Nat.le_refl _⟩ (fun X hX hT hS hr hl => ?_)
  subst hl
  unfold Fm_isTrial at h
  show WR G X (mQ G X (some (.int (b2i z))) M SS) 0 [.int v0, .int v1] [] M SS
  refine r_iload_n hX dX9_isTrial_0 rfl ?_
  refine r_iconst (v := (1 : Int32)) hX dX9_isTrial_1 (by decide) ?_
  refine r_sipush (v := (200 : Int32)) hX dX9_isTrial_2 (by decide) ?_
  obtain ⟨z1, p2, h⟩ := bnd_s h
  refine r_callS (As := [.int v0, .int (1 : Int32), .int (200 : Int32)]) hX dX9_isTrial_5 mk_Fm_in ms_Fm_in ml_9_83 rfl rfl rfl (Nat.le_of_ble_eq_true rfl) hr (ok_Fm_in (d := d + 0) v0 (1 : Int32) (200 : Int32) M p2) ?_
  refine r_ifb_eq (tgt := 25) hX dX9_isTrial_8 (by decide) (fun g3 => ?_) (fun g3 => ?_)
  · have h := (if_neg (show ¬ z1 = true from fun e => by rw [g3] at e; cases e)).symm.trans h
    refine r_iconst (v := (0 : Int32)) hX dX9_isTrial_25 (by decide) ?_
    obtain rfl := Option.some.inj h
    exact r_iret (v := b2i false) hX hT dX9_isTrial_26 (okI_b false).1
  · have h := (if_pos g3).symm.trans h
    refine r_iload_n hX dX9_isTrial_11 rfl ?_
    refine r_iconst (v := (1 : Int32)) hX dX9_isTrial_12 (by decide) ?_
    refine r_bipush (v := (64 : Int32)) hX dX9_isTrial_13 (by decide) ?_
    obtain ⟨z4, p5, h⟩ := bnd_s h
    refine r_callS (As := [.int v1, .int (1 : Int32), .int (64 : Int32)]) hX dX9_isTrial_15 mk_Fm_in ms_Fm_in ml_9_83 rfl rfl rfl (Nat.le_of_ble_eq_true rfl) hr (ok_Fm_in (d := d + 0) v1 (1 : Int32) (64 : Int32) M p5) ?_
    refine r_ifb_eq (tgt := 25) hX dX9_isTrial_18 (by decide) (fun g6 => ?_) (fun g6 => ?_)
    · have h := (if_neg (show ¬ z4 = true from fun e => by rw [g6] at e; cases e)).symm.trans h
      refine r_iconst (v := (0 : Int32)) hX dX9_isTrial_25 (by decide) ?_
      obtain rfl := Option.some.inj h
      exact r_iret (v := b2i false) hX hT dX9_isTrial_26 (okI_b false).1
    · have h := (if_pos g6).symm.trans h
      refine r_iconst (v := (1 : Int32)) hX dX9_isTrial_21 (by decide) ?_
      refine r_goto (tgt := 26) hX dX9_isTrial_22 (by decide) ?_
      obtain rfl := Option.some.inj h
      exact r_iret (v := b2i true) hX hT dX9_isTrial_26 (okI_b true).1
def Fm_trial (n : Nat) (v1 : Int32) (v2 : Int32) (v3 : Int32) (v4 : Int32) (M : Mm) : Option (Int32 × Mm) :=
  bnd (Fm_isTrial v1 v2 M) (fun z1 =>
  if z1 = true then
    bnd (Fm_isRule v3 M) (fun z4 =>
    if z4 = true then
      bnd (Fm_in v4 (0 : Int32) (3 : Int32) M) (fun z7 =>
      if z7 = true then
        bnd (Fm_tries n v1 v2 v3 M) (fun z10 =>
        if v4 = (0 : Int32) then
          some (z10.1 94 36, z10)
        else
          if v4 = (1 : Int32) then
            some (z10.1 94 37, z10)
          else
            if v4 = (2 : Int32) then
              some (z10.1 94 38, z10)
            else
              some (z10.1 94 39, z10))
      else
        some ((-2 : Int32), M))
    else
      some ((-2 : Int32), M))
  else
    some ((-2 : Int32), M))
set_option maxRecDepth 100000 in
theorem ok_Fm_trial {G : Gm} {l : Launch} {d : Nat} (n : Nat) (v1 : Int32) (v2 : Int32) (v3 : Int32) (v4 : Int32) (M : Mm) {z : Int32 × Mm}  (h : Fm_trial n v1 v2 v3 v4 M = some z) : CK G l (d + 7) md_Fm_trial [.ref 94, .int v1, .int v2, .int v3, .int v4] M SS (some (.int z.1)) z.2 SS := by
  refine ck_of mk_Fm_trial (Nat.le_of_ble_eq_true rfl) ⟨Nat.le_refl _, Nat.le_refl _⟩ (fun X hX hT hS hr hl => ?_)
  subst hl
  unfold Fm_trial at h
  show WR G X (mQ G X (some (.int z.1)) z.2 SS) 0 [.ref 94, .int v1, .int v2, .int v3, .int v4] [] M SS
  refine r_iload_n hX dX9_trial_0 rfl ?_
  refine r_iload_n hX dX9_trial_1 rfl ?_
  obtain ⟨z1, p2, h⟩ := bnd_s h
  refine r_callS (As := [.int v1, .int v2]) hX dX9_trial_2 mk_Fm_isTrial ms_Fm_isTrial ml_9_379 rfl rfl rfl (Nat.le_of_ble_eq_true rfl) hr (ok_Fm_isTrial (d := d + 5) v1 v2 M p2) ?_
  refine r_ifb_eq (tgt := 25) hX dX9_trial_5 (by decide) (fun g3 => ?_) (fun g3 => ?_)
  · have h := (if_neg (show ¬ z1 = true from fun e => by rw [g3] at e; cases e)).symm.trans h
    refine r_bipush (v := (-2 : Int32)) hX dX9_trial_25 (by decide) ?_
    obtain rfl := Option.some.inj h
    exact r_iret hX hT dX9_trial_27 rfl
  · have h := (if_pos g3).symm.trans h
    refine r_iload_n hX dX9_trial_8 rfl ?_
    obtain ⟨z4, p5, h⟩ := bnd_s h
    refine r_callS (As := [.int v3]) hX dX9_trial_9 mk_Fm_isRule ms_Fm_isRule ml_9_265 rfl rfl rfl (Nat.le_of_ble_eq_true rfl) hr (ok_Fm_isRule (d := d + 5) v3 M p5) ?_
    refine r_ifb_eq (tgt := 25) hX dX9_trial_12 (by decide) (fun g6 => ?_) (fun g6 => ?_)
    · have h := (if_neg (show ¬ z4 = true from fun e => by rw [g6] at e; cases e)).symm.trans h
      refine r_bipush (v := (-2 : Int32)) hX dX9_trial_25 (by decide) ?_
      obtain rfl := Option.some.inj h
      exact r_iret hX hT dX9_trial_27 rfl
    · have h := (if_pos g6).symm.trans h
      refine r_iload hX dX9_trial_15 rfl ?_
      refine r_iconst (v := (0 : Int32)) hX dX9_trial_17 (by decide) ?_
      refine r_iconst (v := (3 : Int32)) hX dX9_trial_18 (by decide) ?_
      obtain ⟨z7, p8, h⟩ := bnd_s h
      refine r_callS (As := [.int v4, .int (0 : Int32), .int (3 : Int32)]) hX dX9_trial_19 mk_Fm_in ms_Fm_in ml_9_83 rfl rfl rfl (Nat.le_of_ble_eq_true rfl) hr (ok_Fm_in (d := d + 6) v4 (0 : Int32) (3 : Int32) M p8) ?_
      refine r_ifb_ne (tgt := 28) hX dX9_trial_22 (by decide) (fun g9 => ?_) (fun g9 => ?_)
      · have h := (if_pos g9).symm.trans h
        refine r_aload_n hX dX9_trial_28 rfl ?_
        refine r_iload_n hX dX9_trial_29 rfl ?_
        refine r_iload_n hX dX9_trial_30 rfl ?_
        refine r_iload_n hX dX9_trial_31 rfl ?_
        obtain ⟨z10, p11, h⟩ := bnd_s h
        refine r_callV (As := [.int v1, .int v2, .int v3]) hX dX9_trial_32 mk_Fm_tries mi_Fm_tries ml_9_382 rfl rfl rfl rfl (by decide) (by decide) (Nat.le_of_ble_eq_true rfl) hr (ok_Fm_tries (d := d + 0) n v1 v2 v3 M p11) ?_
        refine r_iload hX dX9_trial_35 rfl ?_
        refine r_if_ne (tgt := 47) hX dX9_trial_37 (by decide) (fun g12 => ?_) (fun g12 => ?_)
        · have h := (if_neg g12).symm.trans h
          refine r_iload hX dX9_trial_47 rfl ?_
          refine r_iconst (v := (1 : Int32)) hX dX9_trial_49 (by decide) ?_
          refine r_icmp_ne (tgt := 60) hX dX9_trial_50 (by decide) (fun g13 => ?_) (fun g13 => ?_)
          · have h := (if_neg g13).symm.trans h
            refine r_iload hX dX9_trial_60 rfl ?_
            refine r_iconst (v := (2 : Int32)) hX dX9_trial_62 (by decide) ?_
            refine r_icmp_ne (tgt := 73) hX dX9_trial_63 (by decide) (fun g14 => ?_) (fun g14 => ?_)
            · have h := (if_neg g14).symm.trans h
              refine r_aload_n hX dX9_trial_73 rfl ?_
              refine r_getf (v := .int (z10.1 94 39)) hX dX9_trial_74 fl_9_376 rfl (by decide) (by decide) rfl ?_
              obtain rfl := Option.some.inj h
              exact r_iret hX hT dX9_trial_77 rfl
            · have h := (if_pos g14).symm.trans h
              refine r_aload_n hX dX9_trial_66 rfl ?_
              refine r_getf (v := .int (z10.1 94 38)) hX dX9_trial_67 fl_9_367 rfl (by decide) (by decide) rfl ?_
              refine r_goto (tgt := 77) hX dX9_trial_70 (by decide) ?_
              obtain rfl := Option.some.inj h
              exact r_iret hX hT dX9_trial_77 rfl
          · have h := (if_pos g13).symm.trans h
            refine r_aload_n hX dX9_trial_53 rfl ?_
            refine r_getf (v := .int (z10.1 94 37)) hX dX9_trial_54 fl_9_364 rfl (by decide) (by decide) rfl ?_
            refine r_goto (tgt := 77) hX dX9_trial_57 (by decide) ?_
            obtain rfl := Option.some.inj h
            exact r_iret hX hT dX9_trial_77 rfl
        · have h := (if_pos g12).symm.trans h
          refine r_aload_n hX dX9_trial_40 rfl ?_
          refine r_getf (v := .int (z10.1 94 36)) hX dX9_trial_41 fl_9_361 rfl (by decide) (by decide) rfl ?_
          refine r_goto (tgt := 77) hX dX9_trial_44 (by decide) ?_
          obtain rfl := Option.some.inj h
          exact r_iret hX hT dX9_trial_77 rfl
      · have h := (if_neg (show ¬ z7 = true from fun e => by rw [g9] at e; cases e)).symm.trans h
        refine r_bipush (v := (-2 : Int32)) hX dX9_trial_25 (by decide) ?_
        obtain rfl := Option.some.inj h
        exact r_iret hX hT dX9_trial_27 rfl
def Fm_bestRule_j46 (v3 : Int32) (v4 : Int32) (v5 : Int32) (M : Mm) : Option ((Int32 × Int32 × Int32 × Mm) ⊕ (Int32 × Mm)) :=
  bnd (Fm_min v4 (M.1 94 36) M) (fun z8 =>
  some (.inl (v3, z8, v5 + (1 : Int32), M)))
def Fm_bestRule_b20 (n : Nat) (c1 : Int32) (c2 : Int32) (v3 : Int32) (v4 : Int32) (v5 : Int32) (M : Mm) : Option ((Int32 × Int32 × Int32 × Mm) ⊕ (Int32 × Mm)) :=
  if (4 : Int32) ≤ v5 then
    some (.inr (v3, M))
  else
    bnd (Fm_tries n c1 c2 v5 M) (fun z5 =>
    if v4 ≤ (z5.1 94 36) then
      Fm_bestRule_j46 v3 v4 v5 z5
    else
      Fm_bestRule_j46 v5 v4 v5 z5)
def Fm_bestRule (n : Nat) (v1 : Int32) (v2 : Int32) (M : Mm) : Option (Int32 × Mm) :=
  bnd (Fm_isTrial v1 v2 M) (fun z1 =>
  if z1 = true then
    bnd (loop (fun s1 : Int32 × Int32 × Int32 × Mm => Fm_bestRule_b20 n v1 v2 s1.1 s1.2.1 s1.2.2.1 s1.2.2.2) n ((-1 : Int32), (1000000000 : Int32), (0 : Int32), M)) (fun y10 =>
    some (y10.1, y10.2))
  else
    some ((-2 : Int32), M))
set_option maxRecDepth 100000 in
theorem ok_Fm_bestRule_j46 (n : Nat) (v3 : Int32) (v4 : Int32) (v5 : Int32) (M : Mm) {c1 : Int32} {c2 : Int32} {z : Int32 × Mm} {oo : (Int32 × Int32 × Int32 × Mm) ⊕ (Int32 × Mm)} {G : Gm} {X : Cx} {d : Nat}  (hX : XK G X 9 cX9_bestRule 6 (d + 7)) (hT : XT X (some .int) "bestRule") (hr : XR X SS) (hc : ∀ s1 : Int32 × Int32 × Int32 × Mm, oo = .inl s1 → WR G X (mQ G X (some (.int z.1)) z.2 SS) 20 [.ref 94, .int c1, .int c2, .int s1.1, .int s1.2.1, .int s1.2.2.1] [] s1.2.2.2 SS) (hx : ∀ x1 : Int32 × Mm, oo = .inr x1 → WR G X (mQ G X (some (.int z.1)) z.2 SS) 63 [.ref 94, vU, vU, .int x1.1, vU, vU] [] x1.2 SS) (h : Fm_bestRule_j46 v3 v4 v5 M = some oo) : WR G X (mQ G X (some (.int z.1)) z.2 SS) 46 [.ref 94, .int c1, .int c2, .int v3, .int v4, .int v5] [] M SS := by
  unfold Fm_bestRule_j46 at h
  refine r_iload hX dX9_bestRule_46 rfl ?_
  refine r_aload_n hX dX9_bestRule_48 rfl ?_
  refine r_getf (v := .int (M.1 94 36)) hX dX9_bestRule_49 fl_9_361 rfl (by decide) (by decide) rfl ?_
  obtain ⟨z8, p9, h⟩ := bnd_s h
  refine r_callS (As := [.int v4, .int (M.1 94 36)]) hX dX9_bestRule_52 mk_Fm_min ms_Fm_min ml_9_198 rfl rfl rfl (Nat.le_of_ble_eq_true rfl) hr (ok_Fm_min (d := d + 6) v4 (M.1 94 36) M p9) ?_
  refine r_istore (L1 := [.ref 94, .int c1, .int c2, .int v3, .int z8, .int v5]) hX dX9_bestRule_55 (Nat.le_of_ble_eq_true rfl) rfl ?_
  refine r_iinc (v := v5 + (1 : Int32)) (L1 := [.ref 94, .int c1, .int c2, .int v3, .int z8, .int (v5 + (1 : Int32))]) hX dX9_bestRule_57 rfl rfl rfl ?_
  refine r_goto (tgt := 20) hX dX9_bestRule_60 (by decide) ?_
  exact hc (v3, z8, v5 + (1 : Int32), M) (Option.some.inj h).symm
set_option maxRecDepth 100000 in
theorem ok_Fm_bestRule_b20 (n : Nat) (v3 : Int32) (v4 : Int32) (v5 : Int32) (M : Mm) {c1 : Int32} {c2 : Int32} {z : Int32 × Mm} {oo : (Int32 × Int32 × Int32 × Mm) ⊕ (Int32 × Mm)} {G : Gm} {X : Cx} {d : Nat}  (hX : XK G X 9 cX9_bestRule 6 (d + 7)) (hT : XT X (some .int) "bestRule") (hr : XR X SS) (hc : ∀ s1 : Int32 × Int32 × Int32 × Mm, oo = .inl s1 → WR G X (mQ G X (some (.int z.1)) z.2 SS) 20 [.ref 94, .int c1, .int c2, .int s1.1, .int s1.2.1, .int s1.2.2.1] [] s1.2.2.2 SS) (hx : ∀ x1 : Int32 × Mm, oo = .inr x1 → WR G X (mQ G X (some (.int z.1)) z.2 SS) 63 [.ref 94, vU, vU, .int x1.1, vU, vU] [] x1.2 SS) (h : Fm_bestRule_b20 n c1 c2 v3 v4 v5 M = some oo) : WR G X (mQ G X (some (.int z.1)) z.2 SS) 20 [.ref 94, .int c1, .int c2, .int v3, .int v4, .int v5] [] M SS := by
  unfold Fm_bestRule_b20 at h
  refine r_iload hX dX9_bestRule_20 rfl ?_
  refine r_iconst (v := (4 : Int32)) hX dX9_bestRule_22 (by decide) ?_
  refine r_icmp_ge (tgt := 63) hX dX9_bestRule_23 (by decide) (fun g4 => ?_) (fun g4 => ?_)
  · have h := (if_pos g4).symm.trans h
    refine WR.fg (L' := [.ref 94, vU, vU, .int v3, vU, vU]) ⟨Or.inr rfl, Or.inl rfl, Or.inl rfl, Or.inr rfl, Or.inl rfl, Or.inl rfl, trivial⟩ ?_
    exact hx _ (Option.some.inj h).symm
  · have h := (if_neg g4).symm.trans h
    refine r_aload_n hX dX9_bestRule_26 rfl ?_
    refine r_iload_n hX dX9_bestRule_27 rfl ?_
    refine r_iload_n hX dX9_bestRule_28 rfl ?_
    refine r_iload hX dX9_bestRule_29 rfl ?_
    obtain ⟨z5, p6, h⟩ := bnd_s h
    refine r_callV (As := [.int c1, .int c2, .int v5]) hX dX9_bestRule_31 mk_Fm_tries mi_Fm_tries ml_9_382 rfl rfl rfl rfl (by decide) (by decide) (Nat.le_of_ble_eq_true rfl) hr (ok_Fm_tries (d := d + 0) n c1 c2 v5 M p6) ?_
    refine r_aload_n hX dX9_bestRule_34 rfl ?_
    refine r_getf (v := .int (z5.1 94 36)) hX dX9_bestRule_35 fl_9_361 rfl (by decide) (by decide) rfl ?_
    refine r_iload hX dX9_bestRule_38 rfl ?_
    refine r_icmp_ge (tgt := 46) hX dX9_bestRule_40 (by decide) (fun g7 => ?_) (fun g7 => ?_)
    · have h := (if_pos g7).symm.trans h
      exact ok_Fm_bestRule_j46 n v3 v4 v5 z5   hX hT hr hc hx h
    · have h := (if_neg g7).symm.trans h
      refine r_iload hX dX9_bestRule_43 rfl ?_
      refine r_istore_n (L1 := [.ref 94, .int c1, .int c2, .int v5, .int v4, .int v5]) hX dX9_bestRule_45 (Nat.le_of_ble_eq_true rfl) rfl ?_
      exact ok_Fm_bestRule_j46 n v5 v4 v5 z5   hX hT hr hc hx h
set_option maxRecDepth 100000 in
theorem ok_Fm_bestRule {G : Gm} {l : Launch} {d : Nat} (n : Nat) (v1 : Int32) (v2 : Int32) (M : Mm) {z : Int32 × Mm}  (h : Fm_bestRule n v1 v2 M = some z) : CK G l (d + 7) md_Fm_bestRule [.ref 94, .int v1, .int v2] M SS (some (.int z.1)) z.2 SS := by
  refine ck_of mk_Fm_bestRule (Nat.le_of_ble_eq_true rfl) ⟨Nat.le_refl _, Nat.le_refl _⟩ (fun X hX hT hS hr hl => ?_)
  subst hl
  unfold Fm_bestRule at h
  show WR G X (mQ G X (some (.int z.1)) z.2 SS) 0 [.ref 94, .int v1, .int v2, vU, vU, vU] [] M SS
  refine r_iload_n hX dX9_bestRule_0 rfl ?_
  refine r_iload_n hX dX9_bestRule_1 rfl ?_
  obtain ⟨z1, p2, h⟩ := bnd_s h
  refine r_callS (As := [.int v1, .int v2]) hX dX9_bestRule_2 mk_Fm_isTrial ms_Fm_isTrial ml_9_379 rfl rfl rfl (Nat.le_of_ble_eq_true rfl) hr (ok_Fm_isTrial (d := d + 5) v1 v2 M p2) ?_
  refine r_ifb_ne (tgt := 11) hX dX9_bestRule_5 (by decide) (fun g3 => ?_) (fun g3 => ?_)
  · have h := (if_pos g3).symm.trans h
    refine r_iconst (v := (-1 : Int32)) hX dX9_bestRule_11 (by decide) ?_
    refine r_istore_n (L1 := [.ref 94, .int v1, .int v2, .int (-1 : Int32), vU, vU]) hX dX9_bestRule_12 (Nat.le_of_ble_eq_true rfl) rfl ?_
    refine r_ldc hX dX9_bestRule_13 ki_9_236 ?_
    refine r_istore (L1 := [.ref 94, .int v1, .int v2, .int (-1 : Int32), .int (1000000000 : Int32), vU]) hX dX9_bestRule_15 (Nat.le_of_ble_eq_true rfl) rfl ?_
    refine r_iconst (v := (0 : Int32)) hX dX9_bestRule_17 (by decide) ?_
    refine r_istore (L1 := [.ref 94, .int v1, .int v2, .int (-1 : Int32), .int (1000000000 : Int32), .int (0 : Int32)]) hX dX9_bestRule_18 (Nat.le_of_ble_eq_true rfl) rfl ?_
    obtain ⟨y10, h1, h⟩ := bnd_s h
    refine loop_ok (P := fun s1 : Int32 × Int32 × Int32 × Mm => WR G X (mQ G X (some (.int z.1)) z.2 SS) 20 [.ref 94, .int v1, .int v2, .int s1.1, .int s1.2.1, .int s1.2.2.1] [] s1.2.2.2 SS) (E := fun x1 : Int32 × Mm => WR G X (mQ G X (some (.int z.1)) z.2 SS) 63 [.ref 94, vU, vU, .int x1.1, vU, vU] [] x1.2 SS) (fun s1 o1 g1 g2 g3 => ok_Fm_bestRule_b20 n s1.1 s1.2.1 s1.2.2.1 s1.2.2.2  hX hT hr g2 g3 g1) n ((-1 : Int32), (1000000000 : Int32), (0 : Int32), M) y10 h1 ?_
    show WR G X (mQ G X (some (.int z.1)) z.2 SS) 63 [.ref 94, vU, vU, .int y10.1, vU, vU] [] y10.2 SS
    refine r_iload_n hX dX9_bestRule_63 rfl ?_
    obtain rfl := Option.some.inj h
    exact r_iret hX hT dX9_bestRule_64 rfl
  · have h := (if_neg (show ¬ z1 = true from fun e => by rw [g3] at e; cases e)).symm.trans h
    refine r_bipush (v := (-2 : Int32)) hX dX9_bestRule_8 (by decide) ?_
    obtain rfl := Option.some.inj h
    exact r_iret hX hT dX9_bestRule_10 rfl
def Fm_partOf_b2 (n : Nat) (c2 : Int32) (v3 : Int32) (M : Mm) : Option ((Int32 × Mm) ⊕ ((Mm) ⊕ (Int32 × Mm))) :=
  if v3 ≤ (0 : Int32) then
    some (.inr (.inl M))
  else
    bnd (Fm_finds n v3 c2 M) (fun z2 =>
    if z2.1 = true then
      some (.inr (.inr (v3, z2.2)))
    else
      some (.inl (v3 + (-1 : Int32), z2.2)))
def Fm_partOf (n : Nat) (v1 : Int32) (v2 : Int32) (M : Mm) : Option (Int32 × Mm) :=
  bnd (loop (fun s1 : Int32 × Mm => Fm_partOf_b2 n v2 s1.1 s1.2) n (v1, M)) (fun y5 =>
  elS y5 (fun x6 =>
    some ((0 : Int32), x6))
    (fun e7 => some e7))
set_option maxRecDepth 100000 in
theorem ok_Fm_partOf_b2 (n : Nat) (v3 : Int32) (M : Mm) {c2 : Int32} {z : Int32 × Mm} {oo : (Int32 × Mm) ⊕ ((Mm) ⊕ (Int32 × Mm))} {G : Gm} {X : Cx} {d : Nat}  (hX : XK G X 9 cX9_partOf 4 (d + 5)) (hT : XT X (some .int) "partOf") (hr : XR X SS) (hc : ∀ s1 : Int32 × Mm, oo = .inl s1 → WR G X (mQ G X (some (.int z.1)) z.2 SS) 2 [.ref 94, vU, .int c2, .int s1.1] [] s1.2 SS) (hx : ∀ x1 : (Mm) ⊕ (Int32 × Mm), oo = .inr x1 → elS x1 (fun x2 => WR G X (mQ G X (some (.int z.1)) z.2 SS) 23 [.ref 94, vU, vU, vU] [] x2 SS) (fun y1 => y1 = z)) (h : Fm_partOf_b2 n c2 v3 M = some oo) : WR G X (mQ G X (some (.int z.1)) z.2 SS) 2 [.ref 94, vU, .int c2, .int v3] [] M SS := by
  unfold Fm_partOf_b2 at h
  refine r_iload_n hX dX9_partOf_2 rfl ?_
  refine r_if_le (tgt := 23) hX dX9_partOf_3 (by decide) (fun g1 => ?_) (fun g1 => ?_)
  · have h := (if_pos g1).symm.trans h
    refine WR.fg (L' := [.ref 94, vU, vU, vU]) ⟨Or.inr rfl, Or.inl rfl, Or.inl rfl, Or.inl rfl, trivial⟩ ?_
    exact hx _ (Option.some.inj h).symm
  · have h := (if_neg g1).symm.trans h
    refine r_aload_n hX dX9_partOf_6 rfl ?_
    refine r_iload_n hX dX9_partOf_7 rfl ?_
    refine r_iload_n hX dX9_partOf_8 rfl ?_
    obtain ⟨z2, p3, h⟩ := bnd_s h
    refine r_callV (As := [.int v3, .int c2]) hX dX9_partOf_9 mk_Fm_finds mi_Fm_finds ml_9_253 rfl rfl rfl rfl (by decide) (by decide) (Nat.le_of_ble_eq_true rfl) hr (ok_Fm_finds (d := d + 0) n v3 c2 M p3) ?_
    refine r_ifb_eq (tgt := 17) hX dX9_partOf_12 (by decide) (fun g4 => ?_) (fun g4 => ?_)
    · have h := (if_neg (show ¬ z2.1 = true from fun e => by rw [g4] at e; cases e)).symm.trans h
      refine r_iinc (v := v3 + (-1 : Int32)) (L1 := [.ref 94, vU, .int c2, .int (v3 + (-1 : Int32))]) hX dX9_partOf_17 rfl rfl rfl ?_
      refine r_goto (tgt := 2) hX dX9_partOf_20 (by decide) ?_
      exact hc (v3 + (-1 : Int32), z2.2) (Option.some.inj h).symm
    · have h := (if_pos g4).symm.trans h
      refine r_iload_n hX dX9_partOf_15 rfl ?_
      obtain rfl := hx _ (Option.some.inj h).symm
      exact r_iret hX hT dX9_partOf_16 rfl
set_option maxRecDepth 100000 in
theorem ok_Fm_partOf {G : Gm} {l : Launch} {d : Nat} (n : Nat) (v1 : Int32) (v2 : Int32) (M : Mm) {z : Int32 × Mm}  (h : Fm_partOf n v1 v2 M = some z) : CK G l (d + 5) md_Fm_partOf [.ref 94, .int v1, .int v2] M SS (some (.int z.1)) z.2 SS := by
  refine ck_of mk_Fm_partOf (Nat.le_of_ble_eq_true rfl) ⟨Nat.le_refl _, Nat.le_refl _⟩ (fun X hX hT hS hr hl => ?_)
  subst hl
  unfold Fm_partOf at h
  show WR G X (mQ G X (some (.int z.1)) z.2 SS) 0 [.ref 94, .int v1, .int v2, vU] [] M SS
  refine r_iload_n hX dX9_partOf_0 rfl ?_
  refine r_istore_n (L1 := [.ref 94, .int v1, .int v2, .int v1]) hX dX9_partOf_1 (Nat.le_of_ble_eq_true rfl) rfl ?_
  refine WR.fg (L' := [.ref 94, vU, .int v2, .int v1]) ⟨Or.inr rfl, Or.inl rfl, Or.inr rfl, Or.inr rfl, trivial⟩ ?_
  obtain ⟨y5, h1, h⟩ := bnd_s h
  refine loop_ok (P := fun s1 : Int32 × Mm => WR G X (mQ G X (some (.int z.1)) z.2 SS) 2 [.ref 94, vU, .int v2, .int s1.1] [] s1.2 SS) (E := fun x1 : (Mm) ⊕ (Int32 × Mm) => elS x1 (fun x2 => WR G X (mQ G X (some (.int z.1)) z.2 SS) 23 [.ref 94, vU, vU, vU] [] x2 SS) (fun y1 => y1 = z)) (fun s1 o1 g1 g2 g3 => ok_Fm_partOf_b2 n s1.1 s1.2  hX hT hr g2 g3 g1) n (v1, M) y5 h1 ?_
  cases y5 with
  | inr e7 =>
    exact Option.some.inj h
  | inl x6 =>
    show WR G X (mQ G X (some (.int z.1)) z.2 SS) 23 [.ref 94, vU, vU, vU] [] x6 SS
    refine r_iconst (v := (0 : Int32)) hX dX9_partOf_23 (by decide) ?_
    obtain rfl := Option.some.inj h
    exact r_iret hX hT dX9_partOf_24 rfl
def Fm_parts_b42 (n : Nat) (c1 : Int32) (c2 : Int32) (c4 : Int32) (v5 : Int32) (v6 : Int32) (v7 : Int32) (M : Mm) : Option ((Int32 × Int32 × Int32 × Mm) ⊕ (Int32 × Int32 × Mm)) :=
  if (20 : Int32) ≤ v6 then
    some (.inr (v5, v6, M))
  else
    if v7 ≤ (0 : Int32) then
      some (.inr (v5, v6, M))
    else
      bnd (Fm_comes n c1 c2 v7 true M) (fun z12 =>
      bnd (Fm_partOf n (v5 - v7) c4 z12.2) (fun z14 =>
      some (.inl (v5 - v7, v6 + (1 : Int32), z14.1, z14.2))))
def Fm_parts_j91 (n : Nat) (v5 : Int32) (v6 : Int32) (M : Mm) : Option (Int32 × Mm) :=
  bnd (Fm_copies n (2 : Int32) (0 : Int32) M) (fun z17 =>
  if v5 ≤ (0 : Int32) then
    some (v6, z17)
  else
    some ((-2 : Int32), z17))
def Fm_parts (n : Nat) (v1 : Int32) (v2 : Int32) (v3 : Int32) (v4 : Int32) (M : Mm) : Option (Int32 × Mm) :=
  bnd (Fm_isAsked v1 v2 v3 v4 M) (fun z1 =>
  if z1 = true then
    bnd (Fm_copies n (0 : Int32) (2 : Int32) M) (fun z4 =>
    bnd (Fm_findsWays n v1 v2 z4) (fun z6 =>
    bnd (Fm_partOf n v3 v4 z6) (fun z8 =>
    bnd (loop (fun s1 : Int32 × Int32 × Int32 × Mm => Fm_parts_b42 n v1 v2 v4 s1.1 s1.2.1 s1.2.2.1 s1.2.2.2) n (v3, (0 : Int32), z8.1, z8.2)) (fun y16 =>
    Fm_parts_j91 n y16.1 y16.2.1 y16.2.2))))
  else
    some ((-1 : Int32), M))
set_option maxRecDepth 100000 in
theorem ok_Fm_parts_b42 (n : Nat) (v5 : Int32) (v6 : Int32) (v7 : Int32) (M : Mm) {c1 : Int32} {c2 : Int32} {c4 : Int32} {z : Int32 × Mm} {oo : (Int32 × Int32 × Int32 × Mm) ⊕ (Int32 × Int32 × Mm)} {G : Gm} {X : Cx} {d : Nat}  (hX : XK G X 9 cX9_parts 9 (d + 6)) (hT : XT X (some .int) "parts") (hr : XR X SS) (hc : ∀ s1 : Int32 × Int32 × Int32 × Mm, oo = .inl s1 → WR G X (mQ G X (some (.int z.1)) z.2 SS) 42 [.ref 94, .int c1, .int c2, vU, .int c4, .int s1.1, .int s1.2.1, .int s1.2.2.1, vU] [] s1.2.2.2 SS) (hx : ∀ x1 : Int32 × Int32 × Mm, oo = .inr x1 → WR G X (mQ G X (some (.int z.1)) z.2 SS) 91 [.ref 94, vU, vU, vU, vU, .int x1.1, .int x1.2.1, vU, vU] [] x1.2.2 SS) (h : Fm_parts_b42 n c1 c2 c4 v5 v6 v7 M = some oo) : WR G X (mQ G X (some (.int z.1)) z.2 SS) 42 [.ref 94, .int c1, .int c2, vU, .int c4, .int v5, .int v6, .int v7, vU] [] M SS := by
  unfold Fm_parts_b42 at h
  refine r_iload hX dX9_parts_42 rfl ?_
  refine r_bipush (v := (20 : Int32)) hX dX9_parts_44 (by decide) ?_
  refine r_icmp_ge (tgt := 91) hX dX9_parts_46 (by decide) (fun g10 => ?_) (fun g10 => ?_)
  · have h := (if_pos g10).symm.trans h
    refine WR.fg (L' := [.ref 94, vU, vU, vU, vU, .int v5, .int v6, vU, vU]) ⟨Or.inr rfl, Or.inl rfl, Or.inl rfl, Or.inl rfl, Or.inl rfl, Or.inr rfl, Or.inr rfl, Or.inl rfl, Or.inl rfl, trivial⟩ ?_
    exact hx _ (Option.some.inj h).symm
  · have h := (if_neg g10).symm.trans h
    refine r_iload hX dX9_parts_49 rfl ?_
    refine r_if_le (tgt := 91) hX dX9_parts_51 (by decide) (fun g11 => ?_) (fun g11 => ?_)
    · have h := (if_pos g11).symm.trans h
      refine WR.fg (L' := [.ref 94, vU, vU, vU, vU, .int v5, .int v6, vU, vU]) ⟨Or.inr rfl, Or.inl rfl, Or.inl rfl, Or.inl rfl, Or.inl rfl, Or.inr rfl, Or.inr rfl, Or.inl rfl, Or.inl rfl, trivial⟩ ?_
      exact hx _ (Option.some.inj h).symm
    · have h := (if_neg g11).symm.trans h
      refine r_aload_n hX dX9_parts_54 rfl ?_
      refine r_iload_n hX dX9_parts_55 rfl ?_
      refine r_iload_n hX dX9_parts_56 rfl ?_
      refine r_iload hX dX9_parts_57 rfl ?_
      refine r_iconst (v := (1 : Int32)) hX dX9_parts_59 (by decide) ?_
      obtain ⟨z12, p13, h⟩ := bnd_s h
      refine r_callV (As := [.int c1, .int c2, .int v7, .int (1 : Int32)]) hX dX9_parts_60 mk_Fm_comes mi_Fm_comes ml_9_274 rfl rfl rfl rfl (by decide) (by decide) (Nat.le_of_ble_eq_true rfl) hr (ok_Fm_comes (d := d + 3) n c1 c2 v7 true M p13) ?_
      refine r_istore (L1 := [.ref 94, .int c1, .int c2, vU, .int c4, .int v5, .int v6, .int v7, .int z12.1]) hX dX9_parts_63 (Nat.le_of_ble_eq_true rfl) rfl ?_
      refine r_iload hX dX9_parts_65 rfl ?_
      refine r_iload hX dX9_parts_67 rfl ?_
      refine r_isub hX dX9_parts_69 ?_
      refine r_istore (L1 := [.ref 94, .int c1, .int c2, vU, .int c4, .int (v5 - v7), .int v6, .int v7, .int z12.1]) hX dX9_parts_70 (Nat.le_of_ble_eq_true rfl) rfl ?_
      refine r_iload hX dX9_parts_72 rfl ?_
      refine r_iconst (v := (1 : Int32)) hX dX9_parts_74 (by decide) ?_
      refine r_iadd hX dX9_parts_75 ?_
      refine r_istore (L1 := [.ref 94, .int c1, .int c2, vU, .int c4, .int (v5 - v7), .int (v6 + (1 : Int32)), .int v7, .int z12.1]) hX dX9_parts_76 (Nat.le_of_ble_eq_true rfl) rfl ?_
      refine r_aload_n hX dX9_parts_78 rfl ?_
      refine r_iload hX dX9_parts_79 rfl ?_
      refine r_iload hX dX9_parts_81 rfl ?_
      obtain ⟨z14, p15, h⟩ := bnd_s h
      refine r_callV (As := [.int (v5 - v7), .int c4]) hX dX9_parts_83 mk_Fm_partOf mi_Fm_partOf ml_9_385 rfl rfl rfl rfl (by decide) (by decide) (Nat.le_of_ble_eq_true rfl) hr (ok_Fm_partOf (d := d + 0) n (v5 - v7) c4 z12.2 p15) ?_
      refine r_istore (L1 := [.ref 94, .int c1, .int c2, vU, .int c4, .int (v5 - v7), .int (v6 + (1 : Int32)), .int z14.1, .int z12.1]) hX dX9_parts_86 (Nat.le_of_ble_eq_true rfl) rfl ?_
      refine r_goto (tgt := 42) hX dX9_parts_88 (by decide) ?_
      refine WR.fg (L' := [.ref 94, .int c1, .int c2, vU, .int c4, .int (v5 - v7), .int (v6 + (1 : Int32)), .int z14.1, vU]) ⟨Or.inr rfl, Or.inr rfl, Or.inr rfl, Or.inl rfl, Or.inr rfl, Or.inr rfl, Or.inr rfl, Or.inr rfl, Or.inl rfl, trivial⟩ ?_
      exact hc (v5 - v7, v6 + (1 : Int32), z14.1, z14.2) (Option.some.inj h).symm
set_option maxRecDepth 100000 in
theorem ok_Fm_parts_j91 (n : Nat) (v5 : Int32) (v6 : Int32) (M : Mm) {z : Int32 × Mm} {G : Gm} {X : Cx} {d : Nat}  (hX : XK G X 9 cX9_parts 9 (d + 6)) (hT : XT X (some .int) "parts") (hr : XR X SS) (h : Fm_parts_j91 n v5 v6 M = some z) : WR G X (mQ G X (some (.int z.1)) z.2 SS) 91 [.ref 94, vU, vU, vU, vU, .int v5, .int v6, vU, vU] [] M SS := by
  unfold Fm_parts_j91 at h
  refine r_aload_n hX dX9_parts_91 rfl ?_
  refine r_iconst (v := (2 : Int32)) hX dX9_parts_92 (by decide) ?_
  refine r_iconst (v := (0 : Int32)) hX dX9_parts_93 (by decide) ?_
  obtain ⟨z17, p18, h⟩ := bnd_s h
  refine r_callV (As := [.int (2 : Int32), .int (0 : Int32)]) hX dX9_parts_94 mk_Fm_copies mi_Fm_copies ml_9_311 rfl rfl rfl rfl (by decide) (by decide) (Nat.le_of_ble_eq_true rfl) hr (ok_Fm_copies (d := d + 5) n (2 : Int32) (0 : Int32) M p18) ?_
  refine r_iload hX dX9_parts_97 rfl ?_
  refine r_if_le (tgt := 107) hX dX9_parts_99 (by decide) (fun g19 => ?_) (fun g19 => ?_)
  · have h := (if_pos g19).symm.trans h
    refine r_iload hX dX9_parts_107 rfl ?_
    obtain rfl := Option.some.inj h
    exact r_iret hX hT dX9_parts_109 rfl
  · have h := (if_neg g19).symm.trans h
    refine r_bipush (v := (-2 : Int32)) hX dX9_parts_102 (by decide) ?_
    refine r_goto (tgt := 109) hX dX9_parts_104 (by decide) ?_
    obtain rfl := Option.some.inj h
    exact r_iret hX hT dX9_parts_109 rfl
set_option maxRecDepth 100000 in
theorem ok_Fm_parts {G : Gm} {l : Launch} {d : Nat} (n : Nat) (v1 : Int32) (v2 : Int32) (v3 : Int32) (v4 : Int32) (M : Mm) {z : Int32 × Mm}  (h : Fm_parts n v1 v2 v3 v4 M = some z) : CK G l (d + 6) md_Fm_parts [.ref 94, .int v1, .int v2, .int v3, .int v4] M SS (some (.int z.1)) z.2 SS := by
  refine ck_of mk_Fm_parts (Nat.le_of_ble_eq_true rfl) ⟨Nat.le_refl _, Nat.le_refl _⟩ (fun X hX hT hS hr hl => ?_)
  subst hl
  unfold Fm_parts at h
  show WR G X (mQ G X (some (.int z.1)) z.2 SS) 0 [.ref 94, .int v1, .int v2, .int v3, .int v4, vU, vU, vU, vU] [] M SS
  refine r_aload_n hX dX9_parts_0 rfl ?_
  refine r_iload_n hX dX9_parts_1 rfl ?_
  refine r_iload_n hX dX9_parts_2 rfl ?_
  refine r_iload_n hX dX9_parts_3 rfl ?_
  refine r_iload hX dX9_parts_4 rfl ?_
  obtain ⟨z1, p2, h⟩ := bnd_s h
  refine r_callV (As := [.int v1, .int v2, .int v3, .int v4]) hX dX9_parts_6 mk_Fm_isAsked mi_Fm_isAsked ml_9_268 rfl rfl rfl rfl (by decide) (by decide) (Nat.le_of_ble_eq_true rfl) hr (ok_Fm_isAsked (d := d + 3) v1 v2 v3 v4 M p2) ?_
  refine r_ifb_ne (tgt := 14) hX dX9_parts_9 (by decide) (fun g3 => ?_) (fun g3 => ?_)
  · have h := (if_pos g3).symm.trans h
    refine r_aload_n hX dX9_parts_14 rfl ?_
    refine r_iconst (v := (0 : Int32)) hX dX9_parts_15 (by decide) ?_
    refine r_iconst (v := (2 : Int32)) hX dX9_parts_16 (by decide) ?_
    obtain ⟨z4, p5, h⟩ := bnd_s h
    refine r_callV (As := [.int (0 : Int32), .int (2 : Int32)]) hX dX9_parts_17 mk_Fm_copies mi_Fm_copies ml_9_311 rfl rfl rfl rfl (by decide) (by decide) (Nat.le_of_ble_eq_true rfl) hr (ok_Fm_copies (d := d + 5) n (0 : Int32) (2 : Int32) M p5) ?_
    refine r_aload_n hX dX9_parts_20 rfl ?_
    refine r_iload_n hX dX9_parts_21 rfl ?_
    refine r_iload_n hX dX9_parts_22 rfl ?_
    obtain ⟨z6, p7, h⟩ := bnd_s h
    refine r_callV (As := [.int v1, .int v2]) hX dX9_parts_23 mk_Fm_findsWays mi_Fm_findsWays ml_9_215 rfl rfl rfl rfl (by decide) (by decide) (Nat.le_of_ble_eq_true rfl) hr (ok_Fm_findsWays (d := d + 2) n v1 v2 z4 p7) ?_
    refine r_iload_n hX dX9_parts_26 rfl ?_
    refine r_istore (L1 := [.ref 94, .int v1, .int v2, .int v3, .int v4, .int v3, vU, vU, vU]) hX dX9_parts_27 (Nat.le_of_ble_eq_true rfl) rfl ?_
    refine r_iconst (v := (0 : Int32)) hX dX9_parts_29 (by decide) ?_
    refine r_istore (L1 := [.ref 94, .int v1, .int v2, .int v3, .int v4, .int v3, .int (0 : Int32), vU, vU]) hX dX9_parts_30 (Nat.le_of_ble_eq_true rfl) rfl ?_
    refine r_aload_n hX dX9_parts_32 rfl ?_
    refine r_iload hX dX9_parts_33 rfl ?_
    refine r_iload hX dX9_parts_35 rfl ?_
    obtain ⟨z8, p9, h⟩ := bnd_s h
    refine r_callV (As := [.int v3, .int v4]) hX dX9_parts_37 mk_Fm_partOf mi_Fm_partOf ml_9_385 rfl rfl rfl rfl (by decide) (by decide) (Nat.le_of_ble_eq_true rfl) hr (ok_Fm_partOf (d := d + 0) n v3 v4 z6 p9) ?_
    refine r_istore (L1 := [.ref 94, .int v1, .int v2, .int v3, .int v4, .int v3, .int (0 : Int32), .int z8.1, vU]) hX dX9_parts_40 (Nat.le_of_ble_eq_true rfl) rfl ?_
    refine WR.fg (L' := [.ref 94, .int v1, .int v2, vU, .int v4, .int v3, .int (0 : Int32), .int z8.1, vU]) ⟨Or.inr rfl, Or.inr rfl, Or.inr rfl, Or.inl rfl, Or.inr rfl, Or.inr rfl, Or.inr rfl, Or.inr rfl, Or.inl rfl, trivial⟩ ?_
    obtain ⟨y16, h1, h⟩ := bnd_s h
    refine loop_ok (P := fun s1 : Int32 × Int32 × Int32 × Mm => WR G X (mQ G X (some (.int z.1)) z.2 SS) 42 [.ref 94, .int v1, .int v2, vU, .int v4, .int s1.1, .int s1.2.1, .int s1.2.2.1, vU] [] s1.2.2.2 SS) (E := fun x1 : Int32 × Int32 × Mm => WR G X (mQ G X (some (.int z.1)) z.2 SS) 91 [.ref 94, vU, vU, vU, vU, .int x1.1, .int x1.2.1, vU, vU] [] x1.2.2 SS) (fun s1 o1 g1 g2 g3 => ok_Fm_parts_b42 n s1.1 s1.2.1 s1.2.2.1 s1.2.2.2  hX hT hr g2 g3 g1) n (v3, (0 : Int32), z8.1, z8.2) y16 h1 ?_
    show WR G X (mQ G X (some (.int z.1)) z.2 SS) 91 [.ref 94, vU, vU, vU, vU, .int y16.1, .int y16.2.1, vU, vU] [] y16.2.2 SS
    exact ok_Fm_parts_j91 n y16.1 y16.2.1 y16.2.2   hX hT hr h
  · have h := (if_neg (show ¬ z1 = true from fun e => by rw [g3] at e; cases e)).symm.trans h
    refine r_iconst (v := (-1 : Int32)) hX dX9_parts_12 (by decide) ?_
    obtain rfl := Option.some.inj h
    exact r_iret hX hT dX9_parts_13 rfl
def Fm_more_b29 (n : Nat) (c1 : Int32) (c2 : Int32) (c3 : Int32) (c4 : Int32) (v5 : Int32) (M : Mm) : Option ((Int32 × Mm) ⊕ (Int32 × Mm)) :=
  bnd (Fm_finds n c3 c4 M) (fun z8 =>
  if z8.1 = true then
    bnd (Fm_comes n c1 c2 c3 true z8.2) (fun z11 =>
    some (.inl (v5 + (1 : Int32), z11.2)))
  else
    some (.inr (v5, z8.2)))
def Fm_more (n : Nat) (v1 : Int32) (v2 : Int32) (v3 : Int32) (v4 : Int32) (M : Mm) : Option (Int32 × Mm) :=
  bnd (Fm_isAsked v1 v2 v3 v4 M) (fun z1 =>
  if z1 = true then
    bnd (Fm_copies n (0 : Int32) (2 : Int32) M) (fun z4 =>
    bnd (Fm_findsWays n v1 v2 z4) (fun z6 =>
    bnd (loop (fun s1 : Int32 × Mm => Fm_more_b29 n v1 v2 v3 v4 s1.1 s1.2) n ((0 : Int32), z6)) (fun y13 =>
    bnd (Fm_copies n (2 : Int32) (0 : Int32) y13.2) (fun z14 =>
    some (y13.1, z14)))))
  else
    some ((-1 : Int32), M))
set_option maxRecDepth 100000 in
theorem ok_Fm_more_b29 (n : Nat) (v5 : Int32) (M : Mm) {c1 : Int32} {c2 : Int32} {c3 : Int32} {c4 : Int32} {z : Int32 × Mm} {oo : (Int32 × Mm) ⊕ (Int32 × Mm)} {G : Gm} {X : Cx} {d : Nat}  (hX : XK G X 9 cX9_more 7 (d + 5)) (hT : XT X (some .int) "more") (hr : XR X SS) (hc : ∀ s1 : Int32 × Mm, oo = .inl s1 → WR G X (mQ G X (some (.int z.1)) z.2 SS) 29 [.ref 94, .int c1, .int c2, .int c3, .int c4, .int s1.1, vU] [] s1.2 SS) (hx : ∀ x1 : Int32 × Mm, oo = .inr x1 → WR G X (mQ G X (some (.int z.1)) z.2 SS) 58 [.ref 94, vU, vU, vU, vU, .int x1.1, vU] [] x1.2 SS) (h : Fm_more_b29 n c1 c2 c3 c4 v5 M = some oo) : WR G X (mQ G X (some (.int z.1)) z.2 SS) 29 [.ref 94, .int c1, .int c2, .int c3, .int c4, .int v5, vU] [] M SS := by
  unfold Fm_more_b29 at h
  refine r_aload_n hX dX9_more_29 rfl ?_
  refine r_iload_n hX dX9_more_30 rfl ?_
  refine r_iload hX dX9_more_31 rfl ?_
  obtain ⟨z8, p9, h⟩ := bnd_s h
  refine r_callV (As := [.int c3, .int c4]) hX dX9_more_33 mk_Fm_finds mi_Fm_finds ml_9_253 rfl rfl rfl rfl (by decide) (by decide) (Nat.le_of_ble_eq_true rfl) hr (ok_Fm_finds (d := d + 0) n c3 c4 M p9) ?_
  refine r_ifb_eq (tgt := 58) hX dX9_more_36 (by decide) (fun g10 => ?_) (fun g10 => ?_)
  · have h := (if_neg (show ¬ z8.1 = true from fun e => by rw [g10] at e; cases e)).symm.trans h
    refine WR.fg (L' := [.ref 94, vU, vU, vU, vU, .int v5, vU]) ⟨Or.inr rfl, Or.inl rfl, Or.inl rfl, Or.inl rfl, Or.inl rfl, Or.inr rfl, Or.inl rfl, trivial⟩ ?_
    exact hx _ (Option.some.inj h).symm
  · have h := (if_pos g10).symm.trans h
    refine r_aload_n hX dX9_more_39 rfl ?_
    refine r_iload_n hX dX9_more_40 rfl ?_
    refine r_iload_n hX dX9_more_41 rfl ?_
    refine r_iload_n hX dX9_more_42 rfl ?_
    refine r_iconst (v := (1 : Int32)) hX dX9_more_43 (by decide) ?_
    obtain ⟨z11, p12, h⟩ := bnd_s h
    refine r_callV (As := [.int c1, .int c2, .int c3, .int (1 : Int32)]) hX dX9_more_44 mk_Fm_comes mi_Fm_comes ml_9_274 rfl rfl rfl rfl (by decide) (by decide) (Nat.le_of_ble_eq_true rfl) hr (ok_Fm_comes (d := d + 2) n c1 c2 c3 true z8.2 p12) ?_
    refine r_istore (L1 := [.ref 94, .int c1, .int c2, .int c3, .int c4, .int v5, .int z11.1]) hX dX9_more_47 (Nat.le_of_ble_eq_true rfl) rfl ?_
    refine r_iload hX dX9_more_49 rfl ?_
    refine r_iconst (v := (1 : Int32)) hX dX9_more_51 (by decide) ?_
    refine r_iadd hX dX9_more_52 ?_
    refine r_istore (L1 := [.ref 94, .int c1, .int c2, .int c3, .int c4, .int (v5 + (1 : Int32)), .int z11.1]) hX dX9_more_53 (Nat.le_of_ble_eq_true rfl) rfl ?_
    refine r_goto (tgt := 29) hX dX9_more_55 (by decide) ?_
    refine WR.fg (L' := [.ref 94, .int c1, .int c2, .int c3, .int c4, .int (v5 + (1 : Int32)), vU]) ⟨Or.inr rfl, Or.inr rfl, Or.inr rfl, Or.inr rfl, Or.inr rfl, Or.inr rfl, Or.inl rfl, trivial⟩ ?_
    exact hc (v5 + (1 : Int32), z11.2) (Option.some.inj h).symm
set_option maxRecDepth 100000 in
theorem ok_Fm_more {G : Gm} {l : Launch} {d : Nat} (n : Nat) (v1 : Int32) (v2 : Int32) (v3 : Int32) (v4 : Int32) (M : Mm) {z : Int32 × Mm}  (h : Fm_more n v1 v2 v3 v4 M = some z) : CK G l (d + 5) md_Fm_more [.ref 94, .int v1, .int v2, .int v3, .int v4] M SS (some (.int z.1)) z.2 SS := by
  refine ck_of mk_Fm_more (Nat.le_of_ble_eq_true rfl) ⟨Nat.le_refl _, Nat.le_refl _⟩ (fun X hX hT hS hr hl => ?_)
  subst hl
  unfold Fm_more at h
  show WR G X (mQ G X (some (.int z.1)) z.2 SS) 0 [.ref 94, .int v1, .int v2, .int v3, .int v4, vU, vU] [] M SS
  refine r_aload_n hX dX9_more_0 rfl ?_
  refine r_iload_n hX dX9_more_1 rfl ?_
  refine r_iload_n hX dX9_more_2 rfl ?_
  refine r_iload_n hX dX9_more_3 rfl ?_
  refine r_iload hX dX9_more_4 rfl ?_
  obtain ⟨z1, p2, h⟩ := bnd_s h
  refine r_callV (As := [.int v1, .int v2, .int v3, .int v4]) hX dX9_more_6 mk_Fm_isAsked mi_Fm_isAsked ml_9_268 rfl rfl rfl rfl (by decide) (by decide) (Nat.le_of_ble_eq_true rfl) hr (ok_Fm_isAsked (d := d + 2) v1 v2 v3 v4 M p2) ?_
  refine r_ifb_ne (tgt := 14) hX dX9_more_9 (by decide) (fun g3 => ?_) (fun g3 => ?_)
  · have h := (if_pos g3).symm.trans h
    refine r_aload_n hX dX9_more_14 rfl ?_
    refine r_iconst (v := (0 : Int32)) hX dX9_more_15 (by decide) ?_
    refine r_iconst (v := (2 : Int32)) hX dX9_more_16 (by decide) ?_
    obtain ⟨z4, p5, h⟩ := bnd_s h
    refine r_callV (As := [.int (0 : Int32), .int (2 : Int32)]) hX dX9_more_17 mk_Fm_copies mi_Fm_copies ml_9_311 rfl rfl rfl rfl (by decide) (by decide) (Nat.le_of_ble_eq_true rfl) hr (ok_Fm_copies (d := d + 4) n (0 : Int32) (2 : Int32) M p5) ?_
    refine r_aload_n hX dX9_more_20 rfl ?_
    refine r_iload_n hX dX9_more_21 rfl ?_
    refine r_iload_n hX dX9_more_22 rfl ?_
    obtain ⟨z6, p7, h⟩ := bnd_s h
    refine r_callV (As := [.int v1, .int v2]) hX dX9_more_23 mk_Fm_findsWays mi_Fm_findsWays ml_9_215 rfl rfl rfl rfl (by decide) (by decide) (Nat.le_of_ble_eq_true rfl) hr (ok_Fm_findsWays (d := d + 1) n v1 v2 z4 p7) ?_
    refine r_iconst (v := (0 : Int32)) hX dX9_more_26 (by decide) ?_
    refine r_istore (L1 := [.ref 94, .int v1, .int v2, .int v3, .int v4, .int (0 : Int32), vU]) hX dX9_more_27 (Nat.le_of_ble_eq_true rfl) rfl ?_
    obtain ⟨y13, h1, h⟩ := bnd_s h
    refine loop_ok (P := fun s1 : Int32 × Mm => WR G X (mQ G X (some (.int z.1)) z.2 SS) 29 [.ref 94, .int v1, .int v2, .int v3, .int v4, .int s1.1, vU] [] s1.2 SS) (E := fun x1 : Int32 × Mm => WR G X (mQ G X (some (.int z.1)) z.2 SS) 58 [.ref 94, vU, vU, vU, vU, .int x1.1, vU] [] x1.2 SS) (fun s1 o1 g1 g2 g3 => ok_Fm_more_b29 n s1.1 s1.2  hX hT hr g2 g3 g1) n ((0 : Int32), z6) y13 h1 ?_
    show WR G X (mQ G X (some (.int z.1)) z.2 SS) 58 [.ref 94, vU, vU, vU, vU, .int y13.1, vU] [] y13.2 SS
    refine r_aload_n hX dX9_more_58 rfl ?_
    refine r_iconst (v := (2 : Int32)) hX dX9_more_59 (by decide) ?_
    refine r_iconst (v := (0 : Int32)) hX dX9_more_60 (by decide) ?_
    obtain ⟨z14, p15, h⟩ := bnd_s h
    refine r_callV (As := [.int (2 : Int32), .int (0 : Int32)]) hX dX9_more_61 mk_Fm_copies mi_Fm_copies ml_9_311 rfl rfl rfl rfl (by decide) (by decide) (Nat.le_of_ble_eq_true rfl) hr (ok_Fm_copies (d := d + 4) n (2 : Int32) (0 : Int32) y13.2 p15) ?_
    refine r_iload hX dX9_more_64 rfl ?_
    obtain rfl := Option.some.inj h
    exact r_iret hX hT dX9_more_66 rfl
  · have h := (if_neg (show ¬ z1 = true from fun e => by rw [g3] at e; cases e)).symm.trans h
    refine r_iconst (v := (-1 : Int32)) hX dX9_more_12 (by decide) ?_
    obtain rfl := Option.some.inj h
    exact r_iret hX hT dX9_more_13 rfl
def Fm_ifCut (n : Nat) (v1 : Int32) (v2 : Int32) (v3 : Int32) (M : Mm) : Option (Int32 × Mm) :=
  bnd (Fm_isLink v1 M) (fun z1 =>
  if z1 = true then
    bnd (Fm_isRule v2 M) (fun z4 =>
    if z4 = true then
      bnd (Fm_in v3 (0 : Int32) (2 : Int32) M) (fun z7 =>
      if z7 = true then
        bnd (Fm_isUp v1 M) (fun z10 =>
        if z10 = true then
          bnd (Fm_copies n (0 : Int32) (2 : Int32) M) (fun z13 =>
          bnd (Fm_cuts n v1 z13) (fun z15 =>
          bnd (Fm_relights n v2 z15.2) (fun z17 =>
          bnd (Fm_top n z17.2) (fun z19 =>
          bnd (Fm_copies n (2 : Int32) (0 : Int32) z17.2) (fun z21 =>
          if v3 = (0 : Int32) then
            some (z15.1, z21)
          else
            if v3 = (1 : Int32) then
              some (z17.1, z21)
            else
              some (z19, z21))))))
        else
          some ((-2 : Int32), M))
      else
        some ((-1 : Int32), M))
    else
      some ((-1 : Int32), M))
  else
    some ((-1 : Int32), M))
set_option maxRecDepth 100000 in
theorem ok_Fm_ifCut {G : Gm} {l : Launch} {d : Nat} (n : Nat) (v1 : Int32) (v2 : Int32) (v3 : Int32) (M : Mm) {z : Int32 × Mm}  (h : Fm_ifCut n v1 v2 v3 M = some z) : CK G l (d + 7) md_Fm_ifCut [.ref 94, .int v1, .int v2, .int v3] M SS (some (.int z.1)) z.2 SS := by
  refine ck_of mk_Fm_ifCut (Nat.le_of_ble_eq_true rfl) ⟨Nat.le_refl _, Nat.le_refl _⟩ (fun X hX hT hS hr hl => ?_)
  subst hl
  unfold Fm_ifCut at h
  show WR G X (mQ G X (some (.int z.1)) z.2 SS) 0 [.ref 94, .int v1, .int v2, .int v3, vU, vU, vU] [] M SS
  refine r_aload_n hX dX9_ifCut_0 rfl ?_
  refine r_iload_n hX dX9_ifCut_1 rfl ?_
  obtain ⟨z1, p2, h⟩ := bnd_s h
  refine r_callV (As := [.int v1]) hX dX9_ifCut_2 mk_Fm_isLink mi_Fm_isLink ml_9_296 rfl rfl rfl rfl (by decide) (by decide) (Nat.le_of_ble_eq_true rfl) hr (ok_Fm_isLink (d := d + 5) v1 M p2) ?_
  refine r_ifb_eq (tgt := 24) hX dX9_ifCut_5 (by decide) (fun g3 => ?_) (fun g3 => ?_)
  · have h := (if_neg (show ¬ z1 = true from fun e => by rw [g3] at e; cases e)).symm.trans h
    refine r_iconst (v := (-1 : Int32)) hX dX9_ifCut_24 (by decide) ?_
    obtain rfl := Option.some.inj h
    exact r_iret hX hT dX9_ifCut_25 rfl
  · have h := (if_pos g3).symm.trans h
    refine r_iload_n hX dX9_ifCut_8 rfl ?_
    obtain ⟨z4, p5, h⟩ := bnd_s h
    refine r_callS (As := [.int v2]) hX dX9_ifCut_9 mk_Fm_isRule ms_Fm_isRule ml_9_265 rfl rfl rfl (Nat.le_of_ble_eq_true rfl) hr (ok_Fm_isRule (d := d + 5) v2 M p5) ?_
    refine r_ifb_eq (tgt := 24) hX dX9_ifCut_12 (by decide) (fun g6 => ?_) (fun g6 => ?_)
    · have h := (if_neg (show ¬ z4 = true from fun e => by rw [g6] at e; cases e)).symm.trans h
      refine r_iconst (v := (-1 : Int32)) hX dX9_ifCut_24 (by decide) ?_
      obtain rfl := Option.some.inj h
      exact r_iret hX hT dX9_ifCut_25 rfl
    · have h := (if_pos g6).symm.trans h
      refine r_iload_n hX dX9_ifCut_15 rfl ?_
      refine r_iconst (v := (0 : Int32)) hX dX9_ifCut_16 (by decide) ?_
      refine r_iconst (v := (2 : Int32)) hX dX9_ifCut_17 (by decide) ?_
      obtain ⟨z7, p8, h⟩ := bnd_s h
      refine r_callS (As := [.int v3, .int (0 : Int32), .int (2 : Int32)]) hX dX9_ifCut_18 mk_Fm_in ms_Fm_in ml_9_83 rfl rfl rfl (Nat.le_of_ble_eq_true rfl) hr (ok_Fm_in (d := d + 6) v3 (0 : Int32) (2 : Int32) M p8) ?_
      refine r_ifb_ne (tgt := 26) hX dX9_ifCut_21 (by decide) (fun g9 => ?_) (fun g9 => ?_)
      · have h := (if_pos g9).symm.trans h
        refine r_aload_n hX dX9_ifCut_26 rfl ?_
        refine r_iload_n hX dX9_ifCut_27 rfl ?_
        obtain ⟨z10, p11, h⟩ := bnd_s h
        refine r_callV (As := [.int v1]) hX dX9_ifCut_28 mk_Fm_isUp mi_Fm_isUp ml_9_182 rfl rfl rfl rfl (by decide) (by decide) (Nat.le_of_ble_eq_true rfl) hr (ok_Fm_isUp (d := d + 5) v1 M p11) ?_
        refine r_ifb_ne (tgt := 37) hX dX9_ifCut_31 (by decide) (fun g12 => ?_) (fun g12 => ?_)
        · have h := (if_pos g12).symm.trans h
          refine r_aload_n hX dX9_ifCut_37 rfl ?_
          refine r_iconst (v := (0 : Int32)) hX dX9_ifCut_38 (by decide) ?_
          refine r_iconst (v := (2 : Int32)) hX dX9_ifCut_39 (by decide) ?_
          obtain ⟨z13, p14, h⟩ := bnd_s h
          refine r_callV (As := [.int (0 : Int32), .int (2 : Int32)]) hX dX9_ifCut_40 mk_Fm_copies mi_Fm_copies ml_9_311 rfl rfl rfl rfl (by decide) (by decide) (Nat.le_of_ble_eq_true rfl) hr (ok_Fm_copies (d := d + 6) n (0 : Int32) (2 : Int32) M p14) ?_
          refine r_aload_n hX dX9_ifCut_43 rfl ?_
          refine r_iload_n hX dX9_ifCut_44 rfl ?_
          obtain ⟨z15, p16, h⟩ := bnd_s h
          refine r_callV (As := [.int v1]) hX dX9_ifCut_45 mk_Fm_cuts mi_Fm_cuts ml_9_299 rfl rfl rfl rfl (by decide) (by decide) (Nat.le_of_ble_eq_true rfl) hr (ok_Fm_cuts (d := d + 4) n v1 z13 p16) ?_
          refine r_istore (L1 := [.ref 94, .int v1, .int v2, .int v3, .int z15.1, vU, vU]) hX dX9_ifCut_48 (Nat.le_of_ble_eq_true rfl) rfl ?_
          refine r_aload_n hX dX9_ifCut_50 rfl ?_
          refine r_iload_n hX dX9_ifCut_51 rfl ?_
          obtain ⟨z17, p18, h⟩ := bnd_s h
          refine r_callV (As := [.int v2]) hX dX9_ifCut_52 mk_Fm_relights mi_Fm_relights ml_9_302 rfl rfl rfl rfl (by decide) (by decide) (Nat.le_of_ble_eq_true rfl) hr (ok_Fm_relights (d := d + 0) n v2 z15.2 p18) ?_
          refine r_istore (L1 := [.ref 94, .int v1, .int v2, .int v3, .int z15.1, .int z17.1, vU]) hX dX9_ifCut_55 (Nat.le_of_ble_eq_true rfl) rfl ?_
          refine r_aload_n hX dX9_ifCut_57 rfl ?_
          obtain ⟨z19, p20, h⟩ := bnd_s h
          refine r_callV (As := []) hX dX9_ifCut_58 mk_Fm_top mi_Fm_top ml_9_317 rfl rfl rfl rfl (by decide) (by decide) (Nat.le_of_ble_eq_true rfl) hr (ok_Fm_top (d := d + 3) n z17.2 p20) ?_
          refine r_istore (L1 := [.ref 94, .int v1, .int v2, .int v3, .int z15.1, .int z17.1, .int z19]) hX dX9_ifCut_61 (Nat.le_of_ble_eq_true rfl) rfl ?_
          refine r_aload_n hX dX9_ifCut_63 rfl ?_
          refine r_iconst (v := (2 : Int32)) hX dX9_ifCut_64 (by decide) ?_
          refine r_iconst (v := (0 : Int32)) hX dX9_ifCut_65 (by decide) ?_
          obtain ⟨z21, p22, h⟩ := bnd_s h
          refine r_callV (As := [.int (2 : Int32), .int (0 : Int32)]) hX dX9_ifCut_66 mk_Fm_copies mi_Fm_copies ml_9_311 rfl rfl rfl rfl (by decide) (by decide) (Nat.le_of_ble_eq_true rfl) hr (ok_Fm_copies (d := d + 6) n (2 : Int32) (0 : Int32) z17.2 p22) ?_
          refine r_iload_n hX dX9_ifCut_69 rfl ?_
          refine r_if_ne (tgt := 78) hX dX9_ifCut_70 (by decide) (fun g23 => ?_) (fun g23 => ?_)
          · have h := (if_neg g23).symm.trans h
            refine r_iload_n hX dX9_ifCut_78 rfl ?_
            refine r_iconst (v := (1 : Int32)) hX dX9_ifCut_79 (by decide) ?_
            refine r_icmp_ne (tgt := 88) hX dX9_ifCut_80 (by decide) (fun g24 => ?_) (fun g24 => ?_)
            · have h := (if_neg g24).symm.trans h
              refine r_iload hX dX9_ifCut_88 rfl ?_
              obtain rfl := Option.some.inj h
              exact r_iret hX hT dX9_ifCut_90 rfl
            · have h := (if_pos g24).symm.trans h
              refine r_iload hX dX9_ifCut_83 rfl ?_
              refine r_goto (tgt := 90) hX dX9_ifCut_85 (by decide) ?_
              obtain rfl := Option.some.inj h
              exact r_iret hX hT dX9_ifCut_90 rfl
          · have h := (if_pos g23).symm.trans h
            refine r_iload hX dX9_ifCut_73 rfl ?_
            refine r_goto (tgt := 90) hX dX9_ifCut_75 (by decide) ?_
            obtain rfl := Option.some.inj h
            exact r_iret hX hT dX9_ifCut_90 rfl
        · have h := (if_neg (show ¬ z10 = true from fun e => by rw [g12] at e; cases e)).symm.trans h
          refine r_bipush (v := (-2 : Int32)) hX dX9_ifCut_34 (by decide) ?_
          obtain rfl := Option.some.inj h
          exact r_iret hX hT dX9_ifCut_36 rfl
      · have h := (if_neg (show ¬ z7 = true from fun e => by rw [g9] at e; cases e)).symm.trans h
        refine r_iconst (v := (-1 : Int32)) hX dX9_ifCut_24 (by decide) ?_
        obtain rfl := Option.some.inj h
        exact r_iret hX hT dX9_ifCut_25 rfl
def Fm_numbersOf_j94  : Option (Int32) :=
  some (1 : Int32)
def Fm_numbersOf (v0 : Int64) (M : Mm) : Option (Int32) :=
  if v0 = (1643 : Int64) then
    some (4 : Int32)
  else
    if v0 = (349616 : Int64) then
      some (2 : Int32)
    else
      if v0 = (12635795 : Int64) then
        some (2 : Int32)
      else
        if v0 = (20681904 : Int64) then
          some (0 : Int32)
        else
          if v0 = (150000 : Int64) then
            Fm_numbersOf_j94
          else
            if v0 = (20325509 : Int64) then
              Fm_numbersOf_j94
            else
              if v0 = (3764 : Int64) then
                Fm_numbersOf_j94
              else
                if v0 = (431556 : Int64) then
                  Fm_numbersOf_j94
                else
                  if v0 = (19508010260 : Int64) then
                    Fm_numbersOf_j94
                  else
                    if v0 = (536622 : Int64) then
                      Fm_numbersOf_j94
                    else
                      if v0 = (21269875 : Int64) then
                        Fm_numbersOf_j94
                      else
                        some (-1 : Int32)
set_option maxRecDepth 100000 in
theorem ok_Fm_numbersOf_j94 (M : Mm) {z : Int32} {G : Gm} {X : Cx} {d : Nat}  (hX : XK G X 9 cX9_numbersOf 2 (d + 0)) (hT : XT X (some .int) "numbersOf") (hr : XR X SS) (h : Fm_numbersOf_j94 = some z) : WR G X (mQ G X (some (.int z)) M SS) 94 [vU, vU] [] M SS := by
  unfold Fm_numbersOf_j94 at h
  refine r_iconst (v := (1 : Int32)) hX dX9_numbersOf_94 (by decide) ?_
  refine r_goto (tgt := 99) hX dX9_numbersOf_95 (by decide) ?_
  obtain rfl := Option.some.inj h
  exact r_iret hX hT dX9_numbersOf_99 rfl
set_option maxRecDepth 100000 in
theorem ok_Fm_numbersOf {G : Gm} {l : Launch} {d : Nat} (v0 : Int64) (M : Mm) {z : Int32}  (h : Fm_numbersOf v0 M = some z) : CK G l (d + 0) md_Fm_numbersOf [.long v0] M SS (some (.int z)) M SS := by
  refine ck_of mk_Fm_numbersOf (Nat.le_of_ble_eq_true rfl) ⟨Nat.le_refl _, Nat.le_refl _⟩ (fun X hX hT hS hr hl => ?_)
  subst hl
  unfold Fm_numbersOf at h
  show WR G X (mQ G X (some (.int z)) M SS) 0 [.long v0, vU] [] M SS
  refine r_lload_n hX dX9_numbersOf_0 rfl ?_
  refine r_ldc2 hX dX9_numbersOf_1 kl_9_388 ?_
  refine r_lcmp_ne (tgt := 10) hX dX9_numbersOf_4 dX9_numbersOf_5 (by decide) (fun g1 => ?_) (fun g1 => ?_)
  · have h := (if_neg g1).symm.trans h
    refine r_lload_n hX dX9_numbersOf_10 rfl ?_
    refine r_ldc2 hX dX9_numbersOf_11 kl_9_390 ?_
    refine r_lcmp_eq (tgt := 26) hX dX9_numbersOf_14 dX9_numbersOf_15 (by decide) (fun g2 => ?_) (fun g2 => ?_)
    · have h := (if_pos g2).symm.trans h
      refine r_iconst (v := (2 : Int32)) hX dX9_numbersOf_26 (by decide) ?_
      obtain rfl := Option.some.inj h
      exact r_iret hX hT dX9_numbersOf_27 rfl
    · have h := (if_neg g2).symm.trans h
      refine r_lload_n hX dX9_numbersOf_18 rfl ?_
      refine r_ldc2 hX dX9_numbersOf_19 kl_9_392 ?_
      refine r_lcmp_ne (tgt := 28) hX dX9_numbersOf_22 dX9_numbersOf_23 (by decide) (fun g3 => ?_) (fun g3 => ?_)
      · have h := (if_neg g3).symm.trans h
        refine r_lload_n hX dX9_numbersOf_28 rfl ?_
        refine r_ldc2 hX dX9_numbersOf_29 kl_9_394 ?_
        refine r_lcmp_ne (tgt := 38) hX dX9_numbersOf_32 dX9_numbersOf_33 (by decide) (fun g4 => ?_) (fun g4 => ?_)
        · have h := (if_neg g4).symm.trans h
          refine r_lload_n hX dX9_numbersOf_38 rfl ?_
          refine r_ldc2 hX dX9_numbersOf_39 kl_9_396 ?_
          refine r_lcmp_eq (tgt := 94) hX dX9_numbersOf_42 dX9_numbersOf_43 (by decide) (fun g5 => ?_) (fun g5 => ?_)
          · have h := (if_pos g5).symm.trans h
            refine WR.fg (L' := [vU, vU]) ⟨Or.inl rfl, Or.inl rfl, trivial⟩ ?_
            exact ok_Fm_numbersOf_j94 M   hX hT hr h
          · have h := (if_neg g5).symm.trans h
            refine r_lload_n hX dX9_numbersOf_46 rfl ?_
            refine r_ldc2 hX dX9_numbersOf_47 kl_9_398 ?_
            refine r_lcmp_eq (tgt := 94) hX dX9_numbersOf_50 dX9_numbersOf_51 (by decide) (fun g6 => ?_) (fun g6 => ?_)
            · have h := (if_pos g6).symm.trans h
              refine WR.fg (L' := [vU, vU]) ⟨Or.inl rfl, Or.inl rfl, trivial⟩ ?_
              exact ok_Fm_numbersOf_j94 M   hX hT hr h
            · have h := (if_neg g6).symm.trans h
              refine r_lload_n hX dX9_numbersOf_54 rfl ?_
              refine r_ldc2 hX dX9_numbersOf_55 kl_9_400 ?_
              refine r_lcmp_eq (tgt := 94) hX dX9_numbersOf_58 dX9_numbersOf_59 (by decide) (fun g7 => ?_) (fun g7 => ?_)
              · have h := (if_pos g7).symm.trans h
                refine WR.fg (L' := [vU, vU]) ⟨Or.inl rfl, Or.inl rfl, trivial⟩ ?_
                exact ok_Fm_numbersOf_j94 M   hX hT hr h
              · have h := (if_neg g7).symm.trans h
                refine r_lload_n hX dX9_numbersOf_62 rfl ?_
                refine r_ldc2 hX dX9_numbersOf_63 kl_9_402 ?_
                refine r_lcmp_eq (tgt := 94) hX dX9_numbersOf_66 dX9_numbersOf_67 (by decide) (fun g8 => ?_) (fun g8 => ?_)
                · have h := (if_pos g8).symm.trans h
                  refine WR.fg (L' := [vU, vU]) ⟨Or.inl rfl, Or.inl rfl, trivial⟩ ?_
                  exact ok_Fm_numbersOf_j94 M   hX hT hr h
                · have h := (if_neg g8).symm.trans h
                  refine r_lload_n hX dX9_numbersOf_70 rfl ?_
                  refine r_ldc2 hX dX9_numbersOf_71 kl_9_404 ?_
                  refine r_lcmp_eq (tgt := 94) hX dX9_numbersOf_74 dX9_numbersOf_75 (by decide) (fun g9 => ?_) (fun g9 => ?_)
                  · have h := (if_pos g9).symm.trans h
                    refine WR.fg (L' := [vU, vU]) ⟨Or.inl rfl, Or.inl rfl, trivial⟩ ?_
                    exact ok_Fm_numbersOf_j94 M   hX hT hr h
                  · have h := (if_neg g9).symm.trans h
                    refine r_lload_n hX dX9_numbersOf_78 rfl ?_
                    refine r_ldc2 hX dX9_numbersOf_79 kl_9_406 ?_
                    refine r_lcmp_eq (tgt := 94) hX dX9_numbersOf_82 dX9_numbersOf_83 (by decide) (fun g10 => ?_) (fun g10 => ?_)
                    · have h := (if_pos g10).symm.trans h
                      refine WR.fg (L' := [vU, vU]) ⟨Or.inl rfl, Or.inl rfl, trivial⟩ ?_
                      exact ok_Fm_numbersOf_j94 M   hX hT hr h
                    · have h := (if_neg g10).symm.trans h
                      refine r_lload_n hX dX9_numbersOf_86 rfl ?_
                      refine r_ldc2 hX dX9_numbersOf_87 kl_9_408 ?_
                      refine r_lcmp_ne (tgt := 98) hX dX9_numbersOf_90 dX9_numbersOf_91 (by decide) (fun g11 => ?_) (fun g11 => ?_)
                      · have h := (if_neg g11).symm.trans h
                        refine r_iconst (v := (-1 : Int32)) hX dX9_numbersOf_98 (by decide) ?_
                        obtain rfl := Option.some.inj h
                        exact r_iret hX hT dX9_numbersOf_99 rfl
                      · have h := (if_pos g11).symm.trans h
                        refine WR.fg (L' := [vU, vU]) ⟨Or.inl rfl, Or.inl rfl, trivial⟩ ?_
                        exact ok_Fm_numbersOf_j94 M   hX hT hr h
        · have h := (if_pos g4).symm.trans h
          refine r_iconst (v := (0 : Int32)) hX dX9_numbersOf_36 (by decide) ?_
          obtain rfl := Option.some.inj h
          exact r_iret hX hT dX9_numbersOf_37 rfl
      · have h := (if_pos g3).symm.trans h
        refine r_iconst (v := (2 : Int32)) hX dX9_numbersOf_26 (by decide) ?_
        obtain rfl := Option.some.inj h
        exact r_iret hX hT dX9_numbersOf_27 rfl
  · have h := (if_pos g1).symm.trans h
    refine r_iconst (v := (4 : Int32)) hX dX9_numbersOf_8 (by decide) ?_
    obtain rfl := Option.some.inj h
    exact r_iret hX hT dX9_numbersOf_9 rfl
def Fm_isRuleAt_j29  : Option (Bool) :=
  some true
def Fm_isRuleAt_j13 (v0 : Int64) : Option (Bool) :=
  if v0 = (19508010260 : Int64) then
    Fm_isRuleAt_j29
  else
    if v0 = (536622 : Int64) then
      Fm_isRuleAt_j29
    else
      some false
def Fm_isRuleAt (v0 : Int64) (v2 : Int32) (M : Mm) : Option (Bool) :=
  if v0 = (1643 : Int64) then
    if v2 = (3 : Int32) then
      Fm_isRuleAt_j29
    else
      Fm_isRuleAt_j13 v0
  else
    Fm_isRuleAt_j13 v0
set_option maxRecDepth 100000 in
theorem ok_Fm_isRuleAt_j29 (M : Mm) {z : Bool} {G : Gm} {X : Cx} {d : Nat}  (hX : XK G X 9 cX9_isRuleAt 3 (d + 0)) (hT : XT X (some .boolean) "isRuleAt") (hr : XR X SS) (h : Fm_isRuleAt_j29 = some z) : WR G X (mQ G X (some (.int (b2i z))) M SS) 29 [vU, vU, vU] [] M SS := by
  unfold Fm_isRuleAt_j29 at h
  refine r_iconst (v := (1 : Int32)) hX dX9_isRuleAt_29 (by decide) ?_
  refine r_goto (tgt := 34) hX dX9_isRuleAt_30 (by decide) ?_
  obtain rfl := Option.some.inj h
  exact r_iret (v := b2i true) hX hT dX9_isRuleAt_34 (okI_b true).1
set_option maxRecDepth 100000 in
theorem ok_Fm_isRuleAt_j13 (v0 : Int64) (M : Mm) {z : Bool} {G : Gm} {X : Cx} {d : Nat}  (hX : XK G X 9 cX9_isRuleAt 3 (d + 0)) (hT : XT X (some .boolean) "isRuleAt") (hr : XR X SS) (h : Fm_isRuleAt_j13 v0 = some z) : WR G X (mQ G X (some (.int (b2i z))) M SS) 13 [.long v0, vU, vU] [] M SS := by
  unfold Fm_isRuleAt_j13 at h
  refine r_lload_n hX dX9_isRuleAt_13 rfl ?_
  refine r_ldc2 hX dX9_isRuleAt_14 kl_9_404 ?_
  refine r_lcmp_eq (tgt := 29) hX dX9_isRuleAt_17 dX9_isRuleAt_18 (by decide) (fun g2 => ?_) (fun g2 => ?_)
  · have h := (if_pos g2).symm.trans h
    refine WR.fg (L' := [vU, vU, vU]) ⟨Or.inl rfl, Or.inl rfl, Or.inl rfl, trivial⟩ ?_
    exact ok_Fm_isRuleAt_j29 M   hX hT hr h
  · have h := (if_neg g2).symm.trans h
    refine r_lload_n hX dX9_isRuleAt_21 rfl ?_
    refine r_ldc2 hX dX9_isRuleAt_22 kl_9_406 ?_
    refine r_lcmp_ne (tgt := 33) hX dX9_isRuleAt_25 dX9_isRuleAt_26 (by decide) (fun g3 => ?_) (fun g3 => ?_)
    · have h := (if_neg g3).symm.trans h
      refine r_iconst (v := (0 : Int32)) hX dX9_isRuleAt_33 (by decide) ?_
      obtain rfl := Option.some.inj h
      exact r_iret (v := b2i false) hX hT dX9_isRuleAt_34 (okI_b false).1
    · have h := (if_pos g3).symm.trans h
      refine WR.fg (L' := [vU, vU, vU]) ⟨Or.inl rfl, Or.inl rfl, Or.inl rfl, trivial⟩ ?_
      exact ok_Fm_isRuleAt_j29 M   hX hT hr h
set_option maxRecDepth 100000 in
theorem ok_Fm_isRuleAt {G : Gm} {l : Launch} {d : Nat} (v0 : Int64) (v2 : Int32) (M : Mm) {z : Bool}  (h : Fm_isRuleAt v0 v2 M = some z) : CK G l (d + 0) md_Fm_isRuleAt [.long v0, .int v2] M SS (some (.int (b2i z))) M SS := by
  refine ck_of mk_Fm_isRuleAt (Nat.le_of_ble_eq_true rfl) ⟨Nat.le_refl _, Nat.le_refl _⟩ (fun X hX hT hS hr hl => ?_)
  subst hl
  unfold Fm_isRuleAt at h
  show WR G X (mQ G X (some (.int (b2i z))) M SS) 0 [.long v0, vU, .int v2] [] M SS
  refine r_lload_n hX dX9_isRuleAt_0 rfl ?_
  refine r_ldc2 hX dX9_isRuleAt_1 kl_9_388 ?_
  refine r_lcmp_ne (tgt := 13) hX dX9_isRuleAt_4 dX9_isRuleAt_5 (by decide) (fun g1 => ?_) (fun g1 => ?_)
  · have h := (if_neg g1).symm.trans h
    refine WR.fg (L' := [.long v0, vU, vU]) ⟨Or.inr rfl, Or.inl rfl, Or.inl rfl, trivial⟩ ?_
    exact ok_Fm_isRuleAt_j13 v0 M   hX hT hr h
  · have h := (if_pos g1).symm.trans h
    refine r_iload_n hX dX9_isRuleAt_8 rfl ?_
    refine r_iconst (v := (3 : Int32)) hX dX9_isRuleAt_9 (by decide) ?_
    refine r_icmp_eq (tgt := 29) hX dX9_isRuleAt_10 (by decide) (fun g4 => ?_) (fun g4 => ?_)
    · have h := (if_pos g4).symm.trans h
      refine WR.fg (L' := [vU, vU, vU]) ⟨Or.inl rfl, Or.inl rfl, Or.inl rfl, trivial⟩ ?_
      exact ok_Fm_isRuleAt_j29 M   hX hT hr h
    · have h := (if_neg g4).symm.trans h
      refine WR.fg (L' := [.long v0, vU, vU]) ⟨Or.inr rfl, Or.inl rfl, Or.inl rfl, trivial⟩ ?_
      exact ok_Fm_isRuleAt_j13 v0 M   hX hT hr h
def Fm_readsStep_j85 (n : Nat) (v2 : Int32) (w0 : Int32) (w1 : Int32) (M : Mm) : Option ((Int32 × Mm) ⊕ ((Mm) ⊕ (Bool × Mm))) :=
  bnd (Fm_readsNumber n w1 w0 M) (fun z12 =>
  if z12.1 = true then
    grd (inb (((4 : Int32) * (z12.2.1 94 11)) + v2) 96) (
    some (.inl (v2 + (1 : Int32), ((up2 z12.2.1 114 (tn (((4 : Int32) * (z12.2.1 94 11)) + v2)) (z12.2.1 94 8)), z12.2.2))))
  else
    some (.inr (.inr (false, z12.2))))
def Fm_readsStep_b61 (n : Nat) (c1 : Int32) (v2 : Int32) (M : Mm) : Option ((Int32 × Mm) ⊕ ((Mm) ⊕ (Bool × Mm))) :=
  if c1 ≤ v2 then
    some (.inr (.inl M))
  else
    bnd (Fm_isRuleAt (M.2 94 12) v2 M) (fun z9 =>
    if z9 = true then
      Fm_readsStep_j85 n v2 (3 : Int32) (0 : Int32) M
    else
      Fm_readsStep_j85 n v2 (99 : Int32) (0 : Int32) M)
def Fm_readsStep (n : Nat) (M : Mm) : Option (Bool × Mm) :=
  if (M.1 94 11) = (24 : Int32) then
    bnd (Fm_wrongAt (4 : Int32) (M.1 94 5) M) (fun z21 =>
    some (z21.1, z21.2))
  else
    bnd (Fm_readsWord n M) (fun z2 =>
    bnd (Fm_numbersOf (z2.2 94 12) z2) (fun z4 =>
    if z4 = (-1 : Int32) then
      bnd (Fm_wrongAt (1 : Int32) (z2.1 94 10) z2) (fun z19 =>
      some (z19.1, z19.2))
    else
      grd (inb (z2.1 94 11) 24) (
      bnd (loop (fun s1 : Int32 × Mm => Fm_readsStep_b61 n z4 s1.1 s1.2) n ((0 : Int32), (z2.1, (up2 z2.2 113 (tn (z2.1 94 11)) (z2.2 94 12))))) (fun y16 =>
      elS y16 (fun x17 =>
        some (true, ((up2 x17.1 94 11 ((x17.1 94 11) + (1 : Int32))), x17.2)))
        (fun e18 => some e18)))))
set_option maxRecDepth 100000 in
theorem ok_Fm_readsStep_j85 (n : Nat) (v2 : Int32) (w0 : Int32) (w1 : Int32) (M : Mm) {c1 : Int32} {z : Bool × Mm} {oo : (Int32 × Mm) ⊕ ((Mm) ⊕ (Bool × Mm))} {G : Gm} {X : Cx} {d : Nat}  (hX : XK G X 9 cX9_readsStep 3 (d + 3)) (hT : XT X (some .boolean) "readsStep") (hr : XR X SS) (hc : ∀ s1 : Int32 × Mm, oo = .inl s1 → WR G X (mQ G X (some (.int (b2i z.1))) z.2 SS) 61 [.ref 94, .int c1, .int s1.1] [] s1.2 SS) (hx : ∀ x1 : (Mm) ⊕ (Bool × Mm), oo = .inr x1 → elS x1 (fun x2 => WR G X (mQ G X (some (.int (b2i z.1))) z.2 SS) 116 [.ref 94, vU, vU] [] x2 SS) (fun y1 => y1 = z)) (h : Fm_readsStep_j85 n v2 w0 w1 M = some oo) : WR G X (mQ G X (some (.int (b2i z.1))) z.2 SS) 85 [.ref 94, .int c1, .int v2] [.int w0, .int w1, .ref 94] M SS := by
  unfold Fm_readsStep_j85 at h
  obtain ⟨z12, p13, h⟩ := bnd_s h
  refine r_callV (As := [.int w1, .int w0]) hX dX9_readsStep_85 mk_Fm_readsNumber mi_Fm_readsNumber ml_9_141 rfl rfl rfl rfl (by decide) (by decide) (Nat.le_of_ble_eq_true rfl) hr (ok_Fm_readsNumber (d := d + 0) n w1 w0 M p13) ?_
  refine r_ifb_ne (tgt := 93) hX dX9_readsStep_88 (by decide) (fun g14 => ?_) (fun g14 => ?_)
  · have h := (if_pos g14).symm.trans h
    refine r_aload_n hX dX9_readsStep_93 rfl ?_
    refine r_getf (v := .ref 114) hX dX9_readsStep_94 fl_9_70 rfl (by decide) (by decide) rfl ?_
    refine r_iconst (v := (4 : Int32)) hX dX9_readsStep_97 (by decide) ?_
    refine r_aload_n hX dX9_readsStep_98 rfl ?_
    refine r_getf (v := .int (z12.2.1 94 11)) hX dX9_readsStep_99 fl_9_138 rfl (by decide) (by decide) rfl ?_
    refine r_imul hX dX9_readsStep_102 ?_
    refine r_iload_n hX dX9_readsStep_103 rfl ?_
    refine r_iadd hX dX9_readsStep_104 ?_
    refine r_aload_n hX dX9_readsStep_105 rfl ?_
    refine r_getf (v := .int (z12.2.1 94 8)) hX dX9_readsStep_106 fl_9_135 rfl (by decide) (by decide) rfl ?_
    obtain ⟨k15, h⟩ := grd_s h
    refine r_iast hX dX9_readsStep_109 rfl (by decide) (inb_at rfl k15) ?_
    refine r_iinc (v := v2 + (1 : Int32)) (L1 := [.ref 94, .int c1, .int (v2 + (1 : Int32))]) hX dX9_readsStep_110 rfl rfl rfl ?_
    refine r_goto (tgt := 61) hX dX9_readsStep_113 (by decide) ?_
    exact hc (v2 + (1 : Int32), ((up2 z12.2.1 114 (tn (((4 : Int32) * (z12.2.1 94 11)) + v2)) (z12.2.1 94 8)), z12.2.2)) (Option.some.inj h).symm
  · have h := (if_neg (show ¬ z12.1 = true from fun e => by rw [g14] at e; cases e)).symm.trans h
    refine r_iconst (v := (0 : Int32)) hX dX9_readsStep_91 (by decide) ?_
    obtain rfl := hx _ (Option.some.inj h).symm
    exact r_iret (v := b2i false) hX hT dX9_readsStep_92 (okI_b false).1
set_option maxRecDepth 100000 in
theorem ok_Fm_readsStep_b61 (n : Nat) (v2 : Int32) (M : Mm) {c1 : Int32} {z : Bool × Mm} {oo : (Int32 × Mm) ⊕ ((Mm) ⊕ (Bool × Mm))} {G : Gm} {X : Cx} {d : Nat}  (hX : XK G X 9 cX9_readsStep 3 (d + 3)) (hT : XT X (some .boolean) "readsStep") (hr : XR X SS) (hc : ∀ s1 : Int32 × Mm, oo = .inl s1 → WR G X (mQ G X (some (.int (b2i z.1))) z.2 SS) 61 [.ref 94, .int c1, .int s1.1] [] s1.2 SS) (hx : ∀ x1 : (Mm) ⊕ (Bool × Mm), oo = .inr x1 → elS x1 (fun x2 => WR G X (mQ G X (some (.int (b2i z.1))) z.2 SS) 116 [.ref 94, vU, vU] [] x2 SS) (fun y1 => y1 = z)) (h : Fm_readsStep_b61 n c1 v2 M = some oo) : WR G X (mQ G X (some (.int (b2i z.1))) z.2 SS) 61 [.ref 94, .int c1, .int v2] [] M SS := by
  unfold Fm_readsStep_b61 at h
  refine r_iload_n hX dX9_readsStep_61 rfl ?_
  refine r_iload_n hX dX9_readsStep_62 rfl ?_
  refine r_icmp_ge (tgt := 116) hX dX9_readsStep_63 (by decide) (fun g8 => ?_) (fun g8 => ?_)
  · have h := (if_pos g8).symm.trans h
    refine WR.fg (L' := [.ref 94, vU, vU]) ⟨Or.inr rfl, Or.inl rfl, Or.inl rfl, trivial⟩ ?_
    exact hx _ (Option.some.inj h).symm
  · have h := (if_neg g8).symm.trans h
    refine r_aload_n hX dX9_readsStep_66 rfl ?_
    refine r_iconst (v := (0 : Int32)) hX dX9_readsStep_67 (by decide) ?_
    refine r_aload_n hX dX9_readsStep_68 rfl ?_
    refine r_getf (v := .long (M.2 94 12)) hX dX9_readsStep_69 fl_9_115 rfl (by decide) (by decide) rfl ?_
    refine r_iload_n hX dX9_readsStep_72 rfl ?_
    obtain ⟨z9, p10, h⟩ := bnd_s h
    refine r_callS (As := [.long (M.2 94 12), .int v2]) hX dX9_readsStep_73 mk_Fm_isRuleAt ms_Fm_isRuleAt ml_9_414 rfl rfl rfl (Nat.le_of_ble_eq_true rfl) hr (ok_Fm_isRuleAt (d := d + 2) (M.2 94 12) v2 M p10) ?_
    refine r_ifb_eq (tgt := 83) hX dX9_readsStep_76 (by decide) (fun g11 => ?_) (fun g11 => ?_)
    · have h := (if_neg (show ¬ z9 = true from fun e => by rw [g11] at e; cases e)).symm.trans h
      refine r_bipush (v := (99 : Int32)) hX dX9_readsStep_83 (by decide) ?_
      exact ok_Fm_readsStep_j85 n v2 (99 : Int32) (0 : Int32) M   hX hT hr hc hx h
    · have h := (if_pos g11).symm.trans h
      refine r_iconst (v := (3 : Int32)) hX dX9_readsStep_79 (by decide) ?_
      refine r_goto (tgt := 85) hX dX9_readsStep_80 (by decide) ?_
      exact ok_Fm_readsStep_j85 n v2 (3 : Int32) (0 : Int32) M   hX hT hr hc hx h
set_option maxRecDepth 100000 in
theorem ok_Fm_readsStep {G : Gm} {l : Launch} {d : Nat} (n : Nat) (M : Mm) {z : Bool × Mm}  (h : Fm_readsStep n M = some z) : CK G l (d + 3) md_Fm_readsStep [.ref 94] M SS (some (.int (b2i z.1))) z.2 SS := by
  refine ck_of mk_Fm_readsStep (Nat.le_of_ble_eq_true rfl) ⟨Nat.le_refl _, Nat.le_refl _⟩ (fun X hX hT hS hr hl => ?_)
  subst hl
  unfold Fm_readsStep at h
  show WR G X (mQ G X (some (.int (b2i z.1))) z.2 SS) 0 [.ref 94, vU, vU] [] M SS
  refine r_aload_n hX dX9_readsStep_0 rfl ?_
  refine r_getf (v := .int (M.1 94 11)) hX dX9_readsStep_1 fl_9_138 rfl (by decide) (by decide) rfl ?_
  refine r_bipush (v := (24 : Int32)) hX dX9_readsStep_4 (by decide) ?_
  refine r_icmp_ne (tgt := 19) hX dX9_readsStep_6 (by decide) (fun g1 => ?_) (fun g1 => ?_)
  · have h := (if_neg g1).symm.trans h
    refine r_aload_n hX dX9_readsStep_19 rfl ?_
    obtain ⟨z2, p3, h⟩ := bnd_s h
    refine r_callV (As := []) hX dX9_readsStep_20 mk_Fm_readsWord mi_Fm_readsWord ml_9_147 rfl rfl rfl rfl (by decide) (by decide) (Nat.le_of_ble_eq_true rfl) hr (ok_Fm_readsWord (d := d + 1) n M p3) ?_
    refine r_aload_n hX dX9_readsStep_23 rfl ?_
    refine r_getf (v := .long (z2.2 94 12)) hX dX9_readsStep_24 fl_9_115 rfl (by decide) (by decide) rfl ?_
    obtain ⟨z4, p5, h⟩ := bnd_s h
    refine r_callS (As := [.long (z2.2 94 12)]) hX dX9_readsStep_27 mk_Fm_numbersOf ms_Fm_numbersOf ml_9_410 rfl rfl rfl (Nat.le_of_ble_eq_true rfl) hr (ok_Fm_numbersOf (d := d + 2) (z2.2 94 12) z2 p5) ?_
    refine r_istore_n (L1 := [.ref 94, .int z4, vU]) hX dX9_readsStep_30 (Nat.le_of_ble_eq_true rfl) rfl ?_
    refine r_iload_n hX dX9_readsStep_31 rfl ?_
    refine r_iconst (v := (-1 : Int32)) hX dX9_readsStep_32 (by decide) ?_
    refine r_icmp_ne (tgt := 46) hX dX9_readsStep_33 (by decide) (fun g6 => ?_) (fun g6 => ?_)
    · have h := (if_neg g6).symm.trans h
      refine r_aload_n hX dX9_readsStep_46 rfl ?_
      refine r_getf (v := .ref 113) hX dX9_readsStep_47 fl_9_66 rfl (by decide) (by decide) rfl ?_
      refine r_aload_n hX dX9_readsStep_50 rfl ?_
      refine r_getf (v := .int (z2.1 94 11)) hX dX9_readsStep_51 fl_9_138 rfl (by decide) (by decide) rfl ?_
      refine r_aload_n hX dX9_readsStep_54 rfl ?_
      refine r_getf (v := .long (z2.2 94 12)) hX dX9_readsStep_55 fl_9_115 rfl (by decide) (by decide) rfl ?_
      obtain ⟨k7, h⟩ := grd_s h
      refine r_last hX dX9_readsStep_58 rfl (by decide) (inb_at rfl k7) ?_
      refine r_iconst (v := (0 : Int32)) hX dX9_readsStep_59 (by decide) ?_
      refine r_istore_n (L1 := [.ref 94, .int z4, .int (0 : Int32)]) hX dX9_readsStep_60 (Nat.le_of_ble_eq_true rfl) rfl ?_
      obtain ⟨y16, h1, h⟩ := bnd_s h
      refine loop_ok (P := fun s1 : Int32 × Mm => WR G X (mQ G X (some (.int (b2i z.1))) z.2 SS) 61 [.ref 94, .int z4, .int s1.1] [] s1.2 SS) (E := fun x1 : (Mm) ⊕ (Bool × Mm) => elS x1 (fun x2 => WR G X (mQ G X (some (.int (b2i z.1))) z.2 SS) 116 [.ref 94, vU, vU] [] x2 SS) (fun y1 => y1 = z)) (fun s1 o1 g1 g2 g3 => ok_Fm_readsStep_b61 n s1.1 s1.2  hX hT hr g2 g3 g1) n ((0 : Int32), (z2.1, (up2 z2.2 113 (tn (z2.1 94 11)) (z2.2 94 12)))) y16 h1 ?_
      cases y16 with
      | inr e18 =>
        exact Option.some.inj h
      | inl x17 =>
        show WR G X (mQ G X (some (.int (b2i z.1))) z.2 SS) 116 [.ref 94, vU, vU] [] x17 SS
        refine r_aload_n hX dX9_readsStep_116 rfl ?_
        refine r_aload_n hX dX9_readsStep_117 rfl ?_
        refine r_getf (v := .int (x17.1 94 11)) hX dX9_readsStep_118 fl_9_138 rfl (by decide) (by decide) rfl ?_
        refine r_iconst (v := (1 : Int32)) hX dX9_readsStep_121 (by decide) ?_
        refine r_iadd hX dX9_readsStep_122 ?_
        refine r_putI hX dX9_readsStep_123 fl_9_138 rfl (by decide) (by decide) (okI_int _) ?_
        refine r_iconst (v := (1 : Int32)) hX dX9_readsStep_126 (by decide) ?_
        obtain rfl := Option.some.inj h
        exact r_iret (v := b2i true) hX hT dX9_readsStep_127 (okI_b true).1
    · have h := (if_pos g6).symm.trans h
      refine r_aload_n hX dX9_readsStep_36 rfl ?_
      refine r_iconst (v := (1 : Int32)) hX dX9_readsStep_37 (by decide) ?_
      refine r_aload_n hX dX9_readsStep_38 rfl ?_
      refine r_getf (v := .int (z2.1 94 10)) hX dX9_readsStep_39 fl_9_112 rfl (by decide) (by decide) rfl ?_
      obtain ⟨z19, p20, h⟩ := bnd_s h
      refine r_callV (As := [.int (1 : Int32), .int (z2.1 94 10)]) hX dX9_readsStep_42 mk_Fm_wrongAt mi_Fm_wrongAt ml_9_108 rfl rfl rfl rfl (by decide) (by decide) (Nat.le_of_ble_eq_true rfl) hr (ok_Fm_wrongAt (d := d + 2) (1 : Int32) (z2.1 94 10) z2 p20) ?_
      obtain rfl := Option.some.inj h
      exact r_iret hX hT dX9_readsStep_45 (okI_b _).1
  · have h := (if_pos g1).symm.trans h
    refine r_aload_n hX dX9_readsStep_9 rfl ?_
    refine r_iconst (v := (4 : Int32)) hX dX9_readsStep_10 (by decide) ?_
    refine r_aload_n hX dX9_readsStep_11 rfl ?_
    refine r_getf (v := .int (M.1 94 5)) hX dX9_readsStep_12 fl_9_95 rfl (by decide) (by decide) rfl ?_
    obtain ⟨z21, p22, h⟩ := bnd_s h
    refine r_callV (As := [.int (4 : Int32), .int (M.1 94 5)]) hX dX9_readsStep_15 mk_Fm_wrongAt mi_Fm_wrongAt ml_9_108 rfl rfl rfl rfl (by decide) (by decide) (Nat.le_of_ble_eq_true rfl) hr (ok_Fm_wrongAt (d := d + 2) (4 : Int32) (M.1 94 5) M p22) ?_
    obtain rfl := Option.some.inj h
    exact r_iret hX hT dX9_readsStep_18 (okI_b _).1
def Fm_does_j79 (M : Mm) : Option (Bool × Mm) :=
  some (true, M)
def Fm_does (n : Nat) (v1 : Int32) (M : Mm) : Option (Bool × Mm) :=
  grd (inb v1 24) (
  grd (inb ((4 : Int32) * v1) 96) (
  grd (inb (((4 : Int32) * v1) + (1 : Int32)) 96) (
  if (M.2 113 (tn v1)) = (1643 : Int64) then
    grd (inb (((4 : Int32) * v1) + (2 : Int32)) 96) (
    grd (inb (((4 : Int32) * v1) + (3 : Int32)) 96) (
    bnd (Fm_ask n (M.1 114 (tn ((4 : Int32) * v1))) (M.1 114 (tn (((4 : Int32) * v1) + (1 : Int32)))) (M.1 114 (tn (((4 : Int32) * v1) + (2 : Int32)))) (M.1 114 (tn (((4 : Int32) * v1) + (3 : Int32)))) M) (fun z44 =>
    if (0 : Int32) ≤ z44.1 then
      Fm_does_j79 z44.2
    else
      if z44.1 = (-2 : Int32) then
        Fm_does_j79 z44.2
      else
        some (false, z44.2))))
  else
    if (M.2 113 (tn v1)) = (150000 : Int64) then
      bnd (Fm_drop (M.1 114 (tn ((4 : Int32) * v1))) M) (fun z40 =>
      some (z40.1, z40.2))
    else
      if (M.2 113 (tn v1)) = (20325509 : Int64) then
        bnd (Fm_slide n (M.1 114 (tn ((4 : Int32) * v1))) M) (fun z37 =>
        if z37.1 < (0 : Int32) then
          some (false, z37.2)
        else
          some (true, z37.2))
      else
        if (M.2 113 (tn v1)) = (20681904 : Int64) then
          bnd (Fm_sweep n M) (fun z34 =>
          if z34.1 < (0 : Int32) then
            some (false, z34.2)
          else
            some (true, z34.2))
        else
          if (M.2 113 (tn v1)) = (349616 : Int64) then
            bnd (Fm_jump n (M.1 114 (tn ((4 : Int32) * v1))) (M.1 114 (tn (((4 : Int32) * v1) + (1 : Int32)))) M) (fun z31 =>
            if z31.1 ≤ (-1000 : Int32) then
              some (false, z31.2)
            else
              some (true, z31.2))
          else
            if (M.2 113 (tn v1)) = (3764 : Int64) then
              bnd (Fm_cut n (M.1 114 (tn ((4 : Int32) * v1))) M) (fun z28 =>
              if z28.1 < (0 : Int32) then
                some (false, z28.2)
              else
                some (true, z28.2))
            else
              if (M.2 113 (tn v1)) = (431556 : Int64) then
                bnd (Fm_mend (M.1 114 (tn ((4 : Int32) * v1))) M) (fun z26 =>
                some (z26.1, z26.2))
              else
                if (M.2 113 (tn v1)) = (19508010260 : Int64) then
                  bnd (Fm_relight n (M.1 114 (tn ((4 : Int32) * v1))) M) (fun z23 =>
                  if z23.1 < (0 : Int32) then
                    some (false, z23.2)
                  else
                    some (true, z23.2))
                else
                  if (M.2 113 (tn v1)) = (536622 : Int64) then
                    bnd (Fm_plan n (M.1 114 (tn ((4 : Int32) * v1))) M) (fun z20 =>
                    if z20.1 < (0 : Int32) then
                      some (false, z20.2)
                    else
                      some (true, z20.2))
                  else
                    if (M.2 113 (tn v1)) = (12635795 : Int64) then
                      bnd (Fm_lasts (M.1 114 (tn ((4 : Int32) * v1))) (M.1 114 (tn (((4 : Int32) * v1) + (1 : Int32)))) M) (fun z17 =>
                      if z17.1 < (0 : Int32) then
                        some (false, z17.2)
                      else
                        some (true, z17.2))
                    else
                      bnd (Fm_ticks n (M.1 114 (tn ((4 : Int32) * v1))) M) (fun z14 =>
                      if z14.1 < (0 : Int32) then
                        some (false, z14.2)
                      else
                        some (true, z14.2)))))
set_option maxRecDepth 100000 in
theorem ok_Fm_does_j79 (n : Nat) (M : Mm) {z : Bool × Mm} {G : Gm} {X : Cx} {d : Nat}  (hX : XK G X 9 cX9_does 7 (d + 8)) (hT : XT X (some .boolean) "does") (hr : XR X SS) (h : Fm_does_j79 M = some z) : WR G X (mQ G X (some (.int (b2i z.1))) z.2 SS) 79 [.ref 94, vU, vU, vU, vU, vU, vU] [] M SS := by
  unfold Fm_does_j79 at h
  refine r_iconst (v := (1 : Int32)) hX dX9_does_79 (by decide) ?_
  refine r_goto (tgt := 84) hX dX9_does_80 (by decide) ?_
  obtain rfl := Option.some.inj h
  exact r_iret (v := b2i true) hX hT dX9_does_84 (okI_b true).1
set_option maxRecDepth 100000 in
theorem ok_Fm_does {G : Gm} {l : Launch} {d : Nat} (n : Nat) (v1 : Int32) (M : Mm) {z : Bool × Mm}  (h : Fm_does n v1 M = some z) : CK G l (d + 8) md_Fm_does [.ref 94, .int v1] M SS (some (.int (b2i z.1))) z.2 SS := by
  refine ck_of mk_Fm_does (Nat.le_of_ble_eq_true rfl) ⟨Nat.le_refl _, Nat.le_refl _⟩ (fun X hX hT hS hr hl => ?_)
  subst hl
  unfold Fm_does at h
  show WR G X (mQ G X (some (.int (b2i z.1))) z.2 SS) 0 [.ref 94, .int v1, vU, vU, vU, vU, vU] [] M SS
  refine r_aload_n hX dX9_does_0 rfl ?_
  refine r_getf (v := .ref 113) hX dX9_does_1 fl_9_66 rfl (by decide) (by decide) rfl ?_
  refine r_iload_n hX dX9_does_4 rfl ?_
  obtain ⟨k1, h⟩ := grd_s h
  refine r_lald hX dX9_does_5 rfl (by decide) (inb_at rfl k1) ?_
  refine r_lstore_n (L1 := [.ref 94, .int v1, .long (M.2 113 (tn v1)), vU, vU, vU, vU]) hX dX9_does_6 (Nat.le_of_ble_eq_true rfl) rfl ?_
  refine r_aload_n hX dX9_does_7 rfl ?_
  refine r_getf (v := .ref 114) hX dX9_does_8 fl_9_70 rfl (by decide) (by decide) rfl ?_
  refine r_iconst (v := (4 : Int32)) hX dX9_does_11 (by decide) ?_
  refine r_iload_n hX dX9_does_12 rfl ?_
  refine r_imul hX dX9_does_13 ?_
  obtain ⟨k2, h⟩ := grd_s h
  refine r_iald hX dX9_does_14 rfl (by decide) (inb_at rfl k2) ?_
  refine r_istore (L1 := [.ref 94, .int v1, .long (M.2 113 (tn v1)), vU, .int (M.1 114 (tn ((4 : Int32) * v1))), vU, vU]) hX dX9_does_15 (Nat.le_of_ble_eq_true rfl) rfl ?_
  refine r_aload_n hX dX9_does_17 rfl ?_
  refine r_getf (v := .ref 114) hX dX9_does_18 fl_9_70 rfl (by decide) (by decide) rfl ?_
  refine r_iconst (v := (4 : Int32)) hX dX9_does_21 (by decide) ?_
  refine r_iload_n hX dX9_does_22 rfl ?_
  refine r_imul hX dX9_does_23 ?_
  refine r_iconst (v := (1 : Int32)) hX dX9_does_24 (by decide) ?_
  refine r_iadd hX dX9_does_25 ?_
  obtain ⟨k3, h⟩ := grd_s h
  refine r_iald hX dX9_does_26 rfl (by decide) (inb_at rfl k3) ?_
  refine r_istore (L1 := [.ref 94, .int v1, .long (M.2 113 (tn v1)), vU, .int (M.1 114 (tn ((4 : Int32) * v1))), .int (M.1 114 (tn (((4 : Int32) * v1) + (1 : Int32)))), vU]) hX dX9_does_27 (Nat.le_of_ble_eq_true rfl) rfl ?_
  refine r_lload_n hX dX9_does_29 rfl ?_
  refine r_ldc2 hX dX9_does_30 kl_9_388 ?_
  refine r_lcmp_ne (tgt := 85) hX dX9_does_33 dX9_does_34 (by decide) (fun g4 => ?_) (fun g4 => ?_)
  · have h := (if_neg g4).symm.trans h
    refine r_lload_n hX dX9_does_85 rfl ?_
    refine r_ldc2 hX dX9_does_86 kl_9_396 ?_
    refine r_lcmp_ne (tgt := 100) hX dX9_does_89 dX9_does_90 (by decide) (fun g5 => ?_) (fun g5 => ?_)
    · have h := (if_neg g5).symm.trans h
      refine r_lload_n hX dX9_does_100 rfl ?_
      refine r_ldc2 hX dX9_does_101 kl_9_398 ?_
      refine r_lcmp_ne (tgt := 123) hX dX9_does_104 dX9_does_105 (by decide) (fun g6 => ?_) (fun g6 => ?_)
      · have h := (if_neg g6).symm.trans h
        refine r_lload_n hX dX9_does_123 rfl ?_
        refine r_ldc2 hX dX9_does_124 kl_9_394 ?_
        refine r_lcmp_ne (tgt := 144) hX dX9_does_127 dX9_does_128 (by decide) (fun g7 => ?_) (fun g7 => ?_)
        · have h := (if_neg g7).symm.trans h
          refine r_lload_n hX dX9_does_144 rfl ?_
          refine r_ldc2 hX dX9_does_145 kl_9_390 ?_
          refine r_lcmp_ne (tgt := 172) hX dX9_does_148 dX9_does_149 (by decide) (fun g8 => ?_) (fun g8 => ?_)
          · have h := (if_neg g8).symm.trans h
            refine r_lload_n hX dX9_does_172 rfl ?_
            refine r_ldc2 hX dX9_does_173 kl_9_400 ?_
            refine r_lcmp_ne (tgt := 195) hX dX9_does_176 dX9_does_177 (by decide) (fun g9 => ?_) (fun g9 => ?_)
            · have h := (if_neg g9).symm.trans h
              refine r_lload_n hX dX9_does_195 rfl ?_
              refine r_ldc2 hX dX9_does_196 kl_9_402 ?_
              refine r_lcmp_ne (tgt := 210) hX dX9_does_199 dX9_does_200 (by decide) (fun g10 => ?_) (fun g10 => ?_)
              · have h := (if_neg g10).symm.trans h
                refine r_lload_n hX dX9_does_210 rfl ?_
                refine r_ldc2 hX dX9_does_211 kl_9_404 ?_
                refine r_lcmp_ne (tgt := 233) hX dX9_does_214 dX9_does_215 (by decide) (fun g11 => ?_) (fun g11 => ?_)
                · have h := (if_neg g11).symm.trans h
                  refine r_lload_n hX dX9_does_233 rfl ?_
                  refine r_ldc2 hX dX9_does_234 kl_9_406 ?_
                  refine r_lcmp_ne (tgt := 256) hX dX9_does_237 dX9_does_238 (by decide) (fun g12 => ?_) (fun g12 => ?_)
                  · have h := (if_neg g12).symm.trans h
                    refine r_lload_n hX dX9_does_256 rfl ?_
                    refine r_ldc2 hX dX9_does_257 kl_9_392 ?_
                    refine r_lcmp_ne (tgt := 283) hX dX9_does_260 dX9_does_261 (by decide) (fun g13 => ?_) (fun g13 => ?_)
                    · have h := (if_neg g13).symm.trans h
                      refine r_aload_n hX dX9_does_283 rfl ?_
                      refine r_iload hX dX9_does_284 rfl ?_
                      obtain ⟨z14, p15, h⟩ := bnd_s h
                      refine r_callV (As := [.int (M.1 114 (tn ((4 : Int32) * v1)))]) hX dX9_does_286 mk_Fm_ticks mi_Fm_ticks ml_9_445 rfl rfl rfl rfl (by decide) (by decide) (Nat.le_of_ble_eq_true rfl) hr (ok_Fm_ticks (d := d + 5) n (M.1 114 (tn ((4 : Int32) * v1))) M p15) ?_
                      refine r_if_lt (tgt := 296) hX dX9_does_289 (by decide) (fun g16 => ?_) (fun g16 => ?_)
                      · have h := (if_pos g16).symm.trans h
                        refine r_iconst (v := (0 : Int32)) hX dX9_does_296 (by decide) ?_
                        obtain rfl := Option.some.inj h
                        exact r_iret (v := b2i false) hX hT dX9_does_297 (okI_b false).1
                      · have h := (if_neg g16).symm.trans h
                        refine r_iconst (v := (1 : Int32)) hX dX9_does_292 (by decide) ?_
                        refine r_goto (tgt := 297) hX dX9_does_293 (by decide) ?_
                        obtain rfl := Option.some.inj h
                        exact r_iret (v := b2i true) hX hT dX9_does_297 (okI_b true).1
                    · have h := (if_pos g13).symm.trans h
                      refine r_aload_n hX dX9_does_264 rfl ?_
                      refine r_iload hX dX9_does_265 rfl ?_
                      refine r_iload hX dX9_does_267 rfl ?_
                      obtain ⟨z17, p18, h⟩ := bnd_s h
                      refine r_callV (As := [.int (M.1 114 (tn ((4 : Int32) * v1))), .int (M.1 114 (tn (((4 : Int32) * v1) + (1 : Int32))))]) hX dX9_does_269 mk_Fm_lasts mi_Fm_lasts ml_9_442 rfl rfl rfl rfl (by decide) (by decide) (Nat.le_of_ble_eq_true rfl) hr (ok_Fm_lasts (d := d + 5) (M.1 114 (tn ((4 : Int32) * v1))) (M.1 114 (tn (((4 : Int32) * v1) + (1 : Int32)))) M p18) ?_
                      refine r_if_lt (tgt := 279) hX dX9_does_272 (by decide) (fun g19 => ?_) (fun g19 => ?_)
                      · have h := (if_pos g19).symm.trans h
                        refine r_iconst (v := (0 : Int32)) hX dX9_does_279 (by decide) ?_
                        refine r_goto (tgt := 297) hX dX9_does_280 (by decide) ?_
                        obtain rfl := Option.some.inj h
                        exact r_iret (v := b2i false) hX hT dX9_does_297 (okI_b false).1
                      · have h := (if_neg g19).symm.trans h
                        refine r_iconst (v := (1 : Int32)) hX dX9_does_275 (by decide) ?_
                        refine r_goto (tgt := 297) hX dX9_does_276 (by decide) ?_
                        obtain rfl := Option.some.inj h
                        exact r_iret (v := b2i true) hX hT dX9_does_297 (okI_b true).1
                  · have h := (if_pos g12).symm.trans h
                    refine r_aload_n hX dX9_does_241 rfl ?_
                    refine r_iload hX dX9_does_242 rfl ?_
                    obtain ⟨z20, p21, h⟩ := bnd_s h
                    refine r_callV (As := [.int (M.1 114 (tn ((4 : Int32) * v1)))]) hX dX9_does_244 mk_Fm_plan mi_Fm_plan ml_9_439 rfl rfl rfl rfl (by decide) (by decide) (Nat.le_of_ble_eq_true rfl) hr (ok_Fm_plan (d := d + 0) n (M.1 114 (tn ((4 : Int32) * v1))) M p21) ?_
                    refine r_if_lt (tgt := 254) hX dX9_does_247 (by decide) (fun g22 => ?_) (fun g22 => ?_)
                    · have h := (if_pos g22).symm.trans h
                      refine r_iconst (v := (0 : Int32)) hX dX9_does_254 (by decide) ?_
                      obtain rfl := Option.some.inj h
                      exact r_iret (v := b2i false) hX hT dX9_does_255 (okI_b false).1
                    · have h := (if_neg g22).symm.trans h
                      refine r_iconst (v := (1 : Int32)) hX dX9_does_250 (by decide) ?_
                      refine r_goto (tgt := 255) hX dX9_does_251 (by decide) ?_
                      obtain rfl := Option.some.inj h
                      exact r_iret (v := b2i true) hX hT dX9_does_255 (okI_b true).1
                · have h := (if_pos g11).symm.trans h
                  refine r_aload_n hX dX9_does_218 rfl ?_
                  refine r_iload hX dX9_does_219 rfl ?_
                  obtain ⟨z23, p24, h⟩ := bnd_s h
                  refine r_callV (As := [.int (M.1 114 (tn ((4 : Int32) * v1)))]) hX dX9_does_221 mk_Fm_relight mi_Fm_relight ml_9_436 rfl rfl rfl rfl (by decide) (by decide) (Nat.le_of_ble_eq_true rfl) hr (ok_Fm_relight (d := d + 0) n (M.1 114 (tn ((4 : Int32) * v1))) M p24) ?_
                  refine r_if_lt (tgt := 231) hX dX9_does_224 (by decide) (fun g25 => ?_) (fun g25 => ?_)
                  · have h := (if_pos g25).symm.trans h
                    refine r_iconst (v := (0 : Int32)) hX dX9_does_231 (by decide) ?_
                    obtain rfl := Option.some.inj h
                    exact r_iret (v := b2i false) hX hT dX9_does_232 (okI_b false).1
                  · have h := (if_neg g25).symm.trans h
                    refine r_iconst (v := (1 : Int32)) hX dX9_does_227 (by decide) ?_
                    refine r_goto (tgt := 232) hX dX9_does_228 (by decide) ?_
                    obtain rfl := Option.some.inj h
                    exact r_iret (v := b2i true) hX hT dX9_does_232 (okI_b true).1
              · have h := (if_pos g10).symm.trans h
                refine r_aload_n hX dX9_does_203 rfl ?_
                refine r_iload hX dX9_does_204 rfl ?_
                obtain ⟨z26, p27, h⟩ := bnd_s h
                refine r_callV (As := [.int (M.1 114 (tn ((4 : Int32) * v1)))]) hX dX9_does_206 mk_Fm_mend mi_Fm_mend ml_9_433 rfl rfl rfl rfl (by decide) (by decide) (Nat.le_of_ble_eq_true rfl) hr (ok_Fm_mend (d := d + 5) (M.1 114 (tn ((4 : Int32) * v1))) M p27) ?_
                obtain rfl := Option.some.inj h
                exact r_iret hX hT dX9_does_209 (okI_b _).1
            · have h := (if_pos g9).symm.trans h
              refine r_aload_n hX dX9_does_180 rfl ?_
              refine r_iload hX dX9_does_181 rfl ?_
              obtain ⟨z28, p29, h⟩ := bnd_s h
              refine r_callV (As := [.int (M.1 114 (tn ((4 : Int32) * v1)))]) hX dX9_does_183 mk_Fm_cut mi_Fm_cut ml_9_430 rfl rfl rfl rfl (by decide) (by decide) (Nat.le_of_ble_eq_true rfl) hr (ok_Fm_cut (d := d + 4) n (M.1 114 (tn ((4 : Int32) * v1))) M p29) ?_
              refine r_if_lt (tgt := 193) hX dX9_does_186 (by decide) (fun g30 => ?_) (fun g30 => ?_)
              · have h := (if_pos g30).symm.trans h
                refine r_iconst (v := (0 : Int32)) hX dX9_does_193 (by decide) ?_
                obtain rfl := Option.some.inj h
                exact r_iret (v := b2i false) hX hT dX9_does_194 (okI_b false).1
              · have h := (if_neg g30).symm.trans h
                refine r_iconst (v := (1 : Int32)) hX dX9_does_189 (by decide) ?_
                refine r_goto (tgt := 194) hX dX9_does_190 (by decide) ?_
                obtain rfl := Option.some.inj h
                exact r_iret (v := b2i true) hX hT dX9_does_194 (okI_b true).1
          · have h := (if_pos g8).symm.trans h
            refine r_aload_n hX dX9_does_152 rfl ?_
            refine r_iload hX dX9_does_153 rfl ?_
            refine r_iload hX dX9_does_155 rfl ?_
            obtain ⟨z31, p32, h⟩ := bnd_s h
            refine r_callV (As := [.int (M.1 114 (tn ((4 : Int32) * v1))), .int (M.1 114 (tn (((4 : Int32) * v1) + (1 : Int32))))]) hX dX9_does_157 mk_Fm_jump mi_Fm_jump ml_9_427 rfl rfl rfl rfl (by decide) (by decide) (Nat.le_of_ble_eq_true rfl) hr (ok_Fm_jump (d := d + 2) n (M.1 114 (tn ((4 : Int32) * v1))) (M.1 114 (tn (((4 : Int32) * v1) + (1 : Int32)))) M p32) ?_
            refine r_sipush (v := (-1000 : Int32)) hX dX9_does_160 (by decide) ?_
            refine r_icmp_le (tgt := 170) hX dX9_does_163 (by decide) (fun g33 => ?_) (fun g33 => ?_)
            · have h := (if_pos g33).symm.trans h
              refine r_iconst (v := (0 : Int32)) hX dX9_does_170 (by decide) ?_
              obtain rfl := Option.some.inj h
              exact r_iret (v := b2i false) hX hT dX9_does_171 (okI_b false).1
            · have h := (if_neg g33).symm.trans h
              refine r_iconst (v := (1 : Int32)) hX dX9_does_166 (by decide) ?_
              refine r_goto (tgt := 171) hX dX9_does_167 (by decide) ?_
              obtain rfl := Option.some.inj h
              exact r_iret (v := b2i true) hX hT dX9_does_171 (okI_b true).1
        · have h := (if_pos g7).symm.trans h
          refine r_aload_n hX dX9_does_131 rfl ?_
          obtain ⟨z34, p35, h⟩ := bnd_s h
          refine r_callV (As := []) hX dX9_does_132 mk_Fm_sweep mi_Fm_sweep ml_9_290 rfl rfl rfl rfl (by decide) (by decide) (Nat.le_of_ble_eq_true rfl) hr (ok_Fm_sweep (d := d + 1) n M p35) ?_
          refine r_if_lt (tgt := 142) hX dX9_does_135 (by decide) (fun g36 => ?_) (fun g36 => ?_)
          · have h := (if_pos g36).symm.trans h
            refine r_iconst (v := (0 : Int32)) hX dX9_does_142 (by decide) ?_
            obtain rfl := Option.some.inj h
            exact r_iret (v := b2i false) hX hT dX9_does_143 (okI_b false).1
          · have h := (if_neg g36).symm.trans h
            refine r_iconst (v := (1 : Int32)) hX dX9_does_138 (by decide) ?_
            refine r_goto (tgt := 143) hX dX9_does_139 (by decide) ?_
            obtain rfl := Option.some.inj h
            exact r_iret (v := b2i true) hX hT dX9_does_143 (okI_b true).1
      · have h := (if_pos g6).symm.trans h
        refine r_aload_n hX dX9_does_108 rfl ?_
        refine r_iload hX dX9_does_109 rfl ?_
        obtain ⟨z37, p38, h⟩ := bnd_s h
        refine r_callV (As := [.int (M.1 114 (tn ((4 : Int32) * v1)))]) hX dX9_does_111 mk_Fm_slide mi_Fm_slide ml_9_424 rfl rfl rfl rfl (by decide) (by decide) (Nat.le_of_ble_eq_true rfl) hr (ok_Fm_slide (d := d + 1) n (M.1 114 (tn ((4 : Int32) * v1))) M p38) ?_
        refine r_if_lt (tgt := 121) hX dX9_does_114 (by decide) (fun g39 => ?_) (fun g39 => ?_)
        · have h := (if_pos g39).symm.trans h
          refine r_iconst (v := (0 : Int32)) hX dX9_does_121 (by decide) ?_
          obtain rfl := Option.some.inj h
          exact r_iret (v := b2i false) hX hT dX9_does_122 (okI_b false).1
        · have h := (if_neg g39).symm.trans h
          refine r_iconst (v := (1 : Int32)) hX dX9_does_117 (by decide) ?_
          refine r_goto (tgt := 122) hX dX9_does_118 (by decide) ?_
          obtain rfl := Option.some.inj h
          exact r_iret (v := b2i true) hX hT dX9_does_122 (okI_b true).1
    · have h := (if_pos g5).symm.trans h
      refine r_aload_n hX dX9_does_93 rfl ?_
      refine r_iload hX dX9_does_94 rfl ?_
      obtain ⟨z40, p41, h⟩ := bnd_s h
      refine r_callV (As := [.int (M.1 114 (tn ((4 : Int32) * v1)))]) hX dX9_does_96 mk_Fm_drop mi_Fm_drop ml_9_421 rfl rfl rfl rfl (by decide) (by decide) (Nat.le_of_ble_eq_true rfl) hr (ok_Fm_drop (d := d + 5) (M.1 114 (tn ((4 : Int32) * v1))) M p41) ?_
      obtain rfl := Option.some.inj h
      exact r_iret hX hT dX9_does_99 (okI_b _).1
  · have h := (if_pos g4).symm.trans h
    refine r_aload_n hX dX9_does_37 rfl ?_
    refine r_iload hX dX9_does_38 rfl ?_
    refine r_iload hX dX9_does_40 rfl ?_
    refine r_aload_n hX dX9_does_42 rfl ?_
    refine r_getf (v := .ref 114) hX dX9_does_43 fl_9_70 rfl (by decide) (by decide) rfl ?_
    refine r_iconst (v := (4 : Int32)) hX dX9_does_46 (by decide) ?_
    refine r_iload_n hX dX9_does_47 rfl ?_
    refine r_imul hX dX9_does_48 ?_
    refine r_iconst (v := (2 : Int32)) hX dX9_does_49 (by decide) ?_
    refine r_iadd hX dX9_does_50 ?_
    obtain ⟨k42, h⟩ := grd_s h
    refine r_iald hX dX9_does_51 rfl (by decide) (inb_at rfl k42) ?_
    refine r_aload_n hX dX9_does_52 rfl ?_
    refine r_getf (v := .ref 114) hX dX9_does_53 fl_9_70 rfl (by decide) (by decide) rfl ?_
    refine r_iconst (v := (4 : Int32)) hX dX9_does_56 (by decide) ?_
    refine r_iload_n hX dX9_does_57 rfl ?_
    refine r_imul hX dX9_does_58 ?_
    refine r_iconst (v := (3 : Int32)) hX dX9_does_59 (by decide) ?_
    refine r_iadd hX dX9_does_60 ?_
    obtain ⟨k43, h⟩ := grd_s h
    refine r_iald hX dX9_does_61 rfl (by decide) (inb_at rfl k43) ?_
    obtain ⟨z44, p45, h⟩ := bnd_s h
    refine r_callV (As := [.int (M.1 114 (tn ((4 : Int32) * v1))), .int (M.1 114 (tn (((4 : Int32) * v1) + (1 : Int32)))), .int (M.1 114 (tn (((4 : Int32) * v1) + (2 : Int32)))), .int (M.1 114 (tn (((4 : Int32) * v1) + (3 : Int32))))]) hX dX9_does_62 mk_Fm_ask mi_Fm_ask ml_9_418 rfl rfl rfl rfl (by decide) (by decide) (Nat.le_of_ble_eq_true rfl) hr (ok_Fm_ask (d := d + 1) n (M.1 114 (tn ((4 : Int32) * v1))) (M.1 114 (tn (((4 : Int32) * v1) + (1 : Int32)))) (M.1 114 (tn (((4 : Int32) * v1) + (2 : Int32)))) (M.1 114 (tn (((4 : Int32) * v1) + (3 : Int32)))) M p45) ?_
    refine r_istore (L1 := [.ref 94, .int v1, .long (M.2 113 (tn v1)), vU, .int (M.1 114 (tn ((4 : Int32) * v1))), .int (M.1 114 (tn (((4 : Int32) * v1) + (1 : Int32)))), .int z44.1]) hX dX9_does_65 (Nat.le_of_ble_eq_true rfl) rfl ?_
    refine r_iload hX dX9_does_67 rfl ?_
    refine r_if_ge (tgt := 79) hX dX9_does_69 (by decide) (fun g46 => ?_) (fun g46 => ?_)
    · have h := (if_pos g46).symm.trans h
      refine WR.fg (L' := [.ref 94, vU, vU, vU, vU, vU, vU]) ⟨Or.inr rfl, Or.inl rfl, Or.inl rfl, Or.inl rfl, Or.inl rfl, Or.inl rfl, Or.inl rfl, trivial⟩ ?_
      exact ok_Fm_does_j79 n z44.2   hX hT hr h
    · have h := (if_neg g46).symm.trans h
      refine r_iload hX dX9_does_72 rfl ?_
      refine r_bipush (v := (-2 : Int32)) hX dX9_does_74 (by decide) ?_
      refine r_icmp_ne (tgt := 83) hX dX9_does_76 (by decide) (fun g47 => ?_) (fun g47 => ?_)
      · have h := (if_neg g47).symm.trans h
        refine r_iconst (v := (0 : Int32)) hX dX9_does_83 (by decide) ?_
        obtain rfl := Option.some.inj h
        exact r_iret (v := b2i false) hX hT dX9_does_84 (okI_b false).1
      · have h := (if_pos g47).symm.trans h
        refine WR.fg (L' := [.ref 94, vU, vU, vU, vU, vU, vU]) ⟨Or.inr rfl, Or.inl rfl, Or.inl rfl, Or.inl rfl, Or.inl rfl, Or.inl rfl, Or.inl rfl, trivial⟩ ?_
        exact ok_Fm_does_j79 n z44.2   hX hT hr h
