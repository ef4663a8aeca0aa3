def Fm_found (n : Nat) (v1 : Int32) (v2 : Int32) (v3 : Int32) (v4 : Int32) (v5 : Int32) (M : Mm) : Option (Int32 × Mm) :=
  bnd (Fm_isAsked v1 v2 v3 v4 M) (fun z1 =>
  if z1 = true then
    bnd (Fm_in v5 (0 : Int32) (2 : Int32) M) (fun z4 =>
    if z4 = true then
      bnd (Fm_findsFor n v1 v2 v3 v4 M) (fun z7 =>
      if z7.1 = true then
        if v5 = (0 : Int32) then
          some (z7.2.1 94 20, z7.2)
        else
          if v5 = (1 : Int32) then
            some (z7.2.1 94 21, z7.2)
          else
            some (z7.2.1 94 22, z7.2)
      else
        some ((-2 : Int32), z7.2))
    else
      some ((-1 : Int32), M))
  else
    some ((-1 : Int32), M))
set_option maxRecDepth 100000 in
theorem ok_Fm_found {G : Gm} {l : Launch} {d : Nat} (n : Nat) (v1 : Int32) (v2 : Int32) (v3 : Int32) (v4 : Int32) (v5 : Int32) (M : Mm) {z : Int32 × Mm}  (h : Fm_found n v1 v2 v3 v4 v5 M = some z) : CK G l (d + 6) md_Fm_found [.ref 94, .int v1, .int v2, .int v3, .int v4, .int v5] M SS (some (.int z.1)) z.2 SS := by
  refine ck_of mk_Fm_found (Nat.le_of_ble_eq_true rfl) ⟨Nat.le_refl _, Nat.le_refl _⟩ (fun X hX hT hS hr hl => ?_)
  subst hl
  unfold Fm_found at h
  show WR G X (mQ G X (some (.int z.1)) z.2 SS) 0 [.ref 94, .int v1, .int v2, .int v3, .int v4, .int v5] [] M SS
  refine r_aload_n hX dX9_found_0 rfl ?_
  refine r_iload_n hX dX9_found_1 rfl ?_
  refine r_iload_n hX dX9_found_2 rfl ?_
  refine r_iload_n hX dX9_found_3 rfl ?_
  refine r_iload hX dX9_found_4 rfl ?_
  obtain ⟨z1, p2, h⟩ := bnd_s h
  refine r_callV (As := [.int v1, .int v2, .int v3, .int v4]) hX dX9_found_6 mk_Fm_isAsked mi_Fm_isAsked ml_9_268 rfl rfl rfl rfl (by decide) (by decide) (Nat.le_of_ble_eq_true rfl) hr (ok_Fm_isAsked (d := d + 3) v1 v2 v3 v4 M p2) ?_
  refine r_ifb_eq (tgt := 22) hX dX9_found_9 (by decide) (fun g3 => ?_) (fun g3 => ?_)
  · have h := (if_neg (show ¬ z1 = true from fun e => by rw [g3] at e; cases e)).symm.trans h
    refine r_iconst (v := (-1 : Int32)) hX dX9_found_22 (by decide) ?_
    obtain rfl := Option.some.inj h
    exact r_iret hX hT dX9_found_23 rfl
  · have h := (if_pos g3).symm.trans h
    refine r_iload hX dX9_found_12 rfl ?_
    refine r_iconst (v := (0 : Int32)) hX dX9_found_14 (by decide) ?_
    refine r_iconst (v := (2 : Int32)) hX dX9_found_15 (by decide) ?_
    obtain ⟨z4, p5, h⟩ := bnd_s h
    refine r_callS (As := [.int v5, .int (0 : Int32), .int (2 : Int32)]) hX dX9_found_16 mk_Fm_in ms_Fm_in ml_9_83 rfl rfl rfl (Nat.le_of_ble_eq_true rfl) hr (ok_Fm_in (d := d + 5) v5 (0 : Int32) (2 : Int32) M p5) ?_
    refine r_ifb_ne (tgt := 24) hX dX9_found_19 (by decide) (fun g6 => ?_) (fun g6 => ?_)
    · have h := (if_pos g6).symm.trans h
      refine r_aload_n hX dX9_found_24 rfl ?_
      refine r_iload_n hX dX9_found_25 rfl ?_
      refine r_iload_n hX dX9_found_26 rfl ?_
      refine r_iload_n hX dX9_found_27 rfl ?_
      refine r_iload hX dX9_found_28 rfl ?_
      obtain ⟨z7, p8, h⟩ := bnd_s h
      refine r_callV (As := [.int v1, .int v2, .int v3, .int v4]) hX dX9_found_30 mk_Fm_findsFor mi_Fm_findsFor ml_9_271 rfl rfl rfl rfl (by decide) (by decide) (Nat.le_of_ble_eq_true rfl) hr (ok_Fm_findsFor (d := d + 0) n v1 v2 v3 v4 M p8) ?_
      refine r_ifb_ne (tgt := 39) hX dX9_found_33 (by decide) (fun g9 => ?_) (fun g9 => ?_)
      · have h := (if_pos g9).symm.trans h
        refine r_iload hX dX9_found_39 rfl ?_
        refine r_if_ne (tgt := 51) hX dX9_found_41 (by decide) (fun g10 => ?_) (fun g10 => ?_)
        · have h := (if_neg g10).symm.trans h
          refine r_iload hX dX9_found_51 rfl ?_
          refine r_iconst (v := (1 : Int32)) hX dX9_found_53 (by decide) ?_
          refine r_icmp_ne (tgt := 64) hX dX9_found_54 (by decide) (fun g11 => ?_) (fun g11 => ?_)
          · have h := (if_neg g11).symm.trans h
            refine r_aload_n hX dX9_found_64 rfl ?_
            refine r_getf (v := .int (z7.2.1 94 22)) hX dX9_found_65 fl_9_250 rfl (by decide) (by decide) rfl ?_
            obtain rfl := Option.some.inj h
            exact r_iret hX hT dX9_found_68 rfl
          · have h := (if_pos g11).symm.trans h
            refine r_aload_n hX dX9_found_57 rfl ?_
            refine r_getf (v := .int (z7.2.1 94 21)) hX dX9_found_58 fl_9_247 rfl (by decide) (by decide) rfl ?_
            refine r_goto (tgt := 68) hX dX9_found_61 (by decide) ?_
            obtain rfl := Option.some.inj h
            exact r_iret hX hT dX9_found_68 rfl
        · have h := (if_pos g10).symm.trans h
          refine r_aload_n hX dX9_found_44 rfl ?_
          refine r_getf (v := .int (z7.2.1 94 20)) hX dX9_found_45 fl_9_233 rfl (by decide) (by decide) rfl ?_
          refine r_goto (tgt := 68) hX dX9_found_48 (by decide) ?_
          obtain rfl := Option.some.inj h
          exact r_iret hX hT dX9_found_68 rfl
      · have h := (if_neg (show ¬ z7.1 = true from fun e => by rw [g9] at e; cases e)).symm.trans h
        refine r_bipush (v := (-2 : Int32)) hX dX9_found_36 (by decide) ?_
        obtain rfl := Option.some.inj h
        exact r_iret hX hT dX9_found_38 rfl
    · have h := (if_neg (show ¬ z4 = true from fun e => by rw [g6] at e; cases e)).symm.trans h
      refine r_iconst (v := (-1 : Int32)) hX dX9_found_22 (by decide) ?_
      obtain rfl := Option.some.inj h
      exact r_iret hX hT dX9_found_23 rfl
def Fm_witness (n : Nat) (v1 : Int32) (v2 : Int32) (v3 : Int32) (v4 : Int32) (v5 : Int32) (M : Mm) : Option (Int32 × Mm) :=
  bnd (Fm_areNodes v1 v2 M) (fun z1 =>
  if z1 = true then
    bnd (Fm_isRate v3 M) (fun z4 =>
    if z4 = true then
      bnd (Fm_in v4 (0 : Int32) (3 : Int32) M) (fun z7 =>
      if z7 = true then
        grd (inb (1 : Int32) 12256) (
        bnd (Fm_in v5 (0 : Int32) ((M.1 95 (tn (1 : Int32))) - (1 : Int32)) M) (fun z11 =>
        if z11 = true then
          bnd (Fm_findsWays n v1 v2 M) (fun z14 =>
          if (z14.1 94 19) ≤ v4 then
            some ((-4 : Int32), z14)
          else
            bnd (Fm_widthOn n v4 v3 z14) (fun z17 =>
            if z17 = (-1 : Int32) then
              some ((-4 : Int32), z14)
            else
              bnd (Fm_widthOn n v4 v3 z14) (fun z20 =>
              grd (inb (1 : Int32) 12256) (
              if (v5 + z20) ≤ (z14.1 95 (tn (1 : Int32))) then
                grd (inb v4 5) (
                bnd (Fm_against n (z14.1 99 (tn v4)) v5 z20 (-1 : Int32) z14) (fun z25 =>
                if z25 = (-1 : Int32) then
                  some ((-2 : Int32), z14)
                else
                  some (z25, z14)))
              else
                some ((-3 : Int32), z14)))))
        else
          some ((-1 : Int32), M)))
      else
        some ((-1 : Int32), M))
    else
      some ((-1 : Int32), M))
  else
    some ((-1 : Int32), M))
set_option maxRecDepth 100000 in
theorem ok_Fm_witness {G : Gm} {l : Launch} {d : Nat} (n : Nat) (v1 : Int32) (v2 : Int32) (v3 : Int32) (v4 : Int32) (v5 : Int32) (M : Mm) {z : Int32 × Mm}  (h : Fm_witness n v1 v2 v3 v4 v5 M = some z) : CK G l (d + 4) md_Fm_witness [.ref 94, .int v1, .int v2, .int v3, .int v4, .int v5] M SS (some (.int z.1)) z.2 SS := by
  refine ck_of mk_Fm_witness (Nat.le_of_ble_eq_true rfl) ⟨Nat.le_refl _, Nat.le_refl _⟩ (fun X hX hT hS hr hl => ?_)
  subst hl
  unfold Fm_witness at h
  show WR G X (mQ G X (some (.int z.1)) z.2 SS) 0 [.ref 94, .int v1, .int v2, .int v3, .int v4, .int v5, vU, vU] [] M SS
  refine r_aload_n hX dX9_witness_0 rfl ?_
  refine r_iload_n hX dX9_witness_1 rfl ?_
  refine r_iload_n hX dX9_witness_2 rfl ?_
  obtain ⟨z1, p2, h⟩ := bnd_s h
  refine r_callV (As := [.int v1, .int v2]) hX dX9_witness_3 mk_Fm_areNodes mi_Fm_areNodes ml_9_212 rfl rfl rfl rfl (by decide) (by decide) (Nat.le_of_ble_eq_true rfl) hr (ok_Fm_areNodes (d := d + 2) v1 v2 M p2) ?_
  refine r_ifb_eq (tgt := 43) hX dX9_witness_6 (by decide) (fun g3 => ?_) (fun g3 => ?_)
  · have h := (if_neg (show ¬ z1 = true from fun e => by rw [g3] at e; cases e)).symm.trans h
    refine r_iconst (v := (-1 : Int32)) hX dX9_witness_43 (by decide) ?_
    obtain rfl := Option.some.inj h
    exact r_iret hX hT dX9_witness_44 rfl
  · have h := (if_pos g3).symm.trans h
    refine r_iload_n hX dX9_witness_9 rfl ?_
    obtain ⟨z4, p5, h⟩ := bnd_s h
    refine r_callS (As := [.int v3]) hX dX9_witness_10 mk_Fm_isRate ms_Fm_isRate ml_9_262 rfl rfl rfl (Nat.le_of_ble_eq_true rfl) hr (ok_Fm_isRate (d := d + 2) v3 M p5) ?_
    refine r_ifb_eq (tgt := 43) hX dX9_witness_13 (by decide) (fun g6 => ?_) (fun g6 => ?_)
    · have h := (if_neg (show ¬ z4 = true from fun e => by rw [g6] at e; cases e)).symm.trans h
      refine r_iconst (v := (-1 : Int32)) hX dX9_witness_43 (by decide) ?_
      obtain rfl := Option.some.inj h
      exact r_iret hX hT dX9_witness_44 rfl
    · have h := (if_pos g6).symm.trans h
      refine r_iload hX dX9_witness_16 rfl ?_
      refine r_iconst (v := (0 : Int32)) hX dX9_witness_18 (by decide) ?_
      refine r_iconst (v := (3 : Int32)) hX dX9_witness_19 (by decide) ?_
      obtain ⟨z7, p8, h⟩ := bnd_s h
      refine r_callS (As := [.int v4, .int (0 : Int32), .int (3 : Int32)]) hX dX9_witness_20 mk_Fm_in ms_Fm_in ml_9_83 rfl rfl rfl (Nat.le_of_ble_eq_true rfl) hr (ok_Fm_in (d := d + 3) v4 (0 : Int32) (3 : Int32) M p8) ?_
      refine r_ifb_eq (tgt := 43) hX dX9_witness_23 (by decide) (fun g9 => ?_) (fun g9 => ?_)
      · have h := (if_neg (show ¬ z7 = true from fun e => by rw [g9] at e; cases e)).symm.trans h
        refine r_iconst (v := (-1 : Int32)) hX dX9_witness_43 (by decide) ?_
        obtain rfl := Option.some.inj h
        exact r_iret hX hT dX9_witness_44 rfl
      · have h := (if_pos g9).symm.trans h
        refine r_iload hX dX9_witness_26 rfl ?_
        refine r_iconst (v := (0 : Int32)) hX dX9_witness_28 (by decide) ?_
        refine r_aload_n hX dX9_witness_29 rfl ?_
        refine r_getf (v := .ref 95) hX dX9_witness_30 fl_9_7 rfl (by decide) (by decide) rfl ?_
        refine r_iconst (v := (1 : Int32)) hX dX9_witness_33 (by decide) ?_
        obtain ⟨k10, h⟩ := grd_s h
        refine r_iald hX dX9_witness_34 rfl (by decide) (inb_at rfl k10) ?_
        refine r_iconst (v := (1 : Int32)) hX dX9_witness_35 (by decide) ?_
        refine r_isub hX dX9_witness_36 ?_
        obtain ⟨z11, p12, h⟩ := bnd_s h
        refine r_callS (As := [.int v5, .int (0 : Int32), .int ((M.1 95 (tn (1 : Int32))) - (1 : Int32))]) hX dX9_witness_37 mk_Fm_in ms_Fm_in ml_9_83 rfl rfl rfl (Nat.le_of_ble_eq_true rfl) hr (ok_Fm_in (d := d + 3) v5 (0 : Int32) ((M.1 95 (tn (1 : Int32))) - (1 : Int32)) M p12) ?_
        refine r_ifb_ne (tgt := 45) hX dX9_witness_40 (by decide) (fun g13 => ?_) (fun g13 => ?_)
        · have h := (if_pos g13).symm.trans h
          refine r_aload_n hX dX9_witness_45 rfl ?_
          refine r_iload_n hX dX9_witness_46 rfl ?_
          refine r_iload_n hX dX9_witness_47 rfl ?_
          obtain ⟨z14, p15, h⟩ := bnd_s h
          refine r_callV (As := [.int v1, .int v2]) hX dX9_witness_48 mk_Fm_findsWays mi_Fm_findsWays ml_9_215 rfl rfl rfl rfl (by decide) (by decide) (Nat.le_of_ble_eq_true rfl) hr (ok_Fm_findsWays (d := d + 0) n v1 v2 M p15) ?_
          refine r_iload hX dX9_witness_51 rfl ?_
          refine r_aload_n hX dX9_witness_53 rfl ?_
          refine r_getf (v := .int (z14.1 94 19)) hX dX9_witness_54 fl_9_192 rfl (by decide) (by decide) rfl ?_
          refine r_icmp_ge (tgt := 71) hX dX9_witness_57 (by decide) (fun g16 => ?_) (fun g16 => ?_)
          · have h := (if_pos g16).symm.trans h
            refine r_bipush (v := (-4 : Int32)) hX dX9_witness_71 (by decide) ?_
            obtain rfl := Option.some.inj h
            exact r_iret hX hT dX9_witness_73 rfl
          · have h := (if_neg g16).symm.trans h
            refine r_aload_n hX dX9_witness_60 rfl ?_
            refine r_iload hX dX9_witness_61 rfl ?_
            refine r_iload_n hX dX9_witness_63 rfl ?_
            obtain ⟨z17, p18, h⟩ := bnd_s h
            refine r_callV (As := [.int v4, .int v3]) hX dX9_witness_64 mk_Fm_widthOn mi_Fm_widthOn ml_9_237 rfl rfl rfl rfl (by decide) (by decide) (Nat.le_of_ble_eq_true rfl) hr (ok_Fm_widthOn (d := d + 2) n v4 v3 z14 p18) ?_
            refine r_iconst (v := (-1 : Int32)) hX dX9_witness_67 (by decide) ?_
            refine r_icmp_ne (tgt := 74) hX dX9_witness_68 (by decide) (fun g19 => ?_) (fun g19 => ?_)
            · have h := (if_neg g19).symm.trans h
              refine r_aload_n hX dX9_witness_74 rfl ?_
              refine r_iload hX dX9_witness_75 rfl ?_
              refine r_iload_n hX dX9_witness_77 rfl ?_
              obtain ⟨z20, p21, h⟩ := bnd_s h
              refine r_callV (As := [.int v4, .int v3]) hX dX9_witness_78 mk_Fm_widthOn mi_Fm_widthOn ml_9_237 rfl rfl rfl rfl (by decide) (by decide) (Nat.le_of_ble_eq_true rfl) hr (ok_Fm_widthOn (d := d + 2) n v4 v3 z14 p21) ?_
              refine r_istore (L1 := [.ref 94, .int v1, .int v2, .int v3, .int v4, .int v5, .int z20, vU]) hX dX9_witness_81 (Nat.le_of_ble_eq_true rfl) rfl ?_
              refine r_iload hX dX9_witness_83 rfl ?_
              refine r_iload hX dX9_witness_85 rfl ?_
              refine r_iadd hX dX9_witness_87 ?_
              refine r_aload_n hX dX9_witness_88 rfl ?_
              refine r_getf (v := .ref 95) hX dX9_witness_89 fl_9_7 rfl (by decide) (by decide) rfl ?_
              refine r_iconst (v := (1 : Int32)) hX dX9_witness_92 (by decide) ?_
              obtain ⟨k22, h⟩ := grd_s h
              refine r_iald hX dX9_witness_93 rfl (by decide) (inb_at rfl k22) ?_
              refine r_icmp_le (tgt := 100) hX dX9_witness_94 (by decide) (fun g23 => ?_) (fun g23 => ?_)
              · have h := (if_pos g23).symm.trans h
                refine r_aload_n hX dX9_witness_100 rfl ?_
                refine r_aload_n hX dX9_witness_101 rfl ?_
                refine r_getf (v := .ref 99) hX dX9_witness_102 fl_9_23 rfl (by decide) (by decide) rfl ?_
                refine r_iload hX dX9_witness_105 rfl ?_
                obtain ⟨k24, h⟩ := grd_s h
                refine r_iald hX dX9_witness_107 rfl (by decide) (inb_at rfl k24) ?_
                refine r_iload hX dX9_witness_108 rfl ?_
                refine r_iload hX dX9_witness_110 rfl ?_
                refine r_iconst (v := (-1 : Int32)) hX dX9_witness_112 (by decide) ?_
                obtain ⟨z25, p26, h⟩ := bnd_s h
                refine r_callV (As := [.int (z14.1 99 (tn v4)), .int v5, .int z20, .int (-1 : Int32)]) hX dX9_witness_113 mk_Fm_against mi_Fm_against ml_9_226 rfl rfl rfl rfl (by decide) (by decide) (Nat.le_of_ble_eq_true rfl) hr (ok_Fm_against (d := d + 1) n (z14.1 99 (tn v4)) v5 z20 (-1 : Int32) z14 p26) ?_
                refine r_istore (L1 := [.ref 94, .int v1, .int v2, .int v3, .int v4, .int v5, .int z20, .int z25]) hX dX9_witness_116 (Nat.le_of_ble_eq_true rfl) rfl ?_
                refine r_iload hX dX9_witness_118 rfl ?_
                refine r_iconst (v := (-1 : Int32)) hX dX9_witness_120 (by decide) ?_
                refine r_icmp_ne (tgt := 129) hX dX9_witness_121 (by decide) (fun g27 => ?_) (fun g27 => ?_)
                · have h := (if_neg g27).symm.trans h
                  refine r_iload hX dX9_witness_129 rfl ?_
                  obtain rfl := Option.some.inj h
                  exact r_iret hX hT dX9_witness_131 rfl
                · have h := (if_pos g27).symm.trans h
                  refine r_bipush (v := (-2 : Int32)) hX dX9_witness_124 (by decide) ?_
                  refine r_goto (tgt := 131) hX dX9_witness_126 (by decide) ?_
                  obtain rfl := Option.some.inj h
                  exact r_iret hX hT dX9_witness_131 rfl
              · have h := (if_neg g23).symm.trans h
                refine r_bipush (v := (-3 : Int32)) hX dX9_witness_97 (by decide) ?_
                obtain rfl := Option.some.inj h
                exact r_iret hX hT dX9_witness_99 rfl
            · have h := (if_pos g19).symm.trans h
              refine r_bipush (v := (-4 : Int32)) hX dX9_witness_71 (by decide) ?_
              obtain rfl := Option.some.inj h
              exact r_iret hX hT dX9_witness_73 rfl
        · have h := (if_neg (show ¬ z11 = true from fun e => by rw [g13] at e; cases e)).symm.trans h
          refine r_iconst (v := (-1 : Int32)) hX dX9_witness_43 (by decide) ?_
          obtain rfl := Option.some.inj h
          exact r_iret hX hT dX9_witness_44 rfl
def Fm_witnesses_j77 (v2 : Int64) (v6 : Int32) : Option ((Int64 × Int32) ⊕ (Int64)) :=
  some (.inl (v2, v6 + (1 : Int32)))
def Fm_witnesses_b26 (n : Nat) (c4 : Int32) (c5 : Int32) (Mc : Mm) (v2 : Int64) (v6 : Int32) : Option ((Int64 × Int32) ⊕ (Int64)) :=
  if c5 = (-1 : Int32) then
    some (.inr v2)
  else
    grd (inb (1 : Int32) 12256) (
    if (Mc.1 95 (tn (1 : Int32))) < (v6 + c5) then
      some (.inr v2)
    else
      grd (inb c4 5) (
      bnd (Fm_against n (Mc.1 99 (tn c4)) v6 c5 (-1 : Int32) Mc) (fun z8 =>
      if z8 = (-1 : Int32) then
        Fm_witnesses_j77 v2 v6
      else
        Fm_witnesses_j77 (v2 ||| (lshl (1 : Int64) z8)) v6)))
def Fm_witnesses_j83 (v2 : Int64) (v4 : Int32) : Option ((Int64 × Int32) ⊕ (Int64)) :=
  some (.inl (v2, v4 + (1 : Int32)))
def Fm_witnesses_b5 (n : Nat) (c1 : Int32) (Mc : Mm) (v2 : Int64) (v4 : Int32) : Option ((Int64 × Int32) ⊕ (Int64)) :=
  if (Mc.1 94 19) ≤ v4 then
    some (.inr v2)
  else
    bnd (Fm_widthOn n v4 c1 Mc) (fun z2 =>
    bnd (loop (fun s1 : Int64 × Int32 => Fm_witnesses_b26 n v4 z2 Mc s1.1 s1.2) n (v2, (0 : Int32))) (fun y11 =>
    Fm_witnesses_j83 y11 v4))
def Fm_witnesses_b95 (v4 : Int32) (v5 : Int64) : Option ((Int32 × Int64) ⊕ (Int32)) :=
  if v5 = (0 : Int64) then
    some (.inr v4)
  else
    some (.inl (v4 + (1 : Int32), v5 &&& (v5 - (1 : Int64))))
def Fm_witnesses (n : Nat) (v1 : Int32) (M : Mm) : Option (Int32) :=
  bnd (loop (fun s1 : Int64 × Int32 => Fm_witnesses_b5 n v1 M s1.1 s1.2) n ((0 : Int64), (0 : Int32))) (fun y12 =>
  bnd (loop (fun s1 : Int32 × Int64 => Fm_witnesses_b95 s1.1 s1.2) n ((0 : Int32), y12)) (fun y14 =>
  some y14))
set_option maxRecDepth 100000 in
theorem ok_Fm_witnesses_j77 (n : Nat) (v2 : Int64) (v6 : Int32) {c1 : Int32} {c4 : Int32} {c5 : Int32} {Mc : Mm} {z : Int32} {oo : (Int64 × Int32) ⊕ (Int64)} {G : Gm} {X : Cx} {d : Nat}  (hX : XK G X 9 cX9_witnesses 8 (d + 3)) (hT : XT X (some .int) "witnesses") (hr : XR X SS) (hc : ∀ s1 : Int64 × Int32, oo = .inl s1 → WR G X (mQ G X (some (.int z)) Mc SS) 26 [.ref 94, .int c1, .long s1.1, vU, .int c4, .int c5, .int s1.2, vU] [] Mc SS) (hx : ∀ x1 : Int64, oo = .inr x1 → WR G X (mQ G X (some (.int z)) Mc SS) 83 [.ref 94, .int c1, .long x1, vU, .int c4, vU, vU, vU] [] Mc SS) (h : Fm_witnesses_j77 v2 v6 = some oo) : WR G X (mQ G X (some (.int z)) Mc SS) 77 [.ref 94, .int c1, .long v2, vU, .int c4, .int c5, .int v6, vU] [] Mc SS := by
  unfold Fm_witnesses_j77 at h
  refine r_iinc (v := v6 + (1 : Int32)) (L1 := [.ref 94, .int c1, .long v2, vU, .int c4, .int c5, .int (v6 + (1 : Int32)), vU]) hX dX9_witnesses_77 rfl rfl rfl ?_
  refine r_goto (tgt := 26) hX dX9_witnesses_80 (by decide) ?_
  exact hc (v2, v6 + (1 : Int32)) (Option.some.inj h).symm
set_option maxRecDepth 100000 in
theorem ok_Fm_witnesses_b26 (n : Nat) (v2 : Int64) (v6 : Int32) {c1 : Int32} {c4 : Int32} {c5 : Int32} {Mc : Mm} {z : Int32} {oo : (Int64 × Int32) ⊕ (Int64)} {G : Gm} {X : Cx} {d : Nat}  (hX : XK G X 9 cX9_witnesses 8 (d + 3)) (hT : XT X (some .int) "witnesses") (hr : XR X SS) (hc : ∀ s1 : Int64 × Int32, oo = .inl s1 → WR G X (mQ G X (some (.int z)) Mc SS) 26 [.ref 94, .int c1, .long s1.1, vU, .int c4, .int c5, .int s1.2, vU] [] Mc SS) (hx : ∀ x1 : Int64, oo = .inr x1 → WR G X (mQ G X (some (.int z)) Mc SS) 83 [.ref 94, .int c1, .long x1, vU, .int c4, vU, vU, vU] [] Mc SS) (h : Fm_witnesses_b26 n c4 c5 Mc v2 v6 = some oo) : WR G X (mQ G X (some (.int z)) Mc SS) 26 [.ref 94, .int c1, .long v2, vU, .int c4, .int c5, .int v6, vU] [] Mc SS := by
  unfold Fm_witnesses_b26 at h
  refine r_iload hX dX9_witnesses_26 rfl ?_
  refine r_iconst (v := (-1 : Int32)) hX dX9_witnesses_28 (by decide) ?_
  refine r_icmp_eq (tgt := 83) hX dX9_witnesses_29 (by decide) (fun g4 => ?_) (fun g4 => ?_)
  · have h := (if_pos g4).symm.trans h
    refine WR.fg (L' := [.ref 94, .int c1, .long v2, vU, .int c4, vU, vU, vU]) ⟨Or.inr rfl, Or.inr rfl, Or.inr rfl, Or.inl rfl, Or.inr rfl, Or.inl rfl, Or.inl rfl, Or.inl rfl, trivial⟩ ?_
    exact hx _ (Option.some.inj h).symm
  · have h := (if_neg g4).symm.trans h
    refine r_iload hX dX9_witnesses_32 rfl ?_
    refine r_iload hX dX9_witnesses_34 rfl ?_
    refine r_iadd hX dX9_witnesses_36 ?_
    refine r_aload_n hX dX9_witnesses_37 rfl ?_
    refine r_getf (v := .ref 95) hX dX9_witnesses_38 fl_9_7 rfl (by decide) (by decide) rfl ?_
    refine r_iconst (v := (1 : Int32)) hX dX9_witnesses_41 (by decide) ?_
    obtain ⟨k5, h⟩ := grd_s h
    refine r_iald hX dX9_witnesses_42 rfl (by decide) (inb_at rfl k5) ?_
    refine r_icmp_gt (tgt := 83) hX dX9_witnesses_43 (by decide) (fun g6 => ?_) (fun g6 => ?_)
    · have h := (if_pos g6).symm.trans h
      refine WR.fg (L' := [.ref 94, .int c1, .long v2, vU, .int c4, vU, vU, vU]) ⟨Or.inr rfl, Or.inr rfl, Or.inr rfl, Or.inl rfl, Or.inr rfl, Or.inl rfl, Or.inl rfl, Or.inl rfl, trivial⟩ ?_
      exact hx _ (Option.some.inj h).symm
    · have h := (if_neg g6).symm.trans h
      refine r_aload_n hX dX9_witnesses_46 rfl ?_
      refine r_aload_n hX dX9_witnesses_47 rfl ?_
      refine r_getf (v := .ref 99) hX dX9_witnesses_48 fl_9_23 rfl (by decide) (by decide) rfl ?_
      refine r_iload hX dX9_witnesses_51 rfl ?_
      obtain ⟨k7, h⟩ := grd_s h
      refine r_iald hX dX9_witnesses_53 rfl (by decide) (inb_at rfl k7) ?_
      refine r_iload hX dX9_witnesses_54 rfl ?_
      refine r_iload hX dX9_witnesses_56 rfl ?_
      refine r_iconst (v := (-1 : Int32)) hX dX9_witnesses_58 (by decide) ?_
      obtain ⟨z8, p9, h⟩ := bnd_s h
      refine r_callV (As := [.int (Mc.1 99 (tn c4)), .int v6, .int c5, .int (-1 : Int32)]) hX dX9_witnesses_59 mk_Fm_against mi_Fm_against ml_9_226 rfl rfl rfl rfl (by decide) (by decide) (Nat.le_of_ble_eq_true rfl) hr (ok_Fm_against (d := d + 0) n (Mc.1 99 (tn c4)) v6 c5 (-1 : Int32) Mc p9) ?_
      refine r_istore (L1 := [.ref 94, .int c1, .long v2, vU, .int c4, .int c5, .int v6, .int z8]) hX dX9_witnesses_62 (Nat.le_of_ble_eq_true rfl) rfl ?_
      refine r_iload hX dX9_witnesses_64 rfl ?_
      refine r_iconst (v := (-1 : Int32)) hX dX9_witnesses_66 (by decide) ?_
      refine r_icmp_eq (tgt := 77) hX dX9_witnesses_67 (by decide) (fun g10 => ?_) (fun g10 => ?_)
      · have h := (if_pos g10).symm.trans h
        refine WR.fg (L' := [.ref 94, .int c1, .long v2, vU, .int c4, .int c5, .int v6, vU]) ⟨Or.inr rfl, Or.inr rfl, Or.inr rfl, Or.inl rfl, Or.inr rfl, Or.inr rfl, Or.inr rfl, Or.inl rfl, trivial⟩ ?_
        exact ok_Fm_witnesses_j77 n v2 v6   hX hT hr hc hx h
      · have h := (if_neg g10).symm.trans h
        refine r_lload_n hX dX9_witnesses_70 rfl ?_
        refine r_lconst (v := (1 : Int64)) hX dX9_witnesses_71 (by decide) ?_
        refine r_iload hX dX9_witnesses_72 rfl ?_
        refine r_lshl hX dX9_witnesses_74 ?_
        refine r_lor hX dX9_witnesses_75 ?_
        refine r_lstore_n (L1 := [.ref 94, .int c1, .long (v2 ||| (lshl (1 : Int64) z8)), vU, .int c4, .int c5, .int v6, .int z8]) hX dX9_witnesses_76 (Nat.le_of_ble_eq_true rfl) rfl ?_
        refine WR.fg (L' := [.ref 94, .int c1, .long (v2 ||| (lshl (1 : Int64) z8)), vU, .int c4, .int c5, .int v6, vU]) ⟨Or.inr rfl, Or.inr rfl, Or.inr rfl, Or.inl rfl, Or.inr rfl, Or.inr rfl, Or.inr rfl, Or.inl rfl, trivial⟩ ?_
        exact ok_Fm_witnesses_j77 n (v2 ||| (lshl (1 : Int64) z8)) v6   hX hT hr hc hx h
set_option maxRecDepth 100000 in
theorem ok_Fm_witnesses_j83 (n : Nat) (v2 : Int64) (v4 : Int32) {c1 : Int32} {Mc : Mm} {z : Int32} {oo : (Int64 × Int32) ⊕ (Int64)} {G : Gm} {X : Cx} {d : Nat}  (hX : XK G X 9 cX9_witnesses 8 (d + 3)) (hT : XT X (some .int) "witnesses") (hr : XR X SS) (hc : ∀ s1 : Int64 × Int32, oo = .inl s1 → WR G X (mQ G X (some (.int z)) Mc SS) 5 [.ref 94, .int c1, .long s1.1, vU, .int s1.2, vU, vU, vU] [] Mc SS) (hx : ∀ x1 : Int64, oo = .inr x1 → WR G X (mQ G X (some (.int z)) Mc SS) 89 [.ref 94, vU, .long x1, vU, vU, vU, vU, vU] [] Mc SS) (h : Fm_witnesses_j83 v2 v4 = some oo) : WR G X (mQ G X (some (.int z)) Mc SS) 83 [.ref 94, .int c1, .long v2, vU, .int v4, vU, vU, vU] [] Mc SS := by
  unfold Fm_witnesses_j83 at h
  refine r_iinc (v := v4 + (1 : Int32)) (L1 := [.ref 94, .int c1, .long v2, vU, .int (v4 + (1 : Int32)), vU, vU, vU]) hX dX9_witnesses_83 rfl rfl rfl ?_
  refine r_goto (tgt := 5) hX dX9_witnesses_86 (by decide) ?_
  exact hc (v2, v4 + (1 : Int32)) (Option.some.inj h).symm
set_option maxRecDepth 100000 in
theorem ok_Fm_witnesses_b5 (n : Nat) (v2 : Int64) (v4 : Int32) {c1 : Int32} {Mc : Mm} {z : Int32} {oo : (Int64 × Int32) ⊕ (Int64)} {G : Gm} {X : Cx} {d : Nat}  (hX : XK G X 9 cX9_witnesses 8 (d + 3)) (hT : XT X (some .int) "witnesses") (hr : XR X SS) (hc : ∀ s1 : Int64 × Int32, oo = .inl s1 → WR G X (mQ G X (some (.int z)) Mc SS) 5 [.ref 94, .int c1, .long s1.1, vU, .int s1.2, vU, vU, vU] [] Mc SS) (hx : ∀ x1 : Int64, oo = .inr x1 → WR G X (mQ G X (some (.int z)) Mc SS) 89 [.ref 94, vU, .long x1, vU, vU, vU, vU, vU] [] Mc SS) (h : Fm_witnesses_b5 n c1 Mc v2 v4 = some oo) : WR G X (mQ G X (some (.int z)) Mc SS) 5 [.ref 94, .int c1, .long v2, vU, .int v4, vU, vU, vU] [] Mc SS := by
  unfold Fm_witnesses_b5 at h
  refine r_iload hX dX9_witnesses_5 rfl ?_
  refine r_aload_n hX dX9_witnesses_7 rfl ?_
  refine r_getf (v := .int (Mc.1 94 19)) hX dX9_witnesses_8 fl_9_192 rfl (by decide) (by decide) rfl ?_
  refine r_icmp_ge (tgt := 89) hX dX9_witnesses_11 (by decide) (fun g1 => ?_) (fun g1 => ?_)
  · have h := (if_pos g1).symm.trans h
    refine WR.fg (L' := [.ref 94, vU, .long v2, vU, vU, vU, vU, vU]) ⟨Or.inr rfl, Or.inl rfl, Or.inr rfl, Or.inl rfl, Or.inl rfl, Or.inl rfl, Or.inl rfl, Or.inl rfl, trivial⟩ ?_
    exact hx _ (Option.some.inj h).symm
  · have h := (if_neg g1).symm.trans h
    refine r_aload_n hX dX9_witnesses_14 rfl ?_
    refine r_iload hX dX9_witnesses_15 rfl ?_
    refine r_iload_n hX dX9_witnesses_17 rfl ?_
    obtain ⟨z2, p3, h⟩ := bnd_s h
    refine r_callV (As := [.int v4, .int c1]) hX dX9_witnesses_18 mk_Fm_widthOn mi_Fm_widthOn ml_9_237 rfl rfl rfl rfl (by decide) (by decide) (Nat.le_of_ble_eq_true rfl) hr (ok_Fm_widthOn (d := d + 1) n v4 c1 Mc p3) ?_
    refine r_istore (L1 := [.ref 94, .int c1, .long v2, vU, .int v4, .int z2, vU, vU]) hX dX9_witnesses_21 (Nat.le_of_ble_eq_true rfl) rfl ?_
    refine r_iconst (v := (0 : Int32)) hX dX9_witnesses_23 (by decide) ?_
    refine r_istore (L1 := [.ref 94, .int c1, .long v2, vU, .int v4, .int z2, .int (0 : Int32), vU]) hX dX9_witnesses_24 (Nat.le_of_ble_eq_true rfl) rfl ?_
    obtain ⟨y11, h1, h⟩ := bnd_s h
    refine loop_ok (P := fun s1 : Int64 × Int32 => WR G X (mQ G X (some (.int z)) Mc SS) 26 [.ref 94, .int c1, .long s1.1, vU, .int v4, .int z2, .int s1.2, vU] [] Mc SS) (E := fun x1 : Int64 => WR G X (mQ G X (some (.int z)) Mc SS) 83 [.ref 94, .int c1, .long x1, vU, .int v4, vU, vU, vU] [] Mc SS) (fun s1 o1 g1 g2 g3 => ok_Fm_witnesses_b26 n s1.1 s1.2  hX hT hr g2 g3 g1) n (v2, (0 : Int32)) y11 h1 ?_
    show WR G X (mQ G X (some (.int z)) Mc SS) 83 [.ref 94, .int c1, .long y11, vU, .int v4, vU, vU, vU] [] Mc SS
    exact ok_Fm_witnesses_j83 n y11 v4   hX hT hr hc hx h
set_option maxRecDepth 100000 in
theorem ok_Fm_witnesses_b95 (n : Nat) (v4 : Int32) (v5 : Int64)  {Mc : Mm} {z : Int32} {oo : (Int32 × Int64) ⊕ (Int32)} {G : Gm} {X : Cx} {d : Nat}  (hX : XK G X 9 cX9_witnesses 8 (d + 3)) (hT : XT X (some .int) "witnesses") (hr : XR X SS) (hc : ∀ s1 : Int32 × Int64, oo = .inl s1 → WR G X (mQ G X (some (.int z)) Mc SS) 95 [.ref 94, vU, vU, vU, .int s1.1, .long s1.2, vU, vU] [] Mc SS) (hx : ∀ x1 : Int32, oo = .inr x1 → WR G X (mQ G X (some (.int z)) Mc SS) 120 [.ref 94, vU, vU, vU, .int x1, vU, vU, vU] [] Mc SS) (h : Fm_witnesses_b95 v4 v5 = some oo) : WR G X (mQ G X (some (.int z)) Mc SS) 95 [.ref 94, vU, vU, vU, .int v4, .long v5, vU, vU] [] Mc SS := by
  unfold Fm_witnesses_b95 at h
  refine r_lload hX dX9_witnesses_95 rfl ?_
  refine r_lconst (v := (0 : Int64)) hX dX9_witnesses_97 (by decide) ?_
  refine r_lcmp_eq (tgt := 120) hX dX9_witnesses_98 dX9_witnesses_99 (by decide) (fun g13 => ?_) (fun g13 => ?_)
  · have h := (if_pos g13).symm.trans h
    refine WR.fg (L' := [.ref 94, vU, vU, vU, .int v4, vU, vU, vU]) ⟨Or.inr rfl, Or.inl rfl, Or.inl rfl, Or.inl rfl, Or.inr rfl, Or.inl rfl, Or.inl rfl, Or.inl rfl, trivial⟩ ?_
    exact hx _ (Option.some.inj h).symm
  · have h := (if_neg g13).symm.trans h
    refine r_iload hX dX9_witnesses_102 rfl ?_
    refine r_iconst (v := (1 : Int32)) hX dX9_witnesses_104 (by decide) ?_
    refine r_iadd hX dX9_witnesses_105 ?_
    refine r_istore (L1 := [.ref 94, vU, vU, vU, .int (v4 + (1 : Int32)), .long v5, vU, vU]) hX dX9_witnesses_106 (Nat.le_of_ble_eq_true rfl) rfl ?_
    refine r_lload hX dX9_witnesses_108 rfl ?_
    refine r_lload hX dX9_witnesses_110 rfl ?_
    refine r_lconst (v := (1 : Int64)) hX dX9_witnesses_112 (by decide) ?_
    refine r_lsub hX dX9_witnesses_113 ?_
    refine r_land hX dX9_witnesses_114 ?_
    refine r_lstore (L1 := [.ref 94, vU, vU, vU, .int (v4 + (1 : Int32)), .long (v5 &&& (v5 - (1 : Int64))), vU, vU]) hX dX9_witnesses_115 (Nat.le_of_ble_eq_true rfl) rfl ?_
    refine r_goto (tgt := 95) hX dX9_witnesses_117 (by decide) ?_
    exact hc (v4 + (1 : Int32), v5 &&& (v5 - (1 : Int64))) (Option.some.inj h).symm
set_option maxRecDepth 100000 in
theorem ok_Fm_witnesses {G : Gm} {l : Launch} {d : Nat} (n : Nat) (v1 : Int32) (M : Mm) {z : Int32}  (h : Fm_witnesses n v1 M = some z) : CK G l (d + 3) md_Fm_witnesses [.ref 94, .int v1] M SS (some (.int z)) M SS := by
  refine ck_of mk_Fm_witnesses (Nat.le_of_ble_eq_true rfl) ⟨Nat.le_refl _, Nat.le_refl _⟩ (fun X hX hT hS hr hl => ?_)
  subst hl
  unfold Fm_witnesses at h
  show WR G X (mQ G X (some (.int z)) M SS) 0 [.ref 94, .int v1, vU, vU, vU, vU, vU, vU] [] M SS
  refine r_lconst (v := (0 : Int64)) hX dX9_witnesses_0 (by decide) ?_
  refine r_lstore_n (L1 := [.ref 94, .int v1, .long (0 : Int64), vU, vU, vU, vU, vU]) hX dX9_witnesses_1 (Nat.le_of_ble_eq_true rfl) rfl ?_
  refine r_iconst (v := (0 : Int32)) hX dX9_witnesses_2 (by decide) ?_
  refine r_istore (L1 := [.ref 94, .int v1, .long (0 : Int64), vU, .int (0 : Int32), vU, vU, vU]) hX dX9_witnesses_3 (Nat.le_of_ble_eq_true rfl) rfl ?_
  obtain ⟨y12, h1, h⟩ := bnd_s h
  refine loop_ok (P := fun s1 : Int64 × Int32 => WR G X (mQ G X (some (.int z)) M SS) 5 [.ref 94, .int v1, .long s1.1, vU, .int s1.2, vU, vU, vU] [] M SS) (E := fun x1 : Int64 => WR G X (mQ G X (some (.int z)) M SS) 89 [.ref 94, vU, .long x1, vU, vU, vU, vU, vU] [] M SS) (fun s1 o1 g1 g2 g3 => ok_Fm_witnesses_b5 n s1.1 s1.2  hX hT hr g2 g3 g1) n ((0 : Int64), (0 : Int32)) y12 h1 ?_
  show WR G X (mQ G X (some (.int z)) M SS) 89 [.ref 94, vU, .long y12, vU, vU, vU, vU, vU] [] M SS
  refine r_iconst (v := (0 : Int32)) hX dX9_witnesses_89 (by decide) ?_
  refine r_istore (L1 := [.ref 94, vU, .long y12, vU, .int (0 : Int32), vU, vU, vU]) hX dX9_witnesses_90 (Nat.le_of_ble_eq_true rfl) rfl ?_
  refine r_lload_n hX dX9_witnesses_92 rfl ?_
  refine r_lstore (L1 := [.ref 94, vU, .long y12, vU, .int (0 : Int32), .long y12, vU, vU]) hX dX9_witnesses_93 (Nat.le_of_ble_eq_true rfl) rfl ?_
  refine WR.fg (L' := [.ref 94, vU, vU, vU, .int (0 : Int32), .long y12, vU, vU]) ⟨Or.inr rfl, Or.inl rfl, Or.inl rfl, Or.inl rfl, Or.inr rfl, Or.inr rfl, Or.inl rfl, Or.inl rfl, trivial⟩ ?_
  obtain ⟨y14, h1, h⟩ := bnd_s h
  refine loop_ok (P := fun s1 : Int32 × Int64 => WR G X (mQ G X (some (.int z)) M SS) 95 [.ref 94, vU, vU, vU, .int s1.1, .long s1.2, vU, vU] [] M SS) (E := fun x1 : Int32 => WR G X (mQ G X (some (.int z)) M SS) 120 [.ref 94, vU, vU, vU, .int x1, vU, vU, vU] [] M SS) (fun s1 o1 g1 g2 g3 => ok_Fm_witnesses_b95 n s1.1 s1.2  hX hT hr g2 g3 g1) n ((0 : Int32), y12) y14 h1 ?_
  show WR G X (mQ G X (some (.int z)) M SS) 120 [.ref 94, vU, vU, vU, .int y14, vU, vU, vU] [] M SS
  refine r_iload hX dX9_witnesses_120 rfl ?_
  obtain rfl := Option.some.inj h
  exact r_iret hX hT dX9_witnesses_122 rfl
def Fm_blocked_j107 (v5 : Int32) (v6 : Int32) (v7 : Int32) : Option ((Int32 × Int32 × Int32) ⊕ (Int32 × Int32)) :=
  some (.inl (v5, v6, v7 + (1 : Int32)))
def Fm_blocked_b69 (n : Nat) (c3 : Int32) (Mc : Mm) (v5 : Int32) (v6 : Int32) (v7 : Int32) : Option ((Int32 × Int32 × Int32) ⊕ (Int32 × Int32)) :=
  if (Mc.1 94 19) ≤ v7 then
    some (.inr (v5, v6))
  else
    bnd (Fm_widthOn n v7 c3 Mc) (fun z15 =>
    if z15 = (-1 : Int32) then
      Fm_blocked_j107 v5 v6 v7
    else
      grd (inb v7 5) (
      Fm_blocked_j107 (v5 &&& (Mc.1 99 (tn v7))) (1 : Int32) v7))
def Fm_blocked (n : Nat) (v1 : Int32) (v2 : Int32) (v3 : Int32) (v4 : Int32) (M : Mm) : Option (Int32 × Mm) :=
  bnd (Fm_areNodes v1 v2 M) (fun z1 =>
  if z1 = true then
    bnd (Fm_isRate v3 M) (fun z4 =>
    if z4 = true then
      bnd (Fm_in v4 (0 : Int32) (2 : Int32) M) (fun z7 =>
      if z7 = true then
        bnd (Fm_findsWays n v1 v2 M) (fun z10 =>
        if v4 = (0 : Int32) then
          bnd (Fm_finds n v3 (0 : Int32) z10) (fun z24 =>
          if z24.1 = true then
            some ((0 : Int32), z24.2)
          else
            some ((1 : Int32), z24.2))
        else
          grd (inb (12 : Int32) 12256) (
          bnd (loop (fun s1 : Int32 × Int32 × Int32 => Fm_blocked_b69 n v3 z10 s1.1 s1.2.1 s1.2.2) n (z10.1 95 (tn (12 : Int32)), (0 : Int32), (0 : Int32))) (fun y19 =>
          if y19.2 = (0 : Int32) then
            some ((-4 : Int32), z10)
          else
            if v4 = (1 : Int32) then
              bnd (Fm_witnesses n v3 z10) (fun z22 =>
              some (z22, z10))
            else
              some (y19.1, z10))))
      else
        some ((-1 : Int32), M))
    else
      some ((-1 : Int32), M))
  else
    some ((-1 : Int32), M))
set_option maxRecDepth 100000 in
theorem ok_Fm_blocked_j107 (n : Nat) (v5 : Int32) (v6 : Int32) (v7 : Int32) {c3 : Int32} {c4 : Int32} {Mc : Mm} {z : Int32 × Mm} {oo : (Int32 × Int32 × Int32) ⊕ (Int32 × Int32)} {G : Gm} {X : Cx} {d : Nat}  (hX : XK G X 9 cX9_blocked 8 (d + 5)) (hT : XT X (some .int) "blocked") (hr : XR X SS) (hc : ∀ s1 : Int32 × Int32 × Int32, oo = .inl s1 → WR G X (mQ G X (some (.int z.1)) z.2 SS) 69 [.ref 94, vU, vU, .int c3, .int c4, .int s1.1, .int s1.2.1, .int s1.2.2] [] Mc SS) (hx : ∀ x1 : Int32 × Int32, oo = .inr x1 → WR G X (mQ G X (some (.int z.1)) z.2 SS) 113 [.ref 94, vU, vU, .int c3, .int c4, .int x1.1, .int x1.2, vU] [] Mc SS) (h : Fm_blocked_j107 v5 v6 v7 = some oo) : WR G X (mQ G X (some (.int z.1)) z.2 SS) 107 [.ref 94, vU, vU, .int c3, .int c4, .int v5, .int v6, .int v7] [] Mc SS := by
  unfold Fm_blocked_j107 at h
  refine r_iinc (v := v7 + (1 : Int32)) (L1 := [.ref 94, vU, vU, .int c3, .int c4, .int v5, .int v6, .int (v7 + (1 : Int32))]) hX dX9_blocked_107 rfl rfl rfl ?_
  refine r_goto (tgt := 69) hX dX9_blocked_110 (by decide) ?_
  exact hc (v5, v6, v7 + (1 : Int32)) (Option.some.inj h).symm
set_option maxRecDepth 100000 in
theorem ok_Fm_blocked_b69 (n : Nat) (v5 : Int32) (v6 : Int32) (v7 : Int32) {c3 : Int32} {c4 : Int32} {Mc : Mm} {z : Int32 × Mm} {oo : (Int32 × Int32 × Int32) ⊕ (Int32 × Int32)} {G : Gm} {X : Cx} {d : Nat}  (hX : XK G X 9 cX9_blocked 8 (d + 5)) (hT : XT X (some .int) "blocked") (hr : XR X SS) (hc : ∀ s1 : Int32 × Int32 × Int32, oo = .inl s1 → WR G X (mQ G X (some (.int z.1)) z.2 SS) 69 [.ref 94, vU, vU, .int c3, .int c4, .int s1.1, .int s1.2.1, .int s1.2.2] [] Mc SS) (hx : ∀ x1 : Int32 × Int32, oo = .inr x1 → WR G X (mQ G X (some (.int z.1)) z.2 SS) 113 [.ref 94, vU, vU, .int c3, .int c4, .int x1.1, .int x1.2, vU] [] Mc SS) (h : Fm_blocked_b69 n c3 Mc v5 v6 v7 = some oo) : WR G X (mQ G X (some (.int z.1)) z.2 SS) 69 [.ref 94, vU, vU, .int c3, .int c4, .int v5, .int v6, .int v7] [] Mc SS := by
  unfold Fm_blocked_b69 at h
  refine r_iload hX dX9_blocked_69 rfl ?_
  refine r_aload_n hX dX9_blocked_71 rfl ?_
  refine r_getf (v := .int (Mc.1 94 19)) hX dX9_blocked_72 fl_9_192 rfl (by decide) (by decide) rfl ?_
  refine r_icmp_ge (tgt := 113) hX dX9_blocked_75 (by decide) (fun g14 => ?_) (fun g14 => ?_)
  · have h := (if_pos g14).symm.trans h
    refine WR.fg (L' := [.ref 94, vU, vU, .int c3, .int c4, .int v5, .int v6, vU]) ⟨Or.inr rfl, Or.inl rfl, Or.inl rfl, Or.inr rfl, Or.inr rfl, Or.inr rfl, Or.inr rfl, Or.inl rfl, trivial⟩ ?_
    exact hx _ (Option.some.inj h).symm
  · have h := (if_neg g14).symm.trans h
    refine r_aload_n hX dX9_blocked_78 rfl ?_
    refine r_iload hX dX9_blocked_79 rfl ?_
    refine r_iload_n hX dX9_blocked_81 rfl ?_
    obtain ⟨z15, p16, h⟩ := bnd_s h
    refine r_callV (As := [.int v7, .int c3]) hX dX9_blocked_82 mk_Fm_widthOn mi_Fm_widthOn ml_9_237 rfl rfl rfl rfl (by decide) (by decide) (Nat.le_of_ble_eq_true rfl) hr (ok_Fm_widthOn (d := d + 3) n v7 c3 Mc p16) ?_
    refine r_iconst (v := (-1 : Int32)) hX dX9_blocked_85 (by decide) ?_
    refine r_icmp_ne (tgt := 92) hX dX9_blocked_86 (by decide) (fun g17 => ?_) (fun g17 => ?_)
    · have h := (if_neg g17).symm.trans h
      refine r_iconst (v := (1 : Int32)) hX dX9_blocked_92 (by decide) ?_
      refine r_istore (L1 := [.ref 94, vU, vU, .int c3, .int c4, .int v5, .int (1 : Int32), .int v7]) hX dX9_blocked_93 (Nat.le_of_ble_eq_true rfl) rfl ?_
      refine r_iload hX dX9_blocked_95 rfl ?_
      refine r_aload_n hX dX9_blocked_97 rfl ?_
      refine r_getf (v := .ref 99) hX dX9_blocked_98 fl_9_23 rfl (by decide) (by decide) rfl ?_
      refine r_iload hX dX9_blocked_101 rfl ?_
      obtain ⟨k18, h⟩ := grd_s h
      refine r_iald hX dX9_blocked_103 rfl (by decide) (inb_at rfl k18) ?_
      refine r_iand hX dX9_blocked_104 ?_
      refine r_istore (L1 := [.ref 94, vU, vU, .int c3, .int c4, .int (v5 &&& (Mc.1 99 (tn v7))), .int (1 : Int32), .int v7]) hX dX9_blocked_105 (Nat.le_of_ble_eq_true rfl) rfl ?_
      exact ok_Fm_blocked_j107 n (v5 &&& (Mc.1 99 (tn v7))) (1 : Int32) v7   hX hT hr hc hx h
    · have h := (if_pos g17).symm.trans h
      refine r_goto (tgt := 107) hX dX9_blocked_89 (by decide) ?_
      exact ok_Fm_blocked_j107 n v5 v6 v7   hX hT hr hc hx h
set_option maxRecDepth 100000 in
theorem ok_Fm_blocked {G : Gm} {l : Launch} {d : Nat} (n : Nat) (v1 : Int32) (v2 : Int32) (v3 : Int32) (v4 : Int32) (M : Mm) {z : Int32 × Mm}  (h : Fm_blocked n v1 v2 v3 v4 M = some z) : CK G l (d + 5) md_Fm_blocked [.ref 94, .int v1, .int v2, .int v3, .int v4] M SS (some (.int z.1)) z.2 SS := by
  refine ck_of mk_Fm_blocked (Nat.le_of_ble_eq_true rfl) ⟨Nat.le_refl _, Nat.le_refl _⟩ (fun X hX hT hS hr hl => ?_)
  subst hl
  unfold Fm_blocked at h
  show WR G X (mQ G X (some (.int z.1)) z.2 SS) 0 [.ref 94, .int v1, .int v2, .int v3, .int v4, vU, vU, vU] [] M SS
  refine r_aload_n hX dX9_blocked_0 rfl ?_
  refine r_iload_n hX dX9_blocked_1 rfl ?_
  refine r_iload_n hX dX9_blocked_2 rfl ?_
  obtain ⟨z1, p2, h⟩ := bnd_s h
  refine r_callV (As := [.int v1, .int v2]) hX dX9_blocked_3 mk_Fm_areNodes mi_Fm_areNodes ml_9_212 rfl rfl rfl rfl (by decide) (by decide) (Nat.le_of_ble_eq_true rfl) hr (ok_Fm_areNodes (d := d + 3) v1 v2 M p2) ?_
  refine r_ifb_eq (tgt := 26) hX dX9_blocked_6 (by decide) (fun g3 => ?_) (fun g3 => ?_)
  · have h := (if_neg (show ¬ z1 = true from fun e => by rw [g3] at e; cases e)).symm.trans h
    refine r_iconst (v := (-1 : Int32)) hX dX9_blocked_26 (by decide) ?_
    obtain rfl := Option.some.inj h
    exact r_iret hX hT dX9_blocked_27 rfl
  · have h := (if_pos g3).symm.trans h
    refine r_iload_n hX dX9_blocked_9 rfl ?_
    obtain ⟨z4, p5, h⟩ := bnd_s h
    refine r_callS (As := [.int v3]) hX dX9_blocked_10 mk_Fm_isRate ms_Fm_isRate ml_9_262 rfl rfl rfl (Nat.le_of_ble_eq_true rfl) hr (ok_Fm_isRate (d := d + 3) v3 M p5) ?_
    refine r_ifb_eq (tgt := 26) hX dX9_blocked_13 (by decide) (fun g6 => ?_) (fun g6 => ?_)
    · have h := (if_neg (show ¬ z4 = true from fun e => by rw [g6] at e; cases e)).symm.trans h
      refine r_iconst (v := (-1 : Int32)) hX dX9_blocked_26 (by decide) ?_
      obtain rfl := Option.some.inj h
      exact r_iret hX hT dX9_blocked_27 rfl
    · have h := (if_pos g6).symm.trans h
      refine r_iload hX dX9_blocked_16 rfl ?_
      refine r_iconst (v := (0 : Int32)) hX dX9_blocked_18 (by decide) ?_
      refine r_iconst (v := (2 : Int32)) hX dX9_blocked_19 (by decide) ?_
      obtain ⟨z7, p8, h⟩ := bnd_s h
      refine r_callS (As := [.int v4, .int (0 : Int32), .int (2 : Int32)]) hX dX9_blocked_20 mk_Fm_in ms_Fm_in ml_9_83 rfl rfl rfl (Nat.le_of_ble_eq_true rfl) hr (ok_Fm_in (d := d + 4) v4 (0 : Int32) (2 : Int32) M p8) ?_
      refine r_ifb_ne (tgt := 28) hX dX9_blocked_23 (by decide) (fun g9 => ?_) (fun g9 => ?_)
      · have h := (if_pos g9).symm.trans h
        refine r_aload_n hX dX9_blocked_28 rfl ?_
        refine r_iload_n hX dX9_blocked_29 rfl ?_
        refine r_iload_n hX dX9_blocked_30 rfl ?_
        obtain ⟨z10, p11, h⟩ := bnd_s h
        refine r_callV (As := [.int v1, .int v2]) hX dX9_blocked_31 mk_Fm_findsWays mi_Fm_findsWays ml_9_215 rfl rfl rfl rfl (by decide) (by decide) (Nat.le_of_ble_eq_true rfl) hr (ok_Fm_findsWays (d := d + 1) n v1 v2 M p11) ?_
        refine r_iload hX dX9_blocked_34 rfl ?_
        refine r_if_ne (tgt := 54) hX dX9_blocked_36 (by decide) (fun g12 => ?_) (fun g12 => ?_)
        · have h := (if_neg g12).symm.trans h
          refine r_aload_n hX dX9_blocked_54 rfl ?_
          refine r_getf (v := .ref 95) hX dX9_blocked_55 fl_9_7 rfl (by decide) (by decide) rfl ?_
          refine r_bipush (v := (12 : Int32)) hX dX9_blocked_58 (by decide) ?_
          obtain ⟨k13, h⟩ := grd_s h
          refine r_iald hX dX9_blocked_60 rfl (by decide) (inb_at rfl k13) ?_
          refine r_istore (L1 := [.ref 94, .int v1, .int v2, .int v3, .int v4, .int (z10.1 95 (tn (12 : Int32))), vU, vU]) hX dX9_blocked_61 (Nat.le_of_ble_eq_true rfl) rfl ?_
          refine r_iconst (v := (0 : Int32)) hX dX9_blocked_63 (by decide) ?_
          refine r_istore (L1 := [.ref 94, .int v1, .int v2, .int v3, .int v4, .int (z10.1 95 (tn (12 : Int32))), .int (0 : Int32), vU]) hX dX9_blocked_64 (Nat.le_of_ble_eq_true rfl) rfl ?_
          refine r_iconst (v := (0 : Int32)) hX dX9_blocked_66 (by decide) ?_
          refine r_istore (L1 := [.ref 94, .int v1, .int v2, .int v3, .int v4, .int (z10.1 95 (tn (12 : Int32))), .int (0 : Int32), .int (0 : Int32)]) hX dX9_blocked_67 (Nat.le_of_ble_eq_true rfl) rfl ?_
          refine WR.fg (L' := [.ref 94, vU, vU, .int v3, .int v4, .int (z10.1 95 (tn (12 : Int32))), .int (0 : Int32), .int (0 : Int32)]) ⟨Or.inr rfl, Or.inl rfl, Or.inl rfl, Or.inr rfl, Or.inr rfl, Or.inr rfl, Or.inr rfl, Or.inr rfl, trivial⟩ ?_
          obtain ⟨y19, h1, h⟩ := bnd_s h
          refine loop_ok (P := fun s1 : Int32 × Int32 × Int32 => WR G X (mQ G X (some (.int z.1)) z.2 SS) 69 [.ref 94, vU, vU, .int v3, .int v4, .int s1.1, .int s1.2.1, .int s1.2.2] [] z10 SS) (E := fun x1 : Int32 × Int32 => WR G X (mQ G X (some (.int z.1)) z.2 SS) 113 [.ref 94, vU, vU, .int v3, .int v4, .int x1.1, .int x1.2, vU] [] z10 SS) (fun s1 o1 g1 g2 g3 => ok_Fm_blocked_b69 n s1.1 s1.2.1 s1.2.2  hX hT hr g2 g3 g1) n (z10.1 95 (tn (12 : Int32)), (0 : Int32), (0 : Int32)) y19 h1 ?_
          show WR G X (mQ G X (some (.int z.1)) z.2 SS) 113 [.ref 94, vU, vU, .int v3, .int v4, .int y19.1, .int y19.2, vU] [] z10 SS
          refine r_iload hX dX9_blocked_113 rfl ?_
          refine r_if_ne (tgt := 121) hX dX9_blocked_115 (by decide) (fun g20 => ?_) (fun g20 => ?_)
          · have h := (if_neg g20).symm.trans h
            refine r_iload hX dX9_blocked_121 rfl ?_
            refine r_iconst (v := (1 : Int32)) hX dX9_blocked_123 (by decide) ?_
            refine r_icmp_ne (tgt := 135) hX dX9_blocked_124 (by decide) (fun g21 => ?_) (fun g21 => ?_)
            · have h := (if_neg g21).symm.trans h
              refine r_iload hX dX9_blocked_135 rfl ?_
              obtain rfl := Option.some.inj h
              exact r_iret hX hT dX9_blocked_137 rfl
            · have h := (if_pos g21).symm.trans h
              refine r_aload_n hX dX9_blocked_127 rfl ?_
              refine r_iload_n hX dX9_blocked_128 rfl ?_
              obtain ⟨z22, p23, h⟩ := bnd_s h
              refine r_callV (As := [.int v3]) hX dX9_blocked_129 mk_Fm_witnesses mi_Fm_witnesses ml_9_278 rfl rfl rfl rfl (by decide) (by decide) (Nat.le_of_ble_eq_true rfl) hr (ok_Fm_witnesses (d := d + 1) n v3 z10 p23) ?_
              refine r_goto (tgt := 137) hX dX9_blocked_132 (by decide) ?_
              obtain rfl := Option.some.inj h
              exact r_iret hX hT dX9_blocked_137 rfl
          · have h := (if_pos g20).symm.trans h
            refine r_bipush (v := (-4 : Int32)) hX dX9_blocked_118 (by decide) ?_
            obtain rfl := Option.some.inj h
            exact r_iret hX hT dX9_blocked_120 rfl
        · have h := (if_pos g12).symm.trans h
          refine r_aload_n hX dX9_blocked_39 rfl ?_
          refine r_iload_n hX dX9_blocked_40 rfl ?_
          refine r_iconst (v := (0 : Int32)) hX dX9_blocked_41 (by decide) ?_
          obtain ⟨z24, p25, h⟩ := bnd_s h
          refine r_callV (As := [.int v3, .int (0 : Int32)]) hX dX9_blocked_42 mk_Fm_finds mi_Fm_finds ml_9_253 rfl rfl rfl rfl (by decide) (by decide) (Nat.le_of_ble_eq_true rfl) hr (ok_Fm_finds (d := d + 0) n v3 (0 : Int32) z10 p25) ?_
          refine r_ifb_eq (tgt := 52) hX dX9_blocked_45 (by decide) (fun g26 => ?_) (fun g26 => ?_)
          · have h := (if_neg (show ¬ z24.1 = true from fun e => by rw [g26] at e; cases e)).symm.trans h
            refine r_iconst (v := (1 : Int32)) hX dX9_blocked_52 (by decide) ?_
            obtain rfl := Option.some.inj h
            exact r_iret hX hT dX9_blocked_53 rfl
          · have h := (if_pos g26).symm.trans h
            refine r_iconst (v := (0 : Int32)) hX dX9_blocked_48 (by decide) ?_
            refine r_goto (tgt := 53) hX dX9_blocked_49 (by decide) ?_
            obtain rfl := Option.some.inj h
            exact r_iret hX hT dX9_blocked_53 rfl
      · have h := (if_neg (show ¬ z7 = true from fun e => by rw [g9] at e; cases e)).symm.trans h
        refine r_iconst (v := (-1 : Int32)) hX dX9_blocked_26 (by decide) ?_
        obtain rfl := Option.some.inj h
        exact r_iret hX hT dX9_blocked_27 rfl
def Fm_drop (v1 : Int32) (M : Mm) : Option (Bool × Mm) :=
  bnd (Fm_isDemand v1 M) (fun z1 =>
  if z1 = true then
    bnd (Fm_of v1 (3 : Int32) M) (fun z4 =>
    if z4 = (3 : Int32) then
      some (false, M)
    else
      bnd (Fm_sets v1 (3 : Int32) (3 : Int32) M) (fun z7 =>
      some (true, z7)))
  else
    some (false, M))
set_option maxRecDepth 100000 in
theorem ok_Fm_drop {G : Gm} {l : Launch} {d : Nat} (v1 : Int32) (M : Mm) {z : Bool × Mm}  (h : Fm_drop v1 M = some z) : CK G l (d + 2) md_Fm_drop [.ref 94, .int v1] M SS (some (.int (b2i z.1))) z.2 SS := by
  refine ck_of mk_Fm_drop (Nat.le_of_ble_eq_true rfl) ⟨Nat.le_refl _, Nat.le_refl _⟩ (fun X hX hT hS hr hl => ?_)
  subst hl
  unfold Fm_drop at h
  show WR G X (mQ G X (some (.int (b2i z.1))) z.2 SS) 0 [.ref 94, .int v1] [] M SS
  refine r_aload_n hX dX9_drop_0 rfl ?_
  refine r_iload_n hX dX9_drop_1 rfl ?_
  obtain ⟨z1, p2, h⟩ := bnd_s h
  refine r_callV (As := [.int v1]) hX dX9_drop_2 mk_Fm_isDemand mi_Fm_isDemand ml_9_281 rfl rfl rfl rfl (by decide) (by decide) (Nat.le_of_ble_eq_true rfl) hr (ok_Fm_isDemand (d := d + 0) v1 M p2) ?_
  refine r_ifb_eq (tgt := 18) hX dX9_drop_5 (by decide) (fun g3 => ?_) (fun g3 => ?_)
  · have h := (if_neg (show ¬ z1 = true from fun e => by rw [g3] at e; cases e)).symm.trans h
    refine r_iconst (v := (0 : Int32)) hX dX9_drop_18 (by decide) ?_
    obtain rfl := Option.some.inj h
    exact r_iret (v := b2i false) hX hT dX9_drop_19 (okI_b false).1
  · have h := (if_pos g3).symm.trans h
    refine r_aload_n hX dX9_drop_8 rfl ?_
    refine r_iload_n hX dX9_drop_9 rfl ?_
    refine r_iconst (v := (3 : Int32)) hX dX9_drop_10 (by decide) ?_
    obtain ⟨z4, p5, h⟩ := bnd_s h
    refine r_callV (As := [.int v1, .int (3 : Int32)]) hX dX9_drop_11 mk_Fm_of mi_Fm_of ml_9_79 rfl rfl rfl rfl (by decide) (by decide) (Nat.le_of_ble_eq_true rfl) hr (ok_Fm_of (d := d + 1) v1 (3 : Int32) M p5) ?_
    refine r_iconst (v := (3 : Int32)) hX dX9_drop_14 (by decide) ?_
    refine r_icmp_ne (tgt := 20) hX dX9_drop_15 (by decide) (fun g6 => ?_) (fun g6 => ?_)
    · have h := (if_neg g6).symm.trans h
      refine r_aload_n hX dX9_drop_20 rfl ?_
      refine r_iload_n hX dX9_drop_21 rfl ?_
      refine r_iconst (v := (3 : Int32)) hX dX9_drop_22 (by decide) ?_
      refine r_iconst (v := (3 : Int32)) hX dX9_drop_23 (by decide) ?_
      obtain ⟨z7, p8, h⟩ := bnd_s h
      refine r_callV (As := [.int v1, .int (3 : Int32), .int (3 : Int32)]) hX dX9_drop_24 mk_Fm_sets mi_Fm_sets ml_9_256 rfl rfl rfl rfl (by decide) (by decide) (Nat.le_of_ble_eq_true rfl) hr (ok_Fm_sets (d := d + 1) v1 (3 : Int32) (3 : Int32) M p8) ?_
      refine r_iconst (v := (1 : Int32)) hX dX9_drop_27 (by decide) ?_
      obtain rfl := Option.some.inj h
      exact r_iret (v := b2i true) hX hT dX9_drop_28 (okI_b true).1
    · have h := (if_pos g6).symm.trans h
      refine r_iconst (v := (0 : Int32)) hX dX9_drop_18 (by decide) ?_
      obtain rfl := Option.some.inj h
      exact r_iret (v := b2i false) hX hT dX9_drop_19 (okI_b false).1
def Fm_lowest_b7 (n : Nat) (c1 : Int32) (Mc : Mm) (v2 : Int32) : Option ((Int32) ⊕ (Int32)) :=
  bnd (Fm_of c1 (6 : Int32) Mc) (fun z3 =>
  bnd (Fm_of c1 (5 : Int32) Mc) (fun z5 =>
  bnd (Fm_fits n z3 (v2 - (1 : Int32)) z5 c1 Mc) (fun z7 =>
  if z7 = true then
    some (.inl (v2 - (1 : Int32)))
  else
    some (.inr v2))))
def Fm_lowest (n : Nat) (v1 : Int32) (M : Mm) : Option (Int32) :=
  bnd (Fm_of v1 (4 : Int32) M) (fun z1 =>
  bnd (loop (fun s1 : Int32 => Fm_lowest_b7 n v1 M s1) n z1) (fun y10 =>
  some y10))
set_option maxRecDepth 100000 in
theorem ok_Fm_lowest_b7 (n : Nat) (v2 : Int32) {c1 : Int32} {Mc : Mm} {z : Int32} {oo : (Int32) ⊕ (Int32)} {G : Gm} {X : Cx} {d : Nat}  (hX : XK G X 9 cX9_lowest 3 (d + 4)) (hT : XT X (some .int) "lowest") (hr : XR X SS) (hc : ∀ s1 : Int32, oo = .inl s1 → WR G X (mQ G X (some (.int z)) Mc SS) 7 [.ref 94, .int c1, .int s1] [] Mc SS) (hx : ∀ x1 : Int32, oo = .inr x1 → WR G X (mQ G X (some (.int z)) Mc SS) 38 [.ref 94, vU, .int x1] [] Mc SS) (h : Fm_lowest_b7 n c1 Mc v2 = some oo) : WR G X (mQ G X (some (.int z)) Mc SS) 7 [.ref 94, .int c1, .int v2] [] Mc SS := by
  unfold Fm_lowest_b7 at h
  refine r_aload_n hX dX9_lowest_7 rfl ?_
  refine r_aload_n hX dX9_lowest_8 rfl ?_
  refine r_iload_n hX dX9_lowest_9 rfl ?_
  refine r_bipush (v := (6 : Int32)) hX dX9_lowest_10 (by decide) ?_
  obtain ⟨z3, p4, h⟩ := bnd_s h
  refine r_callV (As := [.int c1, .int (6 : Int32)]) hX dX9_lowest_12 mk_Fm_of mi_Fm_of ml_9_79 rfl rfl rfl rfl (by decide) (by decide) (Nat.le_of_ble_eq_true rfl) hr (ok_Fm_of (d := d + 3) c1 (6 : Int32) Mc p4) ?_
  refine r_iload_n hX dX9_lowest_15 rfl ?_
  refine r_iconst (v := (1 : Int32)) hX dX9_lowest_16 (by decide) ?_
  refine r_isub hX dX9_lowest_17 ?_
  refine r_aload_n hX dX9_lowest_18 rfl ?_
  refine r_iload_n hX dX9_lowest_19 rfl ?_
  refine r_iconst (v := (5 : Int32)) hX dX9_lowest_20 (by decide) ?_
  obtain ⟨z5, p6, h⟩ := bnd_s h
  refine r_callV (As := [.int c1, .int (5 : Int32)]) hX dX9_lowest_21 mk_Fm_of mi_Fm_of ml_9_79 rfl rfl rfl rfl (by decide) (by decide) (Nat.le_of_ble_eq_true rfl) hr (ok_Fm_of (d := d + 3) c1 (5 : Int32) Mc p6) ?_
  refine r_iload_n hX dX9_lowest_24 rfl ?_
  obtain ⟨z7, p8, h⟩ := bnd_s h
  refine r_callV (As := [.int z3, .int (v2 - (1 : Int32)), .int z5, .int c1]) hX dX9_lowest_25 mk_Fm_fits mi_Fm_fits ml_9_240 rfl rfl rfl rfl (by decide) (by decide) (Nat.le_of_ble_eq_true rfl) hr (ok_Fm_fits (d := d + 0) n z3 (v2 - (1 : Int32)) z5 c1 Mc p8) ?_
  refine r_ifb_eq (tgt := 38) hX dX9_lowest_28 (by decide) (fun g9 => ?_) (fun g9 => ?_)
  · have h := (if_neg (show ¬ z7 = true from fun e => by rw [g9] at e; cases e)).symm.trans h
    refine WR.fg (L' := [.ref 94, vU, .int v2]) ⟨Or.inr rfl, Or.inl rfl, Or.inr rfl, trivial⟩ ?_
    exact hx _ (Option.some.inj h).symm
  · have h := (if_pos g9).symm.trans h
    refine r_iload_n hX dX9_lowest_31 rfl ?_
    refine r_iconst (v := (1 : Int32)) hX dX9_lowest_32 (by decide) ?_
    refine r_isub hX dX9_lowest_33 ?_
    refine r_istore_n (L1 := [.ref 94, .int c1, .int (v2 - (1 : Int32))]) hX dX9_lowest_34 (Nat.le_of_ble_eq_true rfl) rfl ?_
    refine r_goto (tgt := 7) hX dX9_lowest_35 (by decide) ?_
    exact hc (v2 - (1 : Int32)) (Option.some.inj h).symm
set_option maxRecDepth 100000 in
theorem ok_Fm_lowest {G : Gm} {l : Launch} {d : Nat} (n : Nat) (v1 : Int32) (M : Mm) {z : Int32}  (h : Fm_lowest n v1 M = some z) : CK G l (d + 4) md_Fm_lowest [.ref 94, .int v1] M SS (some (.int z)) M SS := by
  refine ck_of mk_Fm_lowest (Nat.le_of_ble_eq_true rfl) ⟨Nat.le_refl _, Nat.le_refl _⟩ (fun X hX hT hS hr hl => ?_)
  subst hl
  unfold Fm_lowest at h
  show WR G X (mQ G X (some (.int z)) M SS) 0 [.ref 94, .int v1, vU] [] M SS
  refine r_aload_n hX dX9_lowest_0 rfl ?_
  refine r_iload_n hX dX9_lowest_1 rfl ?_
  refine r_iconst (v := (4 : Int32)) hX dX9_lowest_2 (by decide) ?_
  obtain ⟨z1, p2, h⟩ := bnd_s h
  refine r_callV (As := [.int v1, .int (4 : Int32)]) hX dX9_lowest_3 mk_Fm_of mi_Fm_of ml_9_79 rfl rfl rfl rfl (by decide) (by decide) (Nat.le_of_ble_eq_true rfl) hr (ok_Fm_of (d := d + 3) v1 (4 : Int32) M p2) ?_
  refine r_istore_n (L1 := [.ref 94, .int v1, .int z1]) hX dX9_lowest_6 (Nat.le_of_ble_eq_true rfl) rfl ?_
  obtain ⟨y10, h1, h⟩ := bnd_s h
  refine loop_ok (P := fun s1 : Int32 => WR G X (mQ G X (some (.int z)) M SS) 7 [.ref 94, .int v1, .int s1] [] M SS) (E := fun x1 : Int32 => WR G X (mQ G X (some (.int z)) M SS) 38 [.ref 94, vU, .int x1] [] M SS) (fun s1 o1 g1 g2 g3 => ok_Fm_lowest_b7 n s1  hX hT hr g2 g3 g1) n z1 y10 h1 ?_
  show WR G X (mQ G X (some (.int z)) M SS) 38 [.ref 94, vU, .int y10] [] M SS
  refine r_iload_n hX dX9_lowest_38 rfl ?_
  obtain rfl := Option.some.inj h
  exact r_iret hX hT dX9_lowest_39 rfl
def Fm_slides (n : Nat) (v1 : Int32) (M : Mm) : Option (Int32 × Mm) :=
  bnd (Fm_of v1 (4 : Int32) M) (fun z1 =>
  bnd (Fm_lowest n v1 M) (fun z3 =>
  bnd (Fm_of v1 (4 : Int32) M) (fun z5 =>
  bnd (Fm_sets v1 (4 : Int32) (z5 - (z1 - z3)) M) (fun z7 =>
  some (z1 - z3, z7)))))
set_option maxRecDepth 100000 in
theorem ok_Fm_slides {G : Gm} {l : Launch} {d : Nat} (n : Nat) (v1 : Int32) (M : Mm) {z : Int32 × Mm}  (h : Fm_slides n v1 M = some z) : CK G l (d + 5) md_Fm_slides [.ref 94, .int v1] M SS (some (.int z.1)) z.2 SS := by
  refine ck_of mk_Fm_slides (Nat.le_of_ble_eq_true rfl) ⟨Nat.le_refl _, Nat.le_refl _⟩ (fun X hX hT hS hr hl => ?_)
  subst hl
  unfold Fm_slides at h
  show WR G X (mQ G X (some (.int z.1)) z.2 SS) 0 [.ref 94, .int v1, vU] [] M SS
  refine r_aload_n hX dX9_slides_0 rfl ?_
  refine r_iload_n hX dX9_slides_1 rfl ?_
  refine r_iconst (v := (4 : Int32)) hX dX9_slides_2 (by decide) ?_
  obtain ⟨z1, p2, h⟩ := bnd_s h
  refine r_callV (As := [.int v1, .int (4 : Int32)]) hX dX9_slides_3 mk_Fm_of mi_Fm_of ml_9_79 rfl rfl rfl rfl (by decide) (by decide) (Nat.le_of_ble_eq_true rfl) hr (ok_Fm_of (d := d + 4) v1 (4 : Int32) M p2) ?_
  refine r_aload_n hX dX9_slides_6 rfl ?_
  refine r_iload_n hX dX9_slides_7 rfl ?_
  obtain ⟨z3, p4, h⟩ := bnd_s h
  refine r_callV (As := [.int v1]) hX dX9_slides_8 mk_Fm_lowest mi_Fm_lowest ml_9_284 rfl rfl rfl rfl (by decide) (by decide) (Nat.le_of_ble_eq_true rfl) hr (ok_Fm_lowest (d := d + 0) n v1 M p4) ?_
  refine r_isub hX dX9_slides_11 ?_
  refine r_istore_n (L1 := [.ref 94, .int v1, .int (z1 - z3)]) hX dX9_slides_12 (Nat.le_of_ble_eq_true rfl) rfl ?_
  refine r_aload_n hX dX9_slides_13 rfl ?_
  refine r_iload_n hX dX9_slides_14 rfl ?_
  refine r_iconst (v := (4 : Int32)) hX dX9_slides_15 (by decide) ?_
  refine r_aload_n hX dX9_slides_16 rfl ?_
  refine r_iload_n hX dX9_slides_17 rfl ?_
  refine r_iconst (v := (4 : Int32)) hX dX9_slides_18 (by decide) ?_
  obtain ⟨z5, p6, h⟩ := bnd_s h
  refine r_callV (As := [.int v1, .int (4 : Int32)]) hX dX9_slides_19 mk_Fm_of mi_Fm_of ml_9_79 rfl rfl rfl rfl (by decide) (by decide) (Nat.le_of_ble_eq_true rfl) hr (ok_Fm_of (d := d + 4) v1 (4 : Int32) M p6) ?_
  refine r_iload_n hX dX9_slides_22 rfl ?_
  refine r_isub hX dX9_slides_23 ?_
  obtain ⟨z7, p8, h⟩ := bnd_s h
  refine r_callV (As := [.int v1, .int (4 : Int32), .int (z5 - (z1 - z3))]) hX dX9_slides_24 mk_Fm_sets mi_Fm_sets ml_9_256 rfl rfl rfl rfl (by decide) (by decide) (Nat.le_of_ble_eq_true rfl) hr (ok_Fm_sets (d := d + 4) v1 (4 : Int32) (z5 - (z1 - z3)) M p8) ?_
  refine r_iload_n hX dX9_slides_27 rfl ?_
  obtain rfl := Option.some.inj h
  exact r_iret hX hT dX9_slides_28 rfl
def Fm_slide (n : Nat) (v1 : Int32) (M : Mm) : Option (Int32 × Mm) :=
  bnd (Fm_isDemand v1 M) (fun z1 =>
  if z1 = true then
    bnd (Fm_isLit v1 M) (fun z4 =>
    if z4 = true then
      bnd (Fm_slides n v1 M) (fun z7 =>
      some (z7.1, z7.2))
    else
      some ((-1 : Int32), M))
  else
    some ((-1 : Int32), M))
set_option maxRecDepth 100000 in
theorem ok_Fm_slide {G : Gm} {l : Launch} {d : Nat} (n : Nat) (v1 : Int32) (M : Mm) {z : Int32 × Mm}  (h : Fm_slide n v1 M = some z) : CK G l (d + 6) md_Fm_slide [.ref 94, .int v1] M SS (some (.int z.1)) z.2 SS := by
  refine ck_of mk_Fm_slide (Nat.le_of_ble_eq_true rfl) ⟨Nat.le_refl _, Nat.le_refl _⟩ (fun X hX hT hS hr hl => ?_)
  subst hl
  unfold Fm_slide at h
  show WR G X (mQ G X (some (.int z.1)) z.2 SS) 0 [.ref 94, .int v1] [] M SS
  refine r_aload_n hX dX9_slide_0 rfl ?_
  refine r_iload_n hX dX9_slide_1 rfl ?_
  obtain ⟨z1, p2, h⟩ := bnd_s h
  refine r_callV (As := [.int v1]) hX dX9_slide_2 mk_Fm_isDemand mi_Fm_isDemand ml_9_281 rfl rfl rfl rfl (by decide) (by decide) (Nat.le_of_ble_eq_true rfl) hr (ok_Fm_isDemand (d := d + 4) v1 M p2) ?_
  refine r_ifb_eq (tgt := 24) hX dX9_slide_5 (by decide) (fun g3 => ?_) (fun g3 => ?_)
  · have h := (if_neg (show ¬ z1 = true from fun e => by rw [g3] at e; cases e)).symm.trans h
    refine r_iconst (v := (-1 : Int32)) hX dX9_slide_24 (by decide) ?_
    obtain rfl := Option.some.inj h
    exact r_iret hX hT dX9_slide_25 rfl
  · have h := (if_pos g3).symm.trans h
    refine r_aload_n hX dX9_slide_8 rfl ?_
    refine r_iload_n hX dX9_slide_9 rfl ?_
    obtain ⟨z4, p5, h⟩ := bnd_s h
    refine r_callV (As := [.int v1]) hX dX9_slide_10 mk_Fm_isLit mi_Fm_isLit ml_9_219 rfl rfl rfl rfl (by decide) (by decide) (Nat.le_of_ble_eq_true rfl) hr (ok_Fm_isLit (d := d + 4) v1 M p5) ?_
    refine r_ifb_eq (tgt := 24) hX dX9_slide_13 (by decide) (fun g6 => ?_) (fun g6 => ?_)
    · have h := (if_neg (show ¬ z4 = true from fun e => by rw [g6] at e; cases e)).symm.trans h
      refine r_iconst (v := (-1 : Int32)) hX dX9_slide_24 (by decide) ?_
      obtain rfl := Option.some.inj h
      exact r_iret hX hT dX9_slide_25 rfl
    · have h := (if_pos g6).symm.trans h
      refine r_aload_n hX dX9_slide_16 rfl ?_
      refine r_iload_n hX dX9_slide_17 rfl ?_
      obtain ⟨z7, p8, h⟩ := bnd_s h
      refine r_callV (As := [.int v1]) hX dX9_slide_18 mk_Fm_slides mi_Fm_slides ml_9_287 rfl rfl rfl rfl (by decide) (by decide) (Nat.le_of_ble_eq_true rfl) hr (ok_Fm_slides (d := d + 0) n v1 M p8) ?_
      refine r_goto (tgt := 25) hX dX9_slide_21 (by decide) ?_
      obtain rfl := Option.some.inj h
      exact r_iret hX hT dX9_slide_25 rfl
def Fm_sweep_j59 (v1 : Int32) (v3 : Int32) (M : Mm) : Option ((Int32 × Int32 × Mm) ⊕ (Int32 × Mm)) :=
  some (.inl (v1, v3 + (1 : Int32), M))
def Fm_sweep_b16 (c2 : Int32) (v1 : Int32) (v3 : Int32) (M : Mm) : Option ((Int32 × Int32 × Mm) ⊕ (Int32 × Mm)) :=
  grd (inb (7 : Int32) 12256) (
  if (M.1 95 (tn (7 : Int32))) ≤ v3 then
    some (.inr (v1, M))
  else
    bnd (Fm_isLit v3 M) (fun z5 =>
    if z5 = true then
      bnd (Fm_of v3 (4 : Int32) M) (fun z8 =>
      if z8 = c2 then
        grd (inb v1 40) (
        Fm_sweep_j59 (v1 + (1 : Int32)) v3 ((up2 M.1 104 (tn v1) v3), M.2))
      else
        Fm_sweep_j59 v1 v3 M)
    else
      Fm_sweep_j59 v1 v3 M))
def Fm_sweep_b4 (n : Nat) (v1 : Int32) (v2 : Int32) (M : Mm) : Option ((Int32 × Int32 × Mm) ⊕ (Int32 × Mm)) :=
  grd (inb (1 : Int32) 12256) (
  if (M.1 95 (tn (1 : Int32))) ≤ v2 then
    some (.inr (v1, M))
  else
    bnd (loop (fun s1 : Int32 × Int32 × Mm => Fm_sweep_b16 v2 s1.1 s1.2.1 s1.2.2) n (v1, (0 : Int32), M)) (fun y12 =>
    some (.inl (y12.1, v2 + (1 : Int32), y12.2))))
def Fm_sweep_j97 (v2 : Int32) (v3 : Int32) (M : Mm) : Option ((Int32 × Int32 × Mm) ⊕ (Int32 × Mm)) :=
  some (.inl (v2, v3 + (1 : Int32), M))
def Fm_sweep_b75 (n : Nat) (c1 : Int32) (v2 : Int32) (v3 : Int32) (M : Mm) : Option ((Int32 × Int32 × Mm) ⊕ (Int32 × Mm)) :=
  if c1 ≤ v3 then
    some (.inr (v2, M))
  else
    grd (inb v3 40) (
    bnd (Fm_slides n (M.1 104 (tn v3)) M) (fun z16 =>
    if z16.1 ≤ (0 : Int32) then
      Fm_sweep_j97 v2 v3 z16.2
    else
      Fm_sweep_j97 (v2 + (1 : Int32)) v3 z16.2))
def Fm_sweep (n : Nat) (M : Mm) : Option (Int32 × Mm) :=
  bnd (loop (fun s1 : Int32 × Int32 × Mm => Fm_sweep_b4 n s1.1 s1.2.1 s1.2.2) n ((0 : Int32), (0 : Int32), M)) (fun y13 =>
  bnd (loop (fun s1 : Int32 × Int32 × Mm => Fm_sweep_b75 n y13.1 s1.1 s1.2.1 s1.2.2) n ((0 : Int32), (0 : Int32), y13.2)) (fun y19 =>
  some (y19.1, y19.2)))
set_option maxRecDepth 100000 in
theorem ok_Fm_sweep_j59 (n : Nat) (v1 : Int32) (v3 : Int32) (M : Mm) {c2 : Int32} {z : Int32 × Mm} {oo : (Int32 × Int32 × Mm) ⊕ (Int32 × Mm)} {G : Gm} {X : Cx} {d : Nat}  (hX : XK G X 9 cX9_sweep 4 (d + 6)) (hT : XT X (some .int) "sweep") (hr : XR X SS) (hc : ∀ s1 : Int32 × Int32 × Mm, oo = .inl s1 → WR G X (mQ G X (some (.int z.1)) z.2 SS) 16 [.ref 94, .int s1.1, .int c2, .int s1.2.1] [] s1.2.2 SS) (hx : ∀ x1 : Int32 × Mm, oo = .inr x1 → WR G X (mQ G X (some (.int z.1)) z.2 SS) 65 [.ref 94, .int x1.1, .int c2, vU] [] x1.2 SS) (h : Fm_sweep_j59 v1 v3 M = some oo) : WR G X (mQ G X (some (.int z.1)) z.2 SS) 59 [.ref 94, .int v1, .int c2, .int v3] [] M SS := by
  unfold Fm_sweep_j59 at h
  refine r_iinc (v := v3 + (1 : Int32)) (L1 := [.ref 94, .int v1, .int c2, .int (v3 + (1 : Int32))]) hX dX9_sweep_59 rfl rfl rfl ?_
  refine r_goto (tgt := 16) hX dX9_sweep_62 (by decide) ?_
  exact hc (v1, v3 + (1 : Int32), M) (Option.some.inj h).symm
set_option maxRecDepth 100000 in
theorem ok_Fm_sweep_b16 (n : Nat) (v1 : Int32) (v3 : Int32) (M : Mm) {c2 : Int32} {z : Int32 × Mm} {oo : (Int32 × Int32 × Mm) ⊕ (Int32 × Mm)} {G : Gm} {X : Cx} {d : Nat}  (hX : XK G X 9 cX9_sweep 4 (d + 6)) (hT : XT X (some .int) "sweep") (hr : XR X SS) (hc : ∀ s1 : Int32 × Int32 × Mm, oo = .inl s1 → WR G X (mQ G X (some (.int z.1)) z.2 SS) 16 [.ref 94, .int s1.1, .int c2, .int s1.2.1] [] s1.2.2 SS) (hx : ∀ x1 : Int32 × Mm, oo = .inr x1 → WR G X (mQ G X (some (.int z.1)) z.2 SS) 65 [.ref 94, .int x1.1, .int c2, vU] [] x1.2 SS) (h : Fm_sweep_b16 c2 v1 v3 M = some oo) : WR G X (mQ G X (some (.int z.1)) z.2 SS) 16 [.ref 94, .int v1, .int c2, .int v3] [] M SS := by
  unfold Fm_sweep_b16 at h
  refine r_iload_n hX dX9_sweep_16 rfl ?_
  refine r_aload_n hX dX9_sweep_17 rfl ?_
  refine r_getf (v := .ref 95) hX dX9_sweep_18 fl_9_7 rfl (by decide) (by decide) rfl ?_
  refine r_bipush (v := (7 : Int32)) hX dX9_sweep_21 (by decide) ?_
  obtain ⟨k3, h⟩ := grd_s h
  refine r_iald hX dX9_sweep_23 rfl (by decide) (inb_at rfl k3) ?_
  refine r_icmp_ge (tgt := 65) hX dX9_sweep_24 (by decide) (fun g4 => ?_) (fun g4 => ?_)
  · have h := (if_pos g4).symm.trans h
    refine WR.fg (L' := [.ref 94, .int v1, .int c2, vU]) ⟨Or.inr rfl, Or.inr rfl, Or.inr rfl, Or.inl rfl, trivial⟩ ?_
    exact hx _ (Option.some.inj h).symm
  · have h := (if_neg g4).symm.trans h
    refine r_aload_n hX dX9_sweep_27 rfl ?_
    refine r_iload_n hX dX9_sweep_28 rfl ?_
    obtain ⟨z5, p6, h⟩ := bnd_s h
    refine r_callV (As := [.int v3]) hX dX9_sweep_29 mk_Fm_isLit mi_Fm_isLit ml_9_219 rfl rfl rfl rfl (by decide) (by decide) (Nat.le_of_ble_eq_true rfl) hr (ok_Fm_isLit (d := d + 4) v3 M p6) ?_
    refine r_ifb_eq (tgt := 59) hX dX9_sweep_32 (by decide) (fun g7 => ?_) (fun g7 => ?_)
    · have h := (if_neg (show ¬ z5 = true from fun e => by rw [g7] at e; cases e)).symm.trans h
      exact ok_Fm_sweep_j59 n v1 v3 M   hX hT hr hc hx h
    · have h := (if_pos g7).symm.trans h
      refine r_aload_n hX dX9_sweep_35 rfl ?_
      refine r_iload_n hX dX9_sweep_36 rfl ?_
      refine r_iconst (v := (4 : Int32)) hX dX9_sweep_37 (by decide) ?_
      obtain ⟨z8, p9, h⟩ := bnd_s h
      refine r_callV (As := [.int v3, .int (4 : Int32)]) hX dX9_sweep_38 mk_Fm_of mi_Fm_of ml_9_79 rfl rfl rfl rfl (by decide) (by decide) (Nat.le_of_ble_eq_true rfl) hr (ok_Fm_of (d := d + 5) v3 (4 : Int32) M p9) ?_
      refine r_iload_n hX dX9_sweep_41 rfl ?_
      refine r_icmp_eq (tgt := 48) hX dX9_sweep_42 (by decide) (fun g10 => ?_) (fun g10 => ?_)
      · have h := (if_pos g10).symm.trans h
        refine r_aload_n hX dX9_sweep_48 rfl ?_
        refine r_getf (v := .ref 104) hX dX9_sweep_49 fl_9_38 rfl (by decide) (by decide) rfl ?_
        refine r_iload_n hX dX9_sweep_52 rfl ?_
        refine r_iload_n hX dX9_sweep_53 rfl ?_
        obtain ⟨k11, h⟩ := grd_s h
        refine r_iast hX dX9_sweep_54 rfl (by decide) (inb_at rfl k11) ?_
        refine r_iload_n hX dX9_sweep_55 rfl ?_
        refine r_iconst (v := (1 : Int32)) hX dX9_sweep_56 (by decide) ?_
        refine r_iadd hX dX9_sweep_57 ?_
        refine r_istore_n (L1 := [.ref 94, .int (v1 + (1 : Int32)), .int c2, .int v3]) hX dX9_sweep_58 (Nat.le_of_ble_eq_true rfl) rfl ?_
        exact ok_Fm_sweep_j59 n (v1 + (1 : Int32)) v3 ((up2 M.1 104 (tn v1) v3), M.2)   hX hT hr hc hx h
      · have h := (if_neg g10).symm.trans h
        refine r_goto (tgt := 59) hX dX9_sweep_45 (by decide) ?_
        exact ok_Fm_sweep_j59 n v1 v3 M   hX hT hr hc hx h
set_option maxRecDepth 100000 in
theorem ok_Fm_sweep_b4 (n : Nat) (v1 : Int32) (v2 : Int32) (M : Mm)  {z : Int32 × Mm} {oo : (Int32 × Int32 × Mm) ⊕ (Int32 × Mm)} {G : Gm} {X : Cx} {d : Nat}  (hX : XK G X 9 cX9_sweep 4 (d + 6)) (hT : XT X (some .int) "sweep") (hr : XR X SS) (hc : ∀ s1 : Int32 × Int32 × Mm, oo = .inl s1 → WR G X (mQ G X (some (.int z.1)) z.2 SS) 4 [.ref 94, .int s1.1, .int s1.2.1, vU] [] s1.2.2 SS) (hx : ∀ x1 : Int32 × Mm, oo = .inr x1 → WR G X (mQ G X (some (.int z.1)) z.2 SS) 71 [.ref 94, .int x1.1, vU, vU] [] x1.2 SS) (h : Fm_sweep_b4 n v1 v2 M = some oo) : WR G X (mQ G X (some (.int z.1)) z.2 SS) 4 [.ref 94, .int v1, .int v2, vU] [] M SS := by
  unfold Fm_sweep_b4 at h
  refine r_iload_n hX dX9_sweep_4 rfl ?_
  refine r_aload_n hX dX9_sweep_5 rfl ?_
  refine r_getf (v := .ref 95) hX dX9_sweep_6 fl_9_7 rfl (by decide) (by decide) rfl ?_
  refine r_iconst (v := (1 : Int32)) hX dX9_sweep_9 (by decide) ?_
  obtain ⟨k1, h⟩ := grd_s h
  refine r_iald hX dX9_sweep_10 rfl (by decide) (inb_at rfl k1) ?_
  refine r_icmp_ge (tgt := 71) hX dX9_sweep_11 (by decide) (fun g2 => ?_) (fun g2 => ?_)
  · have h := (if_pos g2).symm.trans h
    refine WR.fg (L' := [.ref 94, .int v1, vU, vU]) ⟨Or.inr rfl, Or.inr rfl, Or.inl rfl, Or.inl rfl, trivial⟩ ?_
    exact hx _ (Option.some.inj h).symm
  · have h := (if_neg g2).symm.trans h
    refine r_iconst (v := (0 : Int32)) hX dX9_sweep_14 (by decide) ?_
    refine r_istore_n (L1 := [.ref 94, .int v1, .int v2, .int (0 : Int32)]) hX dX9_sweep_15 (Nat.le_of_ble_eq_true rfl) rfl ?_
    obtain ⟨y12, h1, h⟩ := bnd_s h
    refine loop_ok (P := fun s1 : Int32 × Int32 × Mm => WR G X (mQ G X (some (.int z.1)) z.2 SS) 16 [.ref 94, .int s1.1, .int v2, .int s1.2.1] [] s1.2.2 SS) (E := fun x1 : Int32 × Mm => WR G X (mQ G X (some (.int z.1)) z.2 SS) 65 [.ref 94, .int x1.1, .int v2, vU] [] x1.2 SS) (fun s1 o1 g1 g2 g3 => ok_Fm_sweep_b16 n s1.1 s1.2.1 s1.2.2  hX hT hr g2 g3 g1) n (v1, (0 : Int32), M) y12 h1 ?_
    show WR G X (mQ G X (some (.int z.1)) z.2 SS) 65 [.ref 94, .int y12.1, .int v2, vU] [] y12.2 SS
    refine r_iinc (v := v2 + (1 : Int32)) (L1 := [.ref 94, .int y12.1, .int (v2 + (1 : Int32)), vU]) hX dX9_sweep_65 rfl rfl rfl ?_
    refine r_goto (tgt := 4) hX dX9_sweep_68 (by decide) ?_
    exact hc (y12.1, v2 + (1 : Int32), y12.2) (Option.some.inj h).symm
set_option maxRecDepth 100000 in
theorem ok_Fm_sweep_j97 (n : Nat) (v2 : Int32) (v3 : Int32) (M : Mm) {c1 : Int32} {z : Int32 × Mm} {oo : (Int32 × Int32 × Mm) ⊕ (Int32 × Mm)} {G : Gm} {X : Cx} {d : Nat}  (hX : XK G X 9 cX9_sweep 4 (d + 6)) (hT : XT X (some .int) "sweep") (hr : XR X SS) (hc : ∀ s1 : Int32 × Int32 × Mm, oo = .inl s1 → WR G X (mQ G X (some (.int z.1)) z.2 SS) 75 [.ref 94, .int c1, .int s1.1, .int s1.2.1] [] s1.2.2 SS) (hx : ∀ x1 : Int32 × Mm, oo = .inr x1 → WR G X (mQ G X (some (.int z.1)) z.2 SS) 103 [.ref 94, vU, .int x1.1, vU] [] x1.2 SS) (h : Fm_sweep_j97 v2 v3 M = some oo) : WR G X (mQ G X (some (.int z.1)) z.2 SS) 97 [.ref 94, .int c1, .int v2, .int v3] [] M SS := by
  unfold Fm_sweep_j97 at h
  refine r_iinc (v := v3 + (1 : Int32)) (L1 := [.ref 94, .int c1, .int v2, .int (v3 + (1 : Int32))]) hX dX9_sweep_97 rfl rfl rfl ?_
  refine r_goto (tgt := 75) hX dX9_sweep_100 (by decide) ?_
  exact hc (v2, v3 + (1 : Int32), M) (Option.some.inj h).symm
set_option maxRecDepth 100000 in
theorem ok_Fm_sweep_b75 (n : Nat) (v2 : Int32) (v3 : Int32) (M : Mm) {c1 : Int32} {z : Int32 × Mm} {oo : (Int32 × Int32 × Mm) ⊕ (Int32 × Mm)} {G : Gm} {X : Cx} {d : Nat}  (hX : XK G X 9 cX9_sweep 4 (d + 6)) (hT : XT X (some .int) "sweep") (hr : XR X SS) (hc : ∀ s1 : Int32 × Int32 × Mm, oo = .inl s1 → WR G X (mQ G X (some (.int z.1)) z.2 SS) 75 [.ref 94, .int c1, .int s1.1, .int s1.2.1] [] s1.2.2 SS) (hx : ∀ x1 : Int32 × Mm, oo = .inr x1 → WR G X (mQ G X (some (.int z.1)) z.2 SS) 103 [.ref 94, vU, .int x1.1, vU] [] x1.2 SS) (h : Fm_sweep_b75 n c1 v2 v3 M = some oo) : WR G X (mQ G X (some (.int z.1)) z.2 SS) 75 [.ref 94, .int c1, .int v2, .int v3] [] M SS := by
  unfold Fm_sweep_b75 at h
  refine r_iload_n hX dX9_sweep_75 rfl ?_
  refine r_iload_n hX dX9_sweep_76 rfl ?_
  refine r_icmp_ge (tgt := 103) hX dX9_sweep_77 (by decide) (fun g14 => ?_) (fun g14 => ?_)
  · have h := (if_pos g14).symm.trans h
    refine WR.fg (L' := [.ref 94, vU, .int v2, vU]) ⟨Or.inr rfl, Or.inl rfl, Or.inr rfl, Or.inl rfl, trivial⟩ ?_
    exact hx _ (Option.some.inj h).symm
  · have h := (if_neg g14).symm.trans h
    refine r_aload_n hX dX9_sweep_80 rfl ?_
    refine r_aload_n hX dX9_sweep_81 rfl ?_
    refine r_getf (v := .ref 104) hX dX9_sweep_82 fl_9_38 rfl (by decide) (by decide) rfl ?_
    refine r_iload_n hX dX9_sweep_85 rfl ?_
    obtain ⟨k15, h⟩ := grd_s h
    refine r_iald hX dX9_sweep_86 rfl (by decide) (inb_at rfl k15) ?_
    obtain ⟨z16, p17, h⟩ := bnd_s h
    refine r_callV (As := [.int (M.1 104 (tn v3))]) hX dX9_sweep_87 mk_Fm_slides mi_Fm_slides ml_9_287 rfl rfl rfl rfl (by decide) (by decide) (Nat.le_of_ble_eq_true rfl) hr (ok_Fm_slides (d := d + 0) n (M.1 104 (tn v3)) M p17) ?_
    refine r_if_le (tgt := 97) hX dX9_sweep_90 (by decide) (fun g18 => ?_) (fun g18 => ?_)
    · have h := (if_pos g18).symm.trans h
      exact ok_Fm_sweep_j97 n v2 v3 z16.2   hX hT hr hc hx h
    · have h := (if_neg g18).symm.trans h
      refine r_iload_n hX dX9_sweep_93 rfl ?_
      refine r_iconst (v := (1 : Int32)) hX dX9_sweep_94 (by decide) ?_
      refine r_iadd hX dX9_sweep_95 ?_
      refine r_istore_n (L1 := [.ref 94, .int c1, .int (v2 + (1 : Int32)), .int v3]) hX dX9_sweep_96 (Nat.le_of_ble_eq_true rfl) rfl ?_
      exact ok_Fm_sweep_j97 n (v2 + (1 : Int32)) v3 z16.2   hX hT hr hc hx h
set_option maxRecDepth 100000 in
theorem ok_Fm_sweep {G : Gm} {l : Launch} {d : Nat} (n : Nat) (M : Mm) {z : Int32 × Mm}  (h : Fm_sweep n M = some z) : CK G l (d + 6) md_Fm_sweep [.ref 94] M SS (some (.int z.1)) z.2 SS := by
  refine ck_of mk_Fm_sweep (Nat.le_of_ble_eq_true rfl) ⟨Nat.le_refl _, Nat.le_refl _⟩ (fun X hX hT hS hr hl => ?_)
  subst hl
  unfold Fm_sweep at h
  show WR G X (mQ G X (some (.int z.1)) z.2 SS) 0 [.ref 94, vU, vU, vU] [] M SS
  refine r_iconst (v := (0 : Int32)) hX dX9_sweep_0 (by decide) ?_
  refine r_istore_n (L1 := [.ref 94, .int (0 : Int32), vU, vU]) hX dX9_sweep_1 (Nat.le_of_ble_eq_true rfl) rfl ?_
  refine r_iconst (v := (0 : Int32)) hX dX9_sweep_2 (by decide) ?_
  refine r_istore_n (L1 := [.ref 94, .int (0 : Int32), .int (0 : Int32), vU]) hX dX9_sweep_3 (Nat.le_of_ble_eq_true rfl) rfl ?_
  obtain ⟨y13, h1, h⟩ := bnd_s h
  refine loop_ok (P := fun s1 : Int32 × Int32 × Mm => WR G X (mQ G X (some (.int z.1)) z.2 SS) 4 [.ref 94, .int s1.1, .int s1.2.1, vU] [] s1.2.2 SS) (E := fun x1 : Int32 × Mm => WR G X (mQ G X (some (.int z.1)) z.2 SS) 71 [.ref 94, .int x1.1, vU, vU] [] x1.2 SS) (fun s1 o1 g1 g2 g3 => ok_Fm_sweep_b4 n s1.1 s1.2.1 s1.2.2  hX hT hr g2 g3 g1) n ((0 : Int32), (0 : Int32), M) y13 h1 ?_
  show WR G X (mQ G X (some (.int z.1)) z.2 SS) 71 [.ref 94, .int y13.1, vU, vU] [] y13.2 SS
  refine r_iconst (v := (0 : Int32)) hX dX9_sweep_71 (by decide) ?_
  refine r_istore_n (L1 := [.ref 94, .int y13.1, .int (0 : Int32), vU]) hX dX9_sweep_72 (Nat.le_of_ble_eq_true rfl) rfl ?_
  refine r_iconst (v := (0 : Int32)) hX dX9_sweep_73 (by decide) ?_
  refine r_istore_n (L1 := [.ref 94, .int y13.1, .int (0 : Int32), .int (0 : Int32)]) hX dX9_sweep_74 (Nat.le_of_ble_eq_true rfl) rfl ?_
  obtain ⟨y19, h1, h⟩ := bnd_s h
  refine loop_ok (P := fun s1 : Int32 × Int32 × Mm => WR G X (mQ G X (some (.int z.1)) z.2 SS) 75 [.ref 94, .int y13.1, .int s1.1, .int s1.2.1] [] s1.2.2 SS) (E := fun x1 : Int32 × Mm => WR G X (mQ G X (some (.int z.1)) z.2 SS) 103 [.ref 94, vU, .int x1.1, vU] [] x1.2 SS) (fun s1 o1 g1 g2 g3 => ok_Fm_sweep_b75 n s1.1 s1.2.1 s1.2.2  hX hT hr g2 g3 g1) n ((0 : Int32), (0 : Int32), y13.2) y19 h1 ?_
  show WR G X (mQ G X (some (.int z.1)) z.2 SS) 103 [.ref 94, vU, .int y19.1, vU] [] y19.2 SS
  refine r_iload_n hX dX9_sweep_103 rfl ?_
  obtain rfl := Option.some.inj h
  exact r_iret hX hT dX9_sweep_104 rfl
def Fm_sweeps_b2 (n : Nat) (v1 : Int32) (M : Mm) : Option ((Int32 × Mm) ⊕ (Int32 × Mm)) :=
  bnd (Fm_sweep n M) (fun z1 =>
  if z1.1 ≤ (0 : Int32) then
    some (.inr (v1, z1.2))
  else
    some (.inl (v1 + (1 : Int32), z1.2)))
def Fm_sweeps (n : Nat) (M : Mm) : Option (Int32 × Mm) :=
  bnd (loop (fun s1 : Int32 × Mm => Fm_sweeps_b2 n s1.1 s1.2) n ((0 : Int32), M)) (fun y4 =>
  some (y4.1, y4.2))
set_option maxRecDepth 100000 in
theorem ok_Fm_sweeps_b2 (n : Nat) (v1 : Int32) (M : Mm)  {z : Int32 × Mm} {oo : (Int32 × Mm) ⊕ (Int32 × Mm)} {G : Gm} {X : Cx} {d : Nat}  (hX : XK G X 9 cX9_sweeps 2 (d + 7)) (hT : XT X (some .int) "sweeps") (hr : XR X SS) (hc : ∀ s1 : Int32 × Mm, oo = .inl s1 → WR G X (mQ G X (some (.int z.1)) z.2 SS) 2 [.ref 94, .int s1.1] [] s1.2 SS) (hx : ∀ x1 : Int32 × Mm, oo = .inr x1 → WR G X (mQ G X (some (.int z.1)) z.2 SS) 16 [.ref 94, .int x1.1] [] x1.2 SS) (h : Fm_sweeps_b2 n v1 M = some oo) : WR G X (mQ G X (some (.int z.1)) z.2 SS) 2 [.ref 94, .int v1] [] M SS := by
  unfold Fm_sweeps_b2 at h
  refine r_aload_n hX dX9_sweeps_2 rfl ?_
  obtain ⟨z1, p2, h⟩ := bnd_s h
  refine r_callV (As := []) hX dX9_sweeps_3 mk_Fm_sweep mi_Fm_sweep ml_9_290 rfl rfl rfl rfl (by decide) (by decide) (Nat.le_of_ble_eq_true rfl) hr (ok_Fm_sweep (d := d + 0) n M p2) ?_
  refine r_if_le (tgt := 16) hX dX9_sweeps_6 (by decide) (fun g3 => ?_) (fun g3 => ?_)
  · have h := (if_pos g3).symm.trans h
    exact hx _ (Option.some.inj h).symm
  · have h := (if_neg g3).symm.trans h
    refine r_iload_n hX dX9_sweeps_9 rfl ?_
    refine r_iconst (v := (1 : Int32)) hX dX9_sweeps_10 (by decide) ?_
    refine r_iadd hX dX9_sweeps_11 ?_
    refine r_istore_n (L1 := [.ref 94, .int (v1 + (1 : Int32))]) hX dX9_sweeps_12 (Nat.le_of_ble_eq_true rfl) rfl ?_
    refine r_goto (tgt := 2) hX dX9_sweeps_13 (by decide) ?_
    exact hc (v1 + (1 : Int32), z1.2) (Option.some.inj h).symm
set_option maxRecDepth 100000 in
theorem ok_Fm_sweeps {G : Gm} {l : Launch} {d : Nat} (n : Nat) (M : Mm) {z : Int32 × Mm}  (h : Fm_sweeps n M = some z) : CK G l (d + 7) md_Fm_sweeps [.ref 94] M SS (some (.int z.1)) z.2 SS := by
  refine ck_of mk_Fm_sweeps (Nat.le_of_ble_eq_true rfl) ⟨Nat.le_refl _, Nat.le_refl _⟩ (fun X hX hT hS hr hl => ?_)
  subst hl
  unfold Fm_sweeps at h
  show WR G X (mQ G X (some (.int z.1)) z.2 SS) 0 [.ref 94, vU] [] M SS
  refine r_iconst (v := (0 : Int32)) hX dX9_sweeps_0 (by decide) ?_
  refine r_istore_n (L1 := [.ref 94, .int (0 : Int32)]) hX dX9_sweeps_1 (Nat.le_of_ble_eq_true rfl) rfl ?_
  obtain ⟨y4, h1, h⟩ := bnd_s h
  refine loop_ok (P := fun s1 : Int32 × Mm => WR G X (mQ G X (some (.int z.1)) z.2 SS) 2 [.ref 94, .int s1.1] [] s1.2 SS) (E := fun x1 : Int32 × Mm => WR G X (mQ G X (some (.int z.1)) z.2 SS) 16 [.ref 94, .int x1.1] [] x1.2 SS) (fun s1 o1 g1 g2 g3 => ok_Fm_sweeps_b2 n s1.1 s1.2  hX hT hr g2 g3 g1) n ((0 : Int32), M) y4 h1 ?_
  show WR G X (mQ G X (some (.int z.1)) z.2 SS) 16 [.ref 94, .int y4.1] [] y4.2 SS
  refine r_iload_n hX dX9_sweeps_16 rfl ?_
  obtain rfl := Option.some.inj h
  exact r_iret hX hT dX9_sweeps_17 rfl
def Fm_canJump_j48  : Option (Bool) :=
  some true
def Fm_canJump (n : Nat) (v1 : Int32) (v2 : Int32) (M : Mm) : Option (Bool) :=
  bnd (Fm_of v1 (5 : Int32) M) (fun z1 =>
  bnd (Fm_of v1 (6 : Int32) M) (fun z3 =>
  bnd (Fm_fits n z3 v2 z1 v1 M) (fun z5 =>
  if z5 = true then
    bnd (Fm_of v1 (4 : Int32) M) (fun z8 =>
    if (z8 + z1) ≤ v2 then
      Fm_canJump_j48
    else
      bnd (Fm_of v1 (4 : Int32) M) (fun z11 =>
      if z11 < (v2 + z1) then
        some false
      else
        Fm_canJump_j48))
  else
    some false)))
set_option maxRecDepth 100000 in
theorem ok_Fm_canJump_j48 (n : Nat) (M : Mm) {z : Bool} {G : Gm} {X : Cx} {d : Nat}  (hX : XK G X 9 cX9_canJump 4 (d + 4)) (hT : XT X (some .boolean) "canJump") (hr : XR X SS) (h : Fm_canJump_j48 = some z) : WR G X (mQ G X (some (.int (b2i z))) M SS) 48 [.ref 94, vU, vU, vU] [] M SS := by
  unfold Fm_canJump_j48 at h
  refine r_iconst (v := (1 : Int32)) hX dX9_canJump_48 (by decide) ?_
  refine r_goto (tgt := 53) hX dX9_canJump_49 (by decide) ?_
  obtain rfl := Option.some.inj h
  exact r_iret (v := b2i true) hX hT dX9_canJump_53 (okI_b true).1
set_option maxRecDepth 100000 in
theorem ok_Fm_canJump {G : Gm} {l : Launch} {d : Nat} (n : Nat) (v1 : Int32) (v2 : Int32) (M : Mm) {z : Bool}  (h : Fm_canJump n v1 v2 M = some z) : CK G l (d + 4) md_Fm_canJump [.ref 94, .int v1, .int v2] M SS (some (.int (b2i z))) M SS := by
  refine ck_of mk_Fm_canJump (Nat.le_of_ble_eq_true rfl) ⟨Nat.le_refl _, Nat.le_refl _⟩ (fun X hX hT hS hr hl => ?_)
  subst hl
  unfold Fm_canJump at h
  show WR G X (mQ G X (some (.int (b2i z))) M SS) 0 [.ref 94, .int v1, .int v2, vU] [] M SS
  refine r_aload_n hX dX9_canJump_0 rfl ?_
  refine r_iload_n hX dX9_canJump_1 rfl ?_
  refine r_iconst (v := (5 : Int32)) hX dX9_canJump_2 (by decide) ?_
  obtain ⟨z1, p2, h⟩ := bnd_s h
  refine r_callV (As := [.int v1, .int (5 : Int32)]) hX dX9_canJump_3 mk_Fm_of mi_Fm_of ml_9_79 rfl rfl rfl rfl (by decide) (by decide) (Nat.le_of_ble_eq_true rfl) hr (ok_Fm_of (d := d + 3) v1 (5 : Int32) M p2) ?_
  refine r_istore_n (L1 := [.ref 94, .int v1, .int v2, .int z1]) hX dX9_canJump_6 (Nat.le_of_ble_eq_true rfl) rfl ?_
  refine r_aload_n hX dX9_canJump_7 rfl ?_
  refine r_aload_n hX dX9_canJump_8 rfl ?_
  refine r_iload_n hX dX9_canJump_9 rfl ?_
  refine r_bipush (v := (6 : Int32)) hX dX9_canJump_10 (by decide) ?_
  obtain ⟨z3, p4, h⟩ := bnd_s h
  refine r_callV (As := [.int v1, .int (6 : Int32)]) hX dX9_canJump_12 mk_Fm_of mi_Fm_of ml_9_79 rfl rfl rfl rfl (by decide) (by decide) (Nat.le_of_ble_eq_true rfl) hr (ok_Fm_of (d := d + 3) v1 (6 : Int32) M p4) ?_
  refine r_iload_n hX dX9_canJump_15 rfl ?_
  refine r_iload_n hX dX9_canJump_16 rfl ?_
  refine r_iload_n hX dX9_canJump_17 rfl ?_
  obtain ⟨z5, p6, h⟩ := bnd_s h
  refine r_callV (As := [.int z3, .int v2, .int z1, .int v1]) hX dX9_canJump_18 mk_Fm_fits mi_Fm_fits ml_9_240 rfl rfl rfl rfl (by decide) (by decide) (Nat.le_of_ble_eq_true rfl) hr (ok_Fm_fits (d := d + 0) n z3 v2 z1 v1 M p6) ?_
  refine r_ifb_eq (tgt := 52) hX dX9_canJump_21 (by decide) (fun g7 => ?_) (fun g7 => ?_)
  · have h := (if_neg (show ¬ z5 = true from fun e => by rw [g7] at e; cases e)).symm.trans h
    refine r_iconst (v := (0 : Int32)) hX dX9_canJump_52 (by decide) ?_
    obtain rfl := Option.some.inj h
    exact r_iret (v := b2i false) hX hT dX9_canJump_53 (okI_b false).1
  · have h := (if_pos g7).symm.trans h
    refine r_iload_n hX dX9_canJump_24 rfl ?_
    refine r_aload_n hX dX9_canJump_25 rfl ?_
    refine r_iload_n hX dX9_canJump_26 rfl ?_
    refine r_iconst (v := (4 : Int32)) hX dX9_canJump_27 (by decide) ?_
    obtain ⟨z8, p9, h⟩ := bnd_s h
    refine r_callV (As := [.int v1, .int (4 : Int32)]) hX dX9_canJump_28 mk_Fm_of mi_Fm_of ml_9_79 rfl rfl rfl rfl (by decide) (by decide) (Nat.le_of_ble_eq_true rfl) hr (ok_Fm_of (d := d + 3) v1 (4 : Int32) M p9) ?_
    refine r_iload_n hX dX9_canJump_31 rfl ?_
    refine r_iadd hX dX9_canJump_32 ?_
    refine r_icmp_ge (tgt := 48) hX dX9_canJump_33 (by decide) (fun g10 => ?_) (fun g10 => ?_)
    · have h := (if_pos g10).symm.trans h
      refine WR.fg (L' := [.ref 94, vU, vU, vU]) ⟨Or.inr rfl, Or.inl rfl, Or.inl rfl, Or.inl rfl, trivial⟩ ?_
      exact ok_Fm_canJump_j48 n M   hX hT hr h
    · have h := (if_neg g10).symm.trans h
      refine r_aload_n hX dX9_canJump_36 rfl ?_
      refine r_iload_n hX dX9_canJump_37 rfl ?_
      refine r_iconst (v := (4 : Int32)) hX dX9_canJump_38 (by decide) ?_
      obtain ⟨z11, p12, h⟩ := bnd_s h
      refine r_callV (As := [.int v1, .int (4 : Int32)]) hX dX9_canJump_39 mk_Fm_of mi_Fm_of ml_9_79 rfl rfl rfl rfl (by decide) (by decide) (Nat.le_of_ble_eq_true rfl) hr (ok_Fm_of (d := d + 3) v1 (4 : Int32) M p12) ?_
      refine r_iload_n hX dX9_canJump_42 rfl ?_
      refine r_iload_n hX dX9_canJump_43 rfl ?_
      refine r_iadd hX dX9_canJump_44 ?_
      refine r_icmp_lt (tgt := 52) hX dX9_canJump_45 (by decide) (fun g13 => ?_) (fun g13 => ?_)
      · have h := (if_pos g13).symm.trans h
        refine r_iconst (v := (0 : Int32)) hX dX9_canJump_52 (by decide) ?_
        obtain rfl := Option.some.inj h
        exact r_iret (v := b2i false) hX hT dX9_canJump_53 (okI_b false).1
      · have h := (if_neg g13).symm.trans h
        refine WR.fg (L' := [.ref 94, vU, vU, vU]) ⟨Or.inr rfl, Or.inl rfl, Or.inl rfl, Or.inl rfl, trivial⟩ ?_
        exact ok_Fm_canJump_j48 n M   hX hT hr h
def Fm_jump_j37 (M : Mm) : Option (Int32 × Mm) :=
  some ((-1000 : Int32), M)
def Fm_jump (n : Nat) (v1 : Int32) (v2 : Int32) (M : Mm) : Option (Int32 × Mm) :=
  bnd (Fm_isDemand v1 M) (fun z1 =>
  if z1 = true then
    bnd (Fm_isLit v1 M) (fun z4 =>
    if z4 = true then
      if v2 < (0 : Int32) then
        Fm_jump_j37 M
      else
        grd (inb (1 : Int32) 12256) (
        bnd (Fm_of v1 (5 : Int32) M) (fun z9 =>
        if v2 ≤ ((M.1 95 (tn (1 : Int32))) - z9) then
          bnd (Fm_canJump n v1 v2 M) (fun z12 =>
          if z12 = true then
            bnd (Fm_of v1 (4 : Int32) M) (fun z15 =>
            bnd (Fm_sets v1 (4 : Int32) v2 M) (fun z17 =>
            some (z15 - v2, z17)))
          else
            some ((-1001 : Int32), M))
        else
          Fm_jump_j37 M))
    else
      Fm_jump_j37 M)
  else
    Fm_jump_j37 M)
set_option maxRecDepth 100000 in
theorem ok_Fm_jump_j37 (n : Nat) (M : Mm) {z : Int32 × Mm} {G : Gm} {X : Cx} {d : Nat}  (hX : XK G X 9 cX9_jump 4 (d + 5)) (hT : XT X (some .int) "jump") (hr : XR X SS) (h : Fm_jump_j37 M = some z) : WR G X (mQ G X (some (.int z.1)) z.2 SS) 37 [.ref 94, vU, vU, vU] [] M SS := by
  unfold Fm_jump_j37 at h
  refine r_sipush (v := (-1000 : Int32)) hX dX9_jump_37 (by decide) ?_
  obtain rfl := Option.some.inj h
  exact r_iret hX hT dX9_jump_40 rfl
set_option maxRecDepth 100000 in
theorem ok_Fm_jump {G : Gm} {l : Launch} {d : Nat} (n : Nat) (v1 : Int32) (v2 : Int32) (M : Mm) {z : Int32 × Mm}  (h : Fm_jump n v1 v2 M = some z) : CK G l (d + 5) md_Fm_jump [.ref 94, .int v1, .int v2] M SS (some (.int z.1)) z.2 SS := by
  refine ck_of mk_Fm_jump (Nat.le_of_ble_eq_true rfl) ⟨Nat.le_refl _, Nat.le_refl _⟩ (fun X hX hT hS hr hl => ?_)
  subst hl
  unfold Fm_jump at h
  show WR G X (mQ G X (some (.int z.1)) z.2 SS) 0 [.ref 94, .int v1, .int v2, vU] [] M SS
  refine r_aload_n hX dX9_jump_0 rfl ?_
  refine r_iload_n hX dX9_jump_1 rfl ?_
  obtain ⟨z1, p2, h⟩ := bnd_s h
  refine r_callV (As := [.int v1]) hX dX9_jump_2 mk_Fm_isDemand mi_Fm_isDemand ml_9_281 rfl rfl rfl rfl (by decide) (by decide) (Nat.le_of_ble_eq_true rfl) hr (ok_Fm_isDemand (d := d + 3) v1 M p2) ?_
  refine r_ifb_eq (tgt := 37) hX dX9_jump_5 (by decide) (fun g3 => ?_) (fun g3 => ?_)
  · have h := (if_neg (show ¬ z1 = true from fun e => by rw [g3] at e; cases e)).symm.trans h
    refine WR.fg (L' := [.ref 94, vU, vU, vU]) ⟨Or.inr rfl, Or.inl rfl, Or.inl rfl, Or.inl rfl, trivial⟩ ?_
    exact ok_Fm_jump_j37 n M   hX hT hr h
  · have h := (if_pos g3).symm.trans h
    refine r_aload_n hX dX9_jump_8 rfl ?_
    refine r_iload_n hX dX9_jump_9 rfl ?_
    obtain ⟨z4, p5, h⟩ := bnd_s h
    refine r_callV (As := [.int v1]) hX dX9_jump_10 mk_Fm_isLit mi_Fm_isLit ml_9_219 rfl rfl rfl rfl (by decide) (by decide) (Nat.le_of_ble_eq_true rfl) hr (ok_Fm_isLit (d := d + 3) v1 M p5) ?_
    refine r_ifb_eq (tgt := 37) hX dX9_jump_13 (by decide) (fun g6 => ?_) (fun g6 => ?_)
    · have h := (if_neg (show ¬ z4 = true from fun e => by rw [g6] at e; cases e)).symm.trans h
      refine WR.fg (L' := [.ref 94, vU, vU, vU]) ⟨Or.inr rfl, Or.inl rfl, Or.inl rfl, Or.inl rfl, trivial⟩ ?_
      exact ok_Fm_jump_j37 n M   hX hT hr h
    · have h := (if_pos g6).symm.trans h
      refine r_iload_n hX dX9_jump_16 rfl ?_
      refine r_if_lt (tgt := 37) hX dX9_jump_17 (by decide) (fun g7 => ?_) (fun g7 => ?_)
      · have h := (if_pos g7).symm.trans h
        refine WR.fg (L' := [.ref 94, vU, vU, vU]) ⟨Or.inr rfl, Or.inl rfl, Or.inl rfl, Or.inl rfl, trivial⟩ ?_
        exact ok_Fm_jump_j37 n M   hX hT hr h
      · have h := (if_neg g7).symm.trans h
        refine r_iload_n hX dX9_jump_20 rfl ?_
        refine r_aload_n hX dX9_jump_21 rfl ?_
        refine r_getf (v := .ref 95) hX dX9_jump_22 fl_9_7 rfl (by decide) (by decide) rfl ?_
        refine r_iconst (v := (1 : Int32)) hX dX9_jump_25 (by decide) ?_
        obtain ⟨k8, h⟩ := grd_s h
        refine r_iald hX dX9_jump_26 rfl (by decide) (inb_at rfl k8) ?_
        refine r_aload_n hX dX9_jump_27 rfl ?_
        refine r_iload_n hX dX9_jump_28 rfl ?_
        refine r_iconst (v := (5 : Int32)) hX dX9_jump_29 (by decide) ?_
        obtain ⟨z9, p10, h⟩ := bnd_s h
        refine r_callV (As := [.int v1, .int (5 : Int32)]) hX dX9_jump_30 mk_Fm_of mi_Fm_of ml_9_79 rfl rfl rfl rfl (by decide) (by decide) (Nat.le_of_ble_eq_true rfl) hr (ok_Fm_of (d := d + 4) v1 (5 : Int32) M p10) ?_
        refine r_isub hX dX9_jump_33 ?_
        refine r_icmp_le (tgt := 41) hX dX9_jump_34 (by decide) (fun g11 => ?_) (fun g11 => ?_)
        · have h := (if_pos g11).symm.trans h
          refine r_aload_n hX dX9_jump_41 rfl ?_
          refine r_iload_n hX dX9_jump_42 rfl ?_
          refine r_iload_n hX dX9_jump_43 rfl ?_
          obtain ⟨z12, p13, h⟩ := bnd_s h
          refine r_callV (As := [.int v1, .int v2]) hX dX9_jump_44 mk_Fm_canJump mi_Fm_canJump ml_9_293 rfl rfl rfl rfl (by decide) (by decide) (Nat.le_of_ble_eq_true rfl) hr (ok_Fm_canJump (d := d + 0) n v1 v2 M p13) ?_
          refine r_ifb_ne (tgt := 54) hX dX9_jump_47 (by decide) (fun g14 => ?_) (fun g14 => ?_)
          · have h := (if_pos g14).symm.trans h
            refine r_aload_n hX dX9_jump_54 rfl ?_
            refine r_iload_n hX dX9_jump_55 rfl ?_
            refine r_iconst (v := (4 : Int32)) hX dX9_jump_56 (by decide) ?_
            obtain ⟨z15, p16, h⟩ := bnd_s h
            refine r_callV (As := [.int v1, .int (4 : Int32)]) hX dX9_jump_57 mk_Fm_of mi_Fm_of ml_9_79 rfl rfl rfl rfl (by decide) (by decide) (Nat.le_of_ble_eq_true rfl) hr (ok_Fm_of (d := d + 4) v1 (4 : Int32) M p16) ?_
            refine r_iload_n hX dX9_jump_60 rfl ?_
            refine r_isub hX dX9_jump_61 ?_
            refine r_istore_n (L1 := [.ref 94, .int v1, .int v2, .int (z15 - v2)]) hX dX9_jump_62 (Nat.le_of_ble_eq_true rfl) rfl ?_
            refine r_aload_n hX dX9_jump_63 rfl ?_
            refine r_iload_n hX dX9_jump_64 rfl ?_
            refine r_iconst (v := (4 : Int32)) hX dX9_jump_65 (by decide) ?_
            refine r_iload_n hX dX9_jump_66 rfl ?_
            obtain ⟨z17, p18, h⟩ := bnd_s h
            refine r_callV (As := [.int v1, .int (4 : Int32), .int v2]) hX dX9_jump_67 mk_Fm_sets mi_Fm_sets ml_9_256 rfl rfl rfl rfl (by decide) (by decide) (Nat.le_of_ble_eq_true rfl) hr (ok_Fm_sets (d := d + 4) v1 (4 : Int32) v2 M p18) ?_
            refine r_iload_n hX dX9_jump_70 rfl ?_
            obtain rfl := Option.some.inj h
            exact r_iret hX hT dX9_jump_71 rfl
          · have h := (if_neg (show ¬ z12 = true from fun e => by rw [g14] at e; cases e)).symm.trans h
            refine r_sipush (v := (-1001 : Int32)) hX dX9_jump_50 (by decide) ?_
            obtain rfl := Option.some.inj h
            exact r_iret hX hT dX9_jump_53 rfl
        · have h := (if_neg g11).symm.trans h
          refine WR.fg (L' := [.ref 94, vU, vU, vU]) ⟨Or.inr rfl, Or.inl rfl, Or.inl rfl, Or.inl rfl, trivial⟩ ?_
          exact ok_Fm_jump_j37 n M   hX hT hr h
def Fm_isLink (v1 : Int32) (M : Mm) : Option (Bool) :=
  grd (inb (3 : Int32) 12256) (
  bnd (Fm_in v1 (0 : Int32) ((M.1 95 (tn (3 : Int32))) - (1 : Int32)) M) (fun z2 =>
  some z2))
set_option maxRecDepth 100000 in
theorem ok_Fm_isLink {G : Gm} {l : Launch} {d : Nat} (v1 : Int32) (M : Mm) {z : Bool}  (h : Fm_isLink v1 M = some z) : CK G l (d + 1) md_Fm_isLink [.ref 94, .int v1] M SS (some (.int (b2i z))) M SS := by
  refine ck_of mk_Fm_isLink (Nat.le_of_ble_eq_true rfl) ⟨Nat.le_refl _, Nat.le_refl _⟩ (fun X hX hT hS hr hl => ?_)
  subst hl
  unfold Fm_isLink at h
  show WR G X (mQ G X (some (.int (b2i z))) M SS) 0 [.ref 94, .int v1] [] M SS
  refine r_iload_n hX dX9_isLink_0 rfl ?_
  refine r_iconst (v := (0 : Int32)) hX dX9_isLink_1 (by decide) ?_
  refine r_aload_n hX dX9_isLink_2 rfl ?_
  refine r_getf (v := .ref 95) hX dX9_isLink_3 fl_9_7 rfl (by decide) (by decide) rfl ?_
  refine r_iconst (v := (3 : Int32)) hX dX9_isLink_6 (by decide) ?_
  obtain ⟨k1, h⟩ := grd_s h
  refine r_iald hX dX9_isLink_7 rfl (by decide) (inb_at rfl k1) ?_
  refine r_iconst (v := (1 : Int32)) hX dX9_isLink_8 (by decide) ?_
  refine r_isub hX dX9_isLink_9 ?_
  obtain ⟨z2, p3, h⟩ := bnd_s h
  refine r_callS (As := [.int v1, .int (0 : Int32), .int ((M.1 95 (tn (3 : Int32))) - (1 : Int32))]) hX dX9_isLink_10 mk_Fm_in ms_Fm_in ml_9_83 rfl rfl rfl (Nat.le_of_ble_eq_true rfl) hr (ok_Fm_in (d := d + 0) v1 (0 : Int32) ((M.1 95 (tn (3 : Int32))) - (1 : Int32)) M p3) ?_
  obtain rfl := Option.some.inj h
  exact r_iret hX hT dX9_isLink_13 (okI_b _).1
def Fm_cuts_j71 (v2 : Int32) (v3 : Int32) (M : Mm) : Option ((Int32 × Int32 × Mm) ⊕ (Int32 × Mm)) :=
  some (.inl (v2, v3 + (1 : Int32), M))
def Fm_cuts_b24 (c1 : Int32) (v2 : Int32) (v3 : Int32) (M : Mm) : Option ((Int32 × Int32 × Mm) ⊕ (Int32 × Mm)) :=
  grd (inb (7 : Int32) 12256) (
  if (M.1 95 (tn (7 : Int32))) ≤ v3 then
    some (.inr (v2, M))
  else
    bnd (Fm_isLit v3 M) (fun z5 =>
    if z5 = true then
      bnd (Fm_of v3 (6 : Int32) M) (fun z8 =>
      bnd (Fm_has z8 c1 M) (fun z10 =>
      if z10 = true then
        bnd (Fm_sets v3 (3 : Int32) (2 : Int32) M) (fun z13 =>
        Fm_cuts_j71 (v2 + (1 : Int32)) v3 z13)
      else
        Fm_cuts_j71 v2 v3 M))
    else
      Fm_cuts_j71 v2 v3 M))
def Fm_cuts (n : Nat) (v1 : Int32) (M : Mm) : Option (Int32 × Mm) :=
  grd (inb (12 : Int32) 12256) (
  grd (inb (12 : Int32) 12256) (
  bnd (loop (fun s1 : Int32 × Int32 × Mm => Fm_cuts_b24 v1 s1.1 s1.2.1 s1.2.2) n ((0 : Int32), (0 : Int32), ((up2 M.1 95 (tn (12 : Int32)) ((M.1 95 (tn (12 : Int32))) &&& (((1 : Int32) <<< (v1 &&& 31)) ^^^ (-1 : Int32)))), M.2))) (fun y15 =>
  some (y15.1, y15.2))))
set_option maxRecDepth 100000 in
theorem ok_Fm_cuts_j71 (n : Nat) (v2 : Int32) (v3 : Int32) (M : Mm) {c1 : Int32} {z : Int32 × Mm} {oo : (Int32 × Int32 × Mm) ⊕ (Int32 × Mm)} {G : Gm} {X : Cx} {d : Nat}  (hX : XK G X 9 cX9_cuts 4 (d + 2)) (hT : XT X (some .int) "cuts") (hr : XR X SS) (hc : ∀ s1 : Int32 × Int32 × Mm, oo = .inl s1 → WR G X (mQ G X (some (.int z.1)) z.2 SS) 24 [.ref 94, .int c1, .int s1.1, .int s1.2.1] [] s1.2.2 SS) (hx : ∀ x1 : Int32 × Mm, oo = .inr x1 → WR G X (mQ G X (some (.int z.1)) z.2 SS) 77 [.ref 94, vU, .int x1.1, vU] [] x1.2 SS) (h : Fm_cuts_j71 v2 v3 M = some oo) : WR G X (mQ G X (some (.int z.1)) z.2 SS) 71 [.ref 94, .int c1, .int v2, .int v3] [] M SS := by
  unfold Fm_cuts_j71 at h
  refine r_iinc (v := v3 + (1 : Int32)) (L1 := [.ref 94, .int c1, .int v2, .int (v3 + (1 : Int32))]) hX dX9_cuts_71 rfl rfl rfl ?_
  refine r_goto (tgt := 24) hX dX9_cuts_74 (by decide) ?_
  exact hc (v2, v3 + (1 : Int32), M) (Option.some.inj h).symm
set_option maxRecDepth 100000 in
theorem ok_Fm_cuts_b24 (n : Nat) (v2 : Int32) (v3 : Int32) (M : Mm) {c1 : Int32} {z : Int32 × Mm} {oo : (Int32 × Int32 × Mm) ⊕ (Int32 × Mm)} {G : Gm} {X : Cx} {d : Nat}  (hX : XK G X 9 cX9_cuts 4 (d + 2)) (hT : XT X (some .int) "cuts") (hr : XR X SS) (hc : ∀ s1 : Int32 × Int32 × Mm, oo = .inl s1 → WR G X (mQ G X (some (.int z.1)) z.2 SS) 24 [.ref 94, .int c1, .int s1.1, .int s1.2.1] [] s1.2.2 SS) (hx : ∀ x1 : Int32 × Mm, oo = .inr x1 → WR G X (mQ G X (some (.int z.1)) z.2 SS) 77 [.ref 94, vU, .int x1.1, vU] [] x1.2 SS) (h : Fm_cuts_b24 c1 v2 v3 M = some oo) : WR G X (mQ G X (some (.int z.1)) z.2 SS) 24 [.ref 94, .int c1, .int v2, .int v3] [] M SS := by
  unfold Fm_cuts_b24 at h
  refine r_iload_n hX dX9_cuts_24 rfl ?_
  refine r_aload_n hX dX9_cuts_25 rfl ?_
  refine r_getf (v := .ref 95) hX dX9_cuts_26 fl_9_7 rfl (by decide) (by decide) rfl ?_
  refine r_bipush (v := (7 : Int32)) hX dX9_cuts_29 (by decide) ?_
  obtain ⟨k3, h⟩ := grd_s h
  refine r_iald hX dX9_cuts_31 rfl (by decide) (inb_at rfl k3) ?_
  refine r_icmp_ge (tgt := 77) hX dX9_cuts_32 (by decide) (fun g4 => ?_) (fun g4 => ?_)
  · have h := (if_pos g4).symm.trans h
    refine WR.fg (L' := [.ref 94, vU, .int v2, vU]) ⟨Or.inr rfl, Or.inl rfl, Or.inr rfl, Or.inl rfl, trivial⟩ ?_
    exact hx _ (Option.some.inj h).symm
  · have h := (if_neg g4).symm.trans h
    refine r_aload_n hX dX9_cuts_35 rfl ?_
    refine r_iload_n hX dX9_cuts_36 rfl ?_
    obtain ⟨z5, p6, h⟩ := bnd_s h
    refine r_callV (As := [.int v3]) hX dX9_cuts_37 mk_Fm_isLit mi_Fm_isLit ml_9_219 rfl rfl rfl rfl (by decide) (by decide) (Nat.le_of_ble_eq_true rfl) hr (ok_Fm_isLit (d := d + 0) v3 M p6) ?_
    refine r_ifb_eq (tgt := 71) hX dX9_cuts_40 (by decide) (fun g7 => ?_) (fun g7 => ?_)
    · have h := (if_neg (show ¬ z5 = true from fun e => by rw [g7] at e; cases e)).symm.trans h
      exact ok_Fm_cuts_j71 n v2 v3 M   hX hT hr hc hx h
    · have h := (if_pos g7).symm.trans h
      refine r_aload_n hX dX9_cuts_43 rfl ?_
      refine r_iload_n hX dX9_cuts_44 rfl ?_
      refine r_bipush (v := (6 : Int32)) hX dX9_cuts_45 (by decide) ?_
      obtain ⟨z8, p9, h⟩ := bnd_s h
      refine r_callV (As := [.int v3, .int (6 : Int32)]) hX dX9_cuts_47 mk_Fm_of mi_Fm_of ml_9_79 rfl rfl rfl rfl (by decide) (by decide) (Nat.le_of_ble_eq_true rfl) hr (ok_Fm_of (d := d + 1) v3 (6 : Int32) M p9) ?_
      refine r_iload_n hX dX9_cuts_50 rfl ?_
      obtain ⟨z10, p11, h⟩ := bnd_s h
      refine r_callS (As := [.int z8, .int c1]) hX dX9_cuts_51 mk_Fm_has ms_Fm_has ml_9_179 rfl rfl rfl (Nat.le_of_ble_eq_true rfl) hr (ok_Fm_has (d := d + 1) z8 c1 M p11) ?_
      refine r_ifb_ne (tgt := 60) hX dX9_cuts_54 (by decide) (fun g12 => ?_) (fun g12 => ?_)
      · have h := (if_pos g12).symm.trans h
        refine r_aload_n hX dX9_cuts_60 rfl ?_
        refine r_iload_n hX dX9_cuts_61 rfl ?_
        refine r_iconst (v := (3 : Int32)) hX dX9_cuts_62 (by decide) ?_
        refine r_iconst (v := (2 : Int32)) hX dX9_cuts_63 (by decide) ?_
        obtain ⟨z13, p14, h⟩ := bnd_s h
        refine r_callV (As := [.int v3, .int (3 : Int32), .int (2 : Int32)]) hX dX9_cuts_64 mk_Fm_sets mi_Fm_sets ml_9_256 rfl rfl rfl rfl (by decide) (by decide) (Nat.le_of_ble_eq_true rfl) hr (ok_Fm_sets (d := d + 1) v3 (3 : Int32) (2 : Int32) M p14) ?_
        refine r_iload_n hX dX9_cuts_67 rfl ?_
        refine r_iconst (v := (1 : Int32)) hX dX9_cuts_68 (by decide) ?_
        refine r_iadd hX dX9_cuts_69 ?_
        refine r_istore_n (L1 := [.ref 94, .int c1, .int (v2 + (1 : Int32)), .int v3]) hX dX9_cuts_70 (Nat.le_of_ble_eq_true rfl) rfl ?_
        exact ok_Fm_cuts_j71 n (v2 + (1 : Int32)) v3 z13   hX hT hr hc hx h
      · have h := (if_neg (show ¬ z10 = true from fun e => by rw [g12] at e; cases e)).symm.trans h
        refine r_goto (tgt := 71) hX dX9_cuts_57 (by decide) ?_
        exact ok_Fm_cuts_j71 n v2 v3 M   hX hT hr hc hx h
set_option maxRecDepth 100000 in
theorem ok_Fm_cuts {G : Gm} {l : Launch} {d : Nat} (n : Nat) (v1 : Int32) (M : Mm) {z : Int32 × Mm}  (h : Fm_cuts n v1 M = some z) : CK G l (d + 2) md_Fm_cuts [.ref 94, .int v1] M SS (some (.int z.1)) z.2 SS := by
  refine ck_of mk_Fm_cuts (Nat.le_of_ble_eq_true rfl) ⟨Nat.le_refl _, Nat.le_refl _⟩ (fun X hX hT hS hr hl => ?_)
  subst hl
  unfold Fm_cuts at h
  show WR G X (mQ G X (some (.int z.1)) z.2 SS) 0 [.ref 94, .int v1, vU, vU] [] M SS
  refine r_aload_n hX dX9_cuts_0 rfl ?_
  refine r_getf (v := .ref 95) hX dX9_cuts_1 fl_9_7 rfl (by decide) (by decide) rfl ?_
  refine r_bipush (v := (12 : Int32)) hX dX9_cuts_4 (by decide) ?_
  refine r_aload_n hX dX9_cuts_6 rfl ?_
  refine r_getf (v := .ref 95) hX dX9_cuts_7 fl_9_7 rfl (by decide) (by decide) rfl ?_
  refine r_bipush (v := (12 : Int32)) hX dX9_cuts_10 (by decide) ?_
  obtain ⟨k1, h⟩ := grd_s h
  refine r_iald hX dX9_cuts_12 rfl (by decide) (inb_at rfl k1) ?_
  refine r_iconst (v := (1 : Int32)) hX dX9_cuts_13 (by decide) ?_
  refine r_iload_n hX dX9_cuts_14 rfl ?_
  refine r_ishl hX dX9_cuts_15 ?_
  refine r_iconst (v := (-1 : Int32)) hX dX9_cuts_16 (by decide) ?_
  refine r_ixor hX dX9_cuts_17 ?_
  refine r_iand hX dX9_cuts_18 ?_
  obtain ⟨k2, h⟩ := grd_s h
  refine r_iast hX dX9_cuts_19 rfl (by decide) (inb_at rfl k2) ?_
  refine r_iconst (v := (0 : Int32)) hX dX9_cuts_20 (by decide) ?_
  refine r_istore_n (L1 := [.ref 94, .int v1, .int (0 : Int32), vU]) hX dX9_cuts_21 (Nat.le_of_ble_eq_true rfl) rfl ?_
  refine r_iconst (v := (0 : Int32)) hX dX9_cuts_22 (by decide) ?_
  refine r_istore_n (L1 := [.ref 94, .int v1, .int (0 : Int32), .int (0 : Int32)]) hX dX9_cuts_23 (Nat.le_of_ble_eq_true rfl) rfl ?_
  obtain ⟨y15, h1, h⟩ := bnd_s h
  refine loop_ok (P := fun s1 : Int32 × Int32 × Mm => WR G X (mQ G X (some (.int z.1)) z.2 SS) 24 [.ref 94, .int v1, .int s1.1, .int s1.2.1] [] s1.2.2 SS) (E := fun x1 : Int32 × Mm => WR G X (mQ G X (some (.int z.1)) z.2 SS) 77 [.ref 94, vU, .int x1.1, vU] [] x1.2 SS) (fun s1 o1 g1 g2 g3 => ok_Fm_cuts_b24 n s1.1 s1.2.1 s1.2.2  hX hT hr g2 g3 g1) n ((0 : Int32), (0 : Int32), ((up2 M.1 95 (tn (12 : Int32)) ((M.1 95 (tn (12 : Int32))) &&& (((1 : Int32) <<< (v1 &&& 31)) ^^^ (-1 : Int32)))), M.2)) y15 h1 ?_
  show WR G X (mQ G X (some (.int z.1)) z.2 SS) 77 [.ref 94, vU, .int y15.1, vU] [] y15.2 SS
  refine r_iload_n hX dX9_cuts_77 rfl ?_
  obtain rfl := Option.some.inj h
  exact r_iret hX hT dX9_cuts_78 rfl
def Fm_cut (n : Nat) (v1 : Int32) (M : Mm) : Option (Int32 × Mm) :=
  bnd (Fm_isLink v1 M) (fun z1 =>
  if z1 = true then
    bnd (Fm_isUp v1 M) (fun z4 =>
    if z4 = true then
      bnd (Fm_cuts n v1 M) (fun z7 =>
      some (z7.1, z7.2))
    else
      some ((-2 : Int32), M))
  else
    some ((-1 : Int32), M))
set_option maxRecDepth 100000 in
theorem ok_Fm_cut {G : Gm} {l : Launch} {d : Nat} (n : Nat) (v1 : Int32) (M : Mm) {z : Int32 × Mm}  (h : Fm_cut n v1 M = some z) : CK G l (d + 3) md_Fm_cut [.ref 94, .int v1] M SS (some (.int z.1)) z.2 SS := by
  refine ck_of mk_Fm_cut (Nat.le_of_ble_eq_true rfl) ⟨Nat.le_refl _, Nat.le_refl _⟩ (fun X hX hT hS hr hl => ?_)
  subst hl
  unfold Fm_cut at h
  show WR G X (mQ G X (some (.int z.1)) z.2 SS) 0 [.ref 94, .int v1] [] M SS
  refine r_aload_n hX dX9_cut_0 rfl ?_
  refine r_iload_n hX dX9_cut_1 rfl ?_
  obtain ⟨z1, p2, h⟩ := bnd_s h
  refine r_callV (As := [.int v1]) hX dX9_cut_2 mk_Fm_isLink mi_Fm_isLink ml_9_296 rfl rfl rfl rfl (by decide) (by decide) (Nat.le_of_ble_eq_true rfl) hr (ok_Fm_isLink (d := d + 1) v1 M p2) ?_
  refine r_ifb_ne (tgt := 10) hX dX9_cut_5 (by decide) (fun g3 => ?_) (fun g3 => ?_)
  · have h := (if_pos g3).symm.trans h
    refine r_aload_n hX dX9_cut_10 rfl ?_
    refine r_iload_n hX dX9_cut_11 rfl ?_
    obtain ⟨z4, p5, h⟩ := bnd_s h
    refine r_callV (As := [.int v1]) hX dX9_cut_12 mk_Fm_isUp mi_Fm_isUp ml_9_182 rfl rfl rfl rfl (by decide) (by decide) (Nat.le_of_ble_eq_true rfl) hr (ok_Fm_isUp (d := d + 1) v1 M p5) ?_
    refine r_ifb_eq (tgt := 26) hX dX9_cut_15 (by decide) (fun g6 => ?_) (fun g6 => ?_)
    · have h := (if_neg (show ¬ z4 = true from fun e => by rw [g6] at e; cases e)).symm.trans h
      refine r_bipush (v := (-2 : Int32)) hX dX9_cut_26 (by decide) ?_
      obtain rfl := Option.some.inj h
      exact r_iret hX hT dX9_cut_28 rfl
    · have h := (if_pos g6).symm.trans h
      refine r_aload_n hX dX9_cut_18 rfl ?_
      refine r_iload_n hX dX9_cut_19 rfl ?_
      obtain ⟨z7, p8, h⟩ := bnd_s h
      refine r_callV (As := [.int v1]) hX dX9_cut_20 mk_Fm_cuts mi_Fm_cuts ml_9_299 rfl rfl rfl rfl (by decide) (by decide) (Nat.le_of_ble_eq_true rfl) hr (ok_Fm_cuts (d := d + 0) n v1 M p8) ?_
      refine r_goto (tgt := 28) hX dX9_cut_23 (by decide) ?_
      obtain rfl := Option.some.inj h
      exact r_iret hX hT dX9_cut_28 rfl
  · have h := (if_neg (show ¬ z1 = true from fun e => by rw [g3] at e; cases e)).symm.trans h
    refine r_iconst (v := (-1 : Int32)) hX dX9_cut_8 (by decide) ?_
    obtain rfl := Option.some.inj h
    exact r_iret hX hT dX9_cut_9 rfl
def Fm_mend (v1 : Int32) (M : Mm) : Option (Bool × Mm) :=
  bnd (Fm_isLink v1 M) (fun z1 =>
  if z1 = true then
    bnd (Fm_isUp v1 M) (fun z4 =>
    if z4 = true then
      some (false, M)
    else
      grd (inb (12 : Int32) 12256) (
      grd (inb (12 : Int32) 12256) (
      some (true, ((up2 M.1 95 (tn (12 : Int32)) ((M.1 95 (tn (12 : Int32))) ||| ((1 : Int32) <<< (v1 &&& 31)))), M.2)))))
  else
    some (false, M))
set_option maxRecDepth 100000 in
theorem ok_Fm_mend {G : Gm} {l : Launch} {d : Nat} (v1 : Int32) (M : Mm) {z : Bool × Mm}  (h : Fm_mend v1 M = some z) : CK G l (d + 2) md_Fm_mend [.ref 94, .int v1] M SS (some (.int (b2i z.1))) z.2 SS := by
  refine ck_of mk_Fm_mend (Nat.le_of_ble_eq_true rfl) ⟨Nat.le_refl _, Nat.le_refl _⟩ (fun X hX hT hS hr hl => ?_)
  subst hl
  unfold Fm_mend at h
  show WR G X (mQ G X (some (.int (b2i z.1))) z.2 SS) 0 [.ref 94, .int v1] [] M SS
  refine r_aload_n hX dX9_mend_0 rfl ?_
  refine r_iload_n hX dX9_mend_1 rfl ?_
  obtain ⟨z1, p2, h⟩ := bnd_s h
  refine r_callV (As := [.int v1]) hX dX9_mend_2 mk_Fm_isLink mi_Fm_isLink ml_9_296 rfl rfl rfl rfl (by decide) (by decide) (Nat.le_of_ble_eq_true rfl) hr (ok_Fm_isLink (d := d + 0) v1 M p2) ?_
  refine r_ifb_eq (tgt := 16) hX dX9_mend_5 (by decide) (fun g3 => ?_) (fun g3 => ?_)
  · have h := (if_neg (show ¬ z1 = true from fun e => by rw [g3] at e; cases e)).symm.trans h
    refine r_iconst (v := (0 : Int32)) hX dX9_mend_16 (by decide) ?_
    obtain rfl := Option.some.inj h
    exact r_iret (v := b2i false) hX hT dX9_mend_17 (okI_b false).1
  · have h := (if_pos g3).symm.trans h
    refine r_aload_n hX dX9_mend_8 rfl ?_
    refine r_iload_n hX dX9_mend_9 rfl ?_
    obtain ⟨z4, p5, h⟩ := bnd_s h
    refine r_callV (As := [.int v1]) hX dX9_mend_10 mk_Fm_isUp mi_Fm_isUp ml_9_182 rfl rfl rfl rfl (by decide) (by decide) (Nat.le_of_ble_eq_true rfl) hr (ok_Fm_isUp (d := d + 0) v1 M p5) ?_
    refine r_ifb_eq (tgt := 18) hX dX9_mend_13 (by decide) (fun g6 => ?_) (fun g6 => ?_)
    · have h := (if_neg (show ¬ z4 = true from fun e => by rw [g6] at e; cases e)).symm.trans h
      refine r_aload_n hX dX9_mend_18 rfl ?_
      refine r_getf (v := .ref 95) hX dX9_mend_19 fl_9_7 rfl (by decide) (by decide) rfl ?_
      refine r_bipush (v := (12 : Int32)) hX dX9_mend_22 (by decide) ?_
      refine r_aload_n hX dX9_mend_24 rfl ?_
      refine r_getf (v := .ref 95) hX dX9_mend_25 fl_9_7 rfl (by decide) (by decide) rfl ?_
      refine r_bipush (v := (12 : Int32)) hX dX9_mend_28 (by decide) ?_
      obtain ⟨k7, h⟩ := grd_s h
      refine r_iald hX dX9_mend_30 rfl (by decide) (inb_at rfl k7) ?_
      refine r_iconst (v := (1 : Int32)) hX dX9_mend_31 (by decide) ?_
      refine r_iload_n hX dX9_mend_32 rfl ?_
      refine r_ishl hX dX9_mend_33 ?_
      refine r_ior hX dX9_mend_34 ?_
      obtain ⟨k8, h⟩ := grd_s h
      refine r_iast hX dX9_mend_35 rfl (by decide) (inb_at rfl k8) ?_
      refine r_iconst (v := (1 : Int32)) hX dX9_mend_36 (by decide) ?_
      obtain rfl := Option.some.inj h
      exact r_iret (v := b2i true) hX hT dX9_mend_37 (okI_b true).1
    · have h := (if_pos g6).symm.trans h
      refine r_iconst (v := (0 : Int32)) hX dX9_mend_16 (by decide) ?_
      obtain rfl := Option.some.inj h
      exact r_iret (v := b2i false) hX hT dX9_mend_17 (okI_b false).1
def Fm_relights_j63 (v2 : Int32) (v3 : Int32) (M : Mm) : Option ((Int32 × Int32 × Mm) ⊕ (Int32 × Mm)) :=
  some (.inl (v2, v3 + (1 : Int32), M))
def Fm_relights_b4 (n : Nat) (c1 : Int32) (v2 : Int32) (v3 : Int32) (M : Mm) : Option ((Int32 × Int32 × Mm) ⊕ (Int32 × Mm)) :=
  grd (inb (7 : Int32) 12256) (
  if (M.1 95 (tn (7 : Int32))) ≤ v3 then
    some (.inr (v2, M))
  else
    bnd (Fm_of v3 (3 : Int32) M) (fun z3 =>
    if z3 = (2 : Int32) then
      bnd (Fm_of v3 (0 : Int32) M) (fun z6 =>
      bnd (Fm_of v3 (1 : Int32) M) (fun z8 =>
      bnd (Fm_of v3 (2 : Int32) M) (fun z10 =>
      bnd (Fm_findsFor n z6 z8 z10 c1 M) (fun z12 =>
      if z12.1 = true then
        bnd (Fm_lights v3 z12.2) (fun z15 =>
        Fm_relights_j63 (v2 + (1 : Int32)) v3 z15)
      else
        Fm_relights_j63 v2 v3 z12.2))))
    else
      Fm_relights_j63 v2 v3 M))
def Fm_relights (n : Nat) (v1 : Int32) (M : Mm) : Option (Int32 × Mm) :=
  bnd (loop (fun s1 : Int32 × Int32 × Mm => Fm_relights_b4 n v1 s1.1 s1.2.1 s1.2.2) n ((0 : Int32), (0 : Int32), M)) (fun y17 =>
  some (y17.1, y17.2))
set_option maxRecDepth 100000 in
theorem ok_Fm_relights_j63 (n : Nat) (v2 : Int32) (v3 : Int32) (M : Mm) {c1 : Int32} {z : Int32 × Mm} {oo : (Int32 × Int32 × Mm) ⊕ (Int32 × Mm)} {G : Gm} {X : Cx} {d : Nat}  (hX : XK G X 9 cX9_relights 4 (d + 6)) (hT : XT X (some .int) "relights") (hr : XR X SS) (hc : ∀ s1 : Int32 × Int32 × Mm, oo = .inl s1 → WR G X (mQ G X (some (.int z.1)) z.2 SS) 4 [.ref 94, .int c1, .int s1.1, .int s1.2.1] [] s1.2.2 SS) (hx : ∀ x1 : Int32 × Mm, oo = .inr x1 → WR G X (mQ G X (some (.int z.1)) z.2 SS) 69 [.ref 94, vU, .int x1.1, vU] [] x1.2 SS) (h : Fm_relights_j63 v2 v3 M = some oo) : WR G X (mQ G X (some (.int z.1)) z.2 SS) 63 [.ref 94, .int c1, .int v2, .int v3] [] M SS := by
  unfold Fm_relights_j63 at h
  refine r_iinc (v := v3 + (1 : Int32)) (L1 := [.ref 94, .int c1, .int v2, .int (v3 + (1 : Int32))]) hX dX9_relights_63 rfl rfl rfl ?_
  refine r_goto (tgt := 4) hX dX9_relights_66 (by decide) ?_
  exact hc (v2, v3 + (1 : Int32), M) (Option.some.inj h).symm
set_option maxRecDepth 100000 in
theorem ok_Fm_relights_b4 (n : Nat) (v2 : Int32) (v3 : Int32) (M : Mm) {c1 : Int32} {z : Int32 × Mm} {oo : (Int32 × Int32 × Mm) ⊕ (Int32 × Mm)} {G : Gm} {X : Cx} {d : Nat}  (hX : XK G X 9 cX9_relights 4 (d + 6)) (hT : XT X (some .int) "relights") (hr : XR X SS) (hc : ∀ s1 : Int32 × Int32 × Mm, oo = .inl s1 → WR G X (mQ G X (some (.int z.1)) z.2 SS) 4 [.ref 94, .int c1, .int s1.1, .int s1.2.1] [] s1.2.2 SS) (hx : ∀ x1 : Int32 × Mm, oo = .inr x1 → WR G X (mQ G X (some (.int z.1)) z.2 SS) 69 [.ref 94, vU, .int x1.1, vU] [] x1.2 SS) (h : Fm_relights_b4 n c1 v2 v3 M = some oo) : WR G X (mQ G X (some (.int z.1)) z.2 SS) 4 [.ref 94, .int c1, .int v2, .int v3] [] M SS := by
  unfold Fm_relights_b4 at h
  refine r_iload_n hX dX9_relights_4 rfl ?_
  refine r_aload_n hX dX9_relights_5 rfl ?_
  refine r_getf (v := .ref 95) hX dX9_relights_6 fl_9_7 rfl (by decide) (by decide) rfl ?_
  refine r_bipush (v := (7 : Int32)) hX dX9_relights_9 (by decide) ?_
  obtain ⟨k1, h⟩ := grd_s h
  refine r_iald hX dX9_relights_11 rfl (by decide) (inb_at rfl k1) ?_
  refine r_icmp_ge (tgt := 69) hX dX9_relights_12 (by decide) (fun g2 => ?_) (fun g2 => ?_)
  · have h := (if_pos g2).symm.trans h
    refine WR.fg (L' := [.ref 94, vU, .int v2, vU]) ⟨Or.inr rfl, Or.inl rfl, Or.inr rfl, Or.inl rfl, trivial⟩ ?_
    exact hx _ (Option.some.inj h).symm
  · have h := (if_neg g2).symm.trans h
    refine r_aload_n hX dX9_relights_15 rfl ?_
    refine r_iload_n hX dX9_relights_16 rfl ?_
    refine r_iconst (v := (3 : Int32)) hX dX9_relights_17 (by decide) ?_
    obtain ⟨z3, p4, h⟩ := bnd_s h
    refine r_callV (As := [.int v3, .int (3 : Int32)]) hX dX9_relights_18 mk_Fm_of mi_Fm_of ml_9_79 rfl rfl rfl rfl (by decide) (by decide) (Nat.le_of_ble_eq_true rfl) hr (ok_Fm_of (d := d + 5) v3 (3 : Int32) M p4) ?_
    refine r_iconst (v := (2 : Int32)) hX dX9_relights_21 (by decide) ?_
    refine r_icmp_ne (tgt := 63) hX dX9_relights_22 (by decide) (fun g5 => ?_) (fun g5 => ?_)
    · have h := (if_neg g5).symm.trans h
      exact ok_Fm_relights_j63 n v2 v3 M   hX hT hr hc hx h
    · have h := (if_pos g5).symm.trans h
      refine r_aload_n hX dX9_relights_25 rfl ?_
      refine r_aload_n hX dX9_relights_26 rfl ?_
      refine r_iload_n hX dX9_relights_27 rfl ?_
      refine r_iconst (v := (0 : Int32)) hX dX9_relights_28 (by decide) ?_
      obtain ⟨z6, p7, h⟩ := bnd_s h
      refine r_callV (As := [.int v3, .int (0 : Int32)]) hX dX9_relights_29 mk_Fm_of mi_Fm_of ml_9_79 rfl rfl rfl rfl (by decide) (by decide) (Nat.le_of_ble_eq_true rfl) hr (ok_Fm_of (d := d + 5) v3 (0 : Int32) M p7) ?_
      refine r_aload_n hX dX9_relights_32 rfl ?_
      refine r_iload_n hX dX9_relights_33 rfl ?_
      refine r_iconst (v := (1 : Int32)) hX dX9_relights_34 (by decide) ?_
      obtain ⟨z8, p9, h⟩ := bnd_s h
      refine r_callV (As := [.int v3, .int (1 : Int32)]) hX dX9_relights_35 mk_Fm_of mi_Fm_of ml_9_79 rfl rfl rfl rfl (by decide) (by decide) (Nat.le_of_ble_eq_true rfl) hr (ok_Fm_of (d := d + 5) v3 (1 : Int32) M p9) ?_
      refine r_aload_n hX dX9_relights_38 rfl ?_
      refine r_iload_n hX dX9_relights_39 rfl ?_
      refine r_iconst (v := (2 : Int32)) hX dX9_relights_40 (by decide) ?_
      obtain ⟨z10, p11, h⟩ := bnd_s h
      refine r_callV (As := [.int v3, .int (2 : Int32)]) hX dX9_relights_41 mk_Fm_of mi_Fm_of ml_9_79 rfl rfl rfl rfl (by decide) (by decide) (Nat.le_of_ble_eq_true rfl) hr (ok_Fm_of (d := d + 5) v3 (2 : Int32) M p11) ?_
      refine r_iload_n hX dX9_relights_44 rfl ?_
      obtain ⟨z12, p13, h⟩ := bnd_s h
      refine r_callV (As := [.int z6, .int z8, .int z10, .int c1]) hX dX9_relights_45 mk_Fm_findsFor mi_Fm_findsFor ml_9_271 rfl rfl rfl rfl (by decide) (by decide) (Nat.le_of_ble_eq_true rfl) hr (ok_Fm_findsFor (d := d + 0) n z6 z8 z10 c1 M p13) ?_
      refine r_ifb_ne (tgt := 54) hX dX9_relights_48 (by decide) (fun g14 => ?_) (fun g14 => ?_)
      · have h := (if_pos g14).symm.trans h
        refine r_aload_n hX dX9_relights_54 rfl ?_
        refine r_iload_n hX dX9_relights_55 rfl ?_
        obtain ⟨z15, p16, h⟩ := bnd_s h
        refine r_callV (As := [.int v3]) hX dX9_relights_56 mk_Fm_lights mi_Fm_lights ml_9_259 rfl rfl rfl rfl (by decide) (by decide) (Nat.le_of_ble_eq_true rfl) hr (ok_Fm_lights (d := d + 4) v3 z12.2 p16) ?_
        refine r_iload_n hX dX9_relights_59 rfl ?_
        refine r_iconst (v := (1 : Int32)) hX dX9_relights_60 (by decide) ?_
        refine r_iadd hX dX9_relights_61 ?_
        refine r_istore_n (L1 := [.ref 94, .int c1, .int (v2 + (1 : Int32)), .int v3]) hX dX9_relights_62 (Nat.le_of_ble_eq_true rfl) rfl ?_
        exact ok_Fm_relights_j63 n (v2 + (1 : Int32)) v3 z15   hX hT hr hc hx h
      · have h := (if_neg (show ¬ z12.1 = true from fun e => by rw [g14] at e; cases e)).symm.trans h
        refine r_goto (tgt := 63) hX dX9_relights_51 (by decide) ?_
        exact ok_Fm_relights_j63 n v2 v3 z12.2   hX hT hr hc hx h
set_option maxRecDepth 100000 in
theorem ok_Fm_relights {G : Gm} {l : Launch} {d : Nat} (n : Nat) (v1 : Int32) (M : Mm) {z : Int32 × Mm}  (h : Fm_relights n v1 M = some z) : CK G l (d + 6) md_Fm_relights [.ref 94, .int v1] M SS (some (.int z.1)) z.2 SS := by
  refine ck_of mk_Fm_relights (Nat.le_of_ble_eq_true rfl) ⟨Nat.le_refl _, Nat.le_refl _⟩ (fun X hX hT hS hr hl => ?_)
  subst hl
  unfold Fm_relights at h
  show WR G X (mQ G X (some (.int z.1)) z.2 SS) 0 [.ref 94, .int v1, vU, vU] [] M SS
  refine r_iconst (v := (0 : Int32)) hX dX9_relights_0 (by decide) ?_
  refine r_istore_n (L1 := [.ref 94, .int v1, .int (0 : Int32), vU]) hX dX9_relights_1 (Nat.le_of_ble_eq_true rfl) rfl ?_
  refine r_iconst (v := (0 : Int32)) hX dX9_relights_2 (by decide) ?_
  refine r_istore_n (L1 := [.ref 94, .int v1, .int (0 : Int32), .int (0 : Int32)]) hX dX9_relights_3 (Nat.le_of_ble_eq_true rfl) rfl ?_
  obtain ⟨y17, h1, h⟩ := bnd_s h
  refine loop_ok (P := fun s1 : Int32 × Int32 × Mm => WR G X (mQ G X (some (.int z.1)) z.2 SS) 4 [.ref 94, .int v1, .int s1.1, .int s1.2.1] [] s1.2.2 SS) (E := fun x1 : Int32 × Mm => WR G X (mQ G X (some (.int z.1)) z.2 SS) 69 [.ref 94, vU, .int x1.1, vU] [] x1.2 SS) (fun s1 o1 g1 g2 g3 => ok_Fm_relights_b4 n s1.1 s1.2.1 s1.2.2  hX hT hr g2 g3 g1) n ((0 : Int32), (0 : Int32), M) y17 h1 ?_
  show WR G X (mQ G X (some (.int z.1)) z.2 SS) 69 [.ref 94, vU, .int y17.1, vU] [] y17.2 SS
  refine r_iload_n hX dX9_relights_69 rfl ?_
  obtain rfl := Option.some.inj h
  exact r_iret hX hT dX9_relights_70 rfl
def Fm_relight (n : Nat) (v1 : Int32) (M : Mm) : Option (Int32 × Mm) :=
  bnd (Fm_isRule v1 M) (fun z1 =>
  if z1 = true then
    bnd (Fm_relights n v1 M) (fun z4 =>
    some (z4.1, z4.2))
  else
    some ((-1 : Int32), M))
set_option maxRecDepth 100000 in
theorem ok_Fm_relight {G : Gm} {l : Launch} {d : Nat} (n : Nat) (v1 : Int32) (M : Mm) {z : Int32 × Mm}  (h : Fm_relight n v1 M = some z) : CK G l (d + 7) md_Fm_relight [.ref 94, .int v1] M SS (some (.int z.1)) z.2 SS := by
  refine ck_of mk_Fm_relight (Nat.le_of_ble_eq_true rfl) ⟨Nat.le_refl _, Nat.le_refl _⟩ (fun X hX hT hS hr hl => ?_)
  subst hl
  unfold Fm_relight at h
  show WR G X (mQ G X (some (.int z.1)) z.2 SS) 0 [.ref 94, .int v1] [] M SS
  refine r_iload_n hX dX9_relight_0 rfl ?_
  obtain ⟨z1, p2, h⟩ := bnd_s h
  refine r_callS (As := [.int v1]) hX dX9_relight_1 mk_Fm_isRule ms_Fm_isRule ml_9_265 rfl rfl rfl (Nat.le_of_ble_eq_true rfl) hr (ok_Fm_isRule (d := d + 5) v1 M p2) ?_
  refine r_ifb_eq (tgt := 15) hX dX9_relight_4 (by decide) (fun g3 => ?_) (fun g3 => ?_)
  · have h := (if_neg (show ¬ z1 = true from fun e => by rw [g3] at e; cases e)).symm.trans h
    refine r_iconst (v := (-1 : Int32)) hX dX9_relight_15 (by decide) ?_
    obtain rfl := Option.some.inj h
    exact r_iret hX hT dX9_relight_16 rfl
  · have h := (if_pos g3).symm.trans h
    refine r_aload_n hX dX9_relight_7 rfl ?_
    refine r_iload_n hX dX9_relight_8 rfl ?_
    obtain ⟨z4, p5, h⟩ := bnd_s h
    refine r_callV (As := [.int v1]) hX dX9_relight_9 mk_Fm_relights mi_Fm_relights ml_9_302 rfl rfl rfl rfl (by decide) (by decide) (Nat.le_of_ble_eq_true rfl) hr (ok_Fm_relights (d := d + 0) n v1 M p5) ?_
    refine r_goto (tgt := 16) hX dX9_relight_12 (by decide) ?_
    obtain rfl := Option.some.inj h
    exact r_iret hX hT dX9_relight_16 rfl
def Fm_topOn_j55 (v2 : Int32) (v3 : Int32) : Option ((Int32 × Int32) ⊕ (Int32)) :=
  some (.inl (v2, v3 + (1 : Int32)))
def Fm_topOn_b4 (c1 : Int32) (Mc : Mm) (v2 : Int32) (v3 : Int32) : Option ((Int32 × Int32) ⊕ (Int32)) :=
  grd (inb (7 : Int32) 12256) (
  if (Mc.1 95 (tn (7 : Int32))) ≤ v3 then
    some (.inr v2)
  else
    bnd (Fm_isLit v3 Mc) (fun z3 =>
    if z3 = true then
      bnd (Fm_of v3 (6 : Int32) Mc) (fun z6 =>
      if (z6 &&& c1) = (0 : Int32) then
        Fm_topOn_j55 v2 v3
      else
        bnd (Fm_of v3 (4 : Int32) Mc) (fun z9 =>
        bnd (Fm_of v3 (5 : Int32) Mc) (fun z11 =>
        bnd (Fm_max v2 ((z9 + z11) - (1 : Int32)) Mc) (fun z13 =>
        Fm_topOn_j55 z13 v3))))
    else
      Fm_topOn_j55 v2 v3))
def Fm_topOn (n : Nat) (v1 : Int32) (M : Mm) : Option (Int32) :=
  bnd (loop (fun s1 : Int32 × Int32 => Fm_topOn_b4 v1 M s1.1 s1.2) n ((-1 : Int32), (0 : Int32))) (fun y15 =>
  some y15)
set_option maxRecDepth 100000 in
theorem ok_Fm_topOn_j55 (n : Nat) (v2 : Int32) (v3 : Int32) {c1 : Int32} {Mc : Mm} {z : Int32} {oo : (Int32 × Int32) ⊕ (Int32)} {G : Gm} {X : Cx} {d : Nat}  (hX : XK G X 9 cX9_topOn 4 (d + 2)) (hT : XT X (some .int) "topOn") (hr : XR X SS) (hc : ∀ s1 : Int32 × Int32, oo = .inl s1 → WR G X (mQ G X (some (.int z)) Mc SS) 4 [.ref 94, .int c1, .int s1.1, .int s1.2] [] Mc SS) (hx : ∀ x1 : Int32, oo = .inr x1 → WR G X (mQ G X (some (.int z)) Mc SS) 61 [.ref 94, vU, .int x1, vU] [] Mc SS) (h : Fm_topOn_j55 v2 v3 = some oo) : WR G X (mQ G X (some (.int z)) Mc SS) 55 [.ref 94, .int c1, .int v2, .int v3] [] Mc SS := by
  unfold Fm_topOn_j55 at h
  refine r_iinc (v := v3 + (1 : Int32)) (L1 := [.ref 94, .int c1, .int v2, .int (v3 + (1 : Int32))]) hX dX9_topOn_55 rfl rfl rfl ?_
  refine r_goto (tgt := 4) hX dX9_topOn_58 (by decide) ?_
  exact hc (v2, v3 + (1 : Int32)) (Option.some.inj h).symm
set_option maxRecDepth 100000 in
theorem ok_Fm_topOn_b4 (n : Nat) (v2 : Int32) (v3 : Int32) {c1 : Int32} {Mc : Mm} {z : Int32} {oo : (Int32 × Int32) ⊕ (Int32)} {G : Gm} {X : Cx} {d : Nat}  (hX : XK G X 9 cX9_topOn 4 (d + 2)) (hT : XT X (some .int) "topOn") (hr : XR X SS) (hc : ∀ s1 : Int32 × Int32, oo = .inl s1 → WR G X (mQ G X (some (.int z)) Mc SS) 4 [.ref 94, .int c1, .int s1.1, .int s1.2] [] Mc SS) (hx : ∀ x1 : Int32, oo = .inr x1 → WR G X (mQ G X (some (.int z)) Mc SS) 61 [.ref 94, vU, .int x1, vU] [] Mc SS) (h : Fm_topOn_b4 c1 Mc v2 v3 = some oo) : WR G X (mQ G X (some (.int z)) Mc SS) 4 [.ref 94, .int c1, .int v2, .int v3] [] Mc SS := by
  unfold Fm_topOn_b4 at h
  refine r_iload_n hX dX9_topOn_4 rfl ?_
  refine r_aload_n hX dX9_topOn_5 rfl ?_
  refine r_getf (v := .ref 95) hX dX9_topOn_6 fl_9_7 rfl (by decide) (by decide) rfl ?_
  refine r_bipush (v := (7 : Int32)) hX dX9_topOn_9 (by decide) ?_
  obtain ⟨k1, h⟩ := grd_s h
  refine r_iald hX dX9_topOn_11 rfl (by decide) (inb_at rfl k1) ?_
  refine r_icmp_ge (tgt := 61) hX dX9_topOn_12 (by decide) (fun g2 => ?_) (fun g2 => ?_)
  · have h := (if_pos g2).symm.trans h
    refine WR.fg (L' := [.ref 94, vU, .int v2, vU]) ⟨Or.inr rfl, Or.inl rfl, Or.inr rfl, Or.inl rfl, trivial⟩ ?_
    exact hx _ (Option.some.inj h).symm
  · have h := (if_neg g2).symm.trans h
    refine r_aload_n hX dX9_topOn_15 rfl ?_
    refine r_iload_n hX dX9_topOn_16 rfl ?_
    obtain ⟨z3, p4, h⟩ := bnd_s h
    refine r_callV (As := [.int v3]) hX dX9_topOn_17 mk_Fm_isLit mi_Fm_isLit ml_9_219 rfl rfl rfl rfl (by decide) (by decide) (Nat.le_of_ble_eq_true rfl) hr (ok_Fm_isLit (d := d + 0) v3 Mc p4) ?_
    refine r_ifb_eq (tgt := 55) hX dX9_topOn_20 (by decide) (fun g5 => ?_) (fun g5 => ?_)
    · have h := (if_neg (show ¬ z3 = true from fun e => by rw [g5] at e; cases e)).symm.trans h
      exact ok_Fm_topOn_j55 n v2 v3   hX hT hr hc hx h
    · have h := (if_pos g5).symm.trans h
      refine r_aload_n hX dX9_topOn_23 rfl ?_
      refine r_iload_n hX dX9_topOn_24 rfl ?_
      refine r_bipush (v := (6 : Int32)) hX dX9_topOn_25 (by decide) ?_
      obtain ⟨z6, p7, h⟩ := bnd_s h
      refine r_callV (As := [.int v3, .int (6 : Int32)]) hX dX9_topOn_27 mk_Fm_of mi_Fm_of ml_9_79 rfl rfl rfl rfl (by decide) (by decide) (Nat.le_of_ble_eq_true rfl) hr (ok_Fm_of (d := d + 1) v3 (6 : Int32) Mc p7) ?_
      refine r_iload_n hX dX9_topOn_30 rfl ?_
      refine r_iand hX dX9_topOn_31 ?_
      refine r_if_eq (tgt := 55) hX dX9_topOn_32 (by decide) (fun g8 => ?_) (fun g8 => ?_)
      · have h := (if_pos g8).symm.trans h
        exact ok_Fm_topOn_j55 n v2 v3   hX hT hr hc hx h
      · have h := (if_neg g8).symm.trans h
        refine r_iload_n hX dX9_topOn_35 rfl ?_
        refine r_aload_n hX dX9_topOn_36 rfl ?_
        refine r_iload_n hX dX9_topOn_37 rfl ?_
        refine r_iconst (v := (4 : Int32)) hX dX9_topOn_38 (by decide) ?_
        obtain ⟨z9, p10, h⟩ := bnd_s h
        refine r_callV (As := [.int v3, .int (4 : Int32)]) hX dX9_topOn_39 mk_Fm_of mi_Fm_of ml_9_79 rfl rfl rfl rfl (by decide) (by decide) (Nat.le_of_ble_eq_true rfl) hr (ok_Fm_of (d := d + 1) v3 (4 : Int32) Mc p10) ?_
        refine r_aload_n hX dX9_topOn_42 rfl ?_
        refine r_iload_n hX dX9_topOn_43 rfl ?_
        refine r_iconst (v := (5 : Int32)) hX dX9_topOn_44 (by decide) ?_
        obtain ⟨z11, p12, h⟩ := bnd_s h
        refine r_callV (As := [.int v3, .int (5 : Int32)]) hX dX9_topOn_45 mk_Fm_of mi_Fm_of ml_9_79 rfl rfl rfl rfl (by decide) (by decide) (Nat.le_of_ble_eq_true rfl) hr (ok_Fm_of (d := d + 1) v3 (5 : Int32) Mc p12) ?_
        refine r_iadd hX dX9_topOn_48 ?_
        refine r_iconst (v := (1 : Int32)) hX dX9_topOn_49 (by decide) ?_
        refine r_isub hX dX9_topOn_50 ?_
        obtain ⟨z13, p14, h⟩ := bnd_s h
        refine r_callS (As := [.int v2, .int ((z9 + z11) - (1 : Int32))]) hX dX9_topOn_51 mk_Fm_max ms_Fm_max ml_9_305 rfl rfl rfl (Nat.le_of_ble_eq_true rfl) hr (ok_Fm_max (d := d + 1) v2 ((z9 + z11) - (1 : Int32)) Mc p14) ?_
        refine r_istore_n (L1 := [.ref 94, .int c1, .int z13, .int v3]) hX dX9_topOn_54 (Nat.le_of_ble_eq_true rfl) rfl ?_
        exact ok_Fm_topOn_j55 n z13 v3   hX hT hr hc hx h
set_option maxRecDepth 100000 in
theorem ok_Fm_topOn {G : Gm} {l : Launch} {d : Nat} (n : Nat) (v1 : Int32) (M : Mm) {z : Int32}  (h : Fm_topOn n v1 M = some z) : CK G l (d + 2) md_Fm_topOn [.ref 94, .int v1] M SS (some (.int z)) M SS := by
  refine ck_of mk_Fm_topOn (Nat.le_of_ble_eq_true rfl) ⟨Nat.le_refl _, Nat.le_refl _⟩ (fun X hX hT hS hr hl => ?_)
  subst hl
  unfold Fm_topOn at h
  show WR G X (mQ G X (some (.int z)) M SS) 0 [.ref 94, .int v1, vU, vU] [] M SS
  refine r_iconst (v := (-1 : Int32)) hX dX9_topOn_0 (by decide) ?_
  refine r_istore_n (L1 := [.ref 94, .int v1, .int (-1 : Int32), vU]) hX dX9_topOn_1 (Nat.le_of_ble_eq_true rfl) rfl ?_
  refine r_iconst (v := (0 : Int32)) hX dX9_topOn_2 (by decide) ?_
  refine r_istore_n (L1 := [.ref 94, .int v1, .int (-1 : Int32), .int (0 : Int32)]) hX dX9_topOn_3 (Nat.le_of_ble_eq_true rfl) rfl ?_
  obtain ⟨y15, h1, h⟩ := bnd_s h
  refine loop_ok (P := fun s1 : Int32 × Int32 => WR G X (mQ G X (some (.int z)) M SS) 4 [.ref 94, .int v1, .int s1.1, .int s1.2] [] M SS) (E := fun x1 : Int32 => WR G X (mQ G X (some (.int z)) M SS) 61 [.ref 94, vU, .int x1, vU] [] M SS) (fun s1 o1 g1 g2 g3 => ok_Fm_topOn_b4 n s1.1 s1.2  hX hT hr g2 g3 g1) n ((-1 : Int32), (0 : Int32)) y15 h1 ?_
  show WR G X (mQ G X (some (.int z)) M SS) 61 [.ref 94, vU, .int y15, vU] [] M SS
  refine r_iload_n hX dX9_topOn_61 rfl ?_
  obtain rfl := Option.some.inj h
  exact r_iret hX hT dX9_topOn_62 rfl
def Fm_top (n : Nat) (M : Mm) : Option (Int32) :=
  bnd (Fm_topOn n (16383 : Int32) M) (fun z1 =>
  some z1)
set_option maxRecDepth 100000 in
theorem ok_Fm_top {G : Gm} {l : Launch} {d : Nat} (n : Nat) (M : Mm) {z : Int32}  (h : Fm_top n M = some z) : CK G l (d + 3) md_Fm_top [.ref 94] M SS (some (.int z)) M SS := by
  refine ck_of mk_Fm_top (Nat.le_of_ble_eq_true rfl) ⟨Nat.le_refl _, Nat.le_refl _⟩ (fun X hX hT hS hr hl => ?_)
  subst hl
  unfold Fm_top at h
  show WR G X (mQ G X (some (.int z)) M SS) 0 [.ref 94] [] M SS
  refine r_aload_n hX dX9_top_0 rfl ?_
  refine r_sipush (v := (16383 : Int32)) hX dX9_top_1 (by decide) ?_
  obtain ⟨z1, p2, h⟩ := bnd_s h
  refine r_callV (As := [.int (16383 : Int32)]) hX dX9_top_4 mk_Fm_topOn mi_Fm_topOn ml_9_308 rfl rfl rfl rfl (by decide) (by decide) (Nat.le_of_ble_eq_true rfl) hr (ok_Fm_topOn (d := d + 0) n (16383 : Int32) M p2) ?_
  obtain rfl := Option.some.inj h
  exact r_iret hX hT dX9_top_7 rfl
def Fm_aims_j62 (v3 : Int32) (M : Mm) : Option ((Int32 × Mm) ⊕ (Mm)) :=
  some (.inl (v3 + (1 : Int32), M))
def Fm_aims_b15 (v3 : Int32) (M : Mm) : Option ((Int32 × Mm) ⊕ (Mm)) :=
  grd (inb (7 : Int32) 12256) (
  if (M.1 95 (tn (7 : Int32))) ≤ v3 then
    some (.inr M)
  else
    grd (inb v3 40) (
    grd (inb v3 40) (
    grd (inb v3 40) (
    bnd (Fm_isLit v3 ((up2 (up2 (up2 M.1 109 (tn v3) (vp_nar .boolean (0 : Int32))) 110 (tn v3) (vp_nar .boolean (0 : Int32))) 111 (tn v3) (vp_nar .boolean (0 : Int32))), M.2)) (fun z8 =>
    if z8 = true then
      bnd (Fm_sets v3 (3 : Int32) (4 : Int32) ((up2 (up2 (up2 M.1 109 (tn v3) (vp_nar .boolean (0 : Int32))) 110 (tn v3) (vp_nar .boolean (0 : Int32))) 111 (tn v3) (vp_nar .boolean (0 : Int32))), M.2)) (fun z11 =>
      Fm_aims_j62 v3 z11)
    else
      Fm_aims_j62 v3 ((up2 (up2 (up2 M.1 109 (tn v3) (vp_nar .boolean (0 : Int32))) 110 (tn v3) (vp_nar .boolean (0 : Int32))) 111 (tn v3) (vp_nar .boolean (0 : Int32))), M.2))))))
def Fm_aims_j276 (v2 : Int32) (v3 : Int32) (M : Mm) : Option ((Int32 × Int32 × Mm) ⊕ (Int32 × Mm)) :=
  some (.inl (v2, v3 + (1 : Int32), M))
def Fm_aims_j239 (v2 : Int32) (v3 : Int32) (M : Mm) : Option ((Int32 × Int32 × Mm) ⊕ (Int32 × Mm)) :=
  bnd (Fm_of v3 (4 : Int32) M) (fun z39 =>
  grd (inb v3 40) (
  bnd (Fm_of v3 (5 : Int32) ((up2 M.1 105 (tn v3) z39), M.2)) (fun z42 =>
  grd (inb v3 40) (
  bnd (Fm_of v3 (6 : Int32) ((up2 (up2 M.1 105 (tn v3) z39) 106 (tn v3) z42), M.2)) (fun z45 =>
  grd (inb v3 40) (
  Fm_aims_j276 v2 v3 ((up2 (up2 (up2 M.1 105 (tn v3) z39) 106 (tn v3) z42) 107 (tn v3) z45), M.2)))))))
def Fm_aims_j179 (v2 : Int32) (v3 : Int32) (w0 : Int32) (w1 : Int32) (M : Mm) : Option ((Int32 × Int32 × Mm) ⊕ (Int32 × Mm)) :=
  grd (inb w1 40) (
  bnd (Fm_lights v3 ((up2 M.1 109 (tn w1) (vp_nar .boolean w0)), M.2)) (fun z52 =>
  grd (inb v3 40) (
  if (z52.1 109 (tn v3)) = (0 : Int32) then
    Fm_aims_j239 v2 v3 z52
  else
    Fm_aims_j239 v2 v3 ((up2 z52.1 94 32 ((z52.1 94 32) + (1 : Int32))), z52.2))))
def Fm_aims_j174 (v2 : Int32) (v3 : Int32) (w0 : Int32) (M : Mm) : Option ((Int32 × Int32 × Mm) ⊕ (Int32 × Mm)) :=
  Fm_aims_j179 v2 v3 (1 : Int32) w0 M
def Fm_aims_b70 (n : Nat) (c1 : Int32) (v2 : Int32) (v3 : Int32) (M : Mm) : Option ((Int32 × Int32 × Mm) ⊕ (Int32 × Mm)) :=
  grd (inb (7 : Int32) 12256) (
  if (M.1 95 (tn (7 : Int32))) ≤ v3 then
    some (.inr (v2, M))
  else
    if v2 = (0 : Int32) then
      some (.inr (v2, M))
    else
      bnd (Fm_of v3 (3 : Int32) M) (fun z17 =>
      if z17 = (4 : Int32) then
        bnd (Fm_of v3 (0 : Int32) M) (fun z20 =>
        bnd (Fm_of v3 (1 : Int32) M) (fun z22 =>
        bnd (Fm_of v3 (2 : Int32) M) (fun z24 =>
        bnd (Fm_findsFor n z20 z22 z24 c1 M) (fun z26 =>
        if z26.1 = true then
          bnd (Fm_of v3 (4 : Int32) z26.2) (fun z48 =>
          if z48 = (z26.2.1 94 21) then
            bnd (Fm_of v3 (5 : Int32) z26.2) (fun z56 =>
            if z56 = (z26.2.1 94 22) then
              bnd (Fm_of v3 (6 : Int32) z26.2) (fun z59 =>
              grd (inb (z26.2.1 94 20) 5) (
              if z59 = (z26.2.1 99 (tn (z26.2.1 94 20))) then
                Fm_aims_j179 v2 v3 (0 : Int32) v3 z26.2
              else
                Fm_aims_j174 v2 v3 v3 z26.2))
            else
              Fm_aims_j174 v2 v3 v3 z26.2)
          else
            Fm_aims_j174 v2 v3 v3 z26.2)
        else
          bnd (Fm_of v3 (6 : Int32) z26.2) (fun z29 =>
          bnd (Fm_of v3 (4 : Int32) z26.2) (fun z31 =>
          bnd (Fm_of v3 (5 : Int32) z26.2) (fun z33 =>
          bnd (Fm_fits n z29 z31 z33 v3 z26.2) (fun z35 =>
          bnd (Fm_sets v3 (3 : Int32) (0 : Int32) z26.2) (fun z37 =>
          Fm_aims_j239 (b2i z35) v3 z37)))))))))
      else
        Fm_aims_j276 v2 v3 M))
def Fm_aims_j282 (n : Nat) (v2 : Int32) (M : Mm) : Option (Bool × Mm) :=
  bnd (Fm_top n M) (fun z64 =>
  bnd (Fm_copies n (2 : Int32) (0 : Int32) ((up2 M.1 94 31 z64), M.2)) (fun z66 =>
  if v2 = (0 : Int32) then
    some (false, ((up2 (up2 z66.1 94 33 (0 : Int32)) 94 34 (0 : Int32)), z66.2))
  else
    if v2 = (1 : Int32) then
      some (true, ((up2 (up2 z66.1 94 33 (0 : Int32)) 94 34 (0 : Int32)), z66.2))
    else
      none))
def Fm_aims (n : Nat) (v1 : Int32) (M : Mm) : Option (Bool × Mm) :=
  bnd (Fm_copies n (0 : Int32) (2 : Int32) M) (fun z1 =>
  bnd (loop (fun s1 : Int32 × Mm => Fm_aims_b15 s1.1 s1.2) n ((0 : Int32), ((up2 z1.1 94 32 (0 : Int32)), z1.2))) (fun y13 =>
  bnd (loop (fun s1 : Int32 × Int32 × Mm => Fm_aims_b70 n v1 s1.1 s1.2.1 s1.2.2) n ((1 : Int32), (0 : Int32), y13)) (fun y63 =>
  Fm_aims_j282 n y63.1 y63.2)))
set_option maxRecDepth 100000 in
theorem ok_Fm_aims_j62 (n : Nat) (v3 : Int32) (M : Mm) {c1 : Int32} {c2 : Int32} {z : Bool × Mm} {oo : (Int32 × Mm) ⊕ (Mm)} {G : Gm} {X : Cx} {d : Nat}  (hX : XK G X 9 cX9_aims 4 (d + 6)) (hT : XT X (some .boolean) "aims") (hr : XR X SS) (hc : ∀ s1 : Int32 × Mm, oo = .inl s1 → WR G X (mQ G X (some (.int (b2i z.1))) z.2 SS) 15 [.ref 94, .int c1, .int c2, .int s1.1] [] s1.2 SS) (hx : ∀ x1 : Mm, oo = .inr x1 → WR G X (mQ G X (some (.int (b2i z.1))) z.2 SS) 68 [.ref 94, .int c1, .int c2, vU] [] x1 SS) (h : Fm_aims_j62 v3 M = some oo) : WR G X (mQ G X (some (.int (b2i z.1))) z.2 SS) 62 [.ref 94, .int c1, .int c2, .int v3] [] M SS := by
  unfold Fm_aims_j62 at h
  refine r_iinc (v := v3 + (1 : Int32)) (L1 := [.ref 94, .int c1, .int c2, .int (v3 + (1 : Int32))]) hX dX9_aims_62 rfl rfl rfl ?_
  refine r_goto (tgt := 15) hX dX9_aims_65 (by decide) ?_
  exact hc (v3 + (1 : Int32), M) (Option.some.inj h).symm
set_option maxRecDepth 100000 in
theorem ok_Fm_aims_b15 (n : Nat) (v3 : Int32) (M : Mm) {c1 : Int32} {c2 : Int32} {z : Bool × Mm} {oo : (Int32 × Mm) ⊕ (Mm)} {G : Gm} {X : Cx} {d : Nat}  (hX : XK G X 9 cX9_aims 4 (d + 6)) (hT : XT X (some .boolean) "aims") (hr : XR X SS) (hc : ∀ s1 : Int32 × Mm, oo = .inl s1 → WR G X (mQ G X (some (.int (b2i z.1))) z.2 SS) 15 [.ref 94, .int c1, .int c2, .int s1.1] [] s1.2 SS) (hx : ∀ x1 : Mm, oo = .inr x1 → WR G X (mQ G X (some (.int (b2i z.1))) z.2 SS) 68 [.ref 94, .int c1, .int c2, vU] [] x1 SS) (h : Fm_aims_b15 v3 M = some oo) : WR G X (mQ G X (some (.int (b2i z.1))) z.2 SS) 15 [.ref 94, .int c1, .int c2, .int v3] [] M SS := by
  unfold Fm_aims_b15 at h
  refine r_iload_n hX dX9_aims_15 rfl ?_
  refine r_aload_n hX dX9_aims_16 rfl ?_
  refine r_getf (v := .ref 95) hX dX9_aims_17 fl_9_7 rfl (by decide) (by decide) rfl ?_
  refine r_bipush (v := (7 : Int32)) hX dX9_aims_20 (by decide) ?_
  obtain ⟨k3, h⟩ := grd_s h
  refine r_iald hX dX9_aims_22 rfl (by decide) (inb_at rfl k3) ?_
  refine r_icmp_ge (tgt := 68) hX dX9_aims_23 (by decide) (fun g4 => ?_) (fun g4 => ?_)
  · have h := (if_pos g4).symm.trans h
    refine WR.fg (L' := [.ref 94, .int c1, .int c2, vU]) ⟨Or.inr rfl, Or.inr rfl, Or.inr rfl, Or.inl rfl, trivial⟩ ?_
    exact hx _ (Option.some.inj h).symm
  · have h := (if_neg g4).symm.trans h
    refine r_aload_n hX dX9_aims_26 rfl ?_
    refine r_getf (v := .ref 109) hX dX9_aims_27 fl_9_53 rfl (by decide) (by decide) rfl ?_
    refine r_iload_n hX dX9_aims_30 rfl ?_
    refine r_iconst (v := (0 : Int32)) hX dX9_aims_31 (by decide) ?_
    obtain ⟨k5, h⟩ := grd_s h
    refine r_zast hX dX9_aims_32 rfl (by decide) (inb_at rfl k5) ?_
    refine r_aload_n hX dX9_aims_33 rfl ?_
    refine r_getf (v := .ref 110) hX dX9_aims_34 fl_9_57 rfl (by decide) (by decide) rfl ?_
    refine r_iload_n hX dX9_aims_37 rfl ?_
    refine r_iconst (v := (0 : Int32)) hX dX9_aims_38 (by decide) ?_
    obtain ⟨k6, h⟩ := grd_s h
    refine r_zast' hX dX9_aims_39 rfl (by decide) (inb_at rfl k6) ?_
    refine r_aload_n hX dX9_aims_40 rfl ?_
    refine r_getf (v := .ref 111) hX dX9_aims_41 fl_9_60 rfl (by decide) (by decide) rfl ?_
    refine r_iload_n hX dX9_aims_44 rfl ?_
    refine r_iconst (v := (0 : Int32)) hX dX9_aims_45 (by decide) ?_
    obtain ⟨k7, h⟩ := grd_s h
    refine r_zast' hX dX9_aims_46 rfl (by decide) (inb_at rfl k7) ?_
    refine r_aload_n hX dX9_aims_47 rfl ?_
    refine r_iload_n hX dX9_aims_48 rfl ?_
    obtain ⟨z8, p9, h⟩ := bnd_s h
    refine r_callV (As := [.int v3]) hX dX9_aims_49 mk_Fm_isLit mi_Fm_isLit ml_9_219 rfl rfl rfl rfl (by decide) (by decide) (Nat.le_of_ble_eq_true rfl) hr (ok_Fm_isLit (d := d + 4) v3 ((up2 (up2 (up2 M.1 109 (tn v3) (vp_nar .boolean (0 : Int32))) 110 (tn v3) (vp_nar .boolean (0 : Int32))) 111 (tn v3) (vp_nar .boolean (0 : Int32))), M.2) p9) ?_
    refine r_ifb_eq (tgt := 62) hX dX9_aims_52 (by decide) (fun g10 => ?_) (fun g10 => ?_)
    · have h := (if_neg (show ¬ z8 = true from fun e => by rw [g10] at e; cases e)).symm.trans h
      exact ok_Fm_aims_j62 n v3 ((up2 (up2 (up2 M.1 109 (tn v3) (vp_nar .boolean (0 : Int32))) 110 (tn v3) (vp_nar .boolean (0 : Int32))) 111 (tn v3) (vp_nar .boolean (0 : Int32))), M.2)   hX hT hr hc hx h
    · have h := (if_pos g10).symm.trans h
      refine r_aload_n hX dX9_aims_55 rfl ?_
      refine r_iload_n hX dX9_aims_56 rfl ?_
      refine r_iconst (v := (3 : Int32)) hX dX9_aims_57 (by decide) ?_
      refine r_iconst (v := (4 : Int32)) hX dX9_aims_58 (by decide) ?_
      obtain ⟨z11, p12, h⟩ := bnd_s h
      refine r_callV (As := [.int v3, .int (3 : Int32), .int (4 : Int32)]) hX dX9_aims_59 mk_Fm_sets mi_Fm_sets ml_9_256 rfl rfl rfl rfl (by decide) (by decide) (Nat.le_of_ble_eq_true rfl) hr (ok_Fm_sets (d := d + 5) v3 (3 : Int32) (4 : Int32) ((up2 (up2 (up2 M.1 109 (tn v3) (vp_nar .boolean (0 : Int32))) 110 (tn v3) (vp_nar .boolean (0 : Int32))) 111 (tn v3) (vp_nar .boolean (0 : Int32))), M.2) p12) ?_
      exact ok_Fm_aims_j62 n v3 z11   hX hT hr hc hx h
set_option maxRecDepth 100000 in
theorem ok_Fm_aims_j276 (n : Nat) (v2 : Int32) (v3 : Int32) (M : Mm) {c1 : Int32} {z : Bool × Mm} {oo : (Int32 × Int32 × Mm) ⊕ (Int32 × Mm)} {G : Gm} {X : Cx} {d : Nat}  (hX : XK G X 9 cX9_aims 4 (d + 6)) (hT : XT X (some .boolean) "aims") (hr : XR X SS) (hc : ∀ s1 : Int32 × Int32 × Mm, oo = .inl s1 → WR G X (mQ G X (some (.int (b2i z.1))) z.2 SS) 70 [.ref 94, .int c1, .int s1.1, .int s1.2.1] [] s1.2.2 SS) (hx : ∀ x1 : Int32 × Mm, oo = .inr x1 → WR G X (mQ G X (some (.int (b2i z.1))) z.2 SS) 282 [.ref 94, vU, .int x1.1, vU] [] x1.2 SS) (h : Fm_aims_j276 v2 v3 M = some oo) : WR G X (mQ G X (some (.int (b2i z.1))) z.2 SS) 276 [.ref 94, .int c1, .int v2, .int v3] [] M SS := by
  unfold Fm_aims_j276 at h
  refine r_iinc (v := v3 + (1 : Int32)) (L1 := [.ref 94, .int c1, .int v2, .int (v3 + (1 : Int32))]) hX dX9_aims_276 rfl rfl rfl ?_
  refine r_goto (tgt := 70) hX dX9_aims_279 (by decide) ?_
  exact hc (v2, v3 + (1 : Int32), M) (Option.some.inj h).symm
set_option maxRecDepth 100000 in
theorem ok_Fm_aims_j239 (n : Nat) (v2 : Int32) (v3 : Int32) (M : Mm) {c1 : Int32} {z : Bool × Mm} {oo : (Int32 × Int32 × Mm) ⊕ (Int32 × Mm)} {G : Gm} {X : Cx} {d : Nat}  (hX : XK G X 9 cX9_aims 4 (d + 6)) (hT : XT X (some .boolean) "aims") (hr : XR X SS) (hc : ∀ s1 : Int32 × Int32 × Mm, oo = .inl s1 → WR G X (mQ G X (some (.int (b2i z.1))) z.2 SS) 70 [.ref 94, .int c1, .int s1.1, .int s1.2.1] [] s1.2.2 SS) (hx : ∀ x1 : Int32 × Mm, oo = .inr x1 → WR G X (mQ G X (some (.int (b2i z.1))) z.2 SS) 282 [.ref 94, vU, .int x1.1, vU] [] x1.2 SS) (h : Fm_aims_j239 v2 v3 M = some oo) : WR G X (mQ G X (some (.int (b2i z.1))) z.2 SS) 239 [.ref 94, .int c1, .int v2, .int v3] [] M SS := by
  unfold Fm_aims_j239 at h
  refine r_aload_n hX dX9_aims_239 rfl ?_
  refine r_getf (v := .ref 105) hX dX9_aims_240 fl_9_41 rfl (by decide) (by decide) rfl ?_
  refine r_iload_n hX dX9_aims_243 rfl ?_
  refine r_aload_n hX dX9_aims_244 rfl ?_
  refine r_iload_n hX dX9_aims_245 rfl ?_
  refine r_iconst (v := (4 : Int32)) hX dX9_aims_246 (by decide) ?_
  obtain ⟨z39, p40, h⟩ := bnd_s h
  refine r_callV (As := [.int v3, .int (4 : Int32)]) hX dX9_aims_247 mk_Fm_of mi_Fm_of ml_9_79 rfl rfl rfl rfl (by decide) (by decide) (Nat.le_of_ble_eq_true rfl) hr (ok_Fm_of (d := d + 5) v3 (4 : Int32) M p40) ?_
  obtain ⟨k41, h⟩ := grd_s h
  refine r_iast hX dX9_aims_250 rfl (by decide) (inb_at rfl k41) ?_
  refine r_aload_n hX dX9_aims_251 rfl ?_
  refine r_getf (v := .ref 106) hX dX9_aims_252 fl_9_44 rfl (by decide) (by decide) rfl ?_
  refine r_iload_n hX dX9_aims_255 rfl ?_
  refine r_aload_n hX dX9_aims_256 rfl ?_
  refine r_iload_n hX dX9_aims_257 rfl ?_
  refine r_iconst (v := (5 : Int32)) hX dX9_aims_258 (by decide) ?_
  obtain ⟨z42, p43, h⟩ := bnd_s h
  refine r_callV (As := [.int v3, .int (5 : Int32)]) hX dX9_aims_259 mk_Fm_of mi_Fm_of ml_9_79 rfl rfl rfl rfl (by decide) (by decide) (Nat.le_of_ble_eq_true rfl) hr (ok_Fm_of (d := d + 5) v3 (5 : Int32) ((up2 M.1 105 (tn v3) z39), M.2) p43) ?_
  obtain ⟨k44, h⟩ := grd_s h
  refine r_iast' hX dX9_aims_262 rfl (by decide) (inb_at rfl k44) ?_
  refine r_aload_n hX dX9_aims_263 rfl ?_
  refine r_getf (v := .ref 107) hX dX9_aims_264 fl_9_47 rfl (by decide) (by decide) rfl ?_
  refine r_iload_n hX dX9_aims_267 rfl ?_
  refine r_aload_n hX dX9_aims_268 rfl ?_
  refine r_iload_n hX dX9_aims_269 rfl ?_
  refine r_bipush (v := (6 : Int32)) hX dX9_aims_270 (by decide) ?_
  obtain ⟨z45, p46, h⟩ := bnd_s h
  refine r_callV (As := [.int v3, .int (6 : Int32)]) hX dX9_aims_272 mk_Fm_of mi_Fm_of ml_9_79 rfl rfl rfl rfl (by decide) (by decide) (Nat.le_of_ble_eq_true rfl) hr (ok_Fm_of (d := d + 5) v3 (6 : Int32) ((up2 (up2 M.1 105 (tn v3) z39) 106 (tn v3) z42), M.2) p46) ?_
  obtain ⟨k47, h⟩ := grd_s h
  refine r_iast' hX dX9_aims_275 rfl (by decide) (inb_at rfl k47) ?_
  exact ok_Fm_aims_j276 n v2 v3 ((up2 (up2 (up2 M.1 105 (tn v3) z39) 106 (tn v3) z42) 107 (tn v3) z45), M.2)   hX hT hr hc hx h
set_option maxRecDepth 100000 in
theorem ok_Fm_aims_j179 (n : Nat) (v2 : Int32) (v3 : Int32) (w0 : Int32) (w1 : Int32) (M : Mm) {c1 : Int32} {z : Bool × Mm} {oo : (Int32 × Int32 × Mm) ⊕ (Int32 × Mm)} {G : Gm} {X : Cx} {d : Nat}  (hX : XK G X 9 cX9_aims 4 (d + 6)) (hT : XT X (some .boolean) "aims") (hr : XR X SS) (hc : ∀ s1 : Int32 × Int32 × Mm, oo = .inl s1 → WR G X (mQ G X (some (.int (b2i z.1))) z.2 SS) 70 [.ref 94, .int c1, .int s1.1, .int s1.2.1] [] s1.2.2 SS) (hx : ∀ x1 : Int32 × Mm, oo = .inr x1 → WR G X (mQ G X (some (.int (b2i z.1))) z.2 SS) 282 [.ref 94, vU, .int x1.1, vU] [] x1.2 SS) (h : Fm_aims_j179 v2 v3 w0 w1 M = some oo) : WR G X (mQ G X (some (.int (b2i z.1))) z.2 SS) 179 [.ref 94, .int c1, .int v2, .int v3] [.int w0, .int w1, .ref 109] M SS := by
  unfold Fm_aims_j179 at h
  obtain ⟨k51, h⟩ := grd_s h
  refine r_zast hX dX9_aims_179 rfl (by decide) (inb_at rfl k51) ?_
  refine r_aload_n hX dX9_aims_180 rfl ?_
  refine r_iload_n hX dX9_aims_181 rfl ?_
  obtain ⟨z52, p53, h⟩ := bnd_s h
  refine r_callV (As := [.int v3]) hX dX9_aims_182 mk_Fm_lights mi_Fm_lights ml_9_259 rfl rfl rfl rfl (by decide) (by decide) (Nat.le_of_ble_eq_true rfl) hr (ok_Fm_lights (d := d + 4) v3 ((up2 M.1 109 (tn w1) (vp_nar .boolean w0)), M.2) p53) ?_
  refine r_aload_n hX dX9_aims_185 rfl ?_
  refine r_getf (v := .ref 109) hX dX9_aims_186 fl_9_53 rfl (by decide) (by decide) rfl ?_
  refine r_iload_n hX dX9_aims_189 rfl ?_
  obtain ⟨k54, h⟩ := grd_s h
  refine r_zald hX dX9_aims_190 rfl (by decide) (inb_at rfl k54) ?_
  refine r_if_eq (tgt := 239) hX dX9_aims_191 (by decide) (fun g55 => ?_) (fun g55 => ?_)
  · have h := (if_pos g55).symm.trans h
    exact ok_Fm_aims_j239 n v2 v3 z52   hX hT hr hc hx h
  · have h := (if_neg g55).symm.trans h
    refine r_aload_n hX dX9_aims_194 rfl ?_
    refine r_aload_n hX dX9_aims_195 rfl ?_
    refine r_getf (v := .int (z52.1 94 32)) hX dX9_aims_196 fl_9_314 rfl (by decide) (by decide) rfl ?_
    refine r_iconst (v := (1 : Int32)) hX dX9_aims_199 (by decide) ?_
    refine r_iadd hX dX9_aims_200 ?_
    refine r_putI hX dX9_aims_201 fl_9_314 rfl (by decide) (by decide) (okI_int _) ?_
    refine r_goto (tgt := 239) hX dX9_aims_204 (by decide) ?_
    exact ok_Fm_aims_j239 n v2 v3 ((up2 z52.1 94 32 ((z52.1 94 32) + (1 : Int32))), z52.2)   hX hT hr hc hx h
set_option maxRecDepth 100000 in
theorem ok_Fm_aims_j174 (n : Nat) (v2 : Int32) (v3 : Int32) (w0 : Int32) (M : Mm) {c1 : Int32} {z : Bool × Mm} {oo : (Int32 × Int32 × Mm) ⊕ (Int32 × Mm)} {G : Gm} {X : Cx} {d : Nat}  (hX : XK G X 9 cX9_aims 4 (d + 6)) (hT : XT X (some .boolean) "aims") (hr : XR X SS) (hc : ∀ s1 : Int32 × Int32 × Mm, oo = .inl s1 → WR G X (mQ G X (some (.int (b2i z.1))) z.2 SS) 70 [.ref 94, .int c1, .int s1.1, .int s1.2.1] [] s1.2.2 SS) (hx : ∀ x1 : Int32 × Mm, oo = .inr x1 → WR G X (mQ G X (some (.int (b2i z.1))) z.2 SS) 282 [.ref 94, vU, .int x1.1, vU] [] x1.2 SS) (h : Fm_aims_j174 v2 v3 w0 M = some oo) : WR G X (mQ G X (some (.int (b2i z.1))) z.2 SS) 174 [.ref 94, .int c1, .int v2, .int v3] [.int w0, .ref 109] M SS := by
  unfold Fm_aims_j174 at h
  refine r_iconst (v := (1 : Int32)) hX dX9_aims_174 (by decide) ?_
  refine r_goto (tgt := 179) hX dX9_aims_175 (by decide) ?_
  exact ok_Fm_aims_j179 n v2 v3 (1 : Int32) w0 M   hX hT hr hc hx h
set_option maxRecDepth 100000 in
theorem ok_Fm_aims_b70 (n : Nat) (v2 : Int32) (v3 : Int32) (M : Mm) {c1 : Int32} {z : Bool × Mm} {oo : (Int32 × Int32 × Mm) ⊕ (Int32 × Mm)} {G : Gm} {X : Cx} {d : Nat}  (hX : XK G X 9 cX9_aims 4 (d + 6)) (hT : XT X (some .boolean) "aims") (hr : XR X SS) (hc : ∀ s1 : Int32 × Int32 × Mm, oo = .inl s1 → WR G X (mQ G X (some (.int (b2i z.1))) z.2 SS) 70 [.ref 94, .int c1, .int s1.1, .int s1.2.1] [] s1.2.2 SS) (hx : ∀ x1 : Int32 × Mm, oo = .inr x1 → WR G X (mQ G X (some (.int (b2i z.1))) z.2 SS) 282 [.ref 94, vU, .int x1.1, vU] [] x1.2 SS) (h : Fm_aims_b70 n c1 v2 v3 M = some oo) : WR G X (mQ G X (some (.int (b2i z.1))) z.2 SS) 70 [.ref 94, .int c1, .int v2, .int v3] [] M SS := by
  unfold Fm_aims_b70 at h
  refine r_iload_n hX dX9_aims_70 rfl ?_
  refine r_aload_n hX dX9_aims_71 rfl ?_
  refine r_getf (v := .ref 95) hX dX9_aims_72 fl_9_7 rfl (by decide) (by decide) rfl ?_
  refine r_bipush (v := (7 : Int32)) hX dX9_aims_75 (by decide) ?_
  obtain ⟨k14, h⟩ := grd_s h
  refine r_iald hX dX9_aims_77 rfl (by decide) (inb_at rfl k14) ?_
  refine r_icmp_ge (tgt := 282) hX dX9_aims_78 (by decide) (fun g15 => ?_) (fun g15 => ?_)
  · have h := (if_pos g15).symm.trans h
    refine WR.fg (L' := [.ref 94, vU, .int v2, vU]) ⟨Or.inr rfl, Or.inl rfl, Or.inr rfl, Or.inl rfl, trivial⟩ ?_
    exact hx _ (Option.some.inj h).symm
  · have h := (if_neg g15).symm.trans h
    refine r_iload_n hX dX9_aims_81 rfl ?_
    refine r_if_eq (tgt := 282) hX dX9_aims_82 (by decide) (fun g16 => ?_) (fun g16 => ?_)
    · have h := (if_pos g16).symm.trans h
      refine WR.fg (L' := [.ref 94, vU, .int v2, vU]) ⟨Or.inr rfl, Or.inl rfl, Or.inr rfl, Or.inl rfl, trivial⟩ ?_
      exact hx _ (Option.some.inj h).symm
    · have h := (if_neg g16).symm.trans h
      refine r_aload_n hX dX9_aims_85 rfl ?_
      refine r_iload_n hX dX9_aims_86 rfl ?_
      refine r_iconst (v := (3 : Int32)) hX dX9_aims_87 (by decide) ?_
      obtain ⟨z17, p18, h⟩ := bnd_s h
      refine r_callV (As := [.int v3, .int (3 : Int32)]) hX dX9_aims_88 mk_Fm_of mi_Fm_of ml_9_79 rfl rfl rfl rfl (by decide) (by decide) (Nat.le_of_ble_eq_true rfl) hr (ok_Fm_of (d := d + 5) v3 (3 : Int32) M p18) ?_
      refine r_iconst (v := (4 : Int32)) hX dX9_aims_91 (by decide) ?_
      refine r_icmp_eq (tgt := 98) hX dX9_aims_92 (by decide) (fun g19 => ?_) (fun g19 => ?_)
      · have h := (if_pos g19).symm.trans h
        refine r_aload_n hX dX9_aims_98 rfl ?_
        refine r_aload_n hX dX9_aims_99 rfl ?_
        refine r_iload_n hX dX9_aims_100 rfl ?_
        refine r_iconst (v := (0 : Int32)) hX dX9_aims_101 (by decide) ?_
        obtain ⟨z20, p21, h⟩ := bnd_s h
        refine r_callV (As := [.int v3, .int (0 : Int32)]) hX dX9_aims_102 mk_Fm_of mi_Fm_of ml_9_79 rfl rfl rfl rfl (by decide) (by decide) (Nat.le_of_ble_eq_true rfl) hr (ok_Fm_of (d := d + 5) v3 (0 : Int32) M p21) ?_
        refine r_aload_n hX dX9_aims_105 rfl ?_
        refine r_iload_n hX dX9_aims_106 rfl ?_
        refine r_iconst (v := (1 : Int32)) hX dX9_aims_107 (by decide) ?_
        obtain ⟨z22, p23, h⟩ := bnd_s h
        refine r_callV (As := [.int v3, .int (1 : Int32)]) hX dX9_aims_108 mk_Fm_of mi_Fm_of ml_9_79 rfl rfl rfl rfl (by decide) (by decide) (Nat.le_of_ble_eq_true rfl) hr (ok_Fm_of (d := d + 5) v3 (1 : Int32) M p23) ?_
        refine r_aload_n hX dX9_aims_111 rfl ?_
        refine r_iload_n hX dX9_aims_112 rfl ?_
        refine r_iconst (v := (2 : Int32)) hX dX9_aims_113 (by decide) ?_
        obtain ⟨z24, p25, h⟩ := bnd_s h
        refine r_callV (As := [.int v3, .int (2 : Int32)]) hX dX9_aims_114 mk_Fm_of mi_Fm_of ml_9_79 rfl rfl rfl rfl (by decide) (by decide) (Nat.le_of_ble_eq_true rfl) hr (ok_Fm_of (d := d + 5) v3 (2 : Int32) M p25) ?_
        refine r_iload_n hX dX9_aims_117 rfl ?_
        obtain ⟨z26, p27, h⟩ := bnd_s h
        refine r_callV (As := [.int z20, .int z22, .int z24, .int c1]) hX dX9_aims_118 mk_Fm_findsFor mi_Fm_findsFor ml_9_271 rfl rfl rfl rfl (by decide) (by decide) (Nat.le_of_ble_eq_true rfl) hr (ok_Fm_findsFor (d := d + 0) n z20 z22 z24 c1 M p27) ?_
        refine r_ifb_eq (tgt := 207) hX dX9_aims_121 (by decide) (fun g28 => ?_) (fun g28 => ?_)
        · have h := (if_neg (show ¬ z26.1 = true from fun e => by rw [g28] at e; cases e)).symm.trans h
          refine r_aload_n hX dX9_aims_207 rfl ?_
          refine r_aload_n hX dX9_aims_208 rfl ?_
          refine r_iload_n hX dX9_aims_209 rfl ?_
          refine r_bipush (v := (6 : Int32)) hX dX9_aims_210 (by decide) ?_
          obtain ⟨z29, p30, h⟩ := bnd_s h
          refine r_callV (As := [.int v3, .int (6 : Int32)]) hX dX9_aims_212 mk_Fm_of mi_Fm_of ml_9_79 rfl rfl rfl rfl (by decide) (by decide) (Nat.le_of_ble_eq_true rfl) hr (ok_Fm_of (d := d + 5) v3 (6 : Int32) z26.2 p30) ?_
          refine r_aload_n hX dX9_aims_215 rfl ?_
          refine r_iload_n hX dX9_aims_216 rfl ?_
          refine r_iconst (v := (4 : Int32)) hX dX9_aims_217 (by decide) ?_
          obtain ⟨z31, p32, h⟩ := bnd_s h
          refine r_callV (As := [.int v3, .int (4 : Int32)]) hX dX9_aims_218 mk_Fm_of mi_Fm_of ml_9_79 rfl rfl rfl rfl (by decide) (by decide) (Nat.le_of_ble_eq_true rfl) hr (ok_Fm_of (d := d + 5) v3 (4 : Int32) z26.2 p32) ?_
          refine r_aload_n hX dX9_aims_221 rfl ?_
          refine r_iload_n hX dX9_aims_222 rfl ?_
          refine r_iconst (v := (5 : Int32)) hX dX9_aims_223 (by decide) ?_
          obtain ⟨z33, p34, h⟩ := bnd_s h
          refine r_callV (As := [.int v3, .int (5 : Int32)]) hX dX9_aims_224 mk_Fm_of mi_Fm_of ml_9_79 rfl rfl rfl rfl (by decide) (by decide) (Nat.le_of_ble_eq_true rfl) hr (ok_Fm_of (d := d + 5) v3 (5 : Int32) z26.2 p34) ?_
          refine r_iload_n hX dX9_aims_227 rfl ?_
          obtain ⟨z35, p36, h⟩ := bnd_s h
          refine r_callV (As := [.int z29, .int z31, .int z33, .int v3]) hX dX9_aims_228 mk_Fm_fits mi_Fm_fits ml_9_240 rfl rfl rfl rfl (by decide) (by decide) (Nat.le_of_ble_eq_true rfl) hr (ok_Fm_fits (d := d + 2) n z29 z31 z33 v3 z26.2 p36) ?_
          refine r_istore_n (L1 := [.ref 94, .int c1, .int (b2i z35), .int v3]) hX dX9_aims_231 (Nat.le_of_ble_eq_true rfl) rfl ?_
          refine r_aload_n hX dX9_aims_232 rfl ?_
          refine r_iload_n hX dX9_aims_233 rfl ?_
          refine r_iconst (v := (3 : Int32)) hX dX9_aims_234 (by decide) ?_
          refine r_iconst (v := (0 : Int32)) hX dX9_aims_235 (by decide) ?_
          obtain ⟨z37, p38, h⟩ := bnd_s h
          refine r_callV (As := [.int v3, .int (3 : Int32), .int (0 : Int32)]) hX dX9_aims_236 mk_Fm_sets mi_Fm_sets ml_9_256 rfl rfl rfl rfl (by decide) (by decide) (Nat.le_of_ble_eq_true rfl) hr (ok_Fm_sets (d := d + 5) v3 (3 : Int32) (0 : Int32) z26.2 p38) ?_
          exact ok_Fm_aims_j239 n (b2i z35) v3 z37   hX hT hr hc hx h
        · have h := (if_pos g28).symm.trans h
          refine r_aload_n hX dX9_aims_124 rfl ?_
          refine r_getf (v := .ref 109) hX dX9_aims_125 fl_9_53 rfl (by decide) (by decide) rfl ?_
          refine r_iload_n hX dX9_aims_128 rfl ?_
          refine r_aload_n hX dX9_aims_129 rfl ?_
          refine r_iload_n hX dX9_aims_130 rfl ?_
          refine r_iconst (v := (4 : Int32)) hX dX9_aims_131 (by decide) ?_
          obtain ⟨z48, p49, h⟩ := bnd_s h
          refine r_callV (As := [.int v3, .int (4 : Int32)]) hX dX9_aims_132 mk_Fm_of mi_Fm_of ml_9_79 rfl rfl rfl rfl (by decide) (by decide) (Nat.le_of_ble_eq_true rfl) hr (ok_Fm_of (d := d + 5) v3 (4 : Int32) z26.2 p49) ?_
          refine r_aload_n hX dX9_aims_135 rfl ?_
          refine r_getf (v := .int (z26.2.1 94 21)) hX dX9_aims_136 fl_9_247 rfl (by decide) (by decide) rfl ?_
          refine r_icmp_ne (tgt := 174) hX dX9_aims_139 (by decide) (fun g50 => ?_) (fun g50 => ?_)
          · have h := (if_neg g50).symm.trans h
            exact ok_Fm_aims_j174 n v2 v3 v3 z26.2   hX hT hr hc hx h
          · have h := (if_pos g50).symm.trans h
            refine r_aload_n hX dX9_aims_142 rfl ?_
            refine r_iload_n hX dX9_aims_143 rfl ?_
            refine r_iconst (v := (5 : Int32)) hX dX9_aims_144 (by decide) ?_
            obtain ⟨z56, p57, h⟩ := bnd_s h
            refine r_callV (As := [.int v3, .int (5 : Int32)]) hX dX9_aims_145 mk_Fm_of mi_Fm_of ml_9_79 rfl rfl rfl rfl (by decide) (by decide) (Nat.le_of_ble_eq_true rfl) hr (ok_Fm_of (d := d + 5) v3 (5 : Int32) z26.2 p57) ?_
            refine r_aload_n hX dX9_aims_148 rfl ?_
            refine r_getf (v := .int (z26.2.1 94 22)) hX dX9_aims_149 fl_9_250 rfl (by decide) (by decide) rfl ?_
            refine r_icmp_ne (tgt := 174) hX dX9_aims_152 (by decide) (fun g58 => ?_) (fun g58 => ?_)
            · have h := (if_neg g58).symm.trans h
              exact ok_Fm_aims_j174 n v2 v3 v3 z26.2   hX hT hr hc hx h
            · have h := (if_pos g58).symm.trans h
              refine r_aload_n hX dX9_aims_155 rfl ?_
              refine r_iload_n hX dX9_aims_156 rfl ?_
              refine r_bipush (v := (6 : Int32)) hX dX9_aims_157 (by decide) ?_
              obtain ⟨z59, p60, h⟩ := bnd_s h
              refine r_callV (As := [.int v3, .int (6 : Int32)]) hX dX9_aims_159 mk_Fm_of mi_Fm_of ml_9_79 rfl rfl rfl rfl (by decide) (by decide) (Nat.le_of_ble_eq_true rfl) hr (ok_Fm_of (d := d + 5) v3 (6 : Int32) z26.2 p60) ?_
              refine r_aload_n hX dX9_aims_162 rfl ?_
              refine r_getf (v := .ref 99) hX dX9_aims_163 fl_9_23 rfl (by decide) (by decide) rfl ?_
              refine r_aload_n hX dX9_aims_166 rfl ?_
              refine r_getf (v := .int (z26.2.1 94 20)) hX dX9_aims_167 fl_9_233 rfl (by decide) (by decide) rfl ?_
              obtain ⟨k61, h⟩ := grd_s h
              refine r_iald hX dX9_aims_170 rfl (by decide) (inb_at rfl k61) ?_
              refine r_icmp_eq (tgt := 178) hX dX9_aims_171 (by decide) (fun g62 => ?_) (fun g62 => ?_)
              · have h := (if_pos g62).symm.trans h
                refine r_iconst (v := (0 : Int32)) hX dX9_aims_178 (by decide) ?_
                exact ok_Fm_aims_j179 n v2 v3 (0 : Int32) v3 z26.2   hX hT hr hc hx h
              · have h := (if_neg g62).symm.trans h
                exact ok_Fm_aims_j174 n v2 v3 v3 z26.2   hX hT hr hc hx h
      · have h := (if_neg g19).symm.trans h
        refine r_goto (tgt := 276) hX dX9_aims_95 (by decide) ?_
        exact ok_Fm_aims_j276 n v2 v3 M   hX hT hr hc hx h
set_option maxRecDepth 100000 in
theorem ok_Fm_aims_j282 (n : Nat) (v2 : Int32) (M : Mm) {z : Bool × Mm} {G : Gm} {X : Cx} {d : Nat}  (hX : XK G X 9 cX9_aims 4 (d + 6)) (hT : XT X (some .boolean) "aims") (hr : XR X SS) (h : Fm_aims_j282 n v2 M = some z) : WR G X (mQ G X (some (.int (b2i z.1))) z.2 SS) 282 [.ref 94, vU, .int v2, vU] [] M SS := by
  unfold Fm_aims_j282 at h
  refine r_aload_n hX dX9_aims_282 rfl ?_
  refine r_aload_n hX dX9_aims_283 rfl ?_
  obtain ⟨z64, p65, h⟩ := bnd_s h
  refine r_callV (As := []) hX dX9_aims_284 mk_Fm_top mi_Fm_top ml_9_317 rfl rfl rfl rfl (by decide) (by decide) (Nat.le_of_ble_eq_true rfl) hr (ok_Fm_top (d := d + 2) n M p65) ?_
  refine r_putI hX dX9_aims_287 fl_9_320 rfl (by decide) (by decide) (okI_int _) ?_
  refine r_aload_n hX dX9_aims_290 rfl ?_
  refine r_iconst (v := (2 : Int32)) hX dX9_aims_291 (by decide) ?_
  refine r_iconst (v := (0 : Int32)) hX dX9_aims_292 (by decide) ?_
  obtain ⟨z66, p67, h⟩ := bnd_s h
  refine r_callV (As := [.int (2 : Int32), .int (0 : Int32)]) hX dX9_aims_293 mk_Fm_copies mi_Fm_copies ml_9_311 rfl rfl rfl rfl (by decide) (by decide) (Nat.le_of_ble_eq_true rfl) hr (ok_Fm_copies (d := d + 5) n (2 : Int32) (0 : Int32) ((up2 M.1 94 31 z64), M.2) p67) ?_
  refine r_aload_n hX dX9_aims_296 rfl ?_
  refine r_iconst (v := (0 : Int32)) hX dX9_aims_297 (by decide) ?_
  refine r_putI hX dX9_aims_298 fl_9_323 rfl (by decide) (by decide) (okI_int _) ?_
  refine r_aload_n hX dX9_aims_301 rfl ?_
  refine r_iconst (v := (0 : Int32)) hX dX9_aims_302 (by decide) ?_
  refine r_putI' hX dX9_aims_303 fl_9_326 rfl (by decide) (by decide) (okI_int _) ?_
  refine r_iload_n hX dX9_aims_306 rfl ?_
  by_cases g68 : v2 = (0 : Int32)
  · have h := (if_pos g68).symm.trans h
    rw [g68]
    obtain rfl := Option.some.inj h
    exact r_iret (v := b2i false) hX hT dX9_aims_307 (okI_b false).1
  · have h := (if_neg g68).symm.trans h
    by_cases g69 : v2 = (1 : Int32)
    · have h := (if_pos g69).symm.trans h
      rw [g69]
      obtain rfl := Option.some.inj h
      exact r_iret (v := b2i true) hX hT dX9_aims_307 (okI_b true).1
    · have h := (if_neg g69).symm.trans h
      cases h
set_option maxRecDepth 100000 in
theorem ok_Fm_aims {G : Gm} {l : Launch} {d : Nat} (n : Nat) (v1 : Int32) (M : Mm) {z : Bool × Mm}  (h : Fm_aims n v1 M = some z) : CK G l (d + 6) md_Fm_aims [.ref 94, .int v1] M SS (some (.int (b2i z.1))) z.2 SS := by
  refine ck_of mk_Fm_aims (Nat.le_of_ble_eq_true rfl) ⟨Nat.le_refl _, Nat.le_refl _⟩ (fun X hX hT hS hr hl => ?_)
  subst hl
  unfold Fm_aims at h
  show WR G X (mQ G X (some (.int (b2i z.1))) z.2 SS) 0 [.ref 94, .int v1, vU, vU] [] M SS
  refine r_aload_n hX dX9_aims_0 rfl ?_
  refine r_iconst (v := (0 : Int32)) hX dX9_aims_1 (by decide) ?_
  refine r_iconst (v := (2 : Int32)) hX dX9_aims_2 (by decide) ?_
  obtain ⟨z1, p2, h⟩ := bnd_s h
  refine r_callV (As := [.int (0 : Int32), .int (2 : Int32)]) hX dX9_aims_3 mk_Fm_copies mi_Fm_copies ml_9_311 rfl rfl rfl rfl (by decide) (by decide) (Nat.le_of_ble_eq_true rfl) hr (ok_Fm_copies (d := d + 5) n (0 : Int32) (2 : Int32) M p2) ?_
  refine r_iconst (v := (1 : Int32)) hX dX9_aims_6 (by decide) ?_
  refine r_istore_n (L1 := [.ref 94, .int v1, .int (1 : Int32), vU]) hX dX9_aims_7 (Nat.le_of_ble_eq_true rfl) rfl ?_
  refine r_aload_n hX dX9_aims_8 rfl ?_
  refine r_iconst (v := (0 : Int32)) hX dX9_aims_9 (by decide) ?_
  refine r_putI hX dX9_aims_10 fl_9_314 rfl (by decide) (by decide) (okI_int _) ?_
  refine r_iconst (v := (0 : Int32)) hX dX9_aims_13 (by decide) ?_
  refine r_istore_n (L1 := [.ref 94, .int v1, .int (1 : Int32), .int (0 : Int32)]) hX dX9_aims_14 (Nat.le_of_ble_eq_true rfl) rfl ?_
  obtain ⟨y13, h1, h⟩ := bnd_s h
  refine loop_ok (P := fun s1 : Int32 × Mm => WR G X (mQ G X (some (.int (b2i z.1))) z.2 SS) 15 [.ref 94, .int v1, .int (1 : Int32), .int s1.1] [] s1.2 SS) (E := fun x1 : Mm => WR G X (mQ G X (some (.int (b2i z.1))) z.2 SS) 68 [.ref 94, .int v1, .int (1 : Int32), vU] [] x1 SS) (fun s1 o1 g1 g2 g3 => ok_Fm_aims_b15 n s1.1 s1.2  hX hT hr g2 g3 g1) n ((0 : Int32), ((up2 z1.1 94 32 (0 : Int32)), z1.2)) y13 h1 ?_
  show WR G X (mQ G X (some (.int (b2i z.1))) z.2 SS) 68 [.ref 94, .int v1, .int (1 : Int32), vU] [] y13 SS
  refine r_iconst (v := (0 : Int32)) hX dX9_aims_68 (by decide) ?_
  refine r_istore_n (L1 := [.ref 94, .int v1, .int (1 : Int32), .int (0 : Int32)]) hX dX9_aims_69 (Nat.le_of_ble_eq_true rfl) rfl ?_
  obtain ⟨y63, h1, h⟩ := bnd_s h
  refine loop_ok (P := fun s1 : Int32 × Int32 × Mm => WR G X (mQ G X (some (.int (b2i z.1))) z.2 SS) 70 [.ref 94, .int v1, .int s1.1, .int s1.2.1] [] s1.2.2 SS) (E := fun x1 : Int32 × Mm => WR G X (mQ G X (some (.int (b2i z.1))) z.2 SS) 282 [.ref 94, vU, .int x1.1, vU] [] x1.2 SS) (fun s1 o1 g1 g2 g3 => ok_Fm_aims_b70 n s1.1 s1.2.1 s1.2.2  hX hT hr g2 g3 g1) n ((1 : Int32), (0 : Int32), y13) y63 h1 ?_
  show WR G X (mQ G X (some (.int (b2i z.1))) z.2 SS) 282 [.ref 94, vU, .int y63.1, vU] [] y63.2 SS
  exact ok_Fm_aims_j282 n y63.1 y63.2   hX hT hr h
def Fm_isLeft (v1 : Int32) (M : Mm) : Option (Bool) :=
  grd (inb v1 40) (
  if (M.1 109 (tn v1)) = (0 : Int32) then
    some false
  else
    grd (inb v1 40) (
    if (M.1 110 (tn v1)) = (0 : Int32) then
      some true
    else
      some false))
set_option maxRecDepth 100000 in
theorem ok_Fm_isLeft {G : Gm} {l : Launch} {d : Nat} (v1 : Int32) (M : Mm) {z : Bool}  (h : Fm_isLeft v1 M = some z) : CK G l (d + 0) md_Fm_isLeft [.ref 94, .int v1] M SS (some (.int (b2i z))) M SS := by
  refine ck_of mk_Fm_isLeft (Nat.le_of_ble_eq_true rfl) ⟨Nat.le_refl _, Nat.le_refl _⟩ (fun X hX hT hS hr hl => ?_)
  subst hl
  unfold Fm_isLeft at h
  show WR G X (mQ G X (some (.int (b2i z))) M SS) 0 [.ref 94, .int v1] [] M SS
  refine r_aload_n hX dX9_isLeft_0 rfl ?_
  refine r_getf (v := .ref 109) hX dX9_isLeft_1 fl_9_53 rfl (by decide) (by decide) rfl ?_
  refine r_iload_n hX dX9_isLeft_4 rfl ?_
  obtain ⟨k1, h⟩ := grd_s h
  refine r_zald hX dX9_isLeft_5 rfl (by decide) (inb_at rfl k1) ?_
  refine r_if_eq (tgt := 22) hX dX9_isLeft_6 (by decide) (fun g2 => ?_) (fun g2 => ?_)
  · have h := (if_pos g2).symm.trans h
    refine r_iconst (v := (0 : Int32)) hX dX9_isLeft_22 (by decide) ?_
    obtain rfl := Option.some.inj h
    exact r_iret (v := b2i false) hX hT dX9_isLeft_23 (okI_b false).1
  · have h := (if_neg g2).symm.trans h
    refine r_aload_n hX dX9_isLeft_9 rfl ?_
    refine r_getf (v := .ref 110) hX dX9_isLeft_10 fl_9_57 rfl (by decide) (by decide) rfl ?_
    refine r_iload_n hX dX9_isLeft_13 rfl ?_
    obtain ⟨k3, h⟩ := grd_s h
    refine r_zald hX dX9_isLeft_14 rfl (by decide) (inb_at rfl k3) ?_
    refine r_if_ne (tgt := 22) hX dX9_isLeft_15 (by decide) (fun g4 => ?_) (fun g4 => ?_)
    · have h := (if_neg g4).symm.trans h
      refine r_iconst (v := (0 : Int32)) hX dX9_isLeft_22 (by decide) ?_
      obtain rfl := Option.some.inj h
      exact r_iret (v := b2i false) hX hT dX9_isLeft_23 (okI_b false).1
    · have h := (if_pos g4).symm.trans h
      refine r_iconst (v := (1 : Int32)) hX dX9_isLeft_18 (by decide) ?_
      refine r_goto (tgt := 23) hX dX9_isLeft_19 (by decide) ?_
      obtain rfl := Option.some.inj h
      exact r_iret (v := b2i true) hX hT dX9_isLeft_23 (okI_b true).1
def Fm_waitsFor (v1 : Int32) (v2 : Int32) (M : Mm) : Option (Bool) :=
  if v1 = v2 then
    some false
  else
    bnd (Fm_isLit v2 M) (fun z2 =>
    if z2 = true then
      grd (inb v1 40) (
      grd (inb v1 40) (
      grd (inb v1 40) (
      bnd (Fm_keepsFrom v2 (M.1 107 (tn v1)) (M.1 105 (tn v1)) (M.1 106 (tn v1)) M) (fun z8 =>
      if z8 = true then
        some false
      else
        some true))))
    else
      some false)
set_option maxRecDepth 100000 in
theorem ok_Fm_waitsFor {G : Gm} {l : Launch} {d : Nat} (v1 : Int32) (v2 : Int32) (M : Mm) {z : Bool}  (h : Fm_waitsFor v1 v2 M = some z) : CK G l (d + 2) md_Fm_waitsFor [.ref 94, .int v1, .int v2] M SS (some (.int (b2i z))) M SS := by
  refine ck_of mk_Fm_waitsFor (Nat.le_of_ble_eq_true rfl) ⟨Nat.le_refl _, Nat.le_refl _⟩ (fun X hX hT hS hr hl => ?_)
  subst hl
  unfold Fm_waitsFor at h
  show WR G X (mQ G X (some (.int (b2i z))) M SS) 0 [.ref 94, .int v1, .int v2] [] M SS
  refine r_iload_n hX dX9_waitsFor_0 rfl ?_
  refine r_iload_n hX dX9_waitsFor_1 rfl ?_
  refine r_icmp_eq (tgt := 43) hX dX9_waitsFor_2 (by decide) (fun g1 => ?_) (fun g1 => ?_)
  · have h := (if_pos g1).symm.trans h
    refine r_iconst (v := (0 : Int32)) hX dX9_waitsFor_43 (by decide) ?_
    obtain rfl := Option.some.inj h
    exact r_iret (v := b2i false) hX hT dX9_waitsFor_44 (okI_b false).1
  · have h := (if_neg g1).symm.trans h
    refine r_aload_n hX dX9_waitsFor_5 rfl ?_
    refine r_iload_n hX dX9_waitsFor_6 rfl ?_
    obtain ⟨z2, p3, h⟩ := bnd_s h
    refine r_callV (As := [.int v2]) hX dX9_waitsFor_7 mk_Fm_isLit mi_Fm_isLit ml_9_219 rfl rfl rfl rfl (by decide) (by decide) (Nat.le_of_ble_eq_true rfl) hr (ok_Fm_isLit (d := d + 0) v2 M p3) ?_
    refine r_ifb_eq (tgt := 43) hX dX9_waitsFor_10 (by decide) (fun g4 => ?_) (fun g4 => ?_)
    · have h := (if_neg (show ¬ z2 = true from fun e => by rw [g4] at e; cases e)).symm.trans h
      refine r_iconst (v := (0 : Int32)) hX dX9_waitsFor_43 (by decide) ?_
      obtain rfl := Option.some.inj h
      exact r_iret (v := b2i false) hX hT dX9_waitsFor_44 (okI_b false).1
    · have h := (if_pos g4).symm.trans h
      refine r_aload_n hX dX9_waitsFor_13 rfl ?_
      refine r_iload_n hX dX9_waitsFor_14 rfl ?_
      refine r_aload_n hX dX9_waitsFor_15 rfl ?_
      refine r_getf (v := .ref 107) hX dX9_waitsFor_16 fl_9_47 rfl (by decide) (by decide) rfl ?_
      refine r_iload_n hX dX9_waitsFor_19 rfl ?_
      obtain ⟨k5, h⟩ := grd_s h
      refine r_iald hX dX9_waitsFor_20 rfl (by decide) (inb_at rfl k5) ?_
      refine r_aload_n hX dX9_waitsFor_21 rfl ?_
      refine r_getf (v := .ref 105) hX dX9_waitsFor_22 fl_9_41 rfl (by decide) (by decide) rfl ?_
      refine r_iload_n hX dX9_waitsFor_25 rfl ?_
      obtain ⟨k6, h⟩ := grd_s h
      refine r_iald hX dX9_waitsFor_26 rfl (by decide) (inb_at rfl k6) ?_
      refine r_aload_n hX dX9_waitsFor_27 rfl ?_
      refine r_getf (v := .ref 106) hX dX9_waitsFor_28 fl_9_44 rfl (by decide) (by decide) rfl ?_
      refine r_iload_n hX dX9_waitsFor_31 rfl ?_
      obtain ⟨k7, h⟩ := grd_s h
      refine r_iald hX dX9_waitsFor_32 rfl (by decide) (inb_at rfl k7) ?_
      obtain ⟨z8, p9, h⟩ := bnd_s h
      refine r_callV (As := [.int v2, .int (M.1 107 (tn v1)), .int (M.1 105 (tn v1)), .int (M.1 106 (tn v1))]) hX dX9_waitsFor_33 mk_Fm_keepsFrom mi_Fm_keepsFrom ml_9_222 rfl rfl rfl rfl (by decide) (by decide) (Nat.le_of_ble_eq_true rfl) hr (ok_Fm_keepsFrom (d := d + 0) v2 (M.1 107 (tn v1)) (M.1 105 (tn v1)) (M.1 106 (tn v1)) M p9) ?_
      refine r_ifb_ne (tgt := 43) hX dX9_waitsFor_36 (by decide) (fun g10 => ?_) (fun g10 => ?_)
      · have h := (if_pos g10).symm.trans h
        refine r_iconst (v := (0 : Int32)) hX dX9_waitsFor_43 (by decide) ?_
        obtain rfl := Option.some.inj h
        exact r_iret (v := b2i false) hX hT dX9_waitsFor_44 (okI_b false).1
      · have h := (if_neg (show ¬ z8 = true from fun e => by rw [g10] at e; cases e)).symm.trans h
        refine r_iconst (v := (1 : Int32)) hX dX9_waitsFor_39 (by decide) ?_
        refine r_goto (tgt := 44) hX dX9_waitsFor_40 (by decide) ?_
        obtain rfl := Option.some.inj h
        exact r_iret (v := b2i true) hX hT dX9_waitsFor_44 (okI_b true).1
def Fm_waitsMany_j28 (v2 : Int32) (v3 : Int32) : Option ((Int32 × Int32) ⊕ (Int32)) :=
  some (.inl (v2, v3 + (1 : Int32)))
def Fm_waitsMany_b4 (c1 : Int32) (Mc : Mm) (v2 : Int32) (v3 : Int32) : Option ((Int32 × Int32) ⊕ (Int32)) :=
  grd (inb (7 : Int32) 12256) (
  if (Mc.1 95 (tn (7 : Int32))) ≤ v3 then
    some (.inr v2)
  else
    bnd (Fm_waitsFor c1 v3 Mc) (fun z3 =>
    if z3 = true then
      Fm_waitsMany_j28 (v2 + (1 : Int32)) v3
    else
      Fm_waitsMany_j28 v2 v3))
def Fm_waitsMany (n : Nat) (v1 : Int32) (M : Mm) : Option (Int32) :=
  bnd (loop (fun s1 : Int32 × Int32 => Fm_waitsMany_b4 v1 M s1.1 s1.2) n ((0 : Int32), (0 : Int32))) (fun y6 =>
  some y6)
set_option maxRecDepth 100000 in
theorem ok_Fm_waitsMany_j28 (n : Nat) (v2 : Int32) (v3 : Int32) {c1 : Int32} {Mc : Mm} {z : Int32} {oo : (Int32 × Int32) ⊕ (Int32)} {G : Gm} {X : Cx} {d : Nat}  (hX : XK G X 9 cX9_waitsMany 4 (d + 3)) (hT : XT X (some .int) "waitsMany") (hr : XR X SS) (hc : ∀ s1 : Int32 × Int32, oo = .inl s1 → WR G X (mQ G X (some (.int z)) Mc SS) 4 [.ref 94, .int c1, .int s1.1, .int s1.2] [] Mc SS) (hx : ∀ x1 : Int32, oo = .inr x1 → WR G X (mQ G X (some (.int z)) Mc SS) 34 [.ref 94, vU, .int x1, vU] [] Mc SS) (h : Fm_waitsMany_j28 v2 v3 = some oo) : WR G X (mQ G X (some (.int z)) Mc SS) 28 [.ref 94, .int c1, .int v2, .int v3] [] Mc SS := by
  unfold Fm_waitsMany_j28 at h
  refine r_iinc (v := v3 + (1 : Int32)) (L1 := [.ref 94, .int c1, .int v2, .int (v3 + (1 : Int32))]) hX dX9_waitsMany_28 rfl rfl rfl ?_
  refine r_goto (tgt := 4) hX dX9_waitsMany_31 (by decide) ?_
  exact hc (v2, v3 + (1 : Int32)) (Option.some.inj h).symm
set_option maxRecDepth 100000 in
theorem ok_Fm_waitsMany_b4 (n : Nat) (v2 : Int32) (v3 : Int32) {c1 : Int32} {Mc : Mm} {z : Int32} {oo : (Int32 × Int32) ⊕ (Int32)} {G : Gm} {X : Cx} {d : Nat}  (hX : XK G X 9 cX9_waitsMany 4 (d + 3)) (hT : XT X (some .int) "waitsMany") (hr : XR X SS) (hc : ∀ s1 : Int32 × Int32, oo = .inl s1 → WR G X (mQ G X (some (.int z)) Mc SS) 4 [.ref 94, .int c1, .int s1.1, .int s1.2] [] Mc SS) (hx : ∀ x1 : Int32, oo = .inr x1 → WR G X (mQ G X (some (.int z)) Mc SS) 34 [.ref 94, vU, .int x1, vU] [] Mc SS) (h : Fm_waitsMany_b4 c1 Mc v2 v3 = some oo) : WR G X (mQ G X (some (.int z)) Mc SS) 4 [.ref 94, .int c1, .int v2, .int v3] [] Mc SS := by
  unfold Fm_waitsMany_b4 at h
  refine r_iload_n hX dX9_waitsMany_4 rfl ?_
  refine r_aload_n hX dX9_waitsMany_5 rfl ?_
  refine r_getf (v := .ref 95) hX dX9_waitsMany_6 fl_9_7 rfl (by decide) (by decide) rfl ?_
  refine r_bipush (v := (7 : Int32)) hX dX9_waitsMany_9 (by decide) ?_
  obtain ⟨k1, h⟩ := grd_s h
  refine r_iald hX dX9_waitsMany_11 rfl (by decide) (inb_at rfl k1) ?_
  refine r_icmp_ge (tgt := 34) hX dX9_waitsMany_12 (by decide) (fun g2 => ?_) (fun g2 => ?_)
  · have h := (if_pos g2).symm.trans h
    refine WR.fg (L' := [.ref 94, vU, .int v2, vU]) ⟨Or.inr rfl, Or.inl rfl, Or.inr rfl, Or.inl rfl, trivial⟩ ?_
    exact hx _ (Option.some.inj h).symm
  · have h := (if_neg g2).symm.trans h
    refine r_aload_n hX dX9_waitsMany_15 rfl ?_
    refine r_iload_n hX dX9_waitsMany_16 rfl ?_
    refine r_iload_n hX dX9_waitsMany_17 rfl ?_
    obtain ⟨z3, p4, h⟩ := bnd_s h
    refine r_callV (As := [.int c1, .int v3]) hX dX9_waitsMany_18 mk_Fm_waitsFor mi_Fm_waitsFor ml_9_329 rfl rfl rfl rfl (by decide) (by decide) (Nat.le_of_ble_eq_true rfl) hr (ok_Fm_waitsFor (d := d + 0) c1 v3 Mc p4) ?_
    refine r_ifb_eq (tgt := 28) hX dX9_waitsMany_21 (by decide) (fun g5 => ?_) (fun g5 => ?_)
    · have h := (if_neg (show ¬ z3 = true from fun e => by rw [g5] at e; cases e)).symm.trans h
      exact ok_Fm_waitsMany_j28 n v2 v3   hX hT hr hc hx h
    · have h := (if_pos g5).symm.trans h
      refine r_iload_n hX dX9_waitsMany_24 rfl ?_
      refine r_iconst (v := (1 : Int32)) hX dX9_waitsMany_25 (by decide) ?_
      refine r_iadd hX dX9_waitsMany_26 ?_
      refine r_istore_n (L1 := [.ref 94, .int c1, .int (v2 + (1 : Int32)), .int v3]) hX dX9_waitsMany_27 (Nat.le_of_ble_eq_true rfl) rfl ?_
      exact ok_Fm_waitsMany_j28 n (v2 + (1 : Int32)) v3   hX hT hr hc hx h
set_option maxRecDepth 100000 in
theorem ok_Fm_waitsMany {G : Gm} {l : Launch} {d : Nat} (n : Nat) (v1 : Int32) (M : Mm) {z : Int32}  (h : Fm_waitsMany n v1 M = some z) : CK G l (d + 3) md_Fm_waitsMany [.ref 94, .int v1] M SS (some (.int z)) M SS := by
  refine ck_of mk_Fm_waitsMany (Nat.le_of_ble_eq_true rfl) ⟨Nat.le_refl _, Nat.le_refl _⟩ (fun X hX hT hS hr hl => ?_)
  subst hl
  unfold Fm_waitsMany at h
  show WR G X (mQ G X (some (.int z)) M SS) 0 [.ref 94, .int v1, vU, vU] [] M SS
  refine r_iconst (v := (0 : Int32)) hX dX9_waitsMany_0 (by decide) ?_
  refine r_istore_n (L1 := [.ref 94, .int v1, .int (0 : Int32), vU]) hX dX9_waitsMany_1 (Nat.le_of_ble_eq_true rfl) rfl ?_
  refine r_iconst (v := (0 : Int32)) hX dX9_waitsMany_2 (by decide) ?_
  refine r_istore_n (L1 := [.ref 94, .int v1, .int (0 : Int32), .int (0 : Int32)]) hX dX9_waitsMany_3 (Nat.le_of_ble_eq_true rfl) rfl ?_
  obtain ⟨y6, h1, h⟩ := bnd_s h
  refine loop_ok (P := fun s1 : Int32 × Int32 => WR G X (mQ G X (some (.int z)) M SS) 4 [.ref 94, .int v1, .int s1.1, .int s1.2] [] M SS) (E := fun x1 : Int32 => WR G X (mQ G X (some (.int z)) M SS) 34 [.ref 94, vU, .int x1, vU] [] M SS) (fun s1 o1 g1 g2 g3 => ok_Fm_waitsMany_b4 n s1.1 s1.2  hX hT hr g2 g3 g1) n ((0 : Int32), (0 : Int32)) y6 h1 ?_
  show WR G X (mQ G X (some (.int z)) M SS) 34 [.ref 94, vU, .int y6, vU] [] M SS
  refine r_iload_n hX dX9_waitsMany_34 rfl ?_
  obtain rfl := Option.some.inj h
  exact r_iret hX hT dX9_waitsMany_35 rfl
def Fm_nextMove_j31 (v1 : Int32) : Option ((Int32) ⊕ ((Unit) ⊕ (Int32))) :=
  some (.inl (v1 + (1 : Int32)))
def Fm_nextMove_b2 (n : Nat) (Mc : Mm) (v1 : Int32) : Option ((Int32) ⊕ ((Unit) ⊕ (Int32))) :=
  grd (inb (7 : Int32) 12256) (
  if (Mc.1 95 (tn (7 : Int32))) ≤ v1 then
    some (.inr (.inl ()))
  else
    bnd (Fm_isLeft v1 Mc) (fun z3 =>
    if z3 = true then
      bnd (Fm_waitsMany n v1 Mc) (fun z6 =>
      if z6 = (0 : Int32) then
        some (.inr (.inr v1))
      else
        Fm_nextMove_j31 v1)
    else
      Fm_nextMove_j31 v1))
def Fm_nextMove (n : Nat) (M : Mm) : Option (Int32) :=
  bnd (loop (fun s1 : Int32 => Fm_nextMove_b2 n M s1) n (0 : Int32)) (fun y9 =>
  elS y9 (fun x10 =>
    some (-1 : Int32))
    (fun e11 => some e11))
set_option maxRecDepth 100000 in
theorem ok_Fm_nextMove_j31 (n : Nat) (v1 : Int32)  {Mc : Mm} {z : Int32} {oo : (Int32) ⊕ ((Unit) ⊕ (Int32))} {G : Gm} {X : Cx} {d : Nat}  (hX : XK G X 9 cX9_nextMove 2 (d + 4)) (hT : XT X (some .int) "nextMove") (hr : XR X SS) (hc : ∀ s1 : Int32, oo = .inl s1 → WR G X (mQ G X (some (.int z)) Mc SS) 2 [.ref 94, .int s1] [] Mc SS) (hx : ∀ x1 : (Unit) ⊕ (Int32), oo = .inr x1 → elS x1 (fun x2 => WR G X (mQ G X (some (.int z)) Mc SS) 37 [.ref 94, vU] [] Mc SS) (fun y1 => y1 = z)) (h : Fm_nextMove_j31 v1 = some oo) : WR G X (mQ G X (some (.int z)) Mc SS) 31 [.ref 94, .int v1] [] Mc SS := by
  unfold Fm_nextMove_j31 at h
  refine r_iinc (v := v1 + (1 : Int32)) (L1 := [.ref 94, .int (v1 + (1 : Int32))]) hX dX9_nextMove_31 rfl rfl rfl ?_
  refine r_goto (tgt := 2) hX dX9_nextMove_34 (by decide) ?_
  exact hc (v1 + (1 : Int32)) (Option.some.inj h).symm
set_option maxRecDepth 100000 in
theorem ok_Fm_nextMove_b2 (n : Nat) (v1 : Int32)  {Mc : Mm} {z : Int32} {oo : (Int32) ⊕ ((Unit) ⊕ (Int32))} {G : Gm} {X : Cx} {d : Nat}  (hX : XK G X 9 cX9_nextMove 2 (d + 4)) (hT : XT X (some .int) "nextMove") (hr : XR X SS) (hc : ∀ s1 : Int32, oo = .inl s1 → WR G X (mQ G X (some (.int z)) Mc SS) 2 [.ref 94, .int s1] [] Mc SS) (hx : ∀ x1 : (Unit) ⊕ (Int32), oo = .inr x1 → elS x1 (fun x2 => WR G X (mQ G X (some (.int z)) Mc SS) 37 [.ref 94, vU] [] Mc SS) (fun y1 => y1 = z)) (h : Fm_nextMove_b2 n Mc v1 = some oo) : WR G X (mQ G X (some (.int z)) Mc SS) 2 [.ref 94, .int v1] [] Mc SS := by
  unfold Fm_nextMove_b2 at h
  refine r_iload_n hX dX9_nextMove_2 rfl ?_
  refine r_aload_n hX dX9_nextMove_3 rfl ?_
  refine r_getf (v := .ref 95) hX dX9_nextMove_4 fl_9_7 rfl (by decide) (by decide) rfl ?_
  refine r_bipush (v := (7 : Int32)) hX dX9_nextMove_7 (by decide) ?_
  obtain ⟨k1, h⟩ := grd_s h
  refine r_iald hX dX9_nextMove_9 rfl (by decide) (inb_at rfl k1) ?_
  refine r_icmp_ge (tgt := 37) hX dX9_nextMove_10 (by decide) (fun g2 => ?_) (fun g2 => ?_)
  · have h := (if_pos g2).symm.trans h
    refine WR.fg (L' := [.ref 94, vU]) ⟨Or.inr rfl, Or.inl rfl, trivial⟩ ?_
    exact hx _ (Option.some.inj h).symm
  · have h := (if_neg g2).symm.trans h
    refine r_aload_n hX dX9_nextMove_13 rfl ?_
    refine r_iload_n hX dX9_nextMove_14 rfl ?_
    obtain ⟨z3, p4, h⟩ := bnd_s h
    refine r_callV (As := [.int v1]) hX dX9_nextMove_15 mk_Fm_isLeft mi_Fm_isLeft ml_9_332 rfl rfl rfl rfl (by decide) (by decide) (Nat.le_of_ble_eq_true rfl) hr (ok_Fm_isLeft (d := d + 3) v1 Mc p4) ?_
    refine r_ifb_eq (tgt := 31) hX dX9_nextMove_18 (by decide) (fun g5 => ?_) (fun g5 => ?_)
    · have h := (if_neg (show ¬ z3 = true from fun e => by rw [g5] at e; cases e)).symm.trans h
      exact ok_Fm_nextMove_j31 n v1   hX hT hr hc hx h
    · have h := (if_pos g5).symm.trans h
      refine r_aload_n hX dX9_nextMove_21 rfl ?_
      refine r_iload_n hX dX9_nextMove_22 rfl ?_
      obtain ⟨z6, p7, h⟩ := bnd_s h
      refine r_callV (As := [.int v1]) hX dX9_nextMove_23 mk_Fm_waitsMany mi_Fm_waitsMany ml_9_335 rfl rfl rfl rfl (by decide) (by decide) (Nat.le_of_ble_eq_true rfl) hr (ok_Fm_waitsMany (d := d + 0) n v1 Mc p7) ?_
      refine r_if_ne (tgt := 31) hX dX9_nextMove_26 (by decide) (fun g8 => ?_) (fun g8 => ?_)
      · have h := (if_neg g8).symm.trans h
        exact ok_Fm_nextMove_j31 n v1   hX hT hr hc hx h
      · have h := (if_pos g8).symm.trans h
        refine r_iload_n hX dX9_nextMove_29 rfl ?_
        obtain rfl := hx _ (Option.some.inj h).symm
        exact r_iret hX hT dX9_nextMove_30 rfl
set_option maxRecDepth 100000 in
theorem ok_Fm_nextMove {G : Gm} {l : Launch} {d : Nat} (n : Nat) (M : Mm) {z : Int32}  (h : Fm_nextMove n M = some z) : CK G l (d + 4) md_Fm_nextMove [.ref 94] M SS (some (.int z)) M SS := by
  refine ck_of mk_Fm_nextMove (Nat.le_of_ble_eq_true rfl) ⟨Nat.le_refl _, Nat.le_refl _⟩ (fun X hX hT hS hr hl => ?_)
  subst hl
  unfold Fm_nextMove at h
  show WR G X (mQ G X (some (.int z)) M SS) 0 [.ref 94, vU] [] M SS
  refine r_iconst (v := (0 : Int32)) hX dX9_nextMove_0 (by decide) ?_
  refine r_istore_n (L1 := [.ref 94, .int (0 : Int32)]) hX dX9_nextMove_1 (Nat.le_of_ble_eq_true rfl) rfl ?_
  obtain ⟨y9, h1, h⟩ := bnd_s h
  refine loop_ok (P := fun s1 : Int32 => WR G X (mQ G X (some (.int z)) M SS) 2 [.ref 94, .int s1] [] M SS) (E := fun x1 : (Unit) ⊕ (Int32) => elS x1 (fun x2 => WR G X (mQ G X (some (.int z)) M SS) 37 [.ref 94, vU] [] M SS) (fun y1 => y1 = z)) (fun s1 o1 g1 g2 g3 => ok_Fm_nextMove_b2 n s1  hX hT hr g2 g3 g1) n (0 : Int32) y9 h1 ?_
  cases y9 with
  | inr e11 =>
    exact Option.some.inj h
  | inl x10 =>
    show WR G X (mQ G X (some (.int z)) M SS) 37 [.ref 94, vU] [] M SS
    refine r_iconst (v := (-1 : Int32)) hX dX9_nextMove_37 (by decide) ?_
    obtain rfl := Option.some.inj h
    exact r_iret hX hT dX9_nextMove_38 rfl
def Fm_plans_b5 (n : Nat) (v1 : Int32) (M : Mm) : Option ((Int32 × Mm) ⊕ (Mm)) :=
  if v1 = (-1 : Int32) then
    some (.inr M)
  else
    grd (inb v1 40) (
    bnd (Fm_sets v1 (4 : Int32) (M.1 105 (tn v1)) M) (fun z5 =>
    grd (inb v1 40) (
    bnd (Fm_sets v1 (5 : Int32) (z5.1 106 (tn v1)) z5) (fun z8 =>
    grd (inb v1 40) (
    bnd (Fm_sets v1 (6 : Int32) (z8.1 107 (tn v1)) z8) (fun z11 =>
    grd (inb v1 40) (
    grd (inb ((up2 z11.1 110 (tn v1) (vp_nar .boolean (1 : Int32))) 94 33) 40) (
    bnd (Fm_nextMove n ((up2 (up2 (up2 z11.1 110 (tn v1) (vp_nar .boolean (1 : Int32))) 108 (tn ((up2 z11.1 110 (tn v1) (vp_nar .boolean (1 : Int32))) 94 33)) v1) 94 33 (((up2 (up2 z11.1 110 (tn v1) (vp_nar .boolean (1 : Int32))) 108 (tn ((up2 z11.1 110 (tn v1) (vp_nar .boolean (1 : Int32))) 94 33)) v1) 94 33) + (1 : Int32))), z11.2)) (fun z15 =>
    some (.inl (z15, ((up2 (up2 (up2 z11.1 110 (tn v1) (vp_nar .boolean (1 : Int32))) 108 (tn ((up2 z11.1 110 (tn v1) (vp_nar .boolean (1 : Int32))) 94 33)) v1) 94 33 (((up2 (up2 z11.1 110 (tn v1) (vp_nar .boolean (1 : Int32))) 108 (tn ((up2 z11.1 110 (tn v1) (vp_nar .boolean (1 : Int32))) 94 33)) v1) 94 33) + (1 : Int32))), z11.2))))))))))))
def Fm_plans (n : Nat) (M : Mm) : Option (Mm) :=
  bnd (Fm_nextMove n M) (fun z1 =>
  bnd (loop (fun s1 : Int32 × Mm => Fm_plans_b5 n s1.1 s1.2) n (z1, M)) (fun y17 =>
  some y17))
set_option maxRecDepth 100000 in
theorem ok_Fm_plans_b5 (n : Nat) (v1 : Int32) (M : Mm)  {z : Mm} {oo : (Int32 × Mm) ⊕ (Mm)} {G : Gm} {X : Cx} {d : Nat}  (hX : XK G X 9 cX9_plans 2 (d + 5)) (hT : XT X (none) "plans") (hr : XR X SS) (hc : ∀ s1 : Int32 × Mm, oo = .inl s1 → WR G X (mQ G X (none) z SS) 5 [.ref 94, .int s1.1] [] s1.2 SS) (hx : ∀ x1 : Mm, oo = .inr x1 → WR G X (mQ G X (none) z SS) 82 [.ref 94, vU] [] x1 SS) (h : Fm_plans_b5 n v1 M = some oo) : WR G X (mQ G X (none) z SS) 5 [.ref 94, .int v1] [] M SS := by
  unfold Fm_plans_b5 at h
  refine r_iload_n hX dX9_plans_5 rfl ?_
  refine r_iconst (v := (-1 : Int32)) hX dX9_plans_6 (by decide) ?_
  refine r_icmp_eq (tgt := 82) hX dX9_plans_7 (by decide) (fun g3 => ?_) (fun g3 => ?_)
  · have h := (if_pos g3).symm.trans h
    refine WR.fg (L' := [.ref 94, vU]) ⟨Or.inr rfl, Or.inl rfl, trivial⟩ ?_
    exact hx _ (Option.some.inj h).symm
  · have h := (if_neg g3).symm.trans h
    refine r_aload_n hX dX9_plans_10 rfl ?_
    refine r_iload_n hX dX9_plans_11 rfl ?_
    refine r_iconst (v := (4 : Int32)) hX dX9_plans_12 (by decide) ?_
    refine r_aload_n hX dX9_plans_13 rfl ?_
    refine r_getf (v := .ref 105) hX dX9_plans_14 fl_9_41 rfl (by decide) (by decide) rfl ?_
    refine r_iload_n hX dX9_plans_17 rfl ?_
    obtain ⟨k4, h⟩ := grd_s h
    refine r_iald hX dX9_plans_18 rfl (by decide) (inb_at rfl k4) ?_
    obtain ⟨z5, p6, h⟩ := bnd_s h
    refine r_callV (As := [.int v1, .int (4 : Int32), .int (M.1 105 (tn v1))]) hX dX9_plans_19 mk_Fm_sets mi_Fm_sets ml_9_256 rfl rfl rfl rfl (by decide) (by decide) (Nat.le_of_ble_eq_true rfl) hr (ok_Fm_sets (d := d + 4) v1 (4 : Int32) (M.1 105 (tn v1)) M p6) ?_
    refine r_aload_n hX dX9_plans_22 rfl ?_
    refine r_iload_n hX dX9_plans_23 rfl ?_
    refine r_iconst (v := (5 : Int32)) hX dX9_plans_24 (by decide) ?_
    refine r_aload_n hX dX9_plans_25 rfl ?_
    refine r_getf (v := .ref 106) hX dX9_plans_26 fl_9_44 rfl (by decide) (by decide) rfl ?_
    refine r_iload_n hX dX9_plans_29 rfl ?_
    obtain ⟨k7, h⟩ := grd_s h
    refine r_iald hX dX9_plans_30 rfl (by decide) (inb_at rfl k7) ?_
    obtain ⟨z8, p9, h⟩ := bnd_s h
    refine r_callV (As := [.int v1, .int (5 : Int32), .int (z5.1 106 (tn v1))]) hX dX9_plans_31 mk_Fm_sets mi_Fm_sets ml_9_256 rfl rfl rfl rfl (by decide) (by decide) (Nat.le_of_ble_eq_true rfl) hr (ok_Fm_sets (d := d + 4) v1 (5 : Int32) (z5.1 106 (tn v1)) z5 p9) ?_
    refine r_aload_n hX dX9_plans_34 rfl ?_
    refine r_iload_n hX dX9_plans_35 rfl ?_
    refine r_bipush (v := (6 : Int32)) hX dX9_plans_36 (by decide) ?_
    refine r_aload_n hX dX9_plans_38 rfl ?_
    refine r_getf (v := .ref 107) hX dX9_plans_39 fl_9_47 rfl (by decide) (by decide) rfl ?_
    refine r_iload_n hX dX9_plans_42 rfl ?_
    obtain ⟨k10, h⟩ := grd_s h
    refine r_iald hX dX9_plans_43 rfl (by decide) (inb_at rfl k10) ?_
    obtain ⟨z11, p12, h⟩ := bnd_s h
    refine r_callV (As := [.int v1, .int (6 : Int32), .int (z8.1 107 (tn v1))]) hX dX9_plans_44 mk_Fm_sets mi_Fm_sets ml_9_256 rfl rfl rfl rfl (by decide) (by decide) (Nat.le_of_ble_eq_true rfl) hr (ok_Fm_sets (d := d + 4) v1 (6 : Int32) (z8.1 107 (tn v1)) z8 p12) ?_
    refine r_aload_n hX dX9_plans_47 rfl ?_
    refine r_getf (v := .ref 110) hX dX9_plans_48 fl_9_57 rfl (by decide) (by decide) rfl ?_
    refine r_iload_n hX dX9_plans_51 rfl ?_
    refine r_iconst (v := (1 : Int32)) hX dX9_plans_52 (by decide) ?_
    obtain ⟨k13, h⟩ := grd_s h
    refine r_zast hX dX9_plans_53 rfl (by decide) (inb_at rfl k13) ?_
    refine r_aload_n hX dX9_plans_54 rfl ?_
    refine r_getf (v := .ref 108) hX dX9_plans_55 fl_9_50 rfl (by decide) (by decide) rfl ?_
    refine r_aload_n hX dX9_plans_58 rfl ?_
    refine r_getf (v := .int ((up2 z11.1 110 (tn v1) (vp_nar .boolean (1 : Int32))) 94 33)) hX dX9_plans_59 fl_9_323 rfl (by decide) (by decide) rfl ?_
    refine r_iload_n hX dX9_plans_62 rfl ?_
    obtain ⟨k14, h⟩ := grd_s h
    refine r_iast' hX dX9_plans_63 rfl (by decide) (inb_at rfl k14) ?_
    refine r_aload_n hX dX9_plans_64 rfl ?_
    refine r_aload_n hX dX9_plans_65 rfl ?_
    refine r_getf (v := .int ((up2 (up2 z11.1 110 (tn v1) (vp_nar .boolean (1 : Int32))) 108 (tn ((up2 z11.1 110 (tn v1) (vp_nar .boolean (1 : Int32))) 94 33)) v1) 94 33)) hX dX9_plans_66 fl_9_323 rfl (by decide) (by decide) rfl ?_
    refine r_iconst (v := (1 : Int32)) hX dX9_plans_69 (by decide) ?_
    refine r_iadd hX dX9_plans_70 ?_
    refine r_putI' hX dX9_plans_71 fl_9_323 rfl (by decide) (by decide) (okI_int _) ?_
    refine r_aload_n hX dX9_plans_74 rfl ?_
    obtain ⟨z15, p16, h⟩ := bnd_s h
    refine r_callV (As := []) hX dX9_plans_75 mk_Fm_nextMove mi_Fm_nextMove ml_9_338 rfl rfl rfl rfl (by decide) (by decide) (Nat.le_of_ble_eq_true rfl) hr (ok_Fm_nextMove (d := d + 0) n ((up2 (up2 (up2 z11.1 110 (tn v1) (vp_nar .boolean (1 : Int32))) 108 (tn ((up2 z11.1 110 (tn v1) (vp_nar .boolean (1 : Int32))) 94 33)) v1) 94 33 (((up2 (up2 z11.1 110 (tn v1) (vp_nar .boolean (1 : Int32))) 108 (tn ((up2 z11.1 110 (tn v1) (vp_nar .boolean (1 : Int32))) 94 33)) v1) 94 33) + (1 : Int32))), z11.2) p16) ?_
    refine r_istore_n (L1 := [.ref 94, .int z15]) hX dX9_plans_78 (Nat.le_of_ble_eq_true rfl) rfl ?_
    refine r_goto (tgt := 5) hX dX9_plans_79 (by decide) ?_
    exact hc (z15, ((up2 (up2 (up2 z11.1 110 (tn v1) (vp_nar .boolean (1 : Int32))) 108 (tn ((up2 z11.1 110 (tn v1) (vp_nar .boolean (1 : Int32))) 94 33)) v1) 94 33 (((up2 (up2 z11.1 110 (tn v1) (vp_nar .boolean (1 : Int32))) 108 (tn ((up2 z11.1 110 (tn v1) (vp_nar .boolean (1 : Int32))) 94 33)) v1) 94 33) + (1 : Int32))), z11.2)) (Option.some.inj h).symm
set_option maxRecDepth 100000 in
theorem ok_Fm_plans {G : Gm} {l : Launch} {d : Nat} (n : Nat) (M : Mm) {z : Mm}  (h : Fm_plans n M = some z) : CK G l (d + 5) md_Fm_plans [.ref 94] M SS (none) z SS := by
  refine ck_of mk_Fm_plans (Nat.le_of_ble_eq_true rfl) ⟨Nat.le_refl _, Nat.le_refl _⟩ (fun X hX hT hS hr hl => ?_)
  subst hl
  unfold Fm_plans at h
  show WR G X (mQ G X (none) z SS) 0 [.ref 94, vU] [] M SS
  refine r_aload_n hX dX9_plans_0 rfl ?_
  obtain ⟨z1, p2, h⟩ := bnd_s h
  refine r_callV (As := []) hX dX9_plans_1 mk_Fm_nextMove mi_Fm_nextMove ml_9_338 rfl rfl rfl rfl (by decide) (by decide) (Nat.le_of_ble_eq_true rfl) hr (ok_Fm_nextMove (d := d + 0) n M p2) ?_
  refine r_istore_n (L1 := [.ref 94, .int z1]) hX dX9_plans_4 (Nat.le_of_ble_eq_true rfl) rfl ?_
  obtain ⟨y17, h1, h⟩ := bnd_s h
  refine loop_ok (P := fun s1 : Int32 × Mm => WR G X (mQ G X (none) z SS) 5 [.ref 94, .int s1.1] [] s1.2 SS) (E := fun x1 : Mm => WR G X (mQ G X (none) z SS) 82 [.ref 94, vU] [] x1 SS) (fun s1 o1 g1 g2 g3 => ok_Fm_plans_b5 n s1.1 s1.2  hX hT hr g2 g3 g1) n (z1, M) y17 h1 ?_
  show WR G X (mQ G X (none) z SS) 82 [.ref 94, vU] [] y17 SS
  obtain rfl := Option.some.inj h
  exact r_vret hX hT dX9_plans_82
def Fm_plan (n : Nat) (v1 : Int32) (M : Mm) : Option (Int32 × Mm) :=
  bnd (Fm_isRule v1 M) (fun z1 =>
  if z1 = true then
    bnd (Fm_aims n v1 M) (fun z4 =>
    if z4.1 = true then
      bnd (Fm_plans n z4.2) (fun z7 =>
      some (z7.1 94 33, z7))
    else
      some ((-2 : Int32), z4.2))
  else
    some ((-1 : Int32), M))
set_option maxRecDepth 100000 in
theorem ok_Fm_plan {G : Gm} {l : Launch} {d : Nat} (n : Nat) (v1 : Int32) (M : Mm) {z : Int32 × Mm}  (h : Fm_plan n v1 M = some z) : CK G l (d + 7) md_Fm_plan [.ref 94, .int v1] M SS (some (.int z.1)) z.2 SS := by
  refine ck_of mk_Fm_plan (Nat.le_of_ble_eq_true rfl) ⟨Nat.le_refl _, Nat.le_refl _⟩ (fun X hX hT hS hr hl => ?_)
  subst hl
  unfold Fm_plan at h
  show WR G X (mQ G X (some (.int z.1)) z.2 SS) 0 [.ref 94, .int v1] [] M SS
  refine r_iload_n hX dX9_plan_0 rfl ?_
  obtain ⟨z1, p2, h⟩ := bnd_s h
  refine r_callS (As := [.int v1]) hX dX9_plan_1 mk_Fm_isRule ms_Fm_isRule ml_9_265 rfl rfl rfl (Nat.le_of_ble_eq_true rfl) hr (ok_Fm_isRule (d := d + 5) v1 M p2) ?_
  refine r_ifb_ne (tgt := 9) hX dX9_plan_4 (by decide) (fun g3 => ?_) (fun g3 => ?_)
  · have h := (if_pos g3).symm.trans h
    refine r_aload_n hX dX9_plan_9 rfl ?_
    refine r_iload_n hX dX9_plan_10 rfl ?_
    obtain ⟨z4, p5, h⟩ := bnd_s h
    refine r_callV (As := [.int v1]) hX dX9_plan_11 mk_Fm_aims mi_Fm_aims ml_9_341 rfl rfl rfl rfl (by decide) (by decide) (Nat.le_of_ble_eq_true rfl) hr (ok_Fm_aims (d := d + 0) n v1 M p5) ?_
    refine r_ifb_ne (tgt := 20) hX dX9_plan_14 (by decide) (fun g6 => ?_) (fun g6 => ?_)
    · have h := (if_pos g6).symm.trans h
      refine r_aload_n hX dX9_plan_20 rfl ?_
      obtain ⟨z7, p8, h⟩ := bnd_s h
      refine r_callV (As := []) hX dX9_plan_21 mk_Fm_plans mi_Fm_plans ml_9_344 rfl rfl rfl rfl (by decide) (by decide) (Nat.le_of_ble_eq_true rfl) hr (ok_Fm_plans (d := d + 1) n z4.2 p8) ?_
      refine r_aload_n hX dX9_plan_24 rfl ?_
      refine r_getf (v := .int (z7.1 94 33)) hX dX9_plan_25 fl_9_323 rfl (by decide) (by decide) rfl ?_
      obtain rfl := Option.some.inj h
      exact r_iret hX hT dX9_plan_28 rfl
    · have h := (if_neg (show ¬ z4.1 = true from fun e => by rw [g6] at e; cases e)).symm.trans h
      refine r_bipush (v := (-2 : Int32)) hX dX9_plan_17 (by decide) ?_
      obtain rfl := Option.some.inj h
      exact r_iret hX hT dX9_plan_19 rfl
  · have h := (if_neg (show ¬ z1 = true from fun e => by rw [g3] at e; cases e)).symm.trans h
    refine r_iconst (v := (-1 : Int32)) hX dX9_plan_7 (by decide) ?_
    obtain rfl := Option.some.inj h
    exact r_iret hX hT dX9_plan_8 rfl
def Fm_rounds_j62 (v3 : Int32) (w0 : Int32) (w1 : Int32) (M : Mm) : Option ((Int32 × Mm) ⊕ (Mm)) :=
  grd (inb w1 1600) (
  some (.inl (v3 + (1 : Int32), ((up2 M.1 112 (tn w1) (vp_nar .boolean w0)), M.2))))
def Fm_rounds_j61 (v3 : Int32) (w0 : Int32) (M : Mm) : Option ((Int32 × Mm) ⊕ (Mm)) :=
  Fm_rounds_j62 v3 (0 : Int32) w0 M
def Fm_rounds_b17 (c1 : Int32) (c2 : Int32) (v3 : Int32) (M : Mm) : Option ((Int32 × Mm) ⊕ (Mm)) :=
  if c1 ≤ v3 then
    some (.inr M)
  else
    bnd (Fm_isLeft c2 M) (fun z4 =>
    if z4 = true then
      bnd (Fm_isLeft v3 M) (fun z8 =>
      if z8 = true then
        bnd (Fm_waitsFor c2 v3 M) (fun z11 =>
        if z11 = true then
          Fm_rounds_j62 v3 (1 : Int32) (((40 : Int32) * c2) + v3) M
        else
          Fm_rounds_j61 v3 (((40 : Int32) * c2) + v3) M)
      else
        Fm_rounds_j61 v3 (((40 : Int32) * c2) + v3) M)
    else
      Fm_rounds_j61 v3 (((40 : Int32) * c2) + v3) M)
def Fm_rounds_b10 (n : Nat) (c1 : Int32) (v2 : Int32) (M : Mm) : Option ((Int32 × Mm) ⊕ (Mm)) :=
  if c1 ≤ v2 then
    some (.inr M)
  else
    bnd (loop (fun s1 : Int32 × Mm => Fm_rounds_b17 c1 v2 s1.1 s1.2) n ((0 : Int32), M)) (fun y14 =>
    some (.inl (v2 + (1 : Int32), y14)))
def Fm_rounds_j140 (v4 : Int32) (M : Mm) : Option ((Int32 × Mm) ⊕ (Mm)) :=
  some (.inl (v4 + (1 : Int32), M))
def Fm_rounds_b92 (c1 : Int32) (c2 : Int32) (c3 : Int32) (v4 : Int32) (M : Mm) : Option ((Int32 × Mm) ⊕ (Mm)) :=
  if c1 ≤ v4 then
    some (.inr M)
  else
    grd (inb (((40 : Int32) * c3) + c2) 1600) (
    if (M.1 112 (tn (((40 : Int32) * c3) + c2))) = (0 : Int32) then
      Fm_rounds_j140 v4 M
    else
      grd (inb (((40 : Int32) * c2) + v4) 1600) (
      if (M.1 112 (tn (((40 : Int32) * c2) + v4))) = (0 : Int32) then
        Fm_rounds_j140 v4 M
      else
        grd (inb (((40 : Int32) * c3) + v4) 1600) (
        Fm_rounds_j140 v4 ((up2 M.1 112 (tn (((40 : Int32) * c3) + v4)) (vp_nar .boolean (1 : Int32))), M.2))))
def Fm_rounds_b84 (n : Nat) (c1 : Int32) (c2 : Int32) (v3 : Int32) (M : Mm) : Option ((Int32 × Mm) ⊕ (Mm)) :=
  if c1 ≤ v3 then
    some (.inr M)
  else
    bnd (loop (fun s1 : Int32 × Mm => Fm_rounds_b92 c1 c2 v3 s1.1 s1.2) n ((0 : Int32), M)) (fun y24 =>
    some (.inl (v3 + (1 : Int32), y24)))
def Fm_rounds_b77 (n : Nat) (c1 : Int32) (v2 : Int32) (M : Mm) : Option ((Int32 × Mm) ⊕ (Mm)) :=
  if c1 ≤ v2 then
    some (.inr M)
  else
    bnd (loop (fun s1 : Int32 × Mm => Fm_rounds_b84 n c1 v2 s1.1 s1.2) n ((0 : Int32), M)) (fun y25 =>
    some (.inl (v2 + (1 : Int32), y25)))
def Fm_rounds_j183 (v2 : Int32) (v3 : Int32) : Option ((Int32 × Int32) ⊕ (Int32)) :=
  some (.inl (v2, v3 + (1 : Int32)))
def Fm_rounds_b162 (c1 : Int32) (Mc : Mm) (v2 : Int32) (v3 : Int32) : Option ((Int32 × Int32) ⊕ (Int32)) :=
  if c1 ≤ v3 then
    some (.inr v2)
  else
    grd (inb ((41 : Int32) * v3) 1600) (
    if (Mc.1 112 (tn ((41 : Int32) * v3))) = (0 : Int32) then
      Fm_rounds_j183 v2 v3
    else
      Fm_rounds_j183 (v2 + (1 : Int32)) v3)
def Fm_rounds (n : Nat) (M : Mm) : Option (Int32 × Mm) :=
  grd (inb (7 : Int32) 12256) (
  bnd (loop (fun s1 : Int32 × Mm => Fm_rounds_b10 n (M.1 95 (tn (7 : Int32))) s1.1 s1.2) n ((0 : Int32), M)) (fun y15 =>
  bnd (loop (fun s1 : Int32 × Mm => Fm_rounds_b77 n (M.1 95 (tn (7 : Int32))) s1.1 s1.2) n ((0 : Int32), y15)) (fun y26 =>
  bnd (loop (fun s1 : Int32 × Int32 => Fm_rounds_b162 (M.1 95 (tn (7 : Int32))) y26 s1.1 s1.2) n ((0 : Int32), (0 : Int32))) (fun y30 =>
  some (y30, y26)))))
set_option maxRecDepth 100000 in
theorem ok_Fm_rounds_j62 (n : Nat) (v3 : Int32) (w0 : Int32) (w1 : Int32) (M : Mm) {c1 : Int32} {c2 : Int32} {z : Int32 × Mm} {oo : (Int32 × Mm) ⊕ (Mm)} {G : Gm} {X : Cx} {d : Nat}  (hX : XK G X 9 cX9_rounds 5 (d + 3)) (hT : XT X (some .int) "rounds") (hr : XR X SS) (hc : ∀ s1 : Int32 × Mm, oo = .inl s1 → WR G X (mQ G X (some (.int z.1)) z.2 SS) 17 [.ref 94, .int c1, .int c2, .int s1.1, vU] [] s1.2 SS) (hx : ∀ x1 : Mm, oo = .inr x1 → WR G X (mQ G X (some (.int z.1)) z.2 SS) 69 [.ref 94, .int c1, .int c2, vU, vU] [] x1 SS) (h : Fm_rounds_j62 v3 w0 w1 M = some oo) : WR G X (mQ G X (some (.int z.1)) z.2 SS) 62 [.ref 94, .int c1, .int c2, .int v3, vU] [.int w0, .int w1, .ref 112] M SS := by
  unfold Fm_rounds_j62 at h
  obtain ⟨k7, h⟩ := grd_s h
  refine r_zast hX dX9_rounds_62 rfl (by decide) (inb_at rfl k7) ?_
  refine r_iinc (v := v3 + (1 : Int32)) (L1 := [.ref 94, .int c1, .int c2, .int (v3 + (1 : Int32)), vU]) hX dX9_rounds_63 rfl rfl rfl ?_
  refine r_goto (tgt := 17) hX dX9_rounds_66 (by decide) ?_
  exact hc (v3 + (1 : Int32), ((up2 M.1 112 (tn w1) (vp_nar .boolean w0)), M.2)) (Option.some.inj h).symm
set_option maxRecDepth 100000 in
theorem ok_Fm_rounds_j61 (n : Nat) (v3 : Int32) (w0 : Int32) (M : Mm) {c1 : Int32} {c2 : Int32} {z : Int32 × Mm} {oo : (Int32 × Mm) ⊕ (Mm)} {G : Gm} {X : Cx} {d : Nat}  (hX : XK G X 9 cX9_rounds 5 (d + 3)) (hT : XT X (some .int) "rounds") (hr : XR X SS) (hc : ∀ s1 : Int32 × Mm, oo = .inl s1 → WR G X (mQ G X (some (.int z.1)) z.2 SS) 17 [.ref 94, .int c1, .int c2, .int s1.1, vU] [] s1.2 SS) (hx : ∀ x1 : Mm, oo = .inr x1 → WR G X (mQ G X (some (.int z.1)) z.2 SS) 69 [.ref 94, .int c1, .int c2, vU, vU] [] x1 SS) (h : Fm_rounds_j61 v3 w0 M = some oo) : WR G X (mQ G X (some (.int z.1)) z.2 SS) 61 [.ref 94, .int c1, .int c2, .int v3, vU] [.int w0, .ref 112] M SS := by
  unfold Fm_rounds_j61 at h
  refine r_iconst (v := (0 : Int32)) hX dX9_rounds_61 (by decide) ?_
  exact ok_Fm_rounds_j62 n v3 (0 : Int32) w0 M   hX hT hr hc hx h
set_option maxRecDepth 100000 in
theorem ok_Fm_rounds_b17 (n : Nat) (v3 : Int32) (M : Mm) {c1 : Int32} {c2 : Int32} {z : Int32 × Mm} {oo : (Int32 × Mm) ⊕ (Mm)} {G : Gm} {X : Cx} {d : Nat}  (hX : XK G X 9 cX9_rounds 5 (d + 3)) (hT : XT X (some .int) "rounds") (hr : XR X SS) (hc : ∀ s1 : Int32 × Mm, oo = .inl s1 → WR G X (mQ G X (some (.int z.1)) z.2 SS) 17 [.ref 94, .int c1, .int c2, .int s1.1, vU] [] s1.2 SS) (hx : ∀ x1 : Mm, oo = .inr x1 → WR G X (mQ G X (some (.int z.1)) z.2 SS) 69 [.ref 94, .int c1, .int c2, vU, vU] [] x1 SS) (h : Fm_rounds_b17 c1 c2 v3 M = some oo) : WR G X (mQ G X (some (.int z.1)) z.2 SS) 17 [.ref 94, .int c1, .int c2, .int v3, vU] [] M SS := by
  unfold Fm_rounds_b17 at h
  refine r_iload_n hX dX9_rounds_17 rfl ?_
  refine r_iload_n hX dX9_rounds_18 rfl ?_
  refine r_icmp_ge (tgt := 69) hX dX9_rounds_19 (by decide) (fun g3 => ?_) (fun g3 => ?_)
  · have h := (if_pos g3).symm.trans h
    refine WR.fg (L' := [.ref 94, .int c1, .int c2, vU, vU]) ⟨Or.inr rfl, Or.inr rfl, Or.inr rfl, Or.inl rfl, Or.inl rfl, trivial⟩ ?_
    exact hx _ (Option.some.inj h).symm
  · have h := (if_neg g3).symm.trans h
    refine r_aload_n hX dX9_rounds_22 rfl ?_
    refine r_getf (v := .ref 112) hX dX9_rounds_23 fl_9_63 rfl (by decide) (by decide) rfl ?_
    refine r_bipush (v := (40 : Int32)) hX dX9_rounds_26 (by decide) ?_
    refine r_iload_n hX dX9_rounds_28 rfl ?_
    refine r_imul hX dX9_rounds_29 ?_
    refine r_iload_n hX dX9_rounds_30 rfl ?_
    refine r_iadd hX dX9_rounds_31 ?_
    refine r_aload_n hX dX9_rounds_32 rfl ?_
    refine r_iload_n hX dX9_rounds_33 rfl ?_
    obtain ⟨z4, p5, h⟩ := bnd_s h
    refine r_callV (As := [.int c2]) hX dX9_rounds_34 mk_Fm_isLeft mi_Fm_isLeft ml_9_332 rfl rfl rfl rfl (by decide) (by decide) (Nat.le_of_ble_eq_true rfl) hr (ok_Fm_isLeft (d := d + 2) c2 M p5) ?_
    refine r_ifb_eq (tgt := 61) hX dX9_rounds_37 (by decide) (fun g6 => ?_) (fun g6 => ?_)
    · have h := (if_neg (show ¬ z4 = true from fun e => by rw [g6] at e; cases e)).symm.trans h
      exact ok_Fm_rounds_j61 n v3 (((40 : Int32) * c2) + v3) M   hX hT hr hc hx h
    · have h := (if_pos g6).symm.trans h
      refine r_aload_n hX dX9_rounds_40 rfl ?_
      refine r_iload_n hX dX9_rounds_41 rfl ?_
      obtain ⟨z8, p9, h⟩ := bnd_s h
      refine r_callV (As := [.int v3]) hX dX9_rounds_42 mk_Fm_isLeft mi_Fm_isLeft ml_9_332 rfl rfl rfl rfl (by decide) (by decide) (Nat.le_of_ble_eq_true rfl) hr (ok_Fm_isLeft (d := d + 2) v3 M p9) ?_
      refine r_ifb_eq (tgt := 61) hX dX9_rounds_45 (by decide) (fun g10 => ?_) (fun g10 => ?_)
      · have h := (if_neg (show ¬ z8 = true from fun e => by rw [g10] at e; cases e)).symm.trans h
        exact ok_Fm_rounds_j61 n v3 (((40 : Int32) * c2) + v3) M   hX hT hr hc hx h
      · have h := (if_pos g10).symm.trans h
        refine r_aload_n hX dX9_rounds_48 rfl ?_
        refine r_iload_n hX dX9_rounds_49 rfl ?_
        refine r_iload_n hX dX9_rounds_50 rfl ?_
        obtain ⟨z11, p12, h⟩ := bnd_s h
        refine r_callV (As := [.int c2, .int v3]) hX dX9_rounds_51 mk_Fm_waitsFor mi_Fm_waitsFor ml_9_329 rfl rfl rfl rfl (by decide) (by decide) (Nat.le_of_ble_eq_true rfl) hr (ok_Fm_waitsFor (d := d + 0) c2 v3 M p12) ?_
        refine r_ifb_eq (tgt := 61) hX dX9_rounds_54 (by decide) (fun g13 => ?_) (fun g13 => ?_)
        · have h := (if_neg (show ¬ z11 = true from fun e => by rw [g13] at e; cases e)).symm.trans h
          exact ok_Fm_rounds_j61 n v3 (((40 : Int32) * c2) + v3) M   hX hT hr hc hx h
        · have h := (if_pos g13).symm.trans h
          refine r_iconst (v := (1 : Int32)) hX dX9_rounds_57 (by decide) ?_
          refine r_goto (tgt := 62) hX dX9_rounds_58 (by decide) ?_
          exact ok_Fm_rounds_j62 n v3 (1 : Int32) (((40 : Int32) * c2) + v3) M   hX hT hr hc hx h
set_option maxRecDepth 100000 in
theorem ok_Fm_rounds_b10 (n : Nat) (v2 : Int32) (M : Mm) {c1 : Int32} {z : Int32 × Mm} {oo : (Int32 × Mm) ⊕ (Mm)} {G : Gm} {X : Cx} {d : Nat}  (hX : XK G X 9 cX9_rounds 5 (d + 3)) (hT : XT X (some .int) "rounds") (hr : XR X SS) (hc : ∀ s1 : Int32 × Mm, oo = .inl s1 → WR G X (mQ G X (some (.int z.1)) z.2 SS) 10 [.ref 94, .int c1, .int s1.1, vU, vU] [] s1.2 SS) (hx : ∀ x1 : Mm, oo = .inr x1 → WR G X (mQ G X (some (.int z.1)) z.2 SS) 75 [.ref 94, .int c1, vU, vU, vU] [] x1 SS) (h : Fm_rounds_b10 n c1 v2 M = some oo) : WR G X (mQ G X (some (.int z.1)) z.2 SS) 10 [.ref 94, .int c1, .int v2, vU, vU] [] M SS := by
  unfold Fm_rounds_b10 at h
  refine r_iload_n hX dX9_rounds_10 rfl ?_
  refine r_iload_n hX dX9_rounds_11 rfl ?_
  refine r_icmp_ge (tgt := 75) hX dX9_rounds_12 (by decide) (fun g2 => ?_) (fun g2 => ?_)
  · have h := (if_pos g2).symm.trans h
    refine WR.fg (L' := [.ref 94, .int c1, vU, vU, vU]) ⟨Or.inr rfl, Or.inr rfl, Or.inl rfl, Or.inl rfl, Or.inl rfl, trivial⟩ ?_
    exact hx _ (Option.some.inj h).symm
  · have h := (if_neg g2).symm.trans h
    refine r_iconst (v := (0 : Int32)) hX dX9_rounds_15 (by decide) ?_
    refine r_istore_n (L1 := [.ref 94, .int c1, .int v2, .int (0 : Int32), vU]) hX dX9_rounds_16 (Nat.le_of_ble_eq_true rfl) rfl ?_
    obtain ⟨y14, h1, h⟩ := bnd_s h
    refine loop_ok (P := fun s1 : Int32 × Mm => WR G X (mQ G X (some (.int z.1)) z.2 SS) 17 [.ref 94, .int c1, .int v2, .int s1.1, vU] [] s1.2 SS) (E := fun x1 : Mm => WR G X (mQ G X (some (.int z.1)) z.2 SS) 69 [.ref 94, .int c1, .int v2, vU, vU] [] x1 SS) (fun s1 o1 g1 g2 g3 => ok_Fm_rounds_b17 n s1.1 s1.2  hX hT hr g2 g3 g1) n ((0 : Int32), M) y14 h1 ?_
    show WR G X (mQ G X (some (.int z.1)) z.2 SS) 69 [.ref 94, .int c1, .int v2, vU, vU] [] y14 SS
    refine r_iinc (v := v2 + (1 : Int32)) (L1 := [.ref 94, .int c1, .int (v2 + (1 : Int32)), vU, vU]) hX dX9_rounds_69 rfl rfl rfl ?_
    refine r_goto (tgt := 10) hX dX9_rounds_72 (by decide) ?_
    exact hc (v2 + (1 : Int32), y14) (Option.some.inj h).symm
set_option maxRecDepth 100000 in
theorem ok_Fm_rounds_j140 (n : Nat) (v4 : Int32) (M : Mm) {c1 : Int32} {c2 : Int32} {c3 : Int32} {z : Int32 × Mm} {oo : (Int32 × Mm) ⊕ (Mm)} {G : Gm} {X : Cx} {d : Nat}  (hX : XK G X 9 cX9_rounds 5 (d + 3)) (hT : XT X (some .int) "rounds") (hr : XR X SS) (hc : ∀ s1 : Int32 × Mm, oo = .inl s1 → WR G X (mQ G X (some (.int z.1)) z.2 SS) 92 [.ref 94, .int c1, .int c2, .int c3, .int s1.1] [] s1.2 SS) (hx : ∀ x1 : Mm, oo = .inr x1 → WR G X (mQ G X (some (.int z.1)) z.2 SS) 146 [.ref 94, .int c1, .int c2, .int c3, vU] [] x1 SS) (h : Fm_rounds_j140 v4 M = some oo) : WR G X (mQ G X (some (.int z.1)) z.2 SS) 140 [.ref 94, .int c1, .int c2, .int c3, .int v4] [] M SS := by
  unfold Fm_rounds_j140 at h
  refine r_iinc (v := v4 + (1 : Int32)) (L1 := [.ref 94, .int c1, .int c2, .int c3, .int (v4 + (1 : Int32))]) hX dX9_rounds_140 rfl rfl rfl ?_
  refine r_goto (tgt := 92) hX dX9_rounds_143 (by decide) ?_
  exact hc (v4 + (1 : Int32), M) (Option.some.inj h).symm
set_option maxRecDepth 100000 in
theorem ok_Fm_rounds_b92 (n : Nat) (v4 : Int32) (M : Mm) {c1 : Int32} {c2 : Int32} {c3 : Int32} {z : Int32 × Mm} {oo : (Int32 × Mm) ⊕ (Mm)} {G : Gm} {X : Cx} {d : Nat}  (hX : XK G X 9 cX9_rounds 5 (d + 3)) (hT : XT X (some .int) "rounds") (hr : XR X SS) (hc : ∀ s1 : Int32 × Mm, oo = .inl s1 → WR G X (mQ G X (some (.int z.1)) z.2 SS) 92 [.ref 94, .int c1, .int c2, .int c3, .int s1.1] [] s1.2 SS) (hx : ∀ x1 : Mm, oo = .inr x1 → WR G X (mQ G X (some (.int z.1)) z.2 SS) 146 [.ref 94, .int c1, .int c2, .int c3, vU] [] x1 SS) (h : Fm_rounds_b92 c1 c2 c3 v4 M = some oo) : WR G X (mQ G X (some (.int z.1)) z.2 SS) 92 [.ref 94, .int c1, .int c2, .int c3, .int v4] [] M SS := by
  unfold Fm_rounds_b92 at h
  refine r_iload hX dX9_rounds_92 rfl ?_
  refine r_iload_n hX dX9_rounds_94 rfl ?_
  refine r_icmp_ge (tgt := 146) hX dX9_rounds_95 (by decide) (fun g18 => ?_) (fun g18 => ?_)
  · have h := (if_pos g18).symm.trans h
    refine WR.fg (L' := [.ref 94, .int c1, .int c2, .int c3, vU]) ⟨Or.inr rfl, Or.inr rfl, Or.inr rfl, Or.inr rfl, Or.inl rfl, trivial⟩ ?_
    exact hx _ (Option.some.inj h).symm
  · have h := (if_neg g18).symm.trans h
    refine r_aload_n hX dX9_rounds_98 rfl ?_
    refine r_getf (v := .ref 112) hX dX9_rounds_99 fl_9_63 rfl (by decide) (by decide) rfl ?_
    refine r_bipush (v := (40 : Int32)) hX dX9_rounds_102 (by decide) ?_
    refine r_iload_n hX dX9_rounds_104 rfl ?_
    refine r_imul hX dX9_rounds_105 ?_
    refine r_iload_n hX dX9_rounds_106 rfl ?_
    refine r_iadd hX dX9_rounds_107 ?_
    obtain ⟨k19, h⟩ := grd_s h
    refine r_zald hX dX9_rounds_108 rfl (by decide) (inb_at rfl k19) ?_
    refine r_if_eq (tgt := 140) hX dX9_rounds_109 (by decide) (fun g20 => ?_) (fun g20 => ?_)
    · have h := (if_pos g20).symm.trans h
      exact ok_Fm_rounds_j140 n v4 M   hX hT hr hc hx h
    · have h := (if_neg g20).symm.trans h
      refine r_aload_n hX dX9_rounds_112 rfl ?_
      refine r_getf (v := .ref 112) hX dX9_rounds_113 fl_9_63 rfl (by decide) (by decide) rfl ?_
      refine r_bipush (v := (40 : Int32)) hX dX9_rounds_116 (by decide) ?_
      refine r_iload_n hX dX9_rounds_118 rfl ?_
      refine r_imul hX dX9_rounds_119 ?_
      refine r_iload hX dX9_rounds_120 rfl ?_
      refine r_iadd hX dX9_rounds_122 ?_
      obtain ⟨k21, h⟩ := grd_s h
      refine r_zald hX dX9_rounds_123 rfl (by decide) (inb_at rfl k21) ?_
      refine r_if_eq (tgt := 140) hX dX9_rounds_124 (by decide) (fun g22 => ?_) (fun g22 => ?_)
      · have h := (if_pos g22).symm.trans h
        exact ok_Fm_rounds_j140 n v4 M   hX hT hr hc hx h
      · have h := (if_neg g22).symm.trans h
        refine r_aload_n hX dX9_rounds_127 rfl ?_
        refine r_getf (v := .ref 112) hX dX9_rounds_128 fl_9_63 rfl (by decide) (by decide) rfl ?_
        refine r_bipush (v := (40 : Int32)) hX dX9_rounds_131 (by decide) ?_
        refine r_iload_n hX dX9_rounds_133 rfl ?_
        refine r_imul hX dX9_rounds_134 ?_
        refine r_iload hX dX9_rounds_135 rfl ?_
        refine r_iadd hX dX9_rounds_137 ?_
        refine r_iconst (v := (1 : Int32)) hX dX9_rounds_138 (by decide) ?_
        obtain ⟨k23, h⟩ := grd_s h
        refine r_zast hX dX9_rounds_139 rfl (by decide) (inb_at rfl k23) ?_
        exact ok_Fm_rounds_j140 n v4 ((up2 M.1 112 (tn (((40 : Int32) * c3) + v4)) (vp_nar .boolean (1 : Int32))), M.2)   hX hT hr hc hx h
set_option maxRecDepth 100000 in
theorem ok_Fm_rounds_b84 (n : Nat) (v3 : Int32) (M : Mm) {c1 : Int32} {c2 : Int32} {z : Int32 × Mm} {oo : (Int32 × Mm) ⊕ (Mm)} {G : Gm} {X : Cx} {d : Nat}  (hX : XK G X 9 cX9_rounds 5 (d + 3)) (hT : XT X (some .int) "rounds") (hr : XR X SS) (hc : ∀ s1 : Int32 × Mm, oo = .inl s1 → WR G X (mQ G X (some (.int z.1)) z.2 SS) 84 [.ref 94, .int c1, .int c2, .int s1.1, vU] [] s1.2 SS) (hx : ∀ x1 : Mm, oo = .inr x1 → WR G X (mQ G X (some (.int z.1)) z.2 SS) 152 [.ref 94, .int c1, .int c2, vU, vU] [] x1 SS) (h : Fm_rounds_b84 n c1 c2 v3 M = some oo) : WR G X (mQ G X (some (.int z.1)) z.2 SS) 84 [.ref 94, .int c1, .int c2, .int v3, vU] [] M SS := by
  unfold Fm_rounds_b84 at h
  refine r_iload_n hX dX9_rounds_84 rfl ?_
  refine r_iload_n hX dX9_rounds_85 rfl ?_
  refine r_icmp_ge (tgt := 152) hX dX9_rounds_86 (by decide) (fun g17 => ?_) (fun g17 => ?_)
  · have h := (if_pos g17).symm.trans h
    refine WR.fg (L' := [.ref 94, .int c1, .int c2, vU, vU]) ⟨Or.inr rfl, Or.inr rfl, Or.inr rfl, Or.inl rfl, Or.inl rfl, trivial⟩ ?_
    exact hx _ (Option.some.inj h).symm
  · have h := (if_neg g17).symm.trans h
    refine r_iconst (v := (0 : Int32)) hX dX9_rounds_89 (by decide) ?_
    refine r_istore (L1 := [.ref 94, .int c1, .int c2, .int v3, .int (0 : Int32)]) hX dX9_rounds_90 (Nat.le_of_ble_eq_true rfl) rfl ?_
    obtain ⟨y24, h1, h⟩ := bnd_s h
    refine loop_ok (P := fun s1 : Int32 × Mm => WR G X (mQ G X (some (.int z.1)) z.2 SS) 92 [.ref 94, .int c1, .int c2, .int v3, .int s1.1] [] s1.2 SS) (E := fun x1 : Mm => WR G X (mQ G X (some (.int z.1)) z.2 SS) 146 [.ref 94, .int c1, .int c2, .int v3, vU] [] x1 SS) (fun s1 o1 g1 g2 g3 => ok_Fm_rounds_b92 n s1.1 s1.2  hX hT hr g2 g3 g1) n ((0 : Int32), M) y24 h1 ?_
    show WR G X (mQ G X (some (.int z.1)) z.2 SS) 146 [.ref 94, .int c1, .int c2, .int v3, vU] [] y24 SS
    refine r_iinc (v := v3 + (1 : Int32)) (L1 := [.ref 94, .int c1, .int c2, .int (v3 + (1 : Int32)), vU]) hX dX9_rounds_146 rfl rfl rfl ?_
    refine r_goto (tgt := 84) hX dX9_rounds_149 (by decide) ?_
    exact hc (v3 + (1 : Int32), y24) (Option.some.inj h).symm
set_option maxRecDepth 100000 in
theorem ok_Fm_rounds_b77 (n : Nat) (v2 : Int32) (M : Mm) {c1 : Int32} {z : Int32 × Mm} {oo : (Int32 × Mm) ⊕ (Mm)} {G : Gm} {X : Cx} {d : Nat}  (hX : XK G X 9 cX9_rounds 5 (d + 3)) (hT : XT X (some .int) "rounds") (hr : XR X SS) (hc : ∀ s1 : Int32 × Mm, oo = .inl s1 → WR G X (mQ G X (some (.int z.1)) z.2 SS) 77 [.ref 94, .int c1, .int s1.1, vU, vU] [] s1.2 SS) (hx : ∀ x1 : Mm, oo = .inr x1 → WR G X (mQ G X (some (.int z.1)) z.2 SS) 158 [.ref 94, .int c1, vU, vU, vU] [] x1 SS) (h : Fm_rounds_b77 n c1 v2 M = some oo) : WR G X (mQ G X (some (.int z.1)) z.2 SS) 77 [.ref 94, .int c1, .int v2, vU, vU] [] M SS := by
  unfold Fm_rounds_b77 at h
  refine r_iload_n hX dX9_rounds_77 rfl ?_
  refine r_iload_n hX dX9_rounds_78 rfl ?_
  refine r_icmp_ge (tgt := 158) hX dX9_rounds_79 (by decide) (fun g16 => ?_) (fun g16 => ?_)
  · have h := (if_pos g16).symm.trans h
    refine WR.fg (L' := [.ref 94, .int c1, vU, vU, vU]) ⟨Or.inr rfl, Or.inr rfl, Or.inl rfl, Or.inl rfl, Or.inl rfl, trivial⟩ ?_
    exact hx _ (Option.some.inj h).symm
  · have h := (if_neg g16).symm.trans h
    refine r_iconst (v := (0 : Int32)) hX dX9_rounds_82 (by decide) ?_
    refine r_istore_n (L1 := [.ref 94, .int c1, .int v2, .int (0 : Int32), vU]) hX dX9_rounds_83 (Nat.le_of_ble_eq_true rfl) rfl ?_
    obtain ⟨y25, h1, h⟩ := bnd_s h
    refine loop_ok (P := fun s1 : Int32 × Mm => WR G X (mQ G X (some (.int z.1)) z.2 SS) 84 [.ref 94, .int c1, .int v2, .int s1.1, vU] [] s1.2 SS) (E := fun x1 : Mm => WR G X (mQ G X (some (.int z.1)) z.2 SS) 152 [.ref 94, .int c1, .int v2, vU, vU] [] x1 SS) (fun s1 o1 g1 g2 g3 => ok_Fm_rounds_b84 n s1.1 s1.2  hX hT hr g2 g3 g1) n ((0 : Int32), M) y25 h1 ?_
    show WR G X (mQ G X (some (.int z.1)) z.2 SS) 152 [.ref 94, .int c1, .int v2, vU, vU] [] y25 SS
    refine r_iinc (v := v2 + (1 : Int32)) (L1 := [.ref 94, .int c1, .int (v2 + (1 : Int32)), vU, vU]) hX dX9_rounds_152 rfl rfl rfl ?_
    refine r_goto (tgt := 77) hX dX9_rounds_155 (by decide) ?_
    exact hc (v2 + (1 : Int32), y25) (Option.some.inj h).symm
set_option maxRecDepth 100000 in
theorem ok_Fm_rounds_j183 (n : Nat) (v2 : Int32) (v3 : Int32) {c1 : Int32} {Mc : Mm} {z : Int32 × Mm} {oo : (Int32 × Int32) ⊕ (Int32)} {G : Gm} {X : Cx} {d : Nat}  (hX : XK G X 9 cX9_rounds 5 (d + 3)) (hT : XT X (some .int) "rounds") (hr : XR X SS) (hc : ∀ s1 : Int32 × Int32, oo = .inl s1 → WR G X (mQ G X (some (.int z.1)) z.2 SS) 162 [.ref 94, .int c1, .int s1.1, .int s1.2, vU] [] Mc SS) (hx : ∀ x1 : Int32, oo = .inr x1 → WR G X (mQ G X (some (.int z.1)) z.2 SS) 189 [.ref 94, vU, .int x1, vU, vU] [] Mc SS) (h : Fm_rounds_j183 v2 v3 = some oo) : WR G X (mQ G X (some (.int z.1)) z.2 SS) 183 [.ref 94, .int c1, .int v2, .int v3, vU] [] Mc SS := by
  unfold Fm_rounds_j183 at h
  refine r_iinc (v := v3 + (1 : Int32)) (L1 := [.ref 94, .int c1, .int v2, .int (v3 + (1 : Int32)), vU]) hX dX9_rounds_183 rfl rfl rfl ?_
  refine r_goto (tgt := 162) hX dX9_rounds_186 (by decide) ?_
  exact hc (v2, v3 + (1 : Int32)) (Option.some.inj h).symm
set_option maxRecDepth 100000 in
theorem ok_Fm_rounds_b162 (n : Nat) (v2 : Int32) (v3 : Int32) {c1 : Int32} {Mc : Mm} {z : Int32 × Mm} {oo : (Int32 × Int32) ⊕ (Int32)} {G : Gm} {X : Cx} {d : Nat}  (hX : XK G X 9 cX9_rounds 5 (d + 3)) (hT : XT X (some .int) "rounds") (hr : XR X SS) (hc : ∀ s1 : Int32 × Int32, oo = .inl s1 → WR G X (mQ G X (some (.int z.1)) z.2 SS) 162 [.ref 94, .int c1, .int s1.1, .int s1.2, vU] [] Mc SS) (hx : ∀ x1 : Int32, oo = .inr x1 → WR G X (mQ G X (some (.int z.1)) z.2 SS) 189 [.ref 94, vU, .int x1, vU, vU] [] Mc SS) (h : Fm_rounds_b162 c1 Mc v2 v3 = some oo) : WR G X (mQ G X (some (.int z.1)) z.2 SS) 162 [.ref 94, .int c1, .int v2, .int v3, vU] [] Mc SS := by
  unfold Fm_rounds_b162 at h
  refine r_iload_n hX dX9_rounds_162 rfl ?_
  refine r_iload_n hX dX9_rounds_163 rfl ?_
  refine r_icmp_ge (tgt := 189) hX dX9_rounds_164 (by decide) (fun g27 => ?_) (fun g27 => ?_)
  · have h := (if_pos g27).symm.trans h
    refine WR.fg (L' := [.ref 94, vU, .int v2, vU, vU]) ⟨Or.inr rfl, Or.inl rfl, Or.inr rfl, Or.inl rfl, Or.inl rfl, trivial⟩ ?_
    exact hx _ (Option.some.inj h).symm
  · have h := (if_neg g27).symm.trans h
    refine r_aload_n hX dX9_rounds_167 rfl ?_
    refine r_getf (v := .ref 112) hX dX9_rounds_168 fl_9_63 rfl (by decide) (by decide) rfl ?_
    refine r_bipush (v := (41 : Int32)) hX dX9_rounds_171 (by decide) ?_
    refine r_iload_n hX dX9_rounds_173 rfl ?_
    refine r_imul hX dX9_rounds_174 ?_
    obtain ⟨k28, h⟩ := grd_s h
    refine r_zald hX dX9_rounds_175 rfl (by decide) (inb_at rfl k28) ?_
    refine r_if_eq (tgt := 183) hX dX9_rounds_176 (by decide) (fun g29 => ?_) (fun g29 => ?_)
    · have h := (if_pos g29).symm.trans h
      exact ok_Fm_rounds_j183 n v2 v3   hX hT hr hc hx h
    · have h := (if_neg g29).symm.trans h
      refine r_iload_n hX dX9_rounds_179 rfl ?_
      refine r_iconst (v := (1 : Int32)) hX dX9_rounds_180 (by decide) ?_
      refine r_iadd hX dX9_rounds_181 ?_
      refine r_istore_n (L1 := [.ref 94, .int c1, .int (v2 + (1 : Int32)), .int v3, vU]) hX dX9_rounds_182 (Nat.le_of_ble_eq_true rfl) rfl ?_
      exact ok_Fm_rounds_j183 n (v2 + (1 : Int32)) v3   hX hT hr hc hx h
set_option maxRecDepth 100000 in
theorem ok_Fm_rounds {G : Gm} {l : Launch} {d : Nat} (n : Nat) (M : Mm) {z : Int32 × Mm}  (h : Fm_rounds n M = some z) : CK G l (d + 3) md_Fm_rounds [.ref 94] M SS (some (.int z.1)) z.2 SS := by
  refine ck_of mk_Fm_rounds (Nat.le_of_ble_eq_true rfl) ⟨Nat.le_refl _, Nat.le_refl _⟩ (fun X hX hT hS hr hl => ?_)
  subst hl
  unfold Fm_rounds at h
  show WR G X (mQ G X (some (.int z.1)) z.2 SS) 0 [.ref 94, vU, vU, vU, vU] [] M SS
  refine r_aload_n hX dX9_rounds_0 rfl ?_
  refine r_getf (v := .ref 95) hX dX9_rounds_1 fl_9_7 rfl (by decide) (by decide) rfl ?_
  refine r_bipush (v := (7 : Int32)) hX dX9_rounds_4 (by decide) ?_
  obtain ⟨k1, h⟩ := grd_s h
  refine r_iald hX dX9_rounds_6 rfl (by decide) (inb_at rfl k1) ?_
  refine r_istore_n (L1 := [.ref 94, .int (M.1 95 (tn (7 : Int32))), vU, vU, vU]) hX dX9_rounds_7 (Nat.le_of_ble_eq_true rfl) rfl ?_
  refine r_iconst (v := (0 : Int32)) hX dX9_rounds_8 (by decide) ?_
  refine r_istore_n (L1 := [.ref 94, .int (M.1 95 (tn (7 : Int32))), .int (0 : Int32), vU, vU]) hX dX9_rounds_9 (Nat.le_of_ble_eq_true rfl) rfl ?_
  obtain ⟨y15, h1, h⟩ := bnd_s h
  refine loop_ok (P := fun s1 : Int32 × Mm => WR G X (mQ G X (some (.int z.1)) z.2 SS) 10 [.ref 94, .int (M.1 95 (tn (7 : Int32))), .int s1.1, vU, vU] [] s1.2 SS) (E := fun x1 : Mm => WR G X (mQ G X (some (.int z.1)) z.2 SS) 75 [.ref 94, .int (M.1 95 (tn (7 : Int32))), vU, vU, vU] [] x1 SS) (fun s1 o1 g1 g2 g3 => ok_Fm_rounds_b10 n s1.1 s1.2  hX hT hr g2 g3 g1) n ((0 : Int32), M) y15 h1 ?_
  show WR G X (mQ G X (some (.int z.1)) z.2 SS) 75 [.ref 94, .int (M.1 95 (tn (7 : Int32))), vU, vU, vU] [] y15 SS
  refine r_iconst (v := (0 : Int32)) hX dX9_rounds_75 (by decide) ?_
  refine r_istore_n (L1 := [.ref 94, .int (M.1 95 (tn (7 : Int32))), .int (0 : Int32), vU, vU]) hX dX9_rounds_76 (Nat.le_of_ble_eq_true rfl) rfl ?_
  obtain ⟨y26, h1, h⟩ := bnd_s h
  refine loop_ok (P := fun s1 : Int32 × Mm => WR G X (mQ G X (some (.int z.1)) z.2 SS) 77 [.ref 94, .int (M.1 95 (tn (7 : Int32))), .int s1.1, vU, vU] [] s1.2 SS) (E := fun x1 : Mm => WR G X (mQ G X (some (.int z.1)) z.2 SS) 158 [.ref 94, .int (M.1 95 (tn (7 : Int32))), vU, vU, vU] [] x1 SS) (fun s1 o1 g1 g2 g3 => ok_Fm_rounds_b77 n s1.1 s1.2  hX hT hr g2 g3 g1) n ((0 : Int32), y15) y26 h1 ?_
  show WR G X (mQ G X (some (.int z.1)) z.2 SS) 158 [.ref 94, .int (M.1 95 (tn (7 : Int32))), vU, vU, vU] [] y26 SS
  refine r_iconst (v := (0 : Int32)) hX dX9_rounds_158 (by decide) ?_
  refine r_istore_n (L1 := [.ref 94, .int (M.1 95 (tn (7 : Int32))), .int (0 : Int32), vU, vU]) hX dX9_rounds_159 (Nat.le_of_ble_eq_true rfl) rfl ?_
  refine r_iconst (v := (0 : Int32)) hX dX9_rounds_160 (by decide) ?_
  refine r_istore_n (L1 := [.ref 94, .int (M.1 95 (tn (7 : Int32))), .int (0 : Int32), .int (0 : Int32), vU]) hX dX9_rounds_161 (Nat.le_of_ble_eq_true rfl) rfl ?_
  obtain ⟨y30, h1, h⟩ := bnd_s h
  refine loop_ok (P := fun s1 : Int32 × Int32 => WR G X (mQ G X (some (.int z.1)) z.2 SS) 162 [.ref 94, .int (M.1 95 (tn (7 : Int32))), .int s1.1, .int s1.2, vU] [] y26 SS) (E := fun x1 : Int32 => WR G X (mQ G X (some (.int z.1)) z.2 SS) 189 [.ref 94, vU, .int x1, vU, vU] [] y26 SS) (fun s1 o1 g1 g2 g3 => ok_Fm_rounds_b162 n s1.1 s1.2  hX hT hr g2 g3 g1) n ((0 : Int32), (0 : Int32)) y30 h1 ?_
  show WR G X (mQ G X (some (.int z.1)) z.2 SS) 189 [.ref 94, vU, .int y30, vU, vU] [] y26 SS
  refine r_iload_n hX dX9_rounds_189 rfl ?_
  obtain rfl := Option.some.inj h
  exact r_iret hX hT dX9_rounds_190 rfl
