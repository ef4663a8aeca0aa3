def Fg_repack (n : Nat) (v1 : Int32) (v2 : Int32) (M : Mm) : Option (Int32 × Mm) :=
  bnd (Fg_isRule v1 M) (fun z1 =>
  if z1 = true then
    if v2 < (0 : Int32) then
      some ((-1 : Int32), M)
    else
      if v2 ≤ (5 : Int32) then
        bnd (Rp_lay n 18 v1 M) (fun z6 =>
        if z6.1 = true then
          if v2 = (0 : Int32) then
            bnd (St_top n 73 z6.2) (fun z10 =>
            some (z10, z6.2))
          else
            if v2 = (1 : Int32) then
              bnd (Jl_bitCount (z6.2.2 72 3) z6.2) (fun z13 =>
              some (z13, z6.2))
            else
              if v2 = (5 : Int32) then
                bnd (Rp_goingRound n z6.2) (fun z16 =>
                some (z16.1, z16.2))
              else
                bnd (Rp_carryOut n z6.2) (fun z18 =>
                if v2 = (2 : Int32) then
                  some (z18.1 72 7, z18)
                else
                  if v2 = (3 : Int32) then
                    bnd (Jl_bitCount (z18.2 72 3) z18) (fun z24 =>
                    some (z24, z18))
                  else
                    bnd (St_top n 54 z18) (fun z22 =>
                    some (z22, z18)))
        else
          some ((-2 : Int32), z6.2))
      else
        some ((-1 : Int32), M)
  else
    some ((-1 : Int32), M))
set_option maxRecDepth 100000 in
theorem ok_Fg_repack {G : Gm} {l : Launch} {d : Nat} (n : Nat) (v1 : Int32) (v2 : Int32) (M : Mm) {z : Int32 × Mm}  (h : Fg_repack n v1 v2 M = some z) : CK G l (d + 14) md_Fg_repack [.ref 0, .int v1, .int v2] M SS (some (.int z.1)) z.2 SS := by
  refine ck_of mk_Fg_repack (Nat.le_of_ble_eq_true rfl) ⟨Nat.le_refl _, Nat.le_refl _⟩ (fun X hX hT hS hr hl => ?_)
  subst hl
  unfold Fg_repack at h
  show WR G X (mQ G X (some (.int z.1)) z.2 SS) 0 [.ref 0, .int v1, .int v2] [] M SS
  refine r_iload_n hX dX8_repack_0 rfl ?_
  obtain ⟨z1, p2, h⟩ := bnd_s h
  refine r_callS (As := [.int v1]) hX dX8_repack_1 mk_Fg_isRule ms_Fg_isRule ml_8_142 rfl rfl rfl (Nat.le_of_ble_eq_true rfl) hr (ok_Fg_isRule (d := d + 13) v1 M p2) ?_
  refine r_ifb_eq (tgt := 16) hX dX8_repack_4 (by decide) (fun g3 => ?_) (fun g3 => ?_)
  · have h := (if_neg (show ¬ z1 = true from fun e => by rw [g3] at e; cases e)).symm.trans h
    refine r_iconst (v := (-1 : Int32)) hX dX8_repack_16 (by decide) ?_
    obtain rfl := Option.some.inj h
    exact r_iret hX hT dX8_repack_17 rfl
  · have h := (if_pos g3).symm.trans h
    refine r_iload_n hX dX8_repack_7 rfl ?_
    refine r_if_lt (tgt := 16) hX dX8_repack_8 (by decide) (fun g4 => ?_) (fun g4 => ?_)
    · have h := (if_pos g4).symm.trans h
      refine r_iconst (v := (-1 : Int32)) hX dX8_repack_16 (by decide) ?_
      obtain rfl := Option.some.inj h
      exact r_iret hX hT dX8_repack_17 rfl
    · have h := (if_neg g4).symm.trans h
      refine r_iload_n hX dX8_repack_11 rfl ?_
      refine r_iconst (v := (5 : Int32)) hX dX8_repack_12 (by decide) ?_
      refine r_icmp_le (tgt := 18) hX dX8_repack_13 (by decide) (fun g5 => ?_) (fun g5 => ?_)
      · have h := (if_pos g5).symm.trans h
        refine r_aload_n hX dX8_repack_18 rfl ?_
        refine r_getf (v := .ref 72) hX dX8_repack_19 fl_8_50 rfl (by decide) (by decide) rfl ?_
        refine r_aload_n hX dX8_repack_22 rfl ?_
        refine r_getf (v := .ref 18) hX dX8_repack_23 fl_8_35 rfl (by decide) (by decide) rfl ?_
        refine r_iload_n hX dX8_repack_26 rfl ?_
        obtain ⟨z6, p7, h⟩ := bnd_s h
        refine r_callV (As := [.ref 18, .int v1]) hX dX8_repack_27 mk_Rp_lay mi_Rp_lay ml_8_378 rfl rfl rfl rfl (by decide) (by decide) (Nat.le_of_ble_eq_true rfl) hr (ok_Rp_lay (d := d + 0) n 18 v1 M st18 p7) ?_
        refine r_ifb_ne (tgt := 36) hX dX8_repack_30 (by decide) (fun g8 => ?_) (fun g8 => ?_)
        · have h := (if_pos g8).symm.trans h
          refine r_iload_n hX dX8_repack_36 rfl ?_
          by_cases g9 : v2 = (0 : Int32)
          · have h := (if_pos g9).symm.trans h
            refine r_lookEq (tgt := 72) hX dX8_repack_37 (by decide) g9 (off := 35) (by decide) (by decide) ?_
            refine r_aload_n hX dX8_repack_72 rfl ?_
            refine r_getf (v := .ref 72) hX dX8_repack_73 fl_8_50 rfl (by decide) (by decide) rfl ?_
            refine r_getf (v := .ref 73) hX dX8_repack_76 fl_8_388 rfl (by decide) (by decide) rfl ?_
            obtain ⟨z10, p11, h⟩ := bnd_s h
            refine r_callV (As := []) hX dX8_repack_79 mk_St_top mi_St_top ml_8_245 rfl rfl rfl rfl (by decide) (by decide) (Nat.le_of_ble_eq_true rfl) hr (ok_St_top (d := d + 11) n 73 z6.2 st73 p11) ?_
            obtain rfl := Option.some.inj h
            exact r_iret hX hT dX8_repack_82 rfl
          · have h := (if_neg g9).symm.trans h
            by_cases g12 : v2 = (1 : Int32)
            · have h := (if_pos g12).symm.trans h
              refine r_lookEq (tgt := 83) hX dX8_repack_37 (by decide) g12 (off := 46) (by decide) (by decide) ?_
              refine r_aload_n hX dX8_repack_83 rfl ?_
              refine r_getf (v := .ref 72) hX dX8_repack_84 fl_8_50 rfl (by decide) (by decide) rfl ?_
              refine r_getf (v := .long (z6.2.2 72 3)) hX dX8_repack_87 fl_8_391 rfl (by decide) (by decide) rfl ?_
              obtain ⟨z13, p14, h⟩ := bnd_s h
              refine r_callS (As := [.long (z6.2.2 72 3)]) hX dX8_repack_90 mk_Jl_bitCount ms_Jl_bitCount ml_8_295 rfl rfl rfl (Nat.le_of_ble_eq_true rfl) hr (ok_Jl_bitCount (d := d + 13) (z6.2.2 72 3) z6.2 p14) ?_
              obtain rfl := Option.some.inj h
              exact r_iret hX hT dX8_repack_93 rfl
            · have h := (if_neg g12).symm.trans h
              by_cases g15 : v2 = (5 : Int32)
              · have h := (if_pos g15).symm.trans h
                refine r_lookEq (tgt := 94) hX dX8_repack_37 (by decide) g15 (off := 57) (by decide) (by decide) ?_
                refine r_aload_n hX dX8_repack_94 rfl ?_
                refine r_getf (v := .ref 72) hX dX8_repack_95 fl_8_50 rfl (by decide) (by decide) rfl ?_
                obtain ⟨z16, p17, h⟩ := bnd_s h
                refine r_callV (As := []) hX dX8_repack_98 mk_Rp_goingRound mi_Rp_goingRound ml_8_395 rfl rfl rfl rfl (by decide) (by decide) (Nat.le_of_ble_eq_true rfl) hr (ok_Rp_goingRound (d := d + 13) n z6.2 p17) ?_
                obtain rfl := Option.some.inj h
                exact r_iret hX hT dX8_repack_101 rfl
              · have h := (if_neg g15).symm.trans h
                refine r_lookup (off := 65) (tgt := 102) hX dX8_repack_37 (by decide) ((lv_osw g9 (by decide)).trans ((lv_osw g12 (by decide)).trans ((lv_osw g15 (by decide)).trans (rfl)))) (by decide) ?_
                refine r_aload_n hX dX8_repack_102 rfl ?_
                refine r_getf (v := .ref 72) hX dX8_repack_103 fl_8_50 rfl (by decide) (by decide) rfl ?_
                obtain ⟨z18, p19, h⟩ := bnd_s h
                refine r_callV (As := []) hX dX8_repack_106 mk_Rp_carryOut mi_Rp_carryOut ml_8_382 rfl rfl rfl rfl (by decide) (by decide) (Nat.le_of_ble_eq_true rfl) hr (ok_Rp_carryOut (d := d + 10) n z6.2 p19) ?_
                refine r_iload_n hX dX8_repack_109 rfl ?_
                refine r_iconst (v := (2 : Int32)) hX dX8_repack_110 (by decide) ?_
                refine r_icmp_ne (tgt := 122) hX dX8_repack_111 (by decide) (fun g20 => ?_) (fun g20 => ?_)
                · have h := (if_neg g20).symm.trans h
                  refine r_iload_n hX dX8_repack_122 rfl ?_
                  refine r_iconst (v := (3 : Int32)) hX dX8_repack_123 (by decide) ?_
                  refine r_icmp_ne (tgt := 140) hX dX8_repack_124 (by decide) (fun g21 => ?_) (fun g21 => ?_)
                  · have h := (if_neg g21).symm.trans h
                    refine r_aload_n hX dX8_repack_140 rfl ?_
                    refine r_getf (v := .ref 54) hX dX8_repack_141 fl_8_42 rfl (by decide) (by decide) rfl ?_
                    obtain ⟨z22, p23, h⟩ := bnd_s h
                    refine r_callV (As := []) hX dX8_repack_144 mk_St_top mi_St_top ml_8_245 rfl rfl rfl rfl (by decide) (by decide) (Nat.le_of_ble_eq_true rfl) hr (ok_St_top (d := d + 11) n 54 z18 st54 p23) ?_
                    obtain rfl := Option.some.inj h
                    exact r_iret hX hT dX8_repack_147 rfl
                  · have h := (if_pos g21).symm.trans h
                    refine r_aload_n hX dX8_repack_127 rfl ?_
                    refine r_getf (v := .ref 72) hX dX8_repack_128 fl_8_50 rfl (by decide) (by decide) rfl ?_
                    refine r_getf (v := .long (z18.2 72 3)) hX dX8_repack_131 fl_8_391 rfl (by decide) (by decide) rfl ?_
                    obtain ⟨z24, p25, h⟩ := bnd_s h
                    refine r_callS (As := [.long (z18.2 72 3)]) hX dX8_repack_134 mk_Jl_bitCount ms_Jl_bitCount ml_8_295 rfl rfl rfl (Nat.le_of_ble_eq_true rfl) hr (ok_Jl_bitCount (d := d + 13) (z18.2 72 3) z18 p25) ?_
                    refine r_goto (tgt := 147) hX dX8_repack_137 (by decide) ?_
                    obtain rfl := Option.some.inj h
                    exact r_iret hX hT dX8_repack_147 rfl
                · have h := (if_pos g20).symm.trans h
                  refine r_aload_n hX dX8_repack_114 rfl ?_
                  refine r_getf (v := .ref 72) hX dX8_repack_115 fl_8_50 rfl (by decide) (by decide) rfl ?_
                  refine r_getf (v := .int (z18.1 72 7)) hX dX8_repack_118 fl_8_385 rfl (by decide) (by decide) rfl ?_
                  obtain rfl := Option.some.inj h
                  exact r_iret hX hT dX8_repack_121 rfl
        · have h := (if_neg (show ¬ z6.1 = true from fun e => by rw [g8] at e; cases e)).symm.trans h
          refine r_bipush (v := (-2 : Int32)) hX dX8_repack_33 (by decide) ?_
          obtain rfl := Option.some.inj h
          exact r_iret hX hT dX8_repack_35 rfl
      · have h := (if_neg g5).symm.trans h
        refine r_iconst (v := (-1 : Int32)) hX dX8_repack_16 (by decide) ?_
        obtain rfl := Option.some.inj h
        exact r_iret hX hT dX8_repack_17 rfl
def Fg_planned (n : Nat) (v1 : Int32) (v2 : Int32) (v3 : Int32) (M : Mm) : Option (Int32 × Mm) :=
  bnd (Fg_isRule v1 M) (fun z1 =>
  if z1 = true then
    if v2 < (0 : Int32) then
      some ((-1 : Int32), M)
    else
      if v3 < (0 : Int32) then
        some ((-1 : Int32), M)
      else
        if v3 ≤ (2 : Int32) then
          bnd (Rp_lay n 18 v1 M) (fun z7 =>
          if z7.1 = true then
            bnd (Rp_carryOut n z7.2) (fun z10 =>
            if v2 < (z10.1 72 7) then
              grd (inb v2 40) (
              if v3 = (0 : Int32) then
                some (z10.1 92 (tn v2), z10)
              else
                if v3 = (1 : Int32) then
                  grd (inb (z10.1 92 (tn v2)) 40) (
                  some (z10.1 86 (tn (z10.1 92 (tn v2))), z10))
                else
                  grd (inb (z10.1 92 (tn v2)) 40) (
                  some (z10.1 85 (tn (z10.1 92 (tn v2))), z10)))
            else
              some ((-4 : Int32), z10))
          else
            some ((-2 : Int32), z7.2))
        else
          some ((-1 : Int32), M)
  else
    some ((-1 : Int32), M))
set_option maxRecDepth 100000 in
theorem ok_Fg_planned {G : Gm} {l : Launch} {d : Nat} (n : Nat) (v1 : Int32) (v2 : Int32) (v3 : Int32) (M : Mm) {z : Int32 × Mm}  (h : Fg_planned n v1 v2 v3 M = some z) : CK G l (d + 14) md_Fg_planned [.ref 0, .int v1, .int v2, .int v3] M SS (some (.int z.1)) z.2 SS := by
  refine ck_of mk_Fg_planned (Nat.le_of_ble_eq_true rfl) ⟨Nat.le_refl _, Nat.le_refl _⟩ (fun X hX hT hS hr hl => ?_)
  subst hl
  unfold Fg_planned at h
  show WR G X (mQ G X (some (.int z.1)) z.2 SS) 0 [.ref 0, .int v1, .int v2, .int v3, vU] [] M SS
  refine r_iload_n hX dX8_planned_0 rfl ?_
  obtain ⟨z1, p2, h⟩ := bnd_s h
  refine r_callS (As := [.int v1]) hX dX8_planned_1 mk_Fg_isRule ms_Fg_isRule ml_8_142 rfl rfl rfl (Nat.le_of_ble_eq_true rfl) hr (ok_Fg_isRule (d := d + 13) v1 M p2) ?_
  refine r_ifb_eq (tgt := 20) hX dX8_planned_4 (by decide) (fun g3 => ?_) (fun g3 => ?_)
  · have h := (if_neg (show ¬ z1 = true from fun e => by rw [g3] at e; cases e)).symm.trans h
    refine r_iconst (v := (-1 : Int32)) hX dX8_planned_20 (by decide) ?_
    obtain rfl := Option.some.inj h
    exact r_iret hX hT dX8_planned_21 rfl
  · have h := (if_pos g3).symm.trans h
    refine r_iload_n hX dX8_planned_7 rfl ?_
    refine r_if_lt (tgt := 20) hX dX8_planned_8 (by decide) (fun g4 => ?_) (fun g4 => ?_)
    · have h := (if_pos g4).symm.trans h
      refine r_iconst (v := (-1 : Int32)) hX dX8_planned_20 (by decide) ?_
      obtain rfl := Option.some.inj h
      exact r_iret hX hT dX8_planned_21 rfl
    · have h := (if_neg g4).symm.trans h
      refine r_iload_n hX dX8_planned_11 rfl ?_
      refine r_if_lt (tgt := 20) hX dX8_planned_12 (by decide) (fun g5 => ?_) (fun g5 => ?_)
      · have h := (if_pos g5).symm.trans h
        refine r_iconst (v := (-1 : Int32)) hX dX8_planned_20 (by decide) ?_
        obtain rfl := Option.some.inj h
        exact r_iret hX hT dX8_planned_21 rfl
      · have h := (if_neg g5).symm.trans h
        refine r_iload_n hX dX8_planned_15 rfl ?_
        refine r_iconst (v := (2 : Int32)) hX dX8_planned_16 (by decide) ?_
        refine r_icmp_le (tgt := 22) hX dX8_planned_17 (by decide) (fun g6 => ?_) (fun g6 => ?_)
        · have h := (if_pos g6).symm.trans h
          refine r_aload_n hX dX8_planned_22 rfl ?_
          refine r_getf (v := .ref 72) hX dX8_planned_23 fl_8_50 rfl (by decide) (by decide) rfl ?_
          refine r_aload_n hX dX8_planned_26 rfl ?_
          refine r_getf (v := .ref 18) hX dX8_planned_27 fl_8_35 rfl (by decide) (by decide) rfl ?_
          refine r_iload_n hX dX8_planned_30 rfl ?_
          obtain ⟨z7, p8, h⟩ := bnd_s h
          refine r_callV (As := [.ref 18, .int v1]) hX dX8_planned_31 mk_Rp_lay mi_Rp_lay ml_8_378 rfl rfl rfl rfl (by decide) (by decide) (Nat.le_of_ble_eq_true rfl) hr (ok_Rp_lay (d := d + 0) n 18 v1 M st18 p8) ?_
          refine r_ifb_ne (tgt := 40) hX dX8_planned_34 (by decide) (fun g9 => ?_) (fun g9 => ?_)
          · have h := (if_pos g9).symm.trans h
            refine r_aload_n hX dX8_planned_40 rfl ?_
            refine r_getf (v := .ref 72) hX dX8_planned_41 fl_8_50 rfl (by decide) (by decide) rfl ?_
            obtain ⟨z10, p11, h⟩ := bnd_s h
            refine r_callV (As := []) hX dX8_planned_44 mk_Rp_carryOut mi_Rp_carryOut ml_8_382 rfl rfl rfl rfl (by decide) (by decide) (Nat.le_of_ble_eq_true rfl) hr (ok_Rp_carryOut (d := d + 10) n z7.2 p11) ?_
            refine r_iload_n hX dX8_planned_47 rfl ?_
            refine r_aload_n hX dX8_planned_48 rfl ?_
            refine r_getf (v := .ref 72) hX dX8_planned_49 fl_8_50 rfl (by decide) (by decide) rfl ?_
            refine r_getf (v := .int (z10.1 72 7)) hX dX8_planned_52 fl_8_385 rfl (by decide) (by decide) rfl ?_
            refine r_icmp_lt (tgt := 61) hX dX8_planned_55 (by decide) (fun g12 => ?_) (fun g12 => ?_)
            · have h := (if_pos g12).symm.trans h
              refine r_aload_n hX dX8_planned_61 rfl ?_
              refine r_getf (v := .ref 72) hX dX8_planned_62 fl_8_50 rfl (by decide) (by decide) rfl ?_
              refine r_getf (v := .ref 92) hX dX8_planned_65 fl_8_398 rfl (by decide) (by decide) rfl ?_
              refine r_iload_n hX dX8_planned_68 rfl ?_
              obtain ⟨k13, h⟩ := grd_s h
              refine r_iald hX dX8_planned_69 rfl (by decide) (inb_at rfl k13) ?_
              refine r_istore (L1 := [.ref 0, .int v1, .int v2, .int v3, .int (z10.1 92 (tn v2))]) hX dX8_planned_70 (Nat.le_of_ble_eq_true rfl) rfl ?_
              refine r_iload_n hX dX8_planned_72 rfl ?_
              refine r_if_ne (tgt := 79) hX dX8_planned_73 (by decide) (fun g14 => ?_) (fun g14 => ?_)
              · have h := (if_neg g14).symm.trans h
                refine r_iload_n hX dX8_planned_79 rfl ?_
                refine r_iconst (v := (1 : Int32)) hX dX8_planned_80 (by decide) ?_
                refine r_icmp_ne (tgt := 100) hX dX8_planned_81 (by decide) (fun g15 => ?_) (fun g15 => ?_)
                · have h := (if_neg g15).symm.trans h
                  refine r_aload_n hX dX8_planned_100 rfl ?_
                  refine r_getf (v := .ref 72) hX dX8_planned_101 fl_8_50 rfl (by decide) (by decide) rfl ?_
                  refine r_getf (v := .ref 73) hX dX8_planned_104 fl_8_388 rfl (by decide) (by decide) rfl ?_
                  refine r_getf (v := .ref 85) hX dX8_planned_107 fl_8_189 rfl (by decide) (by decide) rfl ?_
                  refine r_iload hX dX8_planned_110 rfl ?_
                  obtain ⟨k16, h⟩ := grd_s h
                  refine r_iald hX dX8_planned_112 rfl (by decide) (inb_at rfl k16) ?_
                  obtain rfl := Option.some.inj h
                  exact r_iret hX hT dX8_planned_113 rfl
                · have h := (if_pos g15).symm.trans h
                  refine r_aload_n hX dX8_planned_84 rfl ?_
                  refine r_getf (v := .ref 72) hX dX8_planned_85 fl_8_50 rfl (by decide) (by decide) rfl ?_
                  refine r_getf (v := .ref 73) hX dX8_planned_88 fl_8_388 rfl (by decide) (by decide) rfl ?_
                  refine r_getf (v := .ref 86) hX dX8_planned_91 fl_8_191 rfl (by decide) (by decide) rfl ?_
                  refine r_iload hX dX8_planned_94 rfl ?_
                  obtain ⟨k17, h⟩ := grd_s h
                  refine r_iald hX dX8_planned_96 rfl (by decide) (inb_at rfl k17) ?_
                  refine r_goto (tgt := 113) hX dX8_planned_97 (by decide) ?_
                  obtain rfl := Option.some.inj h
                  exact r_iret hX hT dX8_planned_113 rfl
              · have h := (if_pos g14).symm.trans h
                refine r_iload hX dX8_planned_76 rfl ?_
                obtain rfl := Option.some.inj h
                exact r_iret hX hT dX8_planned_78 rfl
            · have h := (if_neg g12).symm.trans h
              refine r_bipush (v := (-4 : Int32)) hX dX8_planned_58 (by decide) ?_
              obtain rfl := Option.some.inj h
              exact r_iret hX hT dX8_planned_60 rfl
          · have h := (if_neg (show ¬ z7.1 = true from fun e => by rw [g9] at e; cases e)).symm.trans h
            refine r_bipush (v := (-2 : Int32)) hX dX8_planned_37 (by decide) ?_
            obtain rfl := Option.some.inj h
            exact r_iret hX hT dX8_planned_39 rfl
        · have h := (if_neg g6).symm.trans h
          refine r_iconst (v := (-1 : Int32)) hX dX8_planned_20 (by decide) ?_
          obtain rfl := Option.some.inj h
          exact r_iret hX hT dX8_planned_21 rfl
def Fg_waits (n : Nat) (v1 : Int32) (v2 : Int32) (M : Mm) : Option (Int32 × Mm) :=
  bnd (Fg_isRule v1 M) (fun z1 =>
  if z1 = true then
    bnd (St_has 18 v2 M) (fun z4 =>
    if z4 = true then
      bnd (Rp_lay n 18 v1 M) (fun z7 =>
      if z7.1 = true then
        if ((lushr (z7.2.2 72 3) v2) &&& (1 : Int64)) = (0 : Int64) then
          some ((-4 : Int32), z7.2)
        else
          grd (inb v2 40) (
          bnd (Jl_bitCount (z7.2.2 91 (tn v2)) z7.2) (fun z12 =>
          some (z12, z7.2)))
      else
        some ((-2 : Int32), z7.2))
    else
      some ((-1 : Int32), M))
  else
    some ((-1 : Int32), M))
set_option maxRecDepth 100000 in
theorem ok_Fg_waits {G : Gm} {l : Launch} {d : Nat} (n : Nat) (v1 : Int32) (v2 : Int32) (M : Mm) {z : Int32 × Mm}  (h : Fg_waits n v1 v2 M = some z) : CK G l (d + 14) md_Fg_waits [.ref 0, .int v1, .int v2] M SS (some (.int z.1)) z.2 SS := by
  refine ck_of mk_Fg_waits (Nat.le_of_ble_eq_true rfl) ⟨Nat.le_refl _, Nat.le_refl _⟩ (fun X hX hT hS hr hl => ?_)
  subst hl
  unfold Fg_waits at h
  show WR G X (mQ G X (some (.int z.1)) z.2 SS) 0 [.ref 0, .int v1, .int v2] [] M SS
  refine r_iload_n hX dX8_waits_0 rfl ?_
  obtain ⟨z1, p2, h⟩ := bnd_s h
  refine r_callS (As := [.int v1]) hX dX8_waits_1 mk_Fg_isRule ms_Fg_isRule ml_8_142 rfl rfl rfl (Nat.le_of_ble_eq_true rfl) hr (ok_Fg_isRule (d := d + 13) v1 M p2) ?_
  refine r_ifb_eq (tgt := 18) hX dX8_waits_4 (by decide) (fun g3 => ?_) (fun g3 => ?_)
  · have h := (if_neg (show ¬ z1 = true from fun e => by rw [g3] at e; cases e)).symm.trans h
    refine r_iconst (v := (-1 : Int32)) hX dX8_waits_18 (by decide) ?_
    obtain rfl := Option.some.inj h
    exact r_iret hX hT dX8_waits_19 rfl
  · have h := (if_pos g3).symm.trans h
    refine r_aload_n hX dX8_waits_7 rfl ?_
    refine r_getf (v := .ref 18) hX dX8_waits_8 fl_8_35 rfl (by decide) (by decide) rfl ?_
    refine r_iload_n hX dX8_waits_11 rfl ?_
    obtain ⟨z4, p5, h⟩ := bnd_s h
    refine r_callV (As := [.int v2]) hX dX8_waits_12 mk_St_has mi_St_has ml_8_169 rfl rfl rfl rfl (by decide) (by decide) (Nat.le_of_ble_eq_true rfl) hr (ok_St_has (d := d + 13) 18 v2 M st18 p5) ?_
    refine r_ifb_ne (tgt := 20) hX dX8_waits_15 (by decide) (fun g6 => ?_) (fun g6 => ?_)
    · have h := (if_pos g6).symm.trans h
      refine r_aload_n hX dX8_waits_20 rfl ?_
      refine r_getf (v := .ref 72) hX dX8_waits_21 fl_8_50 rfl (by decide) (by decide) rfl ?_
      refine r_aload_n hX dX8_waits_24 rfl ?_
      refine r_getf (v := .ref 18) hX dX8_waits_25 fl_8_35 rfl (by decide) (by decide) rfl ?_
      refine r_iload_n hX dX8_waits_28 rfl ?_
      obtain ⟨z7, p8, h⟩ := bnd_s h
      refine r_callV (As := [.ref 18, .int v1]) hX dX8_waits_29 mk_Rp_lay mi_Rp_lay ml_8_378 rfl rfl rfl rfl (by decide) (by decide) (Nat.le_of_ble_eq_true rfl) hr (ok_Rp_lay (d := d + 0) n 18 v1 M st18 p8) ?_
      refine r_ifb_ne (tgt := 38) hX dX8_waits_32 (by decide) (fun g9 => ?_) (fun g9 => ?_)
      · have h := (if_pos g9).symm.trans h
        refine r_aload_n hX dX8_waits_38 rfl ?_
        refine r_getf (v := .ref 72) hX dX8_waits_39 fl_8_50 rfl (by decide) (by decide) rfl ?_
        refine r_getf (v := .long (z7.2.2 72 3)) hX dX8_waits_42 fl_8_391 rfl (by decide) (by decide) rfl ?_
        refine r_iload_n hX dX8_waits_45 rfl ?_
        refine r_lushr hX dX8_waits_46 ?_
        refine r_lconst (v := (1 : Int64)) hX dX8_waits_47 (by decide) ?_
        refine r_land hX dX8_waits_48 ?_
        refine r_lconst (v := (0 : Int64)) hX dX8_waits_49 (by decide) ?_
        refine r_lcmp_ne (tgt := 57) hX dX8_waits_50 dX8_waits_51 (by decide) (fun g10 => ?_) (fun g10 => ?_)
        · have h := (if_neg g10).symm.trans h
          refine r_aload_n hX dX8_waits_57 rfl ?_
          refine r_getf (v := .ref 72) hX dX8_waits_58 fl_8_50 rfl (by decide) (by decide) rfl ?_
          refine r_getf (v := .ref 91) hX dX8_waits_61 fl_8_399 rfl (by decide) (by decide) rfl ?_
          refine r_iload_n hX dX8_waits_64 rfl ?_
          obtain ⟨k11, h⟩ := grd_s h
          refine r_lald hX dX8_waits_65 rfl (by decide) (inb_at rfl k11) ?_
          obtain ⟨z12, p13, h⟩ := bnd_s h
          refine r_callS (As := [.long (z7.2.2 91 (tn v2))]) hX dX8_waits_66 mk_Jl_bitCount ms_Jl_bitCount ml_8_295 rfl rfl rfl (Nat.le_of_ble_eq_true rfl) hr (ok_Jl_bitCount (d := d + 13) (z7.2.2 91 (tn v2)) z7.2 p13) ?_
          obtain rfl := Option.some.inj h
          exact r_iret hX hT dX8_waits_69 rfl
        · have h := (if_pos g10).symm.trans h
          refine r_bipush (v := (-4 : Int32)) hX dX8_waits_54 (by decide) ?_
          obtain rfl := Option.some.inj h
          exact r_iret hX hT dX8_waits_56 rfl
      · have h := (if_neg (show ¬ z7.1 = true from fun e => by rw [g9] at e; cases e)).symm.trans h
        refine r_bipush (v := (-2 : Int32)) hX dX8_waits_35 (by decide) ?_
        obtain rfl := Option.some.inj h
        exact r_iret hX hT dX8_waits_37 rfl
    · have h := (if_neg (show ¬ z4 = true from fun e => by rw [g6] at e; cases e)).symm.trans h
      refine r_iconst (v := (-1 : Int32)) hX dX8_waits_18 (by decide) ?_
      obtain rfl := Option.some.inj h
      exact r_iret hX hT dX8_waits_19 rfl
def Fg_unravel (n : Nat) (v1 : Int32) (v2 : Int32) (M : Mm) : Option (Int32 × Mm) :=
  bnd (Fg_isRule v1 M) (fun z1 =>
  if z1 = true then
    if v2 < (0 : Int32) then
      some ((-1 : Int32), M)
    else
      if v2 ≤ (3 : Int32) then
        bnd (Rp_lay n 18 v1 M) (fun z6 =>
        if z6.1 = true then
          bnd (Rp_carryOutParking n z6.2) (fun z9 =>
          if v2 = (0 : Int32) then
            bnd (Jl_bitCount (z9.2 72 4) z9) (fun z12 =>
            some (z12, z9))
          else
            if v2 = (1 : Int32) then
              some (z9.1 72 7, z9)
            else
              if v2 = (2 : Int32) then
                bnd (Jl_bitCount (z9.2 72 3) z9) (fun z16 =>
                some (z16, z9))
              else
                bnd (St_top n 54 z9) (fun z18 =>
                some (z18, z9)))
        else
          some ((-2 : Int32), z6.2))
      else
        some ((-1 : Int32), M)
  else
    some ((-1 : Int32), M))
set_option maxRecDepth 100000 in
theorem ok_Fg_unravel {G : Gm} {l : Launch} {d : Nat} (n : Nat) (v1 : Int32) (v2 : Int32) (M : Mm) {z : Int32 × Mm}  (h : Fg_unravel n v1 v2 M = some z) : CK G l (d + 14) md_Fg_unravel [.ref 0, .int v1, .int v2] M SS (some (.int z.1)) z.2 SS := by
  refine ck_of mk_Fg_unravel (Nat.le_of_ble_eq_true rfl) ⟨Nat.le_refl _, Nat.le_refl _⟩ (fun X hX hT hS hr hl => ?_)
  subst hl
  unfold Fg_unravel at h
  show WR G X (mQ G X (some (.int z.1)) z.2 SS) 0 [.ref 0, .int v1, .int v2] [] M SS
  refine r_iload_n hX dX8_unravel_0 rfl ?_
  obtain ⟨z1, p2, h⟩ := bnd_s h
  refine r_callS (As := [.int v1]) hX dX8_unravel_1 mk_Fg_isRule ms_Fg_isRule ml_8_142 rfl rfl rfl (Nat.le_of_ble_eq_true rfl) hr (ok_Fg_isRule (d := d + 13) v1 M p2) ?_
  refine r_ifb_eq (tgt := 16) hX dX8_unravel_4 (by decide) (fun g3 => ?_) (fun g3 => ?_)
  · have h := (if_neg (show ¬ z1 = true from fun e => by rw [g3] at e; cases e)).symm.trans h
    refine r_iconst (v := (-1 : Int32)) hX dX8_unravel_16 (by decide) ?_
    obtain rfl := Option.some.inj h
    exact r_iret hX hT dX8_unravel_17 rfl
  · have h := (if_pos g3).symm.trans h
    refine r_iload_n hX dX8_unravel_7 rfl ?_
    refine r_if_lt (tgt := 16) hX dX8_unravel_8 (by decide) (fun g4 => ?_) (fun g4 => ?_)
    · have h := (if_pos g4).symm.trans h
      refine r_iconst (v := (-1 : Int32)) hX dX8_unravel_16 (by decide) ?_
      obtain rfl := Option.some.inj h
      exact r_iret hX hT dX8_unravel_17 rfl
    · have h := (if_neg g4).symm.trans h
      refine r_iload_n hX dX8_unravel_11 rfl ?_
      refine r_iconst (v := (3 : Int32)) hX dX8_unravel_12 (by decide) ?_
      refine r_icmp_le (tgt := 18) hX dX8_unravel_13 (by decide) (fun g5 => ?_) (fun g5 => ?_)
      · have h := (if_pos g5).symm.trans h
        refine r_aload_n hX dX8_unravel_18 rfl ?_
        refine r_getf (v := .ref 72) hX dX8_unravel_19 fl_8_50 rfl (by decide) (by decide) rfl ?_
        refine r_aload_n hX dX8_unravel_22 rfl ?_
        refine r_getf (v := .ref 18) hX dX8_unravel_23 fl_8_35 rfl (by decide) (by decide) rfl ?_
        refine r_iload_n hX dX8_unravel_26 rfl ?_
        obtain ⟨z6, p7, h⟩ := bnd_s h
        refine r_callV (As := [.ref 18, .int v1]) hX dX8_unravel_27 mk_Rp_lay mi_Rp_lay ml_8_378 rfl rfl rfl rfl (by decide) (by decide) (Nat.le_of_ble_eq_true rfl) hr (ok_Rp_lay (d := d + 0) n 18 v1 M st18 p7) ?_
        refine r_ifb_ne (tgt := 36) hX dX8_unravel_30 (by decide) (fun g8 => ?_) (fun g8 => ?_)
        · have h := (if_pos g8).symm.trans h
          refine r_aload_n hX dX8_unravel_36 rfl ?_
          refine r_getf (v := .ref 72) hX dX8_unravel_37 fl_8_50 rfl (by decide) (by decide) rfl ?_
          obtain ⟨z9, p10, h⟩ := bnd_s h
          refine r_callV (As := []) hX dX8_unravel_40 mk_Rp_carryOutParking mi_Rp_carryOutParking ml_8_402 rfl rfl rfl rfl (by decide) (by decide) (Nat.le_of_ble_eq_true rfl) hr (ok_Rp_carryOutParking (d := d + 9) n z6.2 p10) ?_
          refine r_iload_n hX dX8_unravel_43 rfl ?_
          by_cases g11 : v2 = (0 : Int32)
          · have h := (if_pos g11).symm.trans h
            refine r_tabEq (tgt := 72) hX dX8_unravel_44 g11 ⟨by decide, by decide, rfl⟩ (by decide) ?_
            refine r_aload_n hX dX8_unravel_72 rfl ?_
            refine r_getf (v := .ref 72) hX dX8_unravel_73 fl_8_50 rfl (by decide) (by decide) rfl ?_
            refine r_getf (v := .long (z9.2 72 4)) hX dX8_unravel_76 fl_8_405 rfl (by decide) (by decide) rfl ?_
            obtain ⟨z12, p13, h⟩ := bnd_s h
            refine r_callS (As := [.long (z9.2 72 4)]) hX dX8_unravel_79 mk_Jl_bitCount ms_Jl_bitCount ml_8_295 rfl rfl rfl (Nat.le_of_ble_eq_true rfl) hr (ok_Jl_bitCount (d := d + 13) (z9.2 72 4) z9 p13) ?_
            obtain rfl := Option.some.inj h
            exact r_iret hX hT dX8_unravel_82 rfl
          · have h := (if_neg g11).symm.trans h
            by_cases g14 : v2 = (1 : Int32)
            · have h := (if_pos g14).symm.trans h
              refine r_tabEq (tgt := 83) hX dX8_unravel_44 g14 ⟨by decide, by decide, rfl⟩ (by decide) ?_
              refine r_aload_n hX dX8_unravel_83 rfl ?_
              refine r_getf (v := .ref 72) hX dX8_unravel_84 fl_8_50 rfl (by decide) (by decide) rfl ?_
              refine r_getf (v := .int (z9.1 72 7)) hX dX8_unravel_87 fl_8_385 rfl (by decide) (by decide) rfl ?_
              obtain rfl := Option.some.inj h
              exact r_iret hX hT dX8_unravel_90 rfl
            · have h := (if_neg g14).symm.trans h
              by_cases g15 : v2 = (2 : Int32)
              · have h := (if_pos g15).symm.trans h
                refine r_tabEq (tgt := 91) hX dX8_unravel_44 g15 ⟨by decide, by decide, rfl⟩ (by decide) ?_
                refine r_aload_n hX dX8_unravel_91 rfl ?_
                refine r_getf (v := .ref 72) hX dX8_unravel_92 fl_8_50 rfl (by decide) (by decide) rfl ?_
                refine r_getf (v := .long (z9.2 72 3)) hX dX8_unravel_95 fl_8_391 rfl (by decide) (by decide) rfl ?_
                obtain ⟨z16, p17, h⟩ := bnd_s h
                refine r_callS (As := [.long (z9.2 72 3)]) hX dX8_unravel_98 mk_Jl_bitCount ms_Jl_bitCount ml_8_295 rfl rfl rfl (Nat.le_of_ble_eq_true rfl) hr (ok_Jl_bitCount (d := d + 13) (z9.2 72 3) z9 p17) ?_
                obtain rfl := Option.some.inj h
                exact r_iret hX hT dX8_unravel_101 rfl
              · have h := (if_neg g15).symm.trans h
                refine r_tabOut (tgt := 102) hX dX8_unravel_44 (by have q0 := ne_ti g11 (k := 0) (by decide); have q1 := ne_ti g14 (k := 1) (by decide); have q2 := ne_ti g15 (k := 2) (by decide); omega) (by decide) ?_
                refine r_aload_n hX dX8_unravel_102 rfl ?_
                refine r_getf (v := .ref 54) hX dX8_unravel_103 fl_8_42 rfl (by decide) (by decide) rfl ?_
                obtain ⟨z18, p19, h⟩ := bnd_s h
                refine r_callV (As := []) hX dX8_unravel_106 mk_St_top mi_St_top ml_8_245 rfl rfl rfl rfl (by decide) (by decide) (Nat.le_of_ble_eq_true rfl) hr (ok_St_top (d := d + 11) n 54 z9 st54 p19) ?_
                obtain rfl := Option.some.inj h
                exact r_iret hX hT dX8_unravel_109 rfl
        · have h := (if_neg (show ¬ z6.1 = true from fun e => by rw [g8] at e; cases e)).symm.trans h
          refine r_bipush (v := (-2 : Int32)) hX dX8_unravel_33 (by decide) ?_
          obtain rfl := Option.some.inj h
          exact r_iret hX hT dX8_unravel_35 rfl
      · have h := (if_neg g5).symm.trans h
        refine r_iconst (v := (-1 : Int32)) hX dX8_unravel_16 (by decide) ?_
        obtain rfl := Option.some.inj h
        exact r_iret hX hT dX8_unravel_17 rfl
def Fg_isTrial (v0 : Int32) (v1 : Int32) (M : Mm) : Option (Bool) :=
  if v0 < (1 : Int32) then
    some false
  else
    if (200 : Int32) < v0 then
      some false
    else
      if v1 < (1 : Int32) then
        some false
      else
        if (64 : Int32) < v1 then
          some false
        else
          some true
set_option maxRecDepth 100000 in
theorem ok_Fg_isTrial {G : Gm} {l : Launch} {d : Nat} (v0 : Int32) (v1 : Int32) (M : Mm) {z : Bool}  (h : Fg_isTrial v0 v1 M = some z) : CK G l (d + 0) md_Fg_isTrial [.int v0, .int v1] M SS (some (.int (b2i z))) M SS := by
  refine ck_of mk_Fg_isTrial (Nat.le_of_ble_eq_true rfl) ⟨Nat.le_refl _, Nat.le_refl _⟩ (fun X hX hT hS hr hl => ?_)
  subst hl
  unfold Fg_isTrial at h
  show WR G X (mQ G X (some (.int (b2i z))) M SS) 0 [.int v0, .int v1] [] M SS
  refine r_iload_n hX dX8_isTrial_0 rfl ?_
  refine r_iconst (v := (1 : Int32)) hX dX8_isTrial_1 (by decide) ?_
  refine r_icmp_lt (tgt := 27) hX dX8_isTrial_2 (by decide) (fun g1 => ?_) (fun g1 => ?_)
  · have h := (if_pos g1).symm.trans h
    refine r_iconst (v := (0 : Int32)) hX dX8_isTrial_27 (by decide) ?_
    obtain rfl := Option.some.inj h
    exact r_iret (v := b2i false) hX hT dX8_isTrial_28 (okI_b false).1
  · have h := (if_neg g1).symm.trans h
    refine r_iload_n hX dX8_isTrial_5 rfl ?_
    refine r_sipush (v := (200 : Int32)) hX dX8_isTrial_6 (by decide) ?_
    refine r_icmp_gt (tgt := 27) hX dX8_isTrial_9 (by decide) (fun g2 => ?_) (fun g2 => ?_)
    · have h := (if_pos g2).symm.trans h
      refine r_iconst (v := (0 : Int32)) hX dX8_isTrial_27 (by decide) ?_
      obtain rfl := Option.some.inj h
      exact r_iret (v := b2i false) hX hT dX8_isTrial_28 (okI_b false).1
    · have h := (if_neg g2).symm.trans h
      refine r_iload_n hX dX8_isTrial_12 rfl ?_
      refine r_iconst (v := (1 : Int32)) hX dX8_isTrial_13 (by decide) ?_
      refine r_icmp_lt (tgt := 27) hX dX8_isTrial_14 (by decide) (fun g3 => ?_) (fun g3 => ?_)
      · have h := (if_pos g3).symm.trans h
        refine r_iconst (v := (0 : Int32)) hX dX8_isTrial_27 (by decide) ?_
        obtain rfl := Option.some.inj h
        exact r_iret (v := b2i false) hX hT dX8_isTrial_28 (okI_b false).1
      · have h := (if_neg g3).symm.trans h
        refine r_iload_n hX dX8_isTrial_17 rfl ?_
        refine r_bipush (v := (64 : Int32)) hX dX8_isTrial_18 (by decide) ?_
        refine r_icmp_gt (tgt := 27) hX dX8_isTrial_20 (by decide) (fun g4 => ?_) (fun g4 => ?_)
        · have h := (if_pos g4).symm.trans h
          refine r_iconst (v := (0 : Int32)) hX dX8_isTrial_27 (by decide) ?_
          obtain rfl := Option.some.inj h
          exact r_iret (v := b2i false) hX hT dX8_isTrial_28 (okI_b false).1
        · have h := (if_neg g4).symm.trans h
          refine r_iconst (v := (1 : Int32)) hX dX8_isTrial_23 (by decide) ?_
          refine r_goto (tgt := 28) hX dX8_isTrial_24 (by decide) ?_
          obtain rfl := Option.some.inj h
          exact r_iret (v := b2i true) hX hT dX8_isTrial_28 (okI_b true).1
def Fg_trial (n : Nat) (v1 : Int32) (v2 : Int32) (v3 : Int32) (v4 : Int32) (M : Mm) : Option (Int32 × Mm) :=
  bnd (Fg_isTrial v1 v2 M) (fun z1 =>
  if z1 = true then
    bnd (Fg_isRule v3 M) (fun z4 =>
    if z4 = true then
      if v4 < (0 : Int32) then
        some ((-2 : Int32), M)
      else
        if v4 ≤ (3 : Int32) then
          bnd (Tr_run n 18 v1 v2 v3 M) (fun z9 =>
          if v4 = (0 : Int32) then
            some (z9.1 93 3, z9)
          else
            if v4 = (1 : Int32) then
              some (z9.1 93 4, z9)
            else
              if v4 = (2 : Int32) then
                some (z9.1 93 5, z9)
              else
                some (z9.1 93 6, z9))
        else
          some ((-2 : Int32), M)
    else
      some ((-2 : Int32), M))
  else
    some ((-2 : Int32), M))
set_option maxRecDepth 100000 in
theorem ok_Fg_trial {G : Gm} {l : Launch} {d : Nat} (n : Nat) (v1 : Int32) (v2 : Int32) (v3 : Int32) (v4 : Int32) (M : Mm) {z : Int32 × Mm}  (h : Fg_trial n v1 v2 v3 v4 M = some z) : CK G l (d + 15) md_Fg_trial [.ref 0, .int v1, .int v2, .int v3, .int v4] M SS (some (.int z.1)) z.2 SS := by
  refine ck_of mk_Fg_trial (Nat.le_of_ble_eq_true rfl) ⟨Nat.le_refl _, Nat.le_refl _⟩ (fun X hX hT hS hr hl => ?_)
  subst hl
  unfold Fg_trial at h
  show WR G X (mQ G X (some (.int z.1)) z.2 SS) 0 [.ref 0, .int v1, .int v2, .int v3, .int v4] [] M SS
  refine r_iload_n hX dX8_trial_0 rfl ?_
  refine r_iload_n hX dX8_trial_1 rfl ?_
  obtain ⟨z1, p2, h⟩ := bnd_s h
  refine r_callS (As := [.int v1, .int v2]) hX dX8_trial_2 mk_Fg_isTrial ms_Fg_isTrial ml_8_408 rfl rfl rfl (Nat.le_of_ble_eq_true rfl) hr (ok_Fg_isTrial (d := d + 14) v1 v2 M p2) ?_
  refine r_ifb_eq (tgt := 26) hX dX8_trial_5 (by decide) (fun g3 => ?_) (fun g3 => ?_)
  · have h := (if_neg (show ¬ z1 = true from fun e => by rw [g3] at e; cases e)).symm.trans h
    refine r_bipush (v := (-2 : Int32)) hX dX8_trial_26 (by decide) ?_
    obtain rfl := Option.some.inj h
    exact r_iret hX hT dX8_trial_28 rfl
  · have h := (if_pos g3).symm.trans h
    refine r_iload_n hX dX8_trial_8 rfl ?_
    obtain ⟨z4, p5, h⟩ := bnd_s h
    refine r_callS (As := [.int v3]) hX dX8_trial_9 mk_Fg_isRule ms_Fg_isRule ml_8_142 rfl rfl rfl (Nat.le_of_ble_eq_true rfl) hr (ok_Fg_isRule (d := d + 14) v3 M p5) ?_
    refine r_ifb_eq (tgt := 26) hX dX8_trial_12 (by decide) (fun g6 => ?_) (fun g6 => ?_)
    · have h := (if_neg (show ¬ z4 = true from fun e => by rw [g6] at e; cases e)).symm.trans h
      refine r_bipush (v := (-2 : Int32)) hX dX8_trial_26 (by decide) ?_
      obtain rfl := Option.some.inj h
      exact r_iret hX hT dX8_trial_28 rfl
    · have h := (if_pos g6).symm.trans h
      refine r_iload hX dX8_trial_15 rfl ?_
      refine r_if_lt (tgt := 26) hX dX8_trial_17 (by decide) (fun g7 => ?_) (fun g7 => ?_)
      · have h := (if_pos g7).symm.trans h
        refine r_bipush (v := (-2 : Int32)) hX dX8_trial_26 (by decide) ?_
        obtain rfl := Option.some.inj h
        exact r_iret hX hT dX8_trial_28 rfl
      · have h := (if_neg g7).symm.trans h
        refine r_iload hX dX8_trial_20 rfl ?_
        refine r_iconst (v := (3 : Int32)) hX dX8_trial_22 (by decide) ?_
        refine r_icmp_le (tgt := 29) hX dX8_trial_23 (by decide) (fun g8 => ?_) (fun g8 => ?_)
        · have h := (if_pos g8).symm.trans h
          refine r_aload_n hX dX8_trial_29 rfl ?_
          refine r_getf (v := .ref 93) hX dX8_trial_30 fl_8_57 rfl (by decide) (by decide) rfl ?_
          refine r_aload_n hX dX8_trial_33 rfl ?_
          refine r_getf (v := .ref 18) hX dX8_trial_34 fl_8_35 rfl (by decide) (by decide) rfl ?_
          refine r_iload_n hX dX8_trial_37 rfl ?_
          refine r_iload_n hX dX8_trial_38 rfl ?_
          refine r_iload_n hX dX8_trial_39 rfl ?_
          obtain ⟨z9, p10, h⟩ := bnd_s h
          refine r_callV (As := [.ref 18, .int v1, .int v2, .int v3]) hX dX8_trial_40 mk_Tr_run mi_Tr_run ml_8_411 rfl rfl rfl rfl (by decide) (by decide) (Nat.le_of_ble_eq_true rfl) hr (ok_Tr_run (d := d + 0) n 18 v1 v2 v3 M st18 p10) ?_
          refine r_iload hX dX8_trial_43 rfl ?_
          by_cases g11 : v4 = (0 : Int32)
          · have h := (if_pos g11).symm.trans h
            refine r_tabEq (tgt := 72) hX dX8_trial_45 g11 ⟨by decide, by decide, rfl⟩ (by decide) ?_
            refine r_aload_n hX dX8_trial_72 rfl ?_
            refine r_getf (v := .ref 93) hX dX8_trial_73 fl_8_57 rfl (by decide) (by decide) rfl ?_
            refine r_getf (v := .int (z9.1 93 3)) hX dX8_trial_76 fl_8_415 rfl (by decide) (by decide) rfl ?_
            obtain rfl := Option.some.inj h
            exact r_iret hX hT dX8_trial_79 rfl
          · have h := (if_neg g11).symm.trans h
            by_cases g12 : v4 = (1 : Int32)
            · have h := (if_pos g12).symm.trans h
              refine r_tabEq (tgt := 80) hX dX8_trial_45 g12 ⟨by decide, by decide, rfl⟩ (by decide) ?_
              refine r_aload_n hX dX8_trial_80 rfl ?_
              refine r_getf (v := .ref 93) hX dX8_trial_81 fl_8_57 rfl (by decide) (by decide) rfl ?_
              refine r_getf (v := .int (z9.1 93 4)) hX dX8_trial_84 fl_8_418 rfl (by decide) (by decide) rfl ?_
              obtain rfl := Option.some.inj h
              exact r_iret hX hT dX8_trial_87 rfl
            · have h := (if_neg g12).symm.trans h
              by_cases g13 : v4 = (2 : Int32)
              · have h := (if_pos g13).symm.trans h
                refine r_tabEq (tgt := 88) hX dX8_trial_45 g13 ⟨by decide, by decide, rfl⟩ (by decide) ?_
                refine r_aload_n hX dX8_trial_88 rfl ?_
                refine r_getf (v := .ref 93) hX dX8_trial_89 fl_8_57 rfl (by decide) (by decide) rfl ?_
                refine r_getf (v := .int (z9.1 93 5)) hX dX8_trial_92 fl_8_421 rfl (by decide) (by decide) rfl ?_
                obtain rfl := Option.some.inj h
                exact r_iret hX hT dX8_trial_95 rfl
              · have h := (if_neg g13).symm.trans h
                refine r_tabOut (tgt := 96) hX dX8_trial_45 (by have q0 := ne_ti g11 (k := 0) (by decide); have q1 := ne_ti g12 (k := 1) (by decide); have q2 := ne_ti g13 (k := 2) (by decide); omega) (by decide) ?_
                refine r_aload_n hX dX8_trial_96 rfl ?_
                refine r_getf (v := .ref 93) hX dX8_trial_97 fl_8_57 rfl (by decide) (by decide) rfl ?_
                refine r_getf (v := .int (z9.1 93 6)) hX dX8_trial_100 fl_8_424 rfl (by decide) (by decide) rfl ?_
                obtain rfl := Option.some.inj h
                exact r_iret hX hT dX8_trial_103 rfl
        · have h := (if_neg g8).symm.trans h
          refine r_bipush (v := (-2 : Int32)) hX dX8_trial_26 (by decide) ?_
          obtain rfl := Option.some.inj h
          exact r_iret hX hT dX8_trial_28 rfl
def Fg_bestRule_j66 (v3 : Int32) (v4 : Int32) (v5 : Int32) (M : Mm) : Option ((Int32 × Int32 × Int32 × Mm) ⊕ (Int32 × Mm)) :=
  some (.inl (v3, v4, v5 + (1 : Int32), M))
def Fg_bestRule_b21 (n : Nat) (c1 : Int32) (c2 : Int32) (v3 : Int32) (v4 : Int32) (v5 : Int32) (M : Mm) : Option ((Int32 × Int32 × Int32 × Mm) ⊕ (Int32 × Mm)) :=
  if (3 : Int32) < v5 then
    some (.inr (v3, M))
  else
    bnd (Tr_run n 18 c1 c2 v5 M) (fun z5 =>
    if v4 ≤ (z5.1 93 3) then
      Fg_bestRule_j66 v3 v4 v5 z5
    else
      Fg_bestRule_j66 v5 (z5.1 93 3) v5 z5)
def Fg_bestRule (n : Nat) (v1 : Int32) (v2 : Int32) (M : Mm) : Option (Int32 × Mm) :=
  bnd (Fg_isTrial v1 v2 M) (fun z1 =>
  if z1 = true then
    bnd (loop (fun s1 : Int32 × Int32 × Int32 × Mm => Fg_bestRule_b21 n v1 v2 s1.1 s1.2.1 s1.2.2.1 s1.2.2.2) n ((0 : Int32), v1 + (1 : Int32), (0 : Int32), M)) (fun y8 =>
    some (y8.1, y8.2))
  else
    some ((-2 : Int32), M))
set_option maxRecDepth 100000 in
theorem ok_Fg_bestRule_j66 (n : Nat) (v3 : Int32) (v4 : Int32) (v5 : Int32) (M : Mm) {c1 : Int32} {c2 : Int32} {z : Int32 × Mm} {oo : (Int32 × Int32 × Int32 × Mm) ⊕ (Int32 × Mm)} {G : Gm} {X : Cx} {d : Nat}  (hX : XK G X 8 cX8_bestRule 6 (d + 15)) (hT : XT X (some .int) "bestRule") (hr : XR X SS) (hc : ∀ s1 : Int32 × Int32 × Int32 × Mm, oo = .inl s1 → WR G X (mQ G X (some (.int z.1)) z.2 SS) 21 [.ref 0, .int c1, .int c2, .int s1.1, .int s1.2.1, .int s1.2.2.1] [] s1.2.2.2 SS) (hx : ∀ x1 : Int32 × Mm, oo = .inr x1 → WR G X (mQ G X (some (.int z.1)) z.2 SS) 72 [.ref 0, vU, vU, .int x1.1, vU, vU] [] x1.2 SS) (h : Fg_bestRule_j66 v3 v4 v5 M = some oo) : WR G X (mQ G X (some (.int z.1)) z.2 SS) 66 [.ref 0, .int c1, .int c2, .int v3, .int v4, .int v5] [] M SS := by
  unfold Fg_bestRule_j66 at h
  refine r_iinc (v := v5 + (1 : Int32)) (L1 := [.ref 0, .int c1, .int c2, .int v3, .int v4, .int (v5 + (1 : Int32))]) hX dX8_bestRule_66 rfl rfl rfl ?_
  refine r_goto (tgt := 21) hX dX8_bestRule_69 (by decide) ?_
  exact hc (v3, v4, v5 + (1 : Int32), M) (Option.some.inj h).symm
set_option maxRecDepth 100000 in
theorem ok_Fg_bestRule_b21 (n : Nat) (v3 : Int32) (v4 : Int32) (v5 : Int32) (M : Mm) {c1 : Int32} {c2 : Int32} {z : Int32 × Mm} {oo : (Int32 × Int32 × Int32 × Mm) ⊕ (Int32 × Mm)} {G : Gm} {X : Cx} {d : Nat}  (hX : XK G X 8 cX8_bestRule 6 (d + 15)) (hT : XT X (some .int) "bestRule") (hr : XR X SS) (hc : ∀ s1 : Int32 × Int32 × Int32 × Mm, oo = .inl s1 → WR G X (mQ G X (some (.int z.1)) z.2 SS) 21 [.ref 0, .int c1, .int c2, .int s1.1, .int s1.2.1, .int s1.2.2.1] [] s1.2.2.2 SS) (hx : ∀ x1 : Int32 × Mm, oo = .inr x1 → WR G X (mQ G X (some (.int z.1)) z.2 SS) 72 [.ref 0, vU, vU, .int x1.1, vU, vU] [] x1.2 SS) (h : Fg_bestRule_b21 n c1 c2 v3 v4 v5 M = some oo) : WR G X (mQ G X (some (.int z.1)) z.2 SS) 21 [.ref 0, .int c1, .int c2, .int v3, .int v4, .int v5] [] M SS := by
  unfold Fg_bestRule_b21 at h
  refine r_iload hX dX8_bestRule_21 rfl ?_
  refine r_iconst (v := (3 : Int32)) hX dX8_bestRule_23 (by decide) ?_
  refine r_icmp_gt (tgt := 72) hX dX8_bestRule_24 (by decide) (fun g4 => ?_) (fun g4 => ?_)
  · have h := (if_pos g4).symm.trans h
    refine WR.fg (L' := [.ref 0, vU, vU, .int v3, vU, vU]) ⟨Or.inr rfl, Or.inl rfl, Or.inl rfl, Or.inr rfl, Or.inl rfl, Or.inl rfl, trivial⟩ ?_
    exact hx _ (Option.some.inj h).symm
  · have h := (if_neg g4).symm.trans h
    refine r_aload_n hX dX8_bestRule_27 rfl ?_
    refine r_getf (v := .ref 93) hX dX8_bestRule_28 fl_8_57 rfl (by decide) (by decide) rfl ?_
    refine r_aload_n hX dX8_bestRule_31 rfl ?_
    refine r_getf (v := .ref 18) hX dX8_bestRule_32 fl_8_35 rfl (by decide) (by decide) rfl ?_
    refine r_iload_n hX dX8_bestRule_35 rfl ?_
    refine r_iload_n hX dX8_bestRule_36 rfl ?_
    refine r_iload hX dX8_bestRule_37 rfl ?_
    obtain ⟨z5, p6, h⟩ := bnd_s h
    refine r_callV (As := [.ref 18, .int c1, .int c2, .int v5]) hX dX8_bestRule_39 mk_Tr_run mi_Tr_run ml_8_411 rfl rfl rfl rfl (by decide) (by decide) (Nat.le_of_ble_eq_true rfl) hr (ok_Tr_run (d := d + 0) n 18 c1 c2 v5 M st18 p6) ?_
    refine r_aload_n hX dX8_bestRule_42 rfl ?_
    refine r_getf (v := .ref 93) hX dX8_bestRule_43 fl_8_57 rfl (by decide) (by decide) rfl ?_
    refine r_getf (v := .int (z5.1 93 3)) hX dX8_bestRule_46 fl_8_415 rfl (by decide) (by decide) rfl ?_
    refine r_iload hX dX8_bestRule_49 rfl ?_
    refine r_icmp_ge (tgt := 66) hX dX8_bestRule_51 (by decide) (fun g7 => ?_) (fun g7 => ?_)
    · have h := (if_pos g7).symm.trans h
      exact ok_Fg_bestRule_j66 n v3 v4 v5 z5   hX hT hr hc hx h
    · have h := (if_neg g7).symm.trans h
      refine r_aload_n hX dX8_bestRule_54 rfl ?_
      refine r_getf (v := .ref 93) hX dX8_bestRule_55 fl_8_57 rfl (by decide) (by decide) rfl ?_
      refine r_getf (v := .int (z5.1 93 3)) hX dX8_bestRule_58 fl_8_415 rfl (by decide) (by decide) rfl ?_
      refine r_istore (L1 := [.ref 0, .int c1, .int c2, .int v3, .int (z5.1 93 3), .int v5]) hX dX8_bestRule_61 (Nat.le_of_ble_eq_true rfl) rfl ?_
      refine r_iload hX dX8_bestRule_63 rfl ?_
      refine r_istore_n (L1 := [.ref 0, .int c1, .int c2, .int v5, .int (z5.1 93 3), .int v5]) hX dX8_bestRule_65 (Nat.le_of_ble_eq_true rfl) rfl ?_
      exact ok_Fg_bestRule_j66 n v5 (z5.1 93 3) v5 z5   hX hT hr hc hx h
set_option maxRecDepth 100000 in
theorem ok_Fg_bestRule {G : Gm} {l : Launch} {d : Nat} (n : Nat) (v1 : Int32) (v2 : Int32) (M : Mm) {z : Int32 × Mm}  (h : Fg_bestRule n v1 v2 M = some z) : CK G l (d + 15) md_Fg_bestRule [.ref 0, .int v1, .int v2] M SS (some (.int z.1)) z.2 SS := by
  refine ck_of mk_Fg_bestRule (Nat.le_of_ble_eq_true rfl) ⟨Nat.le_refl _, Nat.le_refl _⟩ (fun X hX hT hS hr hl => ?_)
  subst hl
  unfold Fg_bestRule at h
  show WR G X (mQ G X (some (.int z.1)) z.2 SS) 0 [.ref 0, .int v1, .int v2, vU, vU, vU] [] M SS
  refine r_iload_n hX dX8_bestRule_0 rfl ?_
  refine r_iload_n hX dX8_bestRule_1 rfl ?_
  obtain ⟨z1, p2, h⟩ := bnd_s h
  refine r_callS (As := [.int v1, .int v2]) hX dX8_bestRule_2 mk_Fg_isTrial ms_Fg_isTrial ml_8_408 rfl rfl rfl (Nat.le_of_ble_eq_true rfl) hr (ok_Fg_isTrial (d := d + 14) v1 v2 M p2) ?_
  refine r_ifb_ne (tgt := 11) hX dX8_bestRule_5 (by decide) (fun g3 => ?_) (fun g3 => ?_)
  · have h := (if_pos g3).symm.trans h
    refine r_iconst (v := (0 : Int32)) hX dX8_bestRule_11 (by decide) ?_
    refine r_istore_n (L1 := [.ref 0, .int v1, .int v2, .int (0 : Int32), vU, vU]) hX dX8_bestRule_12 (Nat.le_of_ble_eq_true rfl) rfl ?_
    refine r_iload_n hX dX8_bestRule_13 rfl ?_
    refine r_iconst (v := (1 : Int32)) hX dX8_bestRule_14 (by decide) ?_
    refine r_iadd hX dX8_bestRule_15 ?_
    refine r_istore (L1 := [.ref 0, .int v1, .int v2, .int (0 : Int32), .int (v1 + (1 : Int32)), vU]) hX dX8_bestRule_16 (Nat.le_of_ble_eq_true rfl) rfl ?_
    refine r_iconst (v := (0 : Int32)) hX dX8_bestRule_18 (by decide) ?_
    refine r_istore (L1 := [.ref 0, .int v1, .int v2, .int (0 : Int32), .int (v1 + (1 : Int32)), .int (0 : Int32)]) hX dX8_bestRule_19 (Nat.le_of_ble_eq_true rfl) rfl ?_
    obtain ⟨y8, h1, h⟩ := bnd_s h
    refine loop_ok (P := fun s1 : Int32 × Int32 × Int32 × Mm => WR G X (mQ G X (some (.int z.1)) z.2 SS) 21 [.ref 0, .int v1, .int v2, .int s1.1, .int s1.2.1, .int s1.2.2.1] [] s1.2.2.2 SS) (E := fun x1 : Int32 × Mm => WR G X (mQ G X (some (.int z.1)) z.2 SS) 72 [.ref 0, vU, vU, .int x1.1, vU, vU] [] x1.2 SS) (fun s1 o1 g1 g2 g3 => ok_Fg_bestRule_b21 n s1.1 s1.2.1 s1.2.2.1 s1.2.2.2  hX hT hr g2 g3 g1) n ((0 : Int32), v1 + (1 : Int32), (0 : Int32), M) y8 h1 ?_
    show WR G X (mQ G X (some (.int z.1)) z.2 SS) 72 [.ref 0, vU, vU, .int y8.1, vU, vU] [] y8.2 SS
    refine r_iload_n hX dX8_bestRule_72 rfl ?_
    obtain rfl := Option.some.inj h
    exact r_iret hX hT dX8_bestRule_73 rfl
  · have h := (if_neg (show ¬ z1 = true from fun e => by rw [g3] at e; cases e)).symm.trans h
    refine r_bipush (v := (-2 : Int32)) hX dX8_bestRule_8 (by decide) ?_
    obtain rfl := Option.some.inj h
    exact r_iret hX hT dX8_bestRule_10 rfl
def Fg_greatestFitting_b3 (n : Nat) (c1 : Int32) (c2 : Int32) (c4 : Int32) (v5 : Int32) (M : Mm) : Option ((Int32 × Mm) ⊕ ((Mm) ⊕ (Int32 × Mm))) :=
  if v5 ≤ (0 : Int32) then
    some (.inr (.inl M))
  else
    bnd (Fi_find n 54 c1 c2 v5 c4 M) (fun z2 =>
    if z2.1 = true then
      some (.inr (.inr (v5, z2.2)))
    else
      some (.inl (v5 + (-1 : Int32), z2.2)))
def Fg_greatestFitting (n : Nat) (v1 : Int32) (v2 : Int32) (v3 : Int32) (v4 : Int32) (M : Mm) : Option (Int32 × Mm) :=
  bnd (loop (fun s1 : Int32 × Mm => Fg_greatestFitting_b3 n v1 v2 v4 s1.1 s1.2) n (v3, M)) (fun y5 =>
  elS y5 (fun x6 =>
    some ((0 : Int32), x6))
    (fun e7 => some e7))
set_option maxRecDepth 100000 in
theorem ok_Fg_greatestFitting_b3 (n : Nat) (v5 : Int32) (M : Mm) {c1 : Int32} {c2 : Int32} {c4 : Int32} {z : Int32 × Mm} {oo : (Int32 × Mm) ⊕ ((Mm) ⊕ (Int32 × Mm))} {G : Gm} {X : Cx} {d : Nat}  (hX : XK G X 8 cX8_greatestFitting 6 (d + 13)) (hT : XT X (some .int) "greatestFitting") (hr : XR X SS) (hc : ∀ s1 : Int32 × Mm, oo = .inl s1 → WR G X (mQ G X (some (.int z.1)) z.2 SS) 3 [.ref 0, .int c1, .int c2, vU, .int c4, .int s1.1] [] s1.2 SS) (hx : ∀ x1 : (Mm) ⊕ (Int32 × Mm), oo = .inr x1 → elS x1 (fun x2 => WR G X (mQ G X (some (.int z.1)) z.2 SS) 37 [.ref 0, vU, vU, vU, vU, vU] [] x2 SS) (fun y1 => y1 = z)) (h : Fg_greatestFitting_b3 n c1 c2 c4 v5 M = some oo) : WR G X (mQ G X (some (.int z.1)) z.2 SS) 3 [.ref 0, .int c1, .int c2, vU, .int c4, .int v5] [] M SS := by
  unfold Fg_greatestFitting_b3 at h
  refine r_iload hX dX8_greatestFitting_3 rfl ?_
  refine r_if_le (tgt := 37) hX dX8_greatestFitting_5 (by decide) (fun g1 => ?_) (fun g1 => ?_)
  · have h := (if_pos g1).symm.trans h
    refine WR.fg (L' := [.ref 0, vU, vU, vU, vU, vU]) ⟨Or.inr rfl, Or.inl rfl, Or.inl rfl, Or.inl rfl, Or.inl rfl, Or.inl rfl, trivial⟩ ?_
    exact hx _ (Option.some.inj h).symm
  · have h := (if_neg g1).symm.trans h
    refine r_aload_n hX dX8_greatestFitting_8 rfl ?_
    refine r_getf (v := .ref 12) hX dX8_greatestFitting_9 fl_8_28 rfl (by decide) (by decide) rfl ?_
    refine r_aload_n hX dX8_greatestFitting_12 rfl ?_
    refine r_getf (v := .ref 54) hX dX8_greatestFitting_13 fl_8_42 rfl (by decide) (by decide) rfl ?_
    refine r_iload_n hX dX8_greatestFitting_16 rfl ?_
    refine r_iload_n hX dX8_greatestFitting_17 rfl ?_
    refine r_iload hX dX8_greatestFitting_18 rfl ?_
    refine r_iload hX dX8_greatestFitting_20 rfl ?_
    obtain ⟨z2, p3, h⟩ := bnd_s h
    refine r_callV (As := [.ref 54, .int c1, .int c2, .int v5, .int c4]) hX dX8_greatestFitting_22 mk_Fi_find mi_Fi_find ml_8_152 rfl rfl rfl rfl (by decide) (by decide) (Nat.le_of_ble_eq_true rfl) hr (ok_Fi_find (d := d + 0) n 54 c1 c2 v5 c4 M st54 p3) ?_
    refine r_ifb_eq (tgt := 31) hX dX8_greatestFitting_25 (by decide) (fun g4 => ?_) (fun g4 => ?_)
    · have h := (if_neg (show ¬ z2.1 = true from fun e => by rw [g4] at e; cases e)).symm.trans h
      refine r_iinc (v := v5 + (-1 : Int32)) (L1 := [.ref 0, .int c1, .int c2, vU, .int c4, .int (v5 + (-1 : Int32))]) hX dX8_greatestFitting_31 rfl rfl rfl ?_
      refine r_goto (tgt := 3) hX dX8_greatestFitting_34 (by decide) ?_
      exact hc (v5 + (-1 : Int32), z2.2) (Option.some.inj h).symm
    · have h := (if_pos g4).symm.trans h
      refine r_iload hX dX8_greatestFitting_28 rfl ?_
      obtain rfl := hx _ (Option.some.inj h).symm
      exact r_iret hX hT dX8_greatestFitting_30 rfl
set_option maxRecDepth 100000 in
theorem ok_Fg_greatestFitting {G : Gm} {l : Launch} {d : Nat} (n : Nat) (v1 : Int32) (v2 : Int32) (v3 : Int32) (v4 : Int32) (M : Mm) {z : Int32 × Mm}  (h : Fg_greatestFitting n v1 v2 v3 v4 M = some z) : CK G l (d + 13) md_Fg_greatestFitting [.ref 0, .int v1, .int v2, .int v3, .int v4] M SS (some (.int z.1)) z.2 SS := by
  refine ck_of mk_Fg_greatestFitting (Nat.le_of_ble_eq_true rfl) ⟨Nat.le_refl _, Nat.le_refl _⟩ (fun X hX hT hS hr hl => ?_)
  subst hl
  unfold Fg_greatestFitting at h
  show WR G X (mQ G X (some (.int z.1)) z.2 SS) 0 [.ref 0, .int v1, .int v2, .int v3, .int v4, vU] [] M SS
  refine r_iload_n hX dX8_greatestFitting_0 rfl ?_
  refine r_istore (L1 := [.ref 0, .int v1, .int v2, .int v3, .int v4, .int v3]) hX dX8_greatestFitting_1 (Nat.le_of_ble_eq_true rfl) rfl ?_
  refine WR.fg (L' := [.ref 0, .int v1, .int v2, vU, .int v4, .int v3]) ⟨Or.inr rfl, Or.inr rfl, Or.inr rfl, Or.inl rfl, Or.inr rfl, Or.inr rfl, trivial⟩ ?_
  obtain ⟨y5, h1, h⟩ := bnd_s h
  refine loop_ok (P := fun s1 : Int32 × Mm => WR G X (mQ G X (some (.int z.1)) z.2 SS) 3 [.ref 0, .int v1, .int v2, vU, .int v4, .int s1.1] [] s1.2 SS) (E := fun x1 : (Mm) ⊕ (Int32 × Mm) => elS x1 (fun x2 => WR G X (mQ G X (some (.int z.1)) z.2 SS) 37 [.ref 0, vU, vU, vU, vU, vU] [] x2 SS) (fun y1 => y1 = z)) (fun s1 o1 g1 g2 g3 => ok_Fg_greatestFitting_b3 n s1.1 s1.2  hX hT hr g2 g3 g1) n (v3, M) y5 h1 ?_
  cases y5 with
  | inr e7 =>
    exact Option.some.inj h
  | inl x6 =>
    show WR G X (mQ G X (some (.int z.1)) z.2 SS) 37 [.ref 0, vU, vU, vU, vU, vU] [] x6 SS
    refine r_iconst (v := (0 : Int32)) hX dX8_greatestFitting_37 (by decide) ?_
    obtain rfl := Option.some.inj h
    exact r_iret hX hT dX8_greatestFitting_38 rfl
def Fg_parts_b40 (n : Nat) (c1 : Int32) (c2 : Int32) (c4 : Int32) (v5 : Int32) (v6 : Int32) (v7 : Int32) (M : Mm) : Option ((Int32 × Int32 × Int32 × Mm) ⊕ ((Int32 × Int32 × Mm) ⊕ (Int32 × Mm))) :=
  if v5 ≤ (0 : Int32) then
    some (.inr (.inl (v5, v7, M)))
  else
    if (20 : Int32) ≤ v7 then
      some (.inr (.inl (v5, v7, M)))
    else
      bnd (Fg_greatestFitting n c1 c2 (imn v6 v5) c4 M) (fun z11 =>
      if z11.1 = (0 : Int32) then
        some (.inr (.inr ((-2 : Int32), z11.2)))
      else
        bnd (Fg_span (z11.2.1 12 3) ((z11.2.1 12 3) + (z11.2.1 12 4)) z11.2) (fun z14 =>
        bnd (St_fill n 54 (z11.2.1 12 2) z14 z11.2) (fun z16 =>
        some (.inl (v5 - z11.1, z11.1, v7 + (1 : Int32), z16)))))
def Fg_parts_j129 (v5 : Int32) (v7 : Int32) (M : Mm) : Option (Int32 × Mm) :=
  if v5 ≤ (0 : Int32) then
    some (v7, M)
  else
    some ((-2 : Int32), M)
def Fg_parts (n : Nat) (v1 : Int32) (v2 : Int32) (v3 : Int32) (v4 : Int32) (M : Mm) : Option (Int32 × Mm) :=
  bnd (Fg_isWish v1 v2 v3 M) (fun z1 =>
  if z1 = true then
    bnd (Fg_isRule v4 M) (fun z4 =>
    if z4 = true then
      bnd (St_copy 54 18 M) (fun z7 =>
      bnd (loop (fun s1 : Int32 × Int32 × Int32 × Mm => Fg_parts_b40 n v1 v2 v4 s1.1 s1.2.1 s1.2.2.1 s1.2.2.2) n (v3, v3, (0 : Int32), z7)) (fun y18 =>
      elS y18 (fun x19 =>
        Fg_parts_j129 x19.1 x19.2.1 x19.2.2)
        (fun e20 => some e20)))
    else
      some ((-1 : Int32), M))
  else
    some ((-1 : Int32), M))
set_option maxRecDepth 100000 in
theorem ok_Fg_parts_b40 (n : Nat) (v5 : Int32) (v6 : Int32) (v7 : Int32) (M : Mm) {c1 : Int32} {c2 : Int32} {c4 : Int32} {z : Int32 × Mm} {oo : (Int32 × Int32 × Int32 × Mm) ⊕ ((Int32 × Int32 × Mm) ⊕ (Int32 × Mm))} {G : Gm} {X : Cx} {d : Nat}  (hX : XK G X 8 cX8_parts 8 (d + 14)) (hT : XT X (some .int) "parts") (hr : XR X SS) (hc : ∀ s1 : Int32 × Int32 × Int32 × Mm, oo = .inl s1 → WR G X (mQ G X (some (.int z.1)) z.2 SS) 40 [.ref 0, .int c1, .int c2, vU, .int c4, .int s1.1, .int s1.2.1, .int s1.2.2.1] [] s1.2.2.2 SS) (hx : ∀ x1 : (Int32 × Int32 × Mm) ⊕ (Int32 × Mm), oo = .inr x1 → elS x1 (fun x2 => WR G X (mQ G X (some (.int z.1)) z.2 SS) 129 [.ref 0, vU, vU, vU, vU, .int x2.1, vU, .int x2.2.1] [] x2.2.2 SS) (fun y1 => y1 = z)) (h : Fg_parts_b40 n c1 c2 c4 v5 v6 v7 M = some oo) : WR G X (mQ G X (some (.int z.1)) z.2 SS) 40 [.ref 0, .int c1, .int c2, vU, .int c4, .int v5, .int v6, .int v7] [] M SS := by
  unfold Fg_parts_b40 at h
  refine r_iload hX dX8_parts_40 rfl ?_
  refine r_if_le (tgt := 129) hX dX8_parts_42 (by decide) (fun g9 => ?_) (fun g9 => ?_)
  · have h := (if_pos g9).symm.trans h
    refine WR.fg (L' := [.ref 0, vU, vU, vU, vU, .int v5, vU, .int v7]) ⟨Or.inr rfl, Or.inl rfl, Or.inl rfl, Or.inl rfl, Or.inl rfl, Or.inr rfl, Or.inl rfl, Or.inr rfl, trivial⟩ ?_
    exact hx _ (Option.some.inj h).symm
  · have h := (if_neg g9).symm.trans h
    refine r_iload hX dX8_parts_45 rfl ?_
    refine r_bipush (v := (20 : Int32)) hX dX8_parts_47 (by decide) ?_
    refine r_icmp_ge (tgt := 129) hX dX8_parts_49 (by decide) (fun g10 => ?_) (fun g10 => ?_)
    · have h := (if_pos g10).symm.trans h
      refine WR.fg (L' := [.ref 0, vU, vU, vU, vU, .int v5, vU, .int v7]) ⟨Or.inr rfl, Or.inl rfl, Or.inl rfl, Or.inl rfl, Or.inl rfl, Or.inr rfl, Or.inl rfl, Or.inr rfl, trivial⟩ ?_
      exact hx _ (Option.some.inj h).symm
    · have h := (if_neg g10).symm.trans h
      refine r_aload_n hX dX8_parts_52 rfl ?_
      refine r_iload_n hX dX8_parts_53 rfl ?_
      refine r_iload_n hX dX8_parts_54 rfl ?_
      refine r_iload hX dX8_parts_55 rfl ?_
      refine r_iload hX dX8_parts_57 rfl ?_
      refine r_min hX dX8_parts_59 ml_8_427 rfl (Nat.le_of_ble_eq_true rfl) hr ?_
      refine r_iload hX dX8_parts_62 rfl ?_
      obtain ⟨z11, p12, h⟩ := bnd_s h
      refine r_callV (As := [.int c1, .int c2, .int (imn v6 v5), .int c4]) hX dX8_parts_64 mk_Fg_greatestFitting mi_Fg_greatestFitting ml_8_430 rfl rfl rfl rfl (by decide) (by decide) (Nat.le_of_ble_eq_true rfl) hr (ok_Fg_greatestFitting (d := d + 0) n c1 c2 (imn v6 v5) c4 M p12) ?_
      refine r_istore (L1 := [.ref 0, .int c1, .int c2, vU, .int c4, .int v5, .int z11.1, .int v7]) hX dX8_parts_67 (Nat.le_of_ble_eq_true rfl) rfl ?_
      refine r_iload hX dX8_parts_69 rfl ?_
      refine r_if_ne (tgt := 77) hX dX8_parts_71 (by decide) (fun g13 => ?_) (fun g13 => ?_)
      · have h := (if_neg g13).symm.trans h
        refine r_aload_n hX dX8_parts_77 rfl ?_
        refine r_getf (v := .ref 54) hX dX8_parts_78 fl_8_42 rfl (by decide) (by decide) rfl ?_
        refine r_aload_n hX dX8_parts_81 rfl ?_
        refine r_getf (v := .ref 12) hX dX8_parts_82 fl_8_28 rfl (by decide) (by decide) rfl ?_
        refine r_getf (v := .int (z11.2.1 12 2)) hX dX8_parts_85 fl_8_156 rfl (by decide) (by decide) rfl ?_
        refine r_aload_n hX dX8_parts_88 rfl ?_
        refine r_getf (v := .ref 12) hX dX8_parts_89 fl_8_28 rfl (by decide) (by decide) rfl ?_
        refine r_getf (v := .int (z11.2.1 12 3)) hX dX8_parts_92 fl_8_159 rfl (by decide) (by decide) rfl ?_
        refine r_aload_n hX dX8_parts_95 rfl ?_
        refine r_getf (v := .ref 12) hX dX8_parts_96 fl_8_28 rfl (by decide) (by decide) rfl ?_
        refine r_getf (v := .int (z11.2.1 12 3)) hX dX8_parts_99 fl_8_159 rfl (by decide) (by decide) rfl ?_
        refine r_aload_n hX dX8_parts_102 rfl ?_
        refine r_getf (v := .ref 12) hX dX8_parts_103 fl_8_28 rfl (by decide) (by decide) rfl ?_
        refine r_getf (v := .int (z11.2.1 12 4)) hX dX8_parts_106 fl_8_162 rfl (by decide) (by decide) rfl ?_
        refine r_iadd hX dX8_parts_109 ?_
        obtain ⟨z14, p15, h⟩ := bnd_s h
        refine r_callS (As := [.int (z11.2.1 12 3), .int ((z11.2.1 12 3) + (z11.2.1 12 4))]) hX dX8_parts_110 mk_Fg_span ms_Fg_span ml_8_433 rfl rfl rfl (Nat.le_of_ble_eq_true rfl) hr (ok_Fg_span (d := d + 13) (z11.2.1 12 3) ((z11.2.1 12 3) + (z11.2.1 12 4)) z11.2 p15) ?_
        obtain ⟨z16, p17, h⟩ := bnd_s h
        refine r_callV (As := [.int (z11.2.1 12 2), .long z14]) hX dX8_parts_113 mk_St_fill mi_St_fill ml_8_436 rfl rfl rfl rfl (by decide) (by decide) (Nat.le_of_ble_eq_true rfl) hr (ok_St_fill (d := d + 13) n 54 (z11.2.1 12 2) z14 z11.2 st54 p17) ?_
        refine r_iload hX dX8_parts_116 rfl ?_
        refine r_iload hX dX8_parts_118 rfl ?_
        refine r_isub hX dX8_parts_120 ?_
        refine r_istore (L1 := [.ref 0, .int c1, .int c2, vU, .int c4, .int (v5 - z11.1), .int z11.1, .int v7]) hX dX8_parts_121 (Nat.le_of_ble_eq_true rfl) rfl ?_
        refine r_iinc (v := v7 + (1 : Int32)) (L1 := [.ref 0, .int c1, .int c2, vU, .int c4, .int (v5 - z11.1), .int z11.1, .int (v7 + (1 : Int32))]) hX dX8_parts_123 rfl rfl rfl ?_
        refine r_goto (tgt := 40) hX dX8_parts_126 (by decide) ?_
        exact hc (v5 - z11.1, z11.1, v7 + (1 : Int32), z16) (Option.some.inj h).symm
      · have h := (if_pos g13).symm.trans h
        refine r_bipush (v := (-2 : Int32)) hX dX8_parts_74 (by decide) ?_
        obtain rfl := hx _ (Option.some.inj h).symm
        exact r_iret hX hT dX8_parts_76 rfl
set_option maxRecDepth 100000 in
theorem ok_Fg_parts_j129 (n : Nat) (v5 : Int32) (v7 : Int32) (M : Mm) {z : Int32 × Mm} {G : Gm} {X : Cx} {d : Nat}  (hX : XK G X 8 cX8_parts 8 (d + 14)) (hT : XT X (some .int) "parts") (hr : XR X SS) (h : Fg_parts_j129 v5 v7 M = some z) : WR G X (mQ G X (some (.int z.1)) z.2 SS) 129 [.ref 0, vU, vU, vU, vU, .int v5, vU, .int v7] [] M SS := by
  unfold Fg_parts_j129 at h
  refine r_iload hX dX8_parts_129 rfl ?_
  refine r_if_le (tgt := 139) hX dX8_parts_131 (by decide) (fun g21 => ?_) (fun g21 => ?_)
  · have h := (if_pos g21).symm.trans h
    refine r_iload hX dX8_parts_139 rfl ?_
    obtain rfl := Option.some.inj h
    exact r_iret hX hT dX8_parts_141 rfl
  · have h := (if_neg g21).symm.trans h
    refine r_bipush (v := (-2 : Int32)) hX dX8_parts_134 (by decide) ?_
    refine r_goto (tgt := 141) hX dX8_parts_136 (by decide) ?_
    obtain rfl := Option.some.inj h
    exact r_iret hX hT dX8_parts_141 rfl
set_option maxRecDepth 100000 in
theorem ok_Fg_parts {G : Gm} {l : Launch} {d : Nat} (n : Nat) (v1 : Int32) (v2 : Int32) (v3 : Int32) (v4 : Int32) (M : Mm) {z : Int32 × Mm}  (h : Fg_parts n v1 v2 v3 v4 M = some z) : CK G l (d + 14) md_Fg_parts [.ref 0, .int v1, .int v2, .int v3, .int v4] M SS (some (.int z.1)) z.2 SS := by
  refine ck_of mk_Fg_parts (Nat.le_of_ble_eq_true rfl) ⟨Nat.le_refl _, Nat.le_refl _⟩ (fun X hX hT hS hr hl => ?_)
  subst hl
  unfold Fg_parts at h
  show WR G X (mQ G X (some (.int z.1)) z.2 SS) 0 [.ref 0, .int v1, .int v2, .int v3, .int v4, vU, vU, vU] [] M SS
  refine r_aload_n hX dX8_parts_0 rfl ?_
  refine r_iload_n hX dX8_parts_1 rfl ?_
  refine r_iload_n hX dX8_parts_2 rfl ?_
  refine r_iload_n hX dX8_parts_3 rfl ?_
  obtain ⟨z1, p2, h⟩ := bnd_s h
  refine r_callV (As := [.int v1, .int v2, .int v3]) hX dX8_parts_4 mk_Fg_isWish mi_Fg_isWish ml_8_138 rfl rfl rfl rfl (by decide) (by decide) (Nat.le_of_ble_eq_true rfl) hr (ok_Fg_isWish (d := d + 12) v1 v2 v3 M p2) ?_
  refine r_ifb_eq (tgt := 18) hX dX8_parts_7 (by decide) (fun g3 => ?_) (fun g3 => ?_)
  · have h := (if_neg (show ¬ z1 = true from fun e => by rw [g3] at e; cases e)).symm.trans h
    refine r_iconst (v := (-1 : Int32)) hX dX8_parts_18 (by decide) ?_
    obtain rfl := Option.some.inj h
    exact r_iret hX hT dX8_parts_19 rfl
  · have h := (if_pos g3).symm.trans h
    refine r_iload hX dX8_parts_10 rfl ?_
    obtain ⟨z4, p5, h⟩ := bnd_s h
    refine r_callS (As := [.int v4]) hX dX8_parts_12 mk_Fg_isRule ms_Fg_isRule ml_8_142 rfl rfl rfl (Nat.le_of_ble_eq_true rfl) hr (ok_Fg_isRule (d := d + 13) v4 M p5) ?_
    refine r_ifb_ne (tgt := 20) hX dX8_parts_15 (by decide) (fun g6 => ?_) (fun g6 => ?_)
    · have h := (if_pos g6).symm.trans h
      refine r_aload_n hX dX8_parts_20 rfl ?_
      refine r_getf (v := .ref 54) hX dX8_parts_21 fl_8_42 rfl (by decide) (by decide) rfl ?_
      refine r_aload_n hX dX8_parts_24 rfl ?_
      refine r_getf (v := .ref 18) hX dX8_parts_25 fl_8_35 rfl (by decide) (by decide) rfl ?_
      obtain ⟨z7, p8, h⟩ := bnd_s h
      refine r_callV (As := [.ref 18]) hX dX8_parts_28 mk_St_copy mi_St_copy ml_8_241 rfl rfl rfl rfl (by decide) (by decide) (Nat.le_of_ble_eq_true rfl) hr (ok_St_copy (d := d + 12) 54 18 M st54 st18 p8) ?_
      refine r_iload_n hX dX8_parts_31 rfl ?_
      refine r_istore (L1 := [.ref 0, .int v1, .int v2, .int v3, .int v4, .int v3, vU, vU]) hX dX8_parts_32 (Nat.le_of_ble_eq_true rfl) rfl ?_
      refine r_iload_n hX dX8_parts_34 rfl ?_
      refine r_istore (L1 := [.ref 0, .int v1, .int v2, .int v3, .int v4, .int v3, .int v3, vU]) hX dX8_parts_35 (Nat.le_of_ble_eq_true rfl) rfl ?_
      refine r_iconst (v := (0 : Int32)) hX dX8_parts_37 (by decide) ?_
      refine r_istore (L1 := [.ref 0, .int v1, .int v2, .int v3, .int v4, .int v3, .int v3, .int (0 : Int32)]) hX dX8_parts_38 (Nat.le_of_ble_eq_true rfl) rfl ?_
      refine WR.fg (L' := [.ref 0, .int v1, .int v2, vU, .int v4, .int v3, .int v3, .int (0 : Int32)]) ⟨Or.inr rfl, Or.inr rfl, Or.inr rfl, Or.inl rfl, Or.inr rfl, Or.inr rfl, Or.inr rfl, Or.inr rfl, trivial⟩ ?_
      obtain ⟨y18, h1, h⟩ := bnd_s h
      refine loop_ok (P := fun s1 : Int32 × Int32 × Int32 × Mm => WR G X (mQ G X (some (.int z.1)) z.2 SS) 40 [.ref 0, .int v1, .int v2, vU, .int v4, .int s1.1, .int s1.2.1, .int s1.2.2.1] [] s1.2.2.2 SS) (E := fun x1 : (Int32 × Int32 × Mm) ⊕ (Int32 × Mm) => elS x1 (fun x2 => WR G X (mQ G X (some (.int z.1)) z.2 SS) 129 [.ref 0, vU, vU, vU, vU, .int x2.1, vU, .int x2.2.1] [] x2.2.2 SS) (fun y1 => y1 = z)) (fun s1 o1 g1 g2 g3 => ok_Fg_parts_b40 n s1.1 s1.2.1 s1.2.2.1 s1.2.2.2  hX hT hr g2 g3 g1) n (v3, v3, (0 : Int32), z7) y18 h1 ?_
      cases y18 with
      | inr e20 =>
        exact Option.some.inj h
      | inl x19 =>
        show WR G X (mQ G X (some (.int z.1)) z.2 SS) 129 [.ref 0, vU, vU, vU, vU, .int x19.1, vU, .int x19.2.1] [] x19.2.2 SS
        exact ok_Fg_parts_j129 n x19.1 x19.2.1 x19.2.2   hX hT hr h
    · have h := (if_neg (show ¬ z4 = true from fun e => by rw [g6] at e; cases e)).symm.trans h
      refine r_iconst (v := (-1 : Int32)) hX dX8_parts_18 (by decide) ?_
      obtain rfl := Option.some.inj h
      exact r_iret hX hT dX8_parts_19 rfl
def Fg_more_b39 (n : Nat) (c1 : Int32) (c2 : Int32) (c3 : Int32) (c4 : Int32) (c5 : Int32) (v6 : Int32) (M : Mm) : Option ((Int32 × Mm) ⊕ (Int32 × Mm)) :=
  if c5 ≤ v6 then
    some (.inr (v6, M))
  else
    bnd (Fi_find n 54 c1 c2 c3 c4 M) (fun z10 =>
    if z10.1 = true then
      bnd (Fg_span (z10.2.1 12 3) ((z10.2.1 12 3) + (z10.2.1 12 4)) z10.2) (fun z13 =>
      bnd (St_fill n 54 (z10.2.1 12 2) z13 z10.2) (fun z15 =>
      some (.inl (v6 + (1 : Int32), z15))))
    else
      some (.inr (v6, z10.2)))
def Fg_more (n : Nat) (v1 : Int32) (v2 : Int32) (v3 : Int32) (v4 : Int32) (M : Mm) : Option (Int32 × Mm) :=
  bnd (Fg_isWish v1 v2 v3 M) (fun z1 =>
  if z1 = true then
    bnd (Fg_isRule v4 M) (fun z4 =>
    if z4 = true then
      bnd (St_copy 54 18 M) (fun z7 =>
      bnd (loop (fun s1 : Int32 × Mm => Fg_more_b39 n v1 v2 v3 v4 (840 : Int32) s1.1 s1.2) n ((0 : Int32), z7)) (fun y17 =>
      some (y17.1, y17.2)))
    else
      some ((-1 : Int32), M))
  else
    some ((-1 : Int32), M))
set_option maxRecDepth 100000 in
theorem ok_Fg_more_b39 (n : Nat) (v6 : Int32) (M : Mm) {c1 : Int32} {c2 : Int32} {c3 : Int32} {c4 : Int32} {c5 : Int32} {z : Int32 × Mm} {oo : (Int32 × Mm) ⊕ (Int32 × Mm)} {G : Gm} {X : Cx} {d : Nat}  (hX : XK G X 8 cX8_more 7 (d + 13)) (hT : XT X (some .int) "more") (hr : XR X SS) (hc : ∀ s1 : Int32 × Mm, oo = .inl s1 → WR G X (mQ G X (some (.int z.1)) z.2 SS) 39 [.ref 0, .int c1, .int c2, .int c3, .int c4, .int c5, .int s1.1] [] s1.2 SS) (hx : ∀ x1 : Int32 × Mm, oo = .inr x1 → WR G X (mQ G X (some (.int z.1)) z.2 SS) 110 [.ref 0, vU, vU, vU, vU, vU, .int x1.1] [] x1.2 SS) (h : Fg_more_b39 n c1 c2 c3 c4 c5 v6 M = some oo) : WR G X (mQ G X (some (.int z.1)) z.2 SS) 39 [.ref 0, .int c1, .int c2, .int c3, .int c4, .int c5, .int v6] [] M SS := by
  unfold Fg_more_b39 at h
  refine r_iload hX dX8_more_39 rfl ?_
  refine r_iload hX dX8_more_41 rfl ?_
  refine r_icmp_ge (tgt := 110) hX dX8_more_43 (by decide) (fun g9 => ?_) (fun g9 => ?_)
  · have h := (if_pos g9).symm.trans h
    refine WR.fg (L' := [.ref 0, vU, vU, vU, vU, vU, .int v6]) ⟨Or.inr rfl, Or.inl rfl, Or.inl rfl, Or.inl rfl, Or.inl rfl, Or.inl rfl, Or.inr rfl, trivial⟩ ?_
    exact hx _ (Option.some.inj h).symm
  · have h := (if_neg g9).symm.trans h
    refine r_aload_n hX dX8_more_46 rfl ?_
    refine r_getf (v := .ref 12) hX dX8_more_47 fl_8_28 rfl (by decide) (by decide) rfl ?_
    refine r_aload_n hX dX8_more_50 rfl ?_
    refine r_getf (v := .ref 54) hX dX8_more_51 fl_8_42 rfl (by decide) (by decide) rfl ?_
    refine r_iload_n hX dX8_more_54 rfl ?_
    refine r_iload_n hX dX8_more_55 rfl ?_
    refine r_iload_n hX dX8_more_56 rfl ?_
    refine r_iload hX dX8_more_57 rfl ?_
    obtain ⟨z10, p11, h⟩ := bnd_s h
    refine r_callV (As := [.ref 54, .int c1, .int c2, .int c3, .int c4]) hX dX8_more_59 mk_Fi_find mi_Fi_find ml_8_152 rfl rfl rfl rfl (by decide) (by decide) (Nat.le_of_ble_eq_true rfl) hr (ok_Fi_find (d := d + 0) n 54 c1 c2 c3 c4 M st54 p11) ?_
    refine r_ifb_eq (tgt := 110) hX dX8_more_62 (by decide) (fun g12 => ?_) (fun g12 => ?_)
    · have h := (if_neg (show ¬ z10.1 = true from fun e => by rw [g12] at e; cases e)).symm.trans h
      refine WR.fg (L' := [.ref 0, vU, vU, vU, vU, vU, .int v6]) ⟨Or.inr rfl, Or.inl rfl, Or.inl rfl, Or.inl rfl, Or.inl rfl, Or.inl rfl, Or.inr rfl, trivial⟩ ?_
      exact hx _ (Option.some.inj h).symm
    · have h := (if_pos g12).symm.trans h
      refine r_aload_n hX dX8_more_65 rfl ?_
      refine r_getf (v := .ref 54) hX dX8_more_66 fl_8_42 rfl (by decide) (by decide) rfl ?_
      refine r_aload_n hX dX8_more_69 rfl ?_
      refine r_getf (v := .ref 12) hX dX8_more_70 fl_8_28 rfl (by decide) (by decide) rfl ?_
      refine r_getf (v := .int (z10.2.1 12 2)) hX dX8_more_73 fl_8_156 rfl (by decide) (by decide) rfl ?_
      refine r_aload_n hX dX8_more_76 rfl ?_
      refine r_getf (v := .ref 12) hX dX8_more_77 fl_8_28 rfl (by decide) (by decide) rfl ?_
      refine r_getf (v := .int (z10.2.1 12 3)) hX dX8_more_80 fl_8_159 rfl (by decide) (by decide) rfl ?_
      refine r_aload_n hX dX8_more_83 rfl ?_
      refine r_getf (v := .ref 12) hX dX8_more_84 fl_8_28 rfl (by decide) (by decide) rfl ?_
      refine r_getf (v := .int (z10.2.1 12 3)) hX dX8_more_87 fl_8_159 rfl (by decide) (by decide) rfl ?_
      refine r_aload_n hX dX8_more_90 rfl ?_
      refine r_getf (v := .ref 12) hX dX8_more_91 fl_8_28 rfl (by decide) (by decide) rfl ?_
      refine r_getf (v := .int (z10.2.1 12 4)) hX dX8_more_94 fl_8_162 rfl (by decide) (by decide) rfl ?_
      refine r_iadd hX dX8_more_97 ?_
      obtain ⟨z13, p14, h⟩ := bnd_s h
      refine r_callS (As := [.int (z10.2.1 12 3), .int ((z10.2.1 12 3) + (z10.2.1 12 4))]) hX dX8_more_98 mk_Fg_span ms_Fg_span ml_8_433 rfl rfl rfl (Nat.le_of_ble_eq_true rfl) hr (ok_Fg_span (d := d + 12) (z10.2.1 12 3) ((z10.2.1 12 3) + (z10.2.1 12 4)) z10.2 p14) ?_
      obtain ⟨z15, p16, h⟩ := bnd_s h
      refine r_callV (As := [.int (z10.2.1 12 2), .long z13]) hX dX8_more_101 mk_St_fill mi_St_fill ml_8_436 rfl rfl rfl rfl (by decide) (by decide) (Nat.le_of_ble_eq_true rfl) hr (ok_St_fill (d := d + 12) n 54 (z10.2.1 12 2) z13 z10.2 st54 p16) ?_
      refine r_iinc (v := v6 + (1 : Int32)) (L1 := [.ref 0, .int c1, .int c2, .int c3, .int c4, .int c5, .int (v6 + (1 : Int32))]) hX dX8_more_104 rfl rfl rfl ?_
      refine r_goto (tgt := 39) hX dX8_more_107 (by decide) ?_
      exact hc (v6 + (1 : Int32), z15) (Option.some.inj h).symm
set_option maxRecDepth 100000 in
theorem ok_Fg_more {G : Gm} {l : Launch} {d : Nat} (n : Nat) (v1 : Int32) (v2 : Int32) (v3 : Int32) (v4 : Int32) (M : Mm) {z : Int32 × Mm}  (h : Fg_more n v1 v2 v3 v4 M = some z) : CK G l (d + 13) md_Fg_more [.ref 0, .int v1, .int v2, .int v3, .int v4] M SS (some (.int z.1)) z.2 SS := by
  refine ck_of mk_Fg_more (Nat.le_of_ble_eq_true rfl) ⟨Nat.le_refl _, Nat.le_refl _⟩ (fun X hX hT hS hr hl => ?_)
  subst hl
  unfold Fg_more at h
  show WR G X (mQ G X (some (.int z.1)) z.2 SS) 0 [.ref 0, .int v1, .int v2, .int v3, .int v4, vU, vU] [] M SS
  refine r_aload_n hX dX8_more_0 rfl ?_
  refine r_iload_n hX dX8_more_1 rfl ?_
  refine r_iload_n hX dX8_more_2 rfl ?_
  refine r_iload_n hX dX8_more_3 rfl ?_
  obtain ⟨z1, p2, h⟩ := bnd_s h
  refine r_callV (As := [.int v1, .int v2, .int v3]) hX dX8_more_4 mk_Fg_isWish mi_Fg_isWish ml_8_138 rfl rfl rfl rfl (by decide) (by decide) (Nat.le_of_ble_eq_true rfl) hr (ok_Fg_isWish (d := d + 11) v1 v2 v3 M p2) ?_
  refine r_ifb_eq (tgt := 18) hX dX8_more_7 (by decide) (fun g3 => ?_) (fun g3 => ?_)
  · have h := (if_neg (show ¬ z1 = true from fun e => by rw [g3] at e; cases e)).symm.trans h
    refine r_iconst (v := (-1 : Int32)) hX dX8_more_18 (by decide) ?_
    obtain rfl := Option.some.inj h
    exact r_iret hX hT dX8_more_19 rfl
  · have h := (if_pos g3).symm.trans h
    refine r_iload hX dX8_more_10 rfl ?_
    obtain ⟨z4, p5, h⟩ := bnd_s h
    refine r_callS (As := [.int v4]) hX dX8_more_12 mk_Fg_isRule ms_Fg_isRule ml_8_142 rfl rfl rfl (Nat.le_of_ble_eq_true rfl) hr (ok_Fg_isRule (d := d + 12) v4 M p5) ?_
    refine r_ifb_ne (tgt := 20) hX dX8_more_15 (by decide) (fun g6 => ?_) (fun g6 => ?_)
    · have h := (if_pos g6).symm.trans h
      refine r_aload_n hX dX8_more_20 rfl ?_
      refine r_getf (v := .ref 54) hX dX8_more_21 fl_8_42 rfl (by decide) (by decide) rfl ?_
      refine r_aload_n hX dX8_more_24 rfl ?_
      refine r_getf (v := .ref 18) hX dX8_more_25 fl_8_35 rfl (by decide) (by decide) rfl ?_
      obtain ⟨z7, p8, h⟩ := bnd_s h
      refine r_callV (As := [.ref 18]) hX dX8_more_28 mk_St_copy mi_St_copy ml_8_241 rfl rfl rfl rfl (by decide) (by decide) (Nat.le_of_ble_eq_true rfl) hr (ok_St_copy (d := d + 11) 54 18 M st54 st18 p8) ?_
      refine r_sipush (v := (840 : Int32)) hX dX8_more_31 (by decide) ?_
      refine r_istore (L1 := [.ref 0, .int v1, .int v2, .int v3, .int v4, .int (840 : Int32), vU]) hX dX8_more_34 (Nat.le_of_ble_eq_true rfl) rfl ?_
      refine r_iconst (v := (0 : Int32)) hX dX8_more_36 (by decide) ?_
      refine r_istore (L1 := [.ref 0, .int v1, .int v2, .int v3, .int v4, .int (840 : Int32), .int (0 : Int32)]) hX dX8_more_37 (Nat.le_of_ble_eq_true rfl) rfl ?_
      obtain ⟨y17, h1, h⟩ := bnd_s h
      refine loop_ok (P := fun s1 : Int32 × Mm => WR G X (mQ G X (some (.int z.1)) z.2 SS) 39 [.ref 0, .int v1, .int v2, .int v3, .int v4, .int (840 : Int32), .int s1.1] [] s1.2 SS) (E := fun x1 : Int32 × Mm => WR G X (mQ G X (some (.int z.1)) z.2 SS) 110 [.ref 0, vU, vU, vU, vU, vU, .int x1.1] [] x1.2 SS) (fun s1 o1 g1 g2 g3 => ok_Fg_more_b39 n s1.1 s1.2  hX hT hr g2 g3 g1) n ((0 : Int32), z7) y17 h1 ?_
      show WR G X (mQ G X (some (.int z.1)) z.2 SS) 110 [.ref 0, vU, vU, vU, vU, vU, .int y17.1] [] y17.2 SS
      refine r_iload hX dX8_more_110 rfl ?_
      obtain rfl := Option.some.inj h
      exact r_iret hX hT dX8_more_112 rfl
    · have h := (if_neg (show ¬ z4 = true from fun e => by rw [g6] at e; cases e)).symm.trans h
      refine r_iconst (v := (-1 : Int32)) hX dX8_more_18 (by decide) ?_
      obtain rfl := Option.some.inj h
      exact r_iret hX hT dX8_more_19 rfl
def Fg_keep (M : Mm) : Option (Int32 × Mm) :=
  bnd (St_copy 36 18 M) (fun z1 =>
  some ((up2 z1.1 0 8 (1 : Int32)) 36 4, ((up2 z1.1 0 8 (1 : Int32)), z1.2)))
set_option maxRecDepth 100000 in
theorem ok_Fg_keep {G : Gm} {l : Launch} {d : Nat} (M : Mm) {z : Int32 × Mm}  (h : Fg_keep M = some z) : CK G l (d + 2) md_Fg_keep [.ref 0] M SS (some (.int z.1)) z.2 SS := by
  refine ck_of mk_Fg_keep (Nat.le_of_ble_eq_true rfl) ⟨Nat.le_refl _, Nat.le_refl _⟩ (fun X hX hT hS hr hl => ?_)
  subst hl
  unfold Fg_keep at h
  show WR G X (mQ G X (some (.int z.1)) z.2 SS) 0 [.ref 0] [] M SS
  refine r_aload_n hX dX8_keep_0 rfl ?_
  refine r_getf (v := .ref 36) hX dX8_keep_1 fl_8_39 rfl (by decide) (by decide) rfl ?_
  refine r_aload_n hX dX8_keep_4 rfl ?_
  refine r_getf (v := .ref 18) hX dX8_keep_5 fl_8_35 rfl (by decide) (by decide) rfl ?_
  obtain ⟨z1, p2, h⟩ := bnd_s h
  refine r_callV (As := [.ref 18]) hX dX8_keep_8 mk_St_copy mi_St_copy ml_8_241 rfl rfl rfl rfl (by decide) (by decide) (Nat.le_of_ble_eq_true rfl) hr (ok_St_copy (d := d + 0) 36 18 M st36 st18 p2) ?_
  refine r_aload_n hX dX8_keep_11 rfl ?_
  refine r_iconst (v := (1 : Int32)) hX dX8_keep_12 (by decide) ?_
  refine r_putI hX dX8_keep_13 fl_8_61 rfl (by decide) (by decide) (okI_b true) ?_
  refine r_aload_n hX dX8_keep_16 rfl ?_
  refine r_getf (v := .ref 36) hX dX8_keep_17 fl_8_39 rfl (by decide) (by decide) rfl ?_
  refine r_getf (v := .int ((up2 z1.1 0 8 (1 : Int32)) 36 4)) hX dX8_keep_20 fl_8_145 rfl (by decide) (by decide) rfl ?_
  obtain rfl := Option.some.inj h
  exact r_iret hX hT dX8_keep_23 rfl
def Fg_undo (n : Nat) (M : Mm) : Option (Bool × Mm) :=
  if (M.1 0 8) = (0 : Int32) then
    some (false, M)
  else
    bnd (St_copy 18 36 M) (fun z2 =>
    bnd (Fi_forgetWays n z2) (fun z4 =>
    some (true, z4)))
set_option maxRecDepth 100000 in
theorem ok_Fg_undo {G : Gm} {l : Launch} {d : Nat} (n : Nat) (M : Mm) {z : Bool × Mm}  (h : Fg_undo n M = some z) : CK G l (d + 2) md_Fg_undo [.ref 0] M SS (some (.int (b2i z.1))) z.2 SS := by
  refine ck_of mk_Fg_undo (Nat.le_of_ble_eq_true rfl) ⟨Nat.le_refl _, Nat.le_refl _⟩ (fun X hX hT hS hr hl => ?_)
  subst hl
  unfold Fg_undo at h
  show WR G X (mQ G X (some (.int (b2i z.1))) z.2 SS) 0 [.ref 0] [] M SS
  refine r_aload_n hX dX8_undo_0 rfl ?_
  refine r_getf (v := .int (M.1 0 8)) hX dX8_undo_1 fl_8_61 rfl (by decide) (by decide) rfl ?_
  refine r_if_ne (tgt := 9) hX dX8_undo_4 (by decide) (fun g1 => ?_) (fun g1 => ?_)
  · have h := (if_neg g1).symm.trans h
    refine r_aload_n hX dX8_undo_9 rfl ?_
    refine r_getf (v := .ref 18) hX dX8_undo_10 fl_8_35 rfl (by decide) (by decide) rfl ?_
    refine r_aload_n hX dX8_undo_13 rfl ?_
    refine r_getf (v := .ref 36) hX dX8_undo_14 fl_8_39 rfl (by decide) (by decide) rfl ?_
    obtain ⟨z2, p3, h⟩ := bnd_s h
    refine r_callV (As := [.ref 36]) hX dX8_undo_17 mk_St_copy mi_St_copy ml_8_241 rfl rfl rfl rfl (by decide) (by decide) (Nat.le_of_ble_eq_true rfl) hr (ok_St_copy (d := d + 0) 18 36 M st18 st36 p3) ?_
    refine r_aload_n hX dX8_undo_20 rfl ?_
    refine r_getf (v := .ref 12) hX dX8_undo_21 fl_8_28 rfl (by decide) (by decide) rfl ?_
    obtain ⟨z4, p5, h⟩ := bnd_s h
    refine r_callV (As := []) hX dX8_undo_24 mk_Fi_forgetWays mi_Fi_forgetWays ml_8_89 rfl rfl rfl rfl (by decide) (by decide) (Nat.le_of_ble_eq_true rfl) hr (ok_Fi_forgetWays (d := d + 0) n z2 p5) ?_
    refine r_iconst (v := (1 : Int32)) hX dX8_undo_27 (by decide) ?_
    obtain rfl := Option.some.inj h
    exact r_iret (v := b2i true) hX hT dX8_undo_28 (okI_b true).1
  · have h := (if_pos g1).symm.trans h
    refine r_iconst (v := (0 : Int32)) hX dX8_undo_7 (by decide) ?_
    obtain rfl := Option.some.inj h
    exact r_iret (v := b2i false) hX hT dX8_undo_8 (okI_b false).1
def Fg_firstByte (v1 : Int32) (M : Mm) : Option (Int32) :=
  bnd (St_isLit 18 v1 M) (fun z1 =>
  if z1 = true then
    grd (inb v1 40) (
    some (M.1 31 (tn v1)))
  else
    some (255 : Int32))
set_option maxRecDepth 100000 in
theorem ok_Fg_firstByte {G : Gm} {l : Launch} {d : Nat} (v1 : Int32) (M : Mm) {z : Int32}  (h : Fg_firstByte v1 M = some z) : CK G l (d + 2) md_Fg_firstByte [.ref 0, .int v1] M SS (some (.int z)) M SS := by
  refine ck_of mk_Fg_firstByte (Nat.le_of_ble_eq_true rfl) ⟨Nat.le_refl _, Nat.le_refl _⟩ (fun X hX hT hS hr hl => ?_)
  subst hl
  unfold Fg_firstByte at h
  show WR G X (mQ G X (some (.int z)) M SS) 0 [.ref 0, .int v1] [] M SS
  refine r_aload_n hX dX8_firstByte_0 rfl ?_
  refine r_getf (v := .ref 18) hX dX8_firstByte_1 fl_8_35 rfl (by decide) (by decide) rfl ?_
  refine r_iload_n hX dX8_firstByte_4 rfl ?_
  obtain ⟨z1, p2, h⟩ := bnd_s h
  refine r_callV (As := [.int v1]) hX dX8_firstByte_5 mk_St_isLit mi_St_isLit ml_8_180 rfl rfl rfl rfl (by decide) (by decide) (Nat.le_of_ble_eq_true rfl) hr (ok_St_isLit (d := d + 0) 18 v1 M st18 p2) ?_
  refine r_ifb_eq (tgt := 23) hX dX8_firstByte_8 (by decide) (fun g3 => ?_) (fun g3 => ?_)
  · have h := (if_neg (show ¬ z1 = true from fun e => by rw [g3] at e; cases e)).symm.trans h
    refine r_sipush (v := (255 : Int32)) hX dX8_firstByte_23 (by decide) ?_
    obtain rfl := Option.some.inj h
    exact r_iret hX hT dX8_firstByte_26 rfl
  · have h := (if_pos g3).symm.trans h
    refine r_aload_n hX dX8_firstByte_11 rfl ?_
    refine r_getf (v := .ref 18) hX dX8_firstByte_12 fl_8_35 rfl (by decide) (by decide) rfl ?_
    refine r_getf (v := .ref 31) hX dX8_firstByte_15 fl_8_191 rfl (by decide) (by decide) rfl ?_
    refine r_iload_n hX dX8_firstByte_18 rfl ?_
    obtain ⟨k4, h⟩ := grd_s h
    refine r_iald hX dX8_firstByte_19 rfl (by decide) (inb_at rfl k4) ?_
    refine r_goto (tgt := 26) hX dX8_firstByte_20 (by decide) ?_
    obtain rfl := Option.some.inj h
    exact r_iret hX hT dX8_firstByte_26 rfl
def Fg_check_b34 (c1 : Int32) (Mc : Mm) (v2 : Int32) : Option ((Int32) ⊕ ((Unit) ⊕ (Int32 × Mm))) :=
  if c1 ≤ v2 then
    some (.inr (.inl ()))
  else
    if (Mc.1 18 4) ≤ v2 then
      some (.inr (.inr (v2, Mc)))
    else
      grd (inb v2 240) (
      bnd (Fg_firstByte v2 Mc) (fun z7 =>
      if (Mc.1 2 (tn v2)) = z7 then
        some (.inl (v2 + (1 : Int32)))
      else
        some (.inr (.inr (v2, Mc)))))
def Fg_check (n : Nat) (v1 : Int32) (M : Mm) : Option (Int32 × Mm) :=
  if v1 < (0 : Int32) then
    some ((-2 : Int32), M)
  else
    if (40 : Int32) < v1 then
      some ((-2 : Int32), M)
    else
      if v1 ≤ (M.1 1 1) then
        bnd (loop (fun s1 : Int32 => Fg_check_b34 v1 ((up2 M.1 1 1 (0 : Int32)), M.2) s1) n (0 : Int32)) (fun y10 =>
        elS y10 (fun x11 =>
          some ((-1 : Int32), ((up2 M.1 1 1 (0 : Int32)), M.2)))
          (fun e12 => some e12))
      else
        some ((-2 : Int32), M)
set_option maxRecDepth 100000 in
theorem ok_Fg_check_b34 (n : Nat) (v2 : Int32) {c1 : Int32} {Mc : Mm} {z : Int32 × Mm} {oo : (Int32) ⊕ ((Unit) ⊕ (Int32 × Mm))} {G : Gm} {X : Cx} {d : Nat}  (hX : XK G X 8 cX8_check 3 (d + 3)) (hT : XT X (some .int) "check") (hr : XR X SS) (hc : ∀ s1 : Int32, oo = .inl s1 → WR G X (mQ G X (some (.int z.1)) z.2 SS) 34 [.ref 0, .int c1, .int s1] [] Mc SS) (hx : ∀ x1 : (Unit) ⊕ (Int32 × Mm), oo = .inr x1 → elS x1 (fun x2 => WR G X (mQ G X (some (.int z.1)) z.2 SS) 75 [.ref 0, vU, vU] [] Mc SS) (fun y1 => y1 = z)) (h : Fg_check_b34 c1 Mc v2 = some oo) : WR G X (mQ G X (some (.int z.1)) z.2 SS) 34 [.ref 0, .int c1, .int v2] [] Mc SS := by
  unfold Fg_check_b34 at h
  refine r_iload_n hX dX8_check_34 rfl ?_
  refine r_iload_n hX dX8_check_35 rfl ?_
  refine r_icmp_ge (tgt := 75) hX dX8_check_36 (by decide) (fun g4 => ?_) (fun g4 => ?_)
  · have h := (if_pos g4).symm.trans h
    refine WR.fg (L' := [.ref 0, vU, vU]) ⟨Or.inr rfl, Or.inl rfl, Or.inl rfl, trivial⟩ ?_
    exact hx _ (Option.some.inj h).symm
  · have h := (if_neg g4).symm.trans h
    refine r_iload_n hX dX8_check_39 rfl ?_
    refine r_aload_n hX dX8_check_40 rfl ?_
    refine r_getf (v := .ref 18) hX dX8_check_41 fl_8_35 rfl (by decide) (by decide) rfl ?_
    refine r_getf (v := .int (Mc.1 18 4)) hX dX8_check_44 fl_8_145 rfl (by decide) (by decide) rfl ?_
    refine r_icmp_ge (tgt := 67) hX dX8_check_47 (by decide) (fun g5 => ?_) (fun g5 => ?_)
    · have h := (if_pos g5).symm.trans h
      refine r_iload_n hX dX8_check_67 rfl ?_
      obtain rfl := hx _ (Option.some.inj h).symm
      exact r_iret hX hT dX8_check_68 rfl
    · have h := (if_neg g5).symm.trans h
      refine r_aload_n hX dX8_check_50 rfl ?_
      refine r_getf (v := .ref 1) hX dX8_check_51 fl_8_10 rfl (by decide) (by decide) rfl ?_
      refine r_getf (v := .ref 2) hX dX8_check_54 fl_8_440 rfl (by decide) (by decide) rfl ?_
      refine r_iload_n hX dX8_check_57 rfl ?_
      obtain ⟨k6, h⟩ := grd_s h
      refine r_iald hX dX8_check_58 rfl (by decide) (inb_at rfl k6) ?_
      refine r_aload_n hX dX8_check_59 rfl ?_
      refine r_iload_n hX dX8_check_60 rfl ?_
      obtain ⟨z7, p8, h⟩ := bnd_s h
      refine r_callV (As := [.int v2]) hX dX8_check_61 mk_Fg_firstByte mi_Fg_firstByte ml_8_443 rfl rfl rfl rfl (by decide) (by decide) (Nat.le_of_ble_eq_true rfl) hr (ok_Fg_firstByte (d := d + 0) v2 Mc p8) ?_
      refine r_icmp_eq (tgt := 69) hX dX8_check_64 (by decide) (fun g9 => ?_) (fun g9 => ?_)
      · have h := (if_pos g9).symm.trans h
        refine r_iinc (v := v2 + (1 : Int32)) (L1 := [.ref 0, .int c1, .int (v2 + (1 : Int32))]) hX dX8_check_69 rfl rfl rfl ?_
        refine r_goto (tgt := 34) hX dX8_check_72 (by decide) ?_
        exact hc (v2 + (1 : Int32)) (Option.some.inj h).symm
      · have h := (if_neg g9).symm.trans h
        refine r_iload_n hX dX8_check_67 rfl ?_
        obtain rfl := hx _ (Option.some.inj h).symm
        exact r_iret hX hT dX8_check_68 rfl
set_option maxRecDepth 100000 in
theorem ok_Fg_check {G : Gm} {l : Launch} {d : Nat} (n : Nat) (v1 : Int32) (M : Mm) {z : Int32 × Mm}  (h : Fg_check n v1 M = some z) : CK G l (d + 3) md_Fg_check [.ref 0, .int v1] M SS (some (.int z.1)) z.2 SS := by
  refine ck_of mk_Fg_check (Nat.le_of_ble_eq_true rfl) ⟨Nat.le_refl _, Nat.le_refl _⟩ (fun X hX hT hS hr hl => ?_)
  subst hl
  unfold Fg_check at h
  show WR G X (mQ G X (some (.int z.1)) z.2 SS) 0 [.ref 0, .int v1, vU] [] M SS
  refine r_iload_n hX dX8_check_0 rfl ?_
  refine r_if_lt (tgt := 21) hX dX8_check_1 (by decide) (fun g1 => ?_) (fun g1 => ?_)
  · have h := (if_pos g1).symm.trans h
    refine r_bipush (v := (-2 : Int32)) hX dX8_check_21 (by decide) ?_
    obtain rfl := Option.some.inj h
    exact r_iret hX hT dX8_check_23 rfl
  · have h := (if_neg g1).symm.trans h
    refine r_iload_n hX dX8_check_4 rfl ?_
    refine r_bipush (v := (40 : Int32)) hX dX8_check_5 (by decide) ?_
    refine r_icmp_gt (tgt := 21) hX dX8_check_7 (by decide) (fun g2 => ?_) (fun g2 => ?_)
    · have h := (if_pos g2).symm.trans h
      refine r_bipush (v := (-2 : Int32)) hX dX8_check_21 (by decide) ?_
      obtain rfl := Option.some.inj h
      exact r_iret hX hT dX8_check_23 rfl
    · have h := (if_neg g2).symm.trans h
      refine r_iload_n hX dX8_check_10 rfl ?_
      refine r_aload_n hX dX8_check_11 rfl ?_
      refine r_getf (v := .ref 1) hX dX8_check_12 fl_8_10 rfl (by decide) (by decide) rfl ?_
      refine r_getf (v := .int (M.1 1 1)) hX dX8_check_15 fl_8_65 rfl (by decide) (by decide) rfl ?_
      refine r_icmp_le (tgt := 24) hX dX8_check_18 (by decide) (fun g3 => ?_) (fun g3 => ?_)
      · have h := (if_pos g3).symm.trans h
        refine r_aload_n hX dX8_check_24 rfl ?_
        refine r_getf (v := .ref 1) hX dX8_check_25 fl_8_10 rfl (by decide) (by decide) rfl ?_
        refine r_iconst (v := (0 : Int32)) hX dX8_check_28 (by decide) ?_
        refine r_putI hX dX8_check_29 fl_8_65 rfl (by decide) (by decide) (okI_int _) ?_
        refine r_iconst (v := (0 : Int32)) hX dX8_check_32 (by decide) ?_
        refine r_istore_n (L1 := [.ref 0, .int v1, .int (0 : Int32)]) hX dX8_check_33 (Nat.le_of_ble_eq_true rfl) rfl ?_
        obtain ⟨y10, h1, h⟩ := bnd_s h
        refine loop_ok (P := fun s1 : Int32 => WR G X (mQ G X (some (.int z.1)) z.2 SS) 34 [.ref 0, .int v1, .int s1] [] ((up2 M.1 1 1 (0 : Int32)), M.2) SS) (E := fun x1 : (Unit) ⊕ (Int32 × Mm) => elS x1 (fun x2 => WR G X (mQ G X (some (.int z.1)) z.2 SS) 75 [.ref 0, vU, vU] [] ((up2 M.1 1 1 (0 : Int32)), M.2) SS) (fun y1 => y1 = z)) (fun s1 o1 g1 g2 g3 => ok_Fg_check_b34 n s1  hX hT hr g2 g3 g1) n (0 : Int32) y10 h1 ?_
        cases y10 with
        | inr e12 =>
          exact Option.some.inj h
        | inl x11 =>
          show WR G X (mQ G X (some (.int z.1)) z.2 SS) 75 [.ref 0, vU, vU] [] ((up2 M.1 1 1 (0 : Int32)), M.2) SS
          refine r_iconst (v := (-1 : Int32)) hX dX8_check_75 (by decide) ?_
          obtain rfl := Option.some.inj h
          exact r_iret hX hT dX8_check_76 rfl
      · have h := (if_neg g3).symm.trans h
        refine r_bipush (v := (-2 : Int32)) hX dX8_check_21 (by decide) ?_
        obtain rfl := Option.some.inj h
        exact r_iret hX hT dX8_check_23 rfl
def Fg_count (v1 : Int32) (M : Mm) : Option (Int32) :=
  if v1 = (0 : Int32) then
    some (M.1 18 4)
  else
    if v1 = (1 : Int32) then
      some (M.1 1 1)
    else
      if v1 = (2 : Int32) then
        some (M.1 19 4)
      else
        some (-1 : Int32)
set_option maxRecDepth 100000 in
theorem ok_Fg_count {G : Gm} {l : Launch} {d : Nat} (v1 : Int32) (M : Mm) {z : Int32}  (h : Fg_count v1 M = some z) : CK G l (d + 0) md_Fg_count [.ref 0, .int v1] M SS (some (.int z)) M SS := by
  refine ck_of mk_Fg_count (Nat.le_of_ble_eq_true rfl) ⟨Nat.le_refl _, Nat.le_refl _⟩ (fun X hX hT hS hr hl => ?_)
  subst hl
  unfold Fg_count at h
  show WR G X (mQ G X (some (.int z)) M SS) 0 [.ref 0, .int v1] [] M SS
  refine r_iload_n hX dX8_count_0 rfl ?_
  by_cases g1 : v1 = (0 : Int32)
  · have h := (if_pos g1).symm.trans h
    refine r_tabEq (tgt := 28) hX dX8_count_1 g1 ⟨by decide, by decide, rfl⟩ (by decide) ?_
    refine r_aload_n hX dX8_count_28 rfl ?_
    refine r_getf (v := .ref 18) hX dX8_count_29 fl_8_35 rfl (by decide) (by decide) rfl ?_
    refine r_getf (v := .int (M.1 18 4)) hX dX8_count_32 fl_8_145 rfl (by decide) (by decide) rfl ?_
    obtain rfl := Option.some.inj h
    exact r_iret hX hT dX8_count_35 rfl
  · have h := (if_neg g1).symm.trans h
    by_cases g2 : v1 = (1 : Int32)
    · have h := (if_pos g2).symm.trans h
      refine r_tabEq (tgt := 36) hX dX8_count_1 g2 ⟨by decide, by decide, rfl⟩ (by decide) ?_
      refine r_aload_n hX dX8_count_36 rfl ?_
      refine r_getf (v := .ref 1) hX dX8_count_37 fl_8_10 rfl (by decide) (by decide) rfl ?_
      refine r_getf (v := .int (M.1 1 1)) hX dX8_count_40 fl_8_65 rfl (by decide) (by decide) rfl ?_
      obtain rfl := Option.some.inj h
      exact r_iret hX hT dX8_count_43 rfl
    · have h := (if_neg g2).symm.trans h
      by_cases g3 : v1 = (2 : Int32)
      · have h := (if_pos g3).symm.trans h
        refine r_tabEq (tgt := 44) hX dX8_count_1 g3 ⟨by decide, by decide, rfl⟩ (by decide) ?_
        refine r_aload_n hX dX8_count_44 rfl ?_
        refine r_getf (v := .ref 18) hX dX8_count_45 fl_8_35 rfl (by decide) (by decide) rfl ?_
        refine r_getf (v := .ref 19) hX dX8_count_48 fl_8_204 rfl (by decide) (by decide) rfl ?_
        refine r_getf (v := .int (M.1 19 4)) hX dX8_count_51 fl_8_446 rfl (by decide) (by decide) rfl ?_
        obtain rfl := Option.some.inj h
        exact r_iret hX hT dX8_count_54 rfl
      · have h := (if_neg g3).symm.trans h
        refine r_tabOut (tgt := 55) hX dX8_count_1 (by have q0 := ne_ti g1 (k := 0) (by decide); have q1 := ne_ti g2 (k := 1) (by decide); have q2 := ne_ti g3 (k := 2) (by decide); omega) (by decide) ?_
        refine r_iconst (v := (-1 : Int32)) hX dX8_count_55 (by decide) ?_
        obtain rfl := Option.some.inj h
        exact r_iret hX hT dX8_count_56 rfl
def Fm_begins_b2 (v1 : Int32) (M : Mm) : Option ((Int32 × Mm) ⊕ (Mm)) :=
  if (64 : Int32) ≤ v1 then
    some (.inr M)
  else
    grd (inb v1 64) (
    some (.inl (v1 + (1 : Int32), ((up2 M.1 96 (tn v1) (0 : Int32)), M.2))))
def Fm_begins (n : Nat) (M : Mm) : Option (Mm) :=
  bnd (loop (fun s1 : Int32 × Mm => Fm_begins_b2 s1.1 s1.2) n ((0 : Int32), M)) (fun y3 =>
  grd (inb (0 : Int32) 64) (
  grd (inb (1 : Int32) 64) (
  grd (inb (2 : Int32) 64) (
  grd (inb (8 : Int32) 64) (
  grd (inb (9 : Int32) 64) (
  grd (inb (10 : Int32) 64) (
  grd (inb (11 : Int32) 64) (
  some ((up2 (up2 (up2 (up2 (up2 (up2 (up2 y3.1 96 (tn (0 : Int32)) (2 : Int32)) 96 (tn (1 : Int32)) (40 : Int32)) 96 (tn (2 : Int32)) (1 : Int32)) 96 (tn (8 : Int32)) (200 : Int32)) 96 (tn (9 : Int32)) (120 : Int32)) 96 (tn (10 : Int32)) (80 : Int32)) 96 (tn (11 : Int32)) (40 : Int32)), y3.2)))))))))
set_option maxRecDepth 100000 in
theorem ok_Fm_begins_b2 (n : Nat) (v1 : Int32) (M : Mm)  {z : Mm} {oo : (Int32 × Mm) ⊕ (Mm)} {G : Gm} {X : Cx} {d : Nat}  (hX : XK G X 9 cX9_begins 2 (d + 0)) (hT : XT X (none) "begins") (hr : XR X SS) (hc : ∀ s1 : Int32 × Mm, oo = .inl s1 → WR G X (mQ G X (none) z SS) 2 [.ref 94, .int s1.1] [] s1.2 SS) (hx : ∀ x1 : Mm, oo = .inr x1 → WR G X (mQ G X (none) z SS) 24 [.ref 94, vU] [] x1 SS) (h : Fm_begins_b2 v1 M = some oo) : WR G X (mQ G X (none) z SS) 2 [.ref 94, .int v1] [] M SS := by
  unfold Fm_begins_b2 at h
  refine r_iload_n hX dX9_begins_2 rfl ?_
  refine r_aload_n hX dX9_begins_3 rfl ?_
  refine r_getf (v := .ref 96) hX dX9_begins_4 fl_9_13 rfl (by decide) (by decide) rfl ?_
  refine r_alen (v := (64 : Int32)) hX dX9_begins_7 rfl (by decide) (by decide) rfl ?_
  refine r_icmp_ge (tgt := 24) hX dX9_begins_8 (by decide) (fun g1 => ?_) (fun g1 => ?_)
  · have h := (if_pos g1).symm.trans h
    refine WR.fg (L' := [.ref 94, vU]) ⟨Or.inr rfl, Or.inl rfl, trivial⟩ ?_
    exact hx _ (Option.some.inj h).symm
  · have h := (if_neg g1).symm.trans h
    refine r_aload_n hX dX9_begins_11 rfl ?_
    refine r_getf (v := .ref 96) hX dX9_begins_12 fl_9_13 rfl (by decide) (by decide) rfl ?_
    refine r_iload_n hX dX9_begins_15 rfl ?_
    refine r_iconst (v := (0 : Int32)) hX dX9_begins_16 (by decide) ?_
    obtain ⟨k2, h⟩ := grd_s h
    refine r_iast hX dX9_begins_17 rfl (by decide) (inb_at rfl k2) ?_
    refine r_iinc (v := v1 + (1 : Int32)) (L1 := [.ref 94, .int (v1 + (1 : Int32))]) hX dX9_begins_18 rfl rfl rfl ?_
    refine r_goto (tgt := 2) hX dX9_begins_21 (by decide) ?_
    exact hc (v1 + (1 : Int32), ((up2 M.1 96 (tn v1) (0 : Int32)), M.2)) (Option.some.inj h).symm
set_option maxRecDepth 100000 in
theorem ok_Fm_begins {G : Gm} {l : Launch} {d : Nat} (n : Nat) (M : Mm) {z : Mm}  (h : Fm_begins n M = some z) : CK G l (d + 0) md_Fm_begins [.ref 94] M SS (none) z SS := by
  refine ck_of mk_Fm_begins (Nat.le_of_ble_eq_true rfl) ⟨Nat.le_refl _, Nat.le_refl _⟩ (fun X hX hT hS hr hl => ?_)
  subst hl
  unfold Fm_begins at h
  show WR G X (mQ G X (none) z SS) 0 [.ref 94, vU] [] M SS
  refine r_iconst (v := (0 : Int32)) hX dX9_begins_0 (by decide) ?_
  refine r_istore_n (L1 := [.ref 94, .int (0 : Int32)]) hX dX9_begins_1 (Nat.le_of_ble_eq_true rfl) rfl ?_
  obtain ⟨y3, h1, h⟩ := bnd_s h
  refine loop_ok (P := fun s1 : Int32 × Mm => WR G X (mQ G X (none) z SS) 2 [.ref 94, .int s1.1] [] s1.2 SS) (E := fun x1 : Mm => WR G X (mQ G X (none) z SS) 24 [.ref 94, vU] [] x1 SS) (fun s1 o1 g1 g2 g3 => ok_Fm_begins_b2 n s1.1 s1.2  hX hT hr g2 g3 g1) n ((0 : Int32), M) y3 h1 ?_
  show WR G X (mQ G X (none) z SS) 24 [.ref 94, vU] [] y3 SS
  refine r_aload_n hX dX9_begins_24 rfl ?_
  refine r_getf (v := .ref 96) hX dX9_begins_25 fl_9_13 rfl (by decide) (by decide) rfl ?_
  refine r_iconst (v := (0 : Int32)) hX dX9_begins_28 (by decide) ?_
  refine r_iconst (v := (2 : Int32)) hX dX9_begins_29 (by decide) ?_
  obtain ⟨k4, h⟩ := grd_s h
  refine r_iast hX dX9_begins_30 rfl (by decide) (inb_at rfl k4) ?_
  refine r_aload_n hX dX9_begins_31 rfl ?_
  refine r_getf (v := .ref 96) hX dX9_begins_32 fl_9_13 rfl (by decide) (by decide) rfl ?_
  refine r_iconst (v := (1 : Int32)) hX dX9_begins_35 (by decide) ?_
  refine r_bipush (v := (40 : Int32)) hX dX9_begins_36 (by decide) ?_
  obtain ⟨k5, h⟩ := grd_s h
  refine r_iast' hX dX9_begins_38 rfl (by decide) (inb_at rfl k5) ?_
  refine r_aload_n hX dX9_begins_39 rfl ?_
  refine r_getf (v := .ref 96) hX dX9_begins_40 fl_9_13 rfl (by decide) (by decide) rfl ?_
  refine r_iconst (v := (2 : Int32)) hX dX9_begins_43 (by decide) ?_
  refine r_iconst (v := (1 : Int32)) hX dX9_begins_44 (by decide) ?_
  obtain ⟨k6, h⟩ := grd_s h
  refine r_iast' hX dX9_begins_45 rfl (by decide) (inb_at rfl k6) ?_
  refine r_aload_n hX dX9_begins_46 rfl ?_
  refine r_getf (v := .ref 96) hX dX9_begins_47 fl_9_13 rfl (by decide) (by decide) rfl ?_
  refine r_bipush (v := (8 : Int32)) hX dX9_begins_50 (by decide) ?_
  refine r_sipush (v := (200 : Int32)) hX dX9_begins_52 (by decide) ?_
  obtain ⟨k7, h⟩ := grd_s h
  refine r_iast' hX dX9_begins_55 rfl (by decide) (inb_at rfl k7) ?_
  refine r_aload_n hX dX9_begins_56 rfl ?_
  refine r_getf (v := .ref 96) hX dX9_begins_57 fl_9_13 rfl (by decide) (by decide) rfl ?_
  refine r_bipush (v := (9 : Int32)) hX dX9_begins_60 (by decide) ?_
  refine r_bipush (v := (120 : Int32)) hX dX9_begins_62 (by decide) ?_
  obtain ⟨k8, h⟩ := grd_s h
  refine r_iast' hX dX9_begins_64 rfl (by decide) (inb_at rfl k8) ?_
  refine r_aload_n hX dX9_begins_65 rfl ?_
  refine r_getf (v := .ref 96) hX dX9_begins_66 fl_9_13 rfl (by decide) (by decide) rfl ?_
  refine r_bipush (v := (10 : Int32)) hX dX9_begins_69 (by decide) ?_
  refine r_bipush (v := (80 : Int32)) hX dX9_begins_71 (by decide) ?_
  obtain ⟨k9, h⟩ := grd_s h
  refine r_iast' hX dX9_begins_73 rfl (by decide) (inb_at rfl k9) ?_
  refine r_aload_n hX dX9_begins_74 rfl ?_
  refine r_getf (v := .ref 96) hX dX9_begins_75 fl_9_13 rfl (by decide) (by decide) rfl ?_
  refine r_bipush (v := (11 : Int32)) hX dX9_begins_78 (by decide) ?_
  refine r_bipush (v := (40 : Int32)) hX dX9_begins_80 (by decide) ?_
  obtain ⟨k10, h⟩ := grd_s h
  refine r_iast' hX dX9_begins_82 rfl (by decide) (inb_at rfl k10) ?_
  obtain rfl := Option.some.inj h
  exact r_vret hX hT dX9_begins_83
def Fm_takesDraft_j26 (v1 : Int32) (M : Mm) : Option ((Int32 × Mm) ⊕ (Mm)) :=
  some (.inl (v1 + (1 : Int32), M))
def Fm_takesDraft_b2 (v1 : Int32) (M : Mm) : Option ((Int32 × Mm) ⊕ (Mm)) :=
  if (64 : Int32) ≤ v1 then
    some (.inr M)
  else
    if v1 = (6 : Int32) then
      Fm_takesDraft_j26 v1 M
    else
      grd (inb v1 64) (
      grd (inb v1 12256) (
      Fm_takesDraft_j26 v1 ((up2 M.1 95 (tn v1) (M.1 96 (tn v1))), M.2)))
def Fm_takesDraft (n : Nat) (M : Mm) : Option (Mm) :=
  bnd (loop (fun s1 : Int32 × Mm => Fm_takesDraft_b2 s1.1 s1.2) n ((0 : Int32), M)) (fun y5 =>
  grd (inb (3 : Int32) 64) (
  grd (inb (12 : Int32) 12256) (
  some ((up2 y5.1 95 (tn (12 : Int32)) (((1 : Int32) <<< ((y5.1 96 (tn (3 : Int32))) &&& 31)) - (1 : Int32))), y5.2))))
set_option maxRecDepth 100000 in
theorem ok_Fm_takesDraft_j26 (n : Nat) (v1 : Int32) (M : Mm)  {z : Mm} {oo : (Int32 × Mm) ⊕ (Mm)} {G : Gm} {X : Cx} {d : Nat}  (hX : XK G X 9 cX9_takesDraft 2 (d + 0)) (hT : XT X (none) "takesDraft") (hr : XR X SS) (hc : ∀ s1 : Int32 × Mm, oo = .inl s1 → WR G X (mQ G X (none) z SS) 2 [.ref 94, .int s1.1] [] s1.2 SS) (hx : ∀ x1 : Mm, oo = .inr x1 → WR G X (mQ G X (none) z SS) 32 [.ref 94, vU] [] x1 SS) (h : Fm_takesDraft_j26 v1 M = some oo) : WR G X (mQ G X (none) z SS) 26 [.ref 94, .int v1] [] M SS := by
  unfold Fm_takesDraft_j26 at h
  refine r_iinc (v := v1 + (1 : Int32)) (L1 := [.ref 94, .int (v1 + (1 : Int32))]) hX dX9_takesDraft_26 rfl rfl rfl ?_
  refine r_goto (tgt := 2) hX dX9_takesDraft_29 (by decide) ?_
  exact hc (v1 + (1 : Int32), M) (Option.some.inj h).symm
set_option maxRecDepth 100000 in
theorem ok_Fm_takesDraft_b2 (n : Nat) (v1 : Int32) (M : Mm)  {z : Mm} {oo : (Int32 × Mm) ⊕ (Mm)} {G : Gm} {X : Cx} {d : Nat}  (hX : XK G X 9 cX9_takesDraft 2 (d + 0)) (hT : XT X (none) "takesDraft") (hr : XR X SS) (hc : ∀ s1 : Int32 × Mm, oo = .inl s1 → WR G X (mQ G X (none) z SS) 2 [.ref 94, .int s1.1] [] s1.2 SS) (hx : ∀ x1 : Mm, oo = .inr x1 → WR G X (mQ G X (none) z SS) 32 [.ref 94, vU] [] x1 SS) (h : Fm_takesDraft_b2 v1 M = some oo) : WR G X (mQ G X (none) z SS) 2 [.ref 94, .int v1] [] M SS := by
  unfold Fm_takesDraft_b2 at h
  refine r_iload_n hX dX9_takesDraft_2 rfl ?_
  refine r_bipush (v := (64 : Int32)) hX dX9_takesDraft_3 (by decide) ?_
  refine r_icmp_ge (tgt := 32) hX dX9_takesDraft_5 (by decide) (fun g1 => ?_) (fun g1 => ?_)
  · have h := (if_pos g1).symm.trans h
    refine WR.fg (L' := [.ref 94, vU]) ⟨Or.inr rfl, Or.inl rfl, trivial⟩ ?_
    exact hx _ (Option.some.inj h).symm
  · have h := (if_neg g1).symm.trans h
    refine r_iload_n hX dX9_takesDraft_8 rfl ?_
    refine r_bipush (v := (6 : Int32)) hX dX9_takesDraft_9 (by decide) ?_
    refine r_icmp_eq (tgt := 26) hX dX9_takesDraft_11 (by decide) (fun g2 => ?_) (fun g2 => ?_)
    · have h := (if_pos g2).symm.trans h
      exact ok_Fm_takesDraft_j26 n v1 M   hX hT hr hc hx h
    · have h := (if_neg g2).symm.trans h
      refine r_aload_n hX dX9_takesDraft_14 rfl ?_
      refine r_getf (v := .ref 95) hX dX9_takesDraft_15 fl_9_7 rfl (by decide) (by decide) rfl ?_
      refine r_iload_n hX dX9_takesDraft_18 rfl ?_
      refine r_aload_n hX dX9_takesDraft_19 rfl ?_
      refine r_getf (v := .ref 96) hX dX9_takesDraft_20 fl_9_13 rfl (by decide) (by decide) rfl ?_
      refine r_iload_n hX dX9_takesDraft_23 rfl ?_
      obtain ⟨k3, h⟩ := grd_s h
      refine r_iald hX dX9_takesDraft_24 rfl (by decide) (inb_at rfl k3) ?_
      obtain ⟨k4, h⟩ := grd_s h
      refine r_iast hX dX9_takesDraft_25 rfl (by decide) (inb_at rfl k4) ?_
      exact ok_Fm_takesDraft_j26 n v1 ((up2 M.1 95 (tn v1) (M.1 96 (tn v1))), M.2)   hX hT hr hc hx h
set_option maxRecDepth 100000 in
theorem ok_Fm_takesDraft {G : Gm} {l : Launch} {d : Nat} (n : Nat) (M : Mm) {z : Mm}  (h : Fm_takesDraft n M = some z) : CK G l (d + 0) md_Fm_takesDraft [.ref 94] M SS (none) z SS := by
  refine ck_of mk_Fm_takesDraft (Nat.le_of_ble_eq_true rfl) ⟨Nat.le_refl _, Nat.le_refl _⟩ (fun X hX hT hS hr hl => ?_)
  subst hl
  unfold Fm_takesDraft at h
  show WR G X (mQ G X (none) z SS) 0 [.ref 94, vU] [] M SS
  refine r_iconst (v := (0 : Int32)) hX dX9_takesDraft_0 (by decide) ?_
  refine r_istore_n (L1 := [.ref 94, .int (0 : Int32)]) hX dX9_takesDraft_1 (Nat.le_of_ble_eq_true rfl) rfl ?_
  obtain ⟨y5, h1, h⟩ := bnd_s h
  refine loop_ok (P := fun s1 : Int32 × Mm => WR G X (mQ G X (none) z SS) 2 [.ref 94, .int s1.1] [] s1.2 SS) (E := fun x1 : Mm => WR G X (mQ G X (none) z SS) 32 [.ref 94, vU] [] x1 SS) (fun s1 o1 g1 g2 g3 => ok_Fm_takesDraft_b2 n s1.1 s1.2  hX hT hr g2 g3 g1) n ((0 : Int32), M) y5 h1 ?_
  show WR G X (mQ G X (none) z SS) 32 [.ref 94, vU] [] y5 SS
  refine r_aload_n hX dX9_takesDraft_32 rfl ?_
  refine r_getf (v := .ref 95) hX dX9_takesDraft_33 fl_9_7 rfl (by decide) (by decide) rfl ?_
  refine r_bipush (v := (12 : Int32)) hX dX9_takesDraft_36 (by decide) ?_
  refine r_iconst (v := (1 : Int32)) hX dX9_takesDraft_38 (by decide) ?_
  refine r_aload_n hX dX9_takesDraft_39 rfl ?_
  refine r_getf (v := .ref 96) hX dX9_takesDraft_40 fl_9_13 rfl (by decide) (by decide) rfl ?_
  refine r_iconst (v := (3 : Int32)) hX dX9_takesDraft_43 (by decide) ?_
  obtain ⟨k6, h⟩ := grd_s h
  refine r_iald hX dX9_takesDraft_44 rfl (by decide) (inb_at rfl k6) ?_
  refine r_ishl hX dX9_takesDraft_45 ?_
  refine r_iconst (v := (1 : Int32)) hX dX9_takesDraft_46 (by decide) ?_
  refine r_isub hX dX9_takesDraft_47 ?_
  obtain ⟨k7, h⟩ := grd_s h
  refine r_iast hX dX9_takesDraft_48 rfl (by decide) (inb_at rfl k7) ?_
  obtain rfl := Option.some.inj h
  exact r_vret hX hT dX9_takesDraft_49
def Fm_in (v0 : Int32) (v1 : Int32) (v2 : Int32) (M : Mm) : Option (Bool) :=
  if v0 < v1 then
    some false
  else
    if v2 < v0 then
      some false
    else
      some true
set_option maxRecDepth 100000 in
theorem ok_Fm_in {G : Gm} {l : Launch} {d : Nat} (v0 : Int32) (v1 : Int32) (v2 : Int32) (M : Mm) {z : Bool}  (h : Fm_in v0 v1 v2 M = some z) : CK G l (d + 0) md_Fm_in [.int v0, .int v1, .int v2] M SS (some (.int (b2i z))) M SS := by
  refine ck_of mk_Fm_in (Nat.le_of_ble_eq_true rfl) ⟨Nat.le_refl _, Nat.le_refl _⟩ (fun X hX hT hS hr hl => ?_)
  subst hl
  unfold Fm_in at h
  show WR G X (mQ G X (some (.int (b2i z))) M SS) 0 [.int v0, .int v1, .int v2] [] M SS
  refine r_iload_n hX dX9_in_0 rfl ?_
  refine r_iload_n hX dX9_in_1 rfl ?_
  refine r_icmp_lt (tgt := 14) hX dX9_in_2 (by decide) (fun g1 => ?_) (fun g1 => ?_)
  · have h := (if_pos g1).symm.trans h
    refine r_iconst (v := (0 : Int32)) hX dX9_in_14 (by decide) ?_
    obtain rfl := Option.some.inj h
    exact r_iret (v := b2i false) hX hT dX9_in_15 (okI_b false).1
  · have h := (if_neg g1).symm.trans h
    refine r_iload_n hX dX9_in_5 rfl ?_
    refine r_iload_n hX dX9_in_6 rfl ?_
    refine r_icmp_gt (tgt := 14) hX dX9_in_7 (by decide) (fun g2 => ?_) (fun g2 => ?_)
    · have h := (if_pos g2).symm.trans h
      refine r_iconst (v := (0 : Int32)) hX dX9_in_14 (by decide) ?_
      obtain rfl := Option.some.inj h
      exact r_iret (v := b2i false) hX hT dX9_in_15 (okI_b false).1
    · have h := (if_neg g2).symm.trans h
      refine r_iconst (v := (1 : Int32)) hX dX9_in_10 (by decide) ?_
      refine r_goto (tgt := 15) hX dX9_in_11 (by decide) ?_
      obtain rfl := Option.some.inj h
      exact r_iret (v := b2i true) hX hT dX9_in_15 (okI_b true).1
def Fm_min (v0 : Int32) (v1 : Int32) (M : Mm) : Option (Int32) :=
  if v1 ≤ v0 then
    some v1
  else
    some v0
set_option maxRecDepth 100000 in
theorem ok_Fm_min {G : Gm} {l : Launch} {d : Nat} (v0 : Int32) (v1 : Int32) (M : Mm) {z : Int32}  (h : Fm_min v0 v1 M = some z) : CK G l (d + 0) md_Fm_min [.int v0, .int v1] M SS (some (.int z)) M SS := by
  refine ck_of mk_Fm_min (Nat.le_of_ble_eq_true rfl) ⟨Nat.le_refl _, Nat.le_refl _⟩ (fun X hX hT hS hr hl => ?_)
  subst hl
  unfold Fm_min at h
  show WR G X (mQ G X (some (.int z)) M SS) 0 [.int v0, .int v1] [] M SS
  refine r_iload_n hX dX9_min_0 rfl ?_
  refine r_iload_n hX dX9_min_1 rfl ?_
  refine r_icmp_ge (tgt := 9) hX dX9_min_2 (by decide) (fun g1 => ?_) (fun g1 => ?_)
  · have h := (if_pos g1).symm.trans h
    refine r_iload_n hX dX9_min_9 rfl ?_
    obtain rfl := Option.some.inj h
    exact r_iret hX hT dX9_min_10 rfl
  · have h := (if_neg g1).symm.trans h
    refine r_iload_n hX dX9_min_5 rfl ?_
    refine r_goto (tgt := 10) hX dX9_min_6 (by decide) ?_
    obtain rfl := Option.some.inj h
    exact r_iret hX hT dX9_min_10 rfl
def Fm_max (v0 : Int32) (v1 : Int32) (M : Mm) : Option (Int32) :=
  if v0 ≤ v1 then
    some v1
  else
    some v0
set_option maxRecDepth 100000 in
theorem ok_Fm_max {G : Gm} {l : Launch} {d : Nat} (v0 : Int32) (v1 : Int32) (M : Mm) {z : Int32}  (h : Fm_max v0 v1 M = some z) : CK G l (d + 0) md_Fm_max [.int v0, .int v1] M SS (some (.int z)) M SS := by
  refine ck_of mk_Fm_max (Nat.le_of_ble_eq_true rfl) ⟨Nat.le_refl _, Nat.le_refl _⟩ (fun X hX hT hS hr hl => ?_)
  subst hl
  unfold Fm_max at h
  show WR G X (mQ G X (some (.int z)) M SS) 0 [.int v0, .int v1] [] M SS
  refine r_iload_n hX dX9_max_0 rfl ?_
  refine r_iload_n hX dX9_max_1 rfl ?_
  refine r_icmp_le (tgt := 9) hX dX9_max_2 (by decide) (fun g1 => ?_) (fun g1 => ?_)
  · have h := (if_pos g1).symm.trans h
    refine r_iload_n hX dX9_max_9 rfl ?_
    obtain rfl := Option.some.inj h
    exact r_iret hX hT dX9_max_10 rfl
  · have h := (if_neg g1).symm.trans h
    refine r_iload_n hX dX9_max_5 rfl ?_
    refine r_goto (tgt := 10) hX dX9_max_6 (by decide) ?_
    obtain rfl := Option.some.inj h
    exact r_iret hX hT dX9_max_10 rfl
def Fm_has (v0 : Int32) (v1 : Int32) (M : Mm) : Option (Bool) :=
  if ((v0 >>> (v1 &&& 31)) &&& (1 : Int32)) = (1 : Int32) then
    some true
  else
    some false
set_option maxRecDepth 100000 in
theorem ok_Fm_has {G : Gm} {l : Launch} {d : Nat} (v0 : Int32) (v1 : Int32) (M : Mm) {z : Bool}  (h : Fm_has v0 v1 M = some z) : CK G l (d + 0) md_Fm_has [.int v0, .int v1] M SS (some (.int (b2i z))) M SS := by
  refine ck_of mk_Fm_has (Nat.le_of_ble_eq_true rfl) ⟨Nat.le_refl _, Nat.le_refl _⟩ (fun X hX hT hS hr hl => ?_)
  subst hl
  unfold Fm_has at h
  show WR G X (mQ G X (some (.int (b2i z))) M SS) 0 [.int v0, .int v1] [] M SS
  refine r_iload_n hX dX9_has_0 rfl ?_
  refine r_iload_n hX dX9_has_1 rfl ?_
  refine r_ishr hX dX9_has_2 ?_
  refine r_iconst (v := (1 : Int32)) hX dX9_has_3 (by decide) ?_
  refine r_iand hX dX9_has_4 ?_
  refine r_iconst (v := (1 : Int32)) hX dX9_has_5 (by decide) ?_
  refine r_icmp_ne (tgt := 13) hX dX9_has_6 (by decide) (fun g1 => ?_) (fun g1 => ?_)
  · have h := (if_neg g1).symm.trans h
    refine r_iconst (v := (0 : Int32)) hX dX9_has_13 (by decide) ?_
    obtain rfl := Option.some.inj h
    exact r_iret (v := b2i false) hX hT dX9_has_14 (okI_b false).1
  · have h := (if_pos g1).symm.trans h
    refine r_iconst (v := (1 : Int32)) hX dX9_has_9 (by decide) ?_
    refine r_goto (tgt := 14) hX dX9_has_10 (by decide) ?_
    obtain rfl := Option.some.inj h
    exact r_iret (v := b2i true) hX hT dX9_has_14 (okI_b true).1
def Fm_sizeOf_b4 (v1 : Int32) (v2 : Int32) : Option ((Int32 × Int32) ⊕ (Int32)) :=
  if v2 = (0 : Int32) then
    some (.inr v1)
  else
    some (.inl (v1 + (1 : Int32), v2 &&& (v2 - (1 : Int32))))
def Fm_sizeOf (n : Nat) (v0 : Int32) (M : Mm) : Option (Int32) :=
  bnd (loop (fun s1 : Int32 × Int32 => Fm_sizeOf_b4 s1.1 s1.2) n ((0 : Int32), v0)) (fun y2 =>
  some y2)
set_option maxRecDepth 100000 in
theorem ok_Fm_sizeOf_b4 (n : Nat) (v1 : Int32) (v2 : Int32)  {Mc : Mm} {z : Int32} {oo : (Int32 × Int32) ⊕ (Int32)} {G : Gm} {X : Cx} {d : Nat}  (hX : XK G X 9 cX9_sizeOf 3 (d + 0)) (hT : XT X (some .int) "sizeOf") (hr : XR X SS) (hc : ∀ s1 : Int32 × Int32, oo = .inl s1 → WR G X (mQ G X (some (.int z)) Mc SS) 4 [vU, .int s1.1, .int s1.2] [] Mc SS) (hx : ∀ x1 : Int32, oo = .inr x1 → WR G X (mQ G X (some (.int z)) Mc SS) 21 [vU, .int x1, vU] [] Mc SS) (h : Fm_sizeOf_b4 v1 v2 = some oo) : WR G X (mQ G X (some (.int z)) Mc SS) 4 [vU, .int v1, .int v2] [] Mc SS := by
  unfold Fm_sizeOf_b4 at h
  refine r_iload_n hX dX9_sizeOf_4 rfl ?_
  refine r_if_eq (tgt := 21) hX dX9_sizeOf_5 (by decide) (fun g1 => ?_) (fun g1 => ?_)
  · have h := (if_pos g1).symm.trans h
    refine WR.fg (L' := [vU, .int v1, vU]) ⟨Or.inl rfl, Or.inr rfl, Or.inl rfl, trivial⟩ ?_
    exact hx _ (Option.some.inj h).symm
  · have h := (if_neg g1).symm.trans h
    refine r_iload_n hX dX9_sizeOf_8 rfl ?_
    refine r_iconst (v := (1 : Int32)) hX dX9_sizeOf_9 (by decide) ?_
    refine r_iadd hX dX9_sizeOf_10 ?_
    refine r_istore_n (L1 := [vU, .int (v1 + (1 : Int32)), .int v2]) hX dX9_sizeOf_11 (Nat.le_of_ble_eq_true rfl) rfl ?_
    refine r_iload_n hX dX9_sizeOf_12 rfl ?_
    refine r_iload_n hX dX9_sizeOf_13 rfl ?_
    refine r_iconst (v := (1 : Int32)) hX dX9_sizeOf_14 (by decide) ?_
    refine r_isub hX dX9_sizeOf_15 ?_
    refine r_iand hX dX9_sizeOf_16 ?_
    refine r_istore_n (L1 := [vU, .int (v1 + (1 : Int32)), .int (v2 &&& (v2 - (1 : Int32)))]) hX dX9_sizeOf_17 (Nat.le_of_ble_eq_true rfl) rfl ?_
    refine r_goto (tgt := 4) hX dX9_sizeOf_18 (by decide) ?_
    exact hc (v1 + (1 : Int32), v2 &&& (v2 - (1 : Int32))) (Option.some.inj h).symm
set_option maxRecDepth 100000 in
theorem ok_Fm_sizeOf {G : Gm} {l : Launch} {d : Nat} (n : Nat) (v0 : Int32) (M : Mm) {z : Int32}  (h : Fm_sizeOf n v0 M = some z) : CK G l (d + 0) md_Fm_sizeOf [.int v0] M SS (some (.int z)) M SS := by
  refine ck_of mk_Fm_sizeOf (Nat.le_of_ble_eq_true rfl) ⟨Nat.le_refl _, Nat.le_refl _⟩ (fun X hX hT hS hr hl => ?_)
  subst hl
  unfold Fm_sizeOf at h
  show WR G X (mQ G X (some (.int z)) M SS) 0 [.int v0, vU, vU] [] M SS
  refine r_iconst (v := (0 : Int32)) hX dX9_sizeOf_0 (by decide) ?_
  refine r_istore_n (L1 := [.int v0, .int (0 : Int32), vU]) hX dX9_sizeOf_1 (Nat.le_of_ble_eq_true rfl) rfl ?_
  refine r_iload_n hX dX9_sizeOf_2 rfl ?_
  refine r_istore_n (L1 := [.int v0, .int (0 : Int32), .int v0]) hX dX9_sizeOf_3 (Nat.le_of_ble_eq_true rfl) rfl ?_
  refine WR.fg (L' := [vU, .int (0 : Int32), .int v0]) ⟨Or.inl rfl, Or.inr rfl, Or.inr rfl, trivial⟩ ?_
  obtain ⟨y2, h1, h⟩ := bnd_s h
  refine loop_ok (P := fun s1 : Int32 × Int32 => WR G X (mQ G X (some (.int z)) M SS) 4 [vU, .int s1.1, .int s1.2] [] M SS) (E := fun x1 : Int32 => WR G X (mQ G X (some (.int z)) M SS) 21 [vU, .int x1, vU] [] M SS) (fun s1 o1 g1 g2 g3 => ok_Fm_sizeOf_b4 n s1.1 s1.2  hX hT hr g2 g3 g1) n ((0 : Int32), v0) y2 h1 ?_
  show WR G X (mQ G X (some (.int z)) M SS) 21 [vU, .int y2, vU] [] M SS
  refine r_iload_n hX dX9_sizeOf_21 rfl ?_
  obtain rfl := Option.some.inj h
  exact r_iret hX hT dX9_sizeOf_22 rfl
def Fm_copies_b2 (c1 : Int32) (c2 : Int32) (v3 : Int32) (M : Mm) : Option ((Int32 × Mm) ⊕ (Mm)) :=
  if (3064 : Int32) ≤ v3 then
    some (.inr M)
  else
    grd (inb (((3064 : Int32) * c1) + v3) 12256) (
    grd (inb (((3064 : Int32) * c2) + v3) 12256) (
    some (.inl (v3 + (1 : Int32), ((up2 M.1 95 (tn (((3064 : Int32) * c2) + v3)) (M.1 95 (tn (((3064 : Int32) * c1) + v3)))), M.2)))))
def Fm_copies (n : Nat) (v1 : Int32) (v2 : Int32) (M : Mm) : Option (Mm) :=
  bnd (loop (fun s1 : Int32 × Mm => Fm_copies_b2 v1 v2 s1.1 s1.2) n ((0 : Int32), M)) (fun y4 =>
  some y4)
set_option maxRecDepth 100000 in
theorem ok_Fm_copies_b2 (n : Nat) (v3 : Int32) (M : Mm) {c1 : Int32} {c2 : Int32} {z : Mm} {oo : (Int32 × Mm) ⊕ (Mm)} {G : Gm} {X : Cx} {d : Nat}  (hX : XK G X 9 cX9_copies 4 (d + 0)) (hT : XT X (none) "copies") (hr : XR X SS) (hc : ∀ s1 : Int32 × Mm, oo = .inl s1 → WR G X (mQ G X (none) z SS) 2 [.ref 94, .int c1, .int c2, .int s1.1] [] s1.2 SS) (hx : ∀ x1 : Mm, oo = .inr x1 → WR G X (mQ G X (none) z SS) 39 [.ref 94, vU, vU, vU] [] x1 SS) (h : Fm_copies_b2 c1 c2 v3 M = some oo) : WR G X (mQ G X (none) z SS) 2 [.ref 94, .int c1, .int c2, .int v3] [] M SS := by
  unfold Fm_copies_b2 at h
  refine r_iload_n hX dX9_copies_2 rfl ?_
  refine r_sipush (v := (3064 : Int32)) hX dX9_copies_3 (by decide) ?_
  refine r_icmp_ge (tgt := 39) hX dX9_copies_6 (by decide) (fun g1 => ?_) (fun g1 => ?_)
  · have h := (if_pos g1).symm.trans h
    refine WR.fg (L' := [.ref 94, vU, vU, vU]) ⟨Or.inr rfl, Or.inl rfl, Or.inl rfl, Or.inl rfl, trivial⟩ ?_
    exact hx _ (Option.some.inj h).symm
  · have h := (if_neg g1).symm.trans h
    refine r_aload_n hX dX9_copies_9 rfl ?_
    refine r_getf (v := .ref 95) hX dX9_copies_10 fl_9_7 rfl (by decide) (by decide) rfl ?_
    refine r_sipush (v := (3064 : Int32)) hX dX9_copies_13 (by decide) ?_
    refine r_iload_n hX dX9_copies_16 rfl ?_
    refine r_imul hX dX9_copies_17 ?_
    refine r_iload_n hX dX9_copies_18 rfl ?_
    refine r_iadd hX dX9_copies_19 ?_
    refine r_aload_n hX dX9_copies_20 rfl ?_
    refine r_getf (v := .ref 95) hX dX9_copies_21 fl_9_7 rfl (by decide) (by decide) rfl ?_
    refine r_sipush (v := (3064 : Int32)) hX dX9_copies_24 (by decide) ?_
    refine r_iload_n hX dX9_copies_27 rfl ?_
    refine r_imul hX dX9_copies_28 ?_
    refine r_iload_n hX dX9_copies_29 rfl ?_
    refine r_iadd hX dX9_copies_30 ?_
    obtain ⟨k2, h⟩ := grd_s h
    refine r_iald hX dX9_copies_31 rfl (by decide) (inb_at rfl k2) ?_
    obtain ⟨k3, h⟩ := grd_s h
    refine r_iast hX dX9_copies_32 rfl (by decide) (inb_at rfl k3) ?_
    refine r_iinc (v := v3 + (1 : Int32)) (L1 := [.ref 94, .int c1, .int c2, .int (v3 + (1 : Int32))]) hX dX9_copies_33 rfl rfl rfl ?_
    refine r_goto (tgt := 2) hX dX9_copies_36 (by decide) ?_
    exact hc (v3 + (1 : Int32), ((up2 M.1 95 (tn (((3064 : Int32) * c2) + v3)) (M.1 95 (tn (((3064 : Int32) * c1) + v3)))), M.2)) (Option.some.inj h).symm
set_option maxRecDepth 100000 in
theorem ok_Fm_copies {G : Gm} {l : Launch} {d : Nat} (n : Nat) (v1 : Int32) (v2 : Int32) (M : Mm) {z : Mm}  (h : Fm_copies n v1 v2 M = some z) : CK G l (d + 0) md_Fm_copies [.ref 94, .int v1, .int v2] M SS (none) z SS := by
  refine ck_of mk_Fm_copies (Nat.le_of_ble_eq_true rfl) ⟨Nat.le_refl _, Nat.le_refl _⟩ (fun X hX hT hS hr hl => ?_)
  subst hl
  unfold Fm_copies at h
  show WR G X (mQ G X (none) z SS) 0 [.ref 94, .int v1, .int v2, vU] [] M SS
  refine r_iconst (v := (0 : Int32)) hX dX9_copies_0 (by decide) ?_
  refine r_istore_n (L1 := [.ref 94, .int v1, .int v2, .int (0 : Int32)]) hX dX9_copies_1 (Nat.le_of_ble_eq_true rfl) rfl ?_
  obtain ⟨y4, h1, h⟩ := bnd_s h
  refine loop_ok (P := fun s1 : Int32 × Mm => WR G X (mQ G X (none) z SS) 2 [.ref 94, .int v1, .int v2, .int s1.1] [] s1.2 SS) (E := fun x1 : Mm => WR G X (mQ G X (none) z SS) 39 [.ref 94, vU, vU, vU] [] x1 SS) (fun s1 o1 g1 g2 g3 => ok_Fm_copies_b2 n s1.1 s1.2  hX hT hr g2 g3 g1) n ((0 : Int32), M) y4 h1 ?_
  show WR G X (mQ G X (none) z SS) 39 [.ref 94, vU, vU, vU] [] y4 SS
  obtain rfl := Option.some.inj h
  exact r_vret hX hT dX9_copies_39
def Fm_of (v1 : Int32) (v2 : Int32) (M : Mm) : Option (Int32) :=
  grd (inb (((64 : Int32) + ((10 : Int32) * v1)) + v2) 12256) (
  some (M.1 95 (tn (((64 : Int32) + ((10 : Int32) * v1)) + v2))))
set_option maxRecDepth 100000 in
theorem ok_Fm_of {G : Gm} {l : Launch} {d : Nat} (v1 : Int32) (v2 : Int32) (M : Mm) {z : Int32}  (h : Fm_of v1 v2 M = some z) : CK G l (d + 0) md_Fm_of [.ref 94, .int v1, .int v2] M SS (some (.int z)) M SS := by
  refine ck_of mk_Fm_of (Nat.le_of_ble_eq_true rfl) ⟨Nat.le_refl _, Nat.le_refl _⟩ (fun X hX hT hS hr hl => ?_)
  subst hl
  unfold Fm_of at h
  show WR G X (mQ G X (some (.int z)) M SS) 0 [.ref 94, .int v1, .int v2] [] M SS
  refine r_aload_n hX dX9_of_0 rfl ?_
  refine r_getf (v := .ref 95) hX dX9_of_1 fl_9_7 rfl (by decide) (by decide) rfl ?_
  refine r_bipush (v := (64 : Int32)) hX dX9_of_4 (by decide) ?_
  refine r_bipush (v := (10 : Int32)) hX dX9_of_6 (by decide) ?_
  refine r_iload_n hX dX9_of_8 rfl ?_
  refine r_imul hX dX9_of_9 ?_
  refine r_iadd hX dX9_of_10 ?_
  refine r_iload_n hX dX9_of_11 rfl ?_
  refine r_iadd hX dX9_of_12 ?_
  obtain ⟨k1, h⟩ := grd_s h
  refine r_iald hX dX9_of_13 rfl (by decide) (inb_at rfl k1) ?_
  obtain rfl := Option.some.inj h
  exact r_iret hX hT dX9_of_14 rfl
def Fm_sets (v1 : Int32) (v2 : Int32) (v3 : Int32) (M : Mm) : Option (Mm) :=
  grd (inb (((64 : Int32) + ((10 : Int32) * v1)) + v2) 12256) (
  some ((up2 M.1 95 (tn (((64 : Int32) + ((10 : Int32) * v1)) + v2)) v3), M.2))
set_option maxRecDepth 100000 in
theorem ok_Fm_sets {G : Gm} {l : Launch} {d : Nat} (v1 : Int32) (v2 : Int32) (v3 : Int32) (M : Mm) {z : Mm}  (h : Fm_sets v1 v2 v3 M = some z) : CK G l (d + 0) md_Fm_sets [.ref 94, .int v1, .int v2, .int v3] M SS (none) z SS := by
  refine ck_of mk_Fm_sets (Nat.le_of_ble_eq_true rfl) ⟨Nat.le_refl _, Nat.le_refl _⟩ (fun X hX hT hS hr hl => ?_)
  subst hl
  unfold Fm_sets at h
  show WR G X (mQ G X (none) z SS) 0 [.ref 94, .int v1, .int v2, .int v3] [] M SS
  refine r_aload_n hX dX9_sets_0 rfl ?_
  refine r_getf (v := .ref 95) hX dX9_sets_1 fl_9_7 rfl (by decide) (by decide) rfl ?_
  refine r_bipush (v := (64 : Int32)) hX dX9_sets_4 (by decide) ?_
  refine r_bipush (v := (10 : Int32)) hX dX9_sets_6 (by decide) ?_
  refine r_iload_n hX dX9_sets_8 rfl ?_
  refine r_imul hX dX9_sets_9 ?_
  refine r_iadd hX dX9_sets_10 ?_
  refine r_iload_n hX dX9_sets_11 rfl ?_
  refine r_iadd hX dX9_sets_12 ?_
  refine r_iload_n hX dX9_sets_13 rfl ?_
  obtain ⟨k1, h⟩ := grd_s h
  refine r_iast hX dX9_sets_14 rfl (by decide) (inb_at rfl k1) ?_
  obtain rfl := Option.some.inj h
  exact r_vret hX hT dX9_sets_15
def Fm_isLit (v1 : Int32) (M : Mm) : Option (Bool) :=
  bnd (Fm_of v1 (3 : Int32) M) (fun z1 =>
  if z1 = (0 : Int32) then
    some true
  else
    some false)
set_option maxRecDepth 100000 in
theorem ok_Fm_isLit {G : Gm} {l : Launch} {d : Nat} (v1 : Int32) (M : Mm) {z : Bool}  (h : Fm_isLit v1 M = some z) : CK G l (d + 1) md_Fm_isLit [.ref 94, .int v1] M SS (some (.int (b2i z))) M SS := by
  refine ck_of mk_Fm_isLit (Nat.le_of_ble_eq_true rfl) ⟨Nat.le_refl _, Nat.le_refl _⟩ (fun X hX hT hS hr hl => ?_)
  subst hl
  unfold Fm_isLit at h
  show WR G X (mQ G X (some (.int (b2i z))) M SS) 0 [.ref 94, .int v1] [] M SS
  refine r_aload_n hX dX9_isLit_0 rfl ?_
  refine r_iload_n hX dX9_isLit_1 rfl ?_
  refine r_iconst (v := (3 : Int32)) hX dX9_isLit_2 (by decide) ?_
  obtain ⟨z1, p2, h⟩ := bnd_s h
  refine r_callV (As := [.int v1, .int (3 : Int32)]) hX dX9_isLit_3 mk_Fm_of mi_Fm_of ml_9_79 rfl rfl rfl rfl (by decide) (by decide) (Nat.le_of_ble_eq_true rfl) hr (ok_Fm_of (d := d + 0) v1 (3 : Int32) M p2) ?_
  refine r_if_ne (tgt := 13) hX dX9_isLit_6 (by decide) (fun g3 => ?_) (fun g3 => ?_)
  · have h := (if_neg g3).symm.trans h
    refine r_iconst (v := (0 : Int32)) hX dX9_isLit_13 (by decide) ?_
    obtain rfl := Option.some.inj h
    exact r_iret (v := b2i false) hX hT dX9_isLit_14 (okI_b false).1
  · have h := (if_pos g3).symm.trans h
    refine r_iconst (v := (1 : Int32)) hX dX9_isLit_9 (by decide) ?_
    refine r_goto (tgt := 14) hX dX9_isLit_10 (by decide) ?_
    obtain rfl := Option.some.inj h
    exact r_iret (v := b2i true) hX hT dX9_isLit_14 (okI_b true).1
def Fm_isDemand (v1 : Int32) (M : Mm) : Option (Bool) :=
  grd (inb (7 : Int32) 12256) (
  bnd (Fm_in v1 (0 : Int32) ((M.1 95 (tn (7 : Int32))) - (1 : Int32)) M) (fun z2 =>
  some z2))
set_option maxRecDepth 100000 in
theorem ok_Fm_isDemand {G : Gm} {l : Launch} {d : Nat} (v1 : Int32) (M : Mm) {z : Bool}  (h : Fm_isDemand v1 M = some z) : CK G l (d + 1) md_Fm_isDemand [.ref 94, .int v1] M SS (some (.int (b2i z))) M SS := by
  refine ck_of mk_Fm_isDemand (Nat.le_of_ble_eq_true rfl) ⟨Nat.le_refl _, Nat.le_refl _⟩ (fun X hX hT hS hr hl => ?_)
  subst hl
  unfold Fm_isDemand at h
  show WR G X (mQ G X (some (.int (b2i z))) M SS) 0 [.ref 94, .int v1] [] M SS
  refine r_iload_n hX dX9_isDemand_0 rfl ?_
  refine r_iconst (v := (0 : Int32)) hX dX9_isDemand_1 (by decide) ?_
  refine r_aload_n hX dX9_isDemand_2 rfl ?_
  refine r_getf (v := .ref 95) hX dX9_isDemand_3 fl_9_7 rfl (by decide) (by decide) rfl ?_
  refine r_bipush (v := (7 : Int32)) hX dX9_isDemand_6 (by decide) ?_
  obtain ⟨k1, h⟩ := grd_s h
  refine r_iald hX dX9_isDemand_8 rfl (by decide) (inb_at rfl k1) ?_
  refine r_iconst (v := (1 : Int32)) hX dX9_isDemand_9 (by decide) ?_
  refine r_isub hX dX9_isDemand_10 ?_
  obtain ⟨z2, p3, h⟩ := bnd_s h
  refine r_callS (As := [.int v1, .int (0 : Int32), .int ((M.1 95 (tn (7 : Int32))) - (1 : Int32))]) hX dX9_isDemand_11 mk_Fm_in ms_Fm_in ml_9_83 rfl rfl rfl (Nat.le_of_ble_eq_true rfl) hr (ok_Fm_in (d := d + 0) v1 (0 : Int32) ((M.1 95 (tn (7 : Int32))) - (1 : Int32)) M p3) ?_
  obtain rfl := Option.some.inj h
  exact r_iret hX hT dX9_isDemand_14 (okI_b _).1
def Fm_isRule (v0 : Int32) (M : Mm) : Option (Bool) :=
  bnd (Fm_in v0 (0 : Int32) (3 : Int32) M) (fun z1 =>
  some z1)
set_option maxRecDepth 100000 in
theorem ok_Fm_isRule {G : Gm} {l : Launch} {d : Nat} (v0 : Int32) (M : Mm) {z : Bool}  (h : Fm_isRule v0 M = some z) : CK G l (d + 1) md_Fm_isRule [.int v0] M SS (some (.int (b2i z))) M SS := by
  refine ck_of mk_Fm_isRule (Nat.le_of_ble_eq_true rfl) ⟨Nat.le_refl _, Nat.le_refl _⟩ (fun X hX hT hS hr hl => ?_)
  subst hl
  unfold Fm_isRule at h
  show WR G X (mQ G X (some (.int (b2i z))) M SS) 0 [.int v0] [] M SS
  refine r_iload_n hX dX9_isRule_0 rfl ?_
  refine r_iconst (v := (0 : Int32)) hX dX9_isRule_1 (by decide) ?_
  refine r_iconst (v := (3 : Int32)) hX dX9_isRule_2 (by decide) ?_
  obtain ⟨z1, p2, h⟩ := bnd_s h
  refine r_callS (As := [.int v0, .int (0 : Int32), .int (3 : Int32)]) hX dX9_isRule_3 mk_Fm_in ms_Fm_in ml_9_83 rfl rfl rfl (Nat.le_of_ble_eq_true rfl) hr (ok_Fm_in (d := d + 0) v0 (0 : Int32) (3 : Int32) M p2) ?_
  obtain rfl := Option.some.inj h
  exact r_iret hX hT dX9_isRule_6 (okI_b _).1
def Fm_types_b2 (c1 : Int32) (v2 : Int32) (M : Mm) : Option ((Int32 × Mm) ⊕ (Mm)) :=
  if v2 < (0 : Int32) then
    some (.inr M)
  else
    grd (inb (M.1 94 4) 240) (
    some (.inl (v2 + (-1 : Int32), ((up2 (up2 M.1 97 (tn (M.1 94 4)) (vp_nar .byte ((c1 >>> (((8 : Int32) * v2) &&& 31)).toInt8.toInt32))) 94 4 (((up2 M.1 97 (tn (M.1 94 4)) (vp_nar .byte ((c1 >>> (((8 : Int32) * v2) &&& 31)).toInt8.toInt32))) 94 4) + (1 : Int32))), M.2))))
def Fm_types (n : Nat) (v1 : Int32) (M : Mm) : Option (Mm) :=
  bnd (loop (fun s1 : Int32 × Mm => Fm_types_b2 v1 s1.1 s1.2) n ((3 : Int32), M)) (fun y3 =>
  some y3)
set_option maxRecDepth 100000 in
theorem ok_Fm_types_b2 (n : Nat) (v2 : Int32) (M : Mm) {c1 : Int32} {z : Mm} {oo : (Int32 × Mm) ⊕ (Mm)} {G : Gm} {X : Cx} {d : Nat}  (hX : XK G X 9 cX9_types 3 (d + 0)) (hT : XT X (none) "types") (hr : XR X SS) (hc : ∀ s1 : Int32 × Mm, oo = .inl s1 → WR G X (mQ G X (none) z SS) 2 [.ref 94, .int c1, .int s1.1] [] s1.2 SS) (hx : ∀ x1 : Mm, oo = .inr x1 → WR G X (mQ G X (none) z SS) 38 [.ref 94, vU, vU] [] x1 SS) (h : Fm_types_b2 c1 v2 M = some oo) : WR G X (mQ G X (none) z SS) 2 [.ref 94, .int c1, .int v2] [] M SS := by
  unfold Fm_types_b2 at h
  refine r_iload_n hX dX9_types_2 rfl ?_
  refine r_if_lt (tgt := 38) hX dX9_types_3 (by decide) (fun g1 => ?_) (fun g1 => ?_)
  · have h := (if_pos g1).symm.trans h
    refine WR.fg (L' := [.ref 94, vU, vU]) ⟨Or.inr rfl, Or.inl rfl, Or.inl rfl, trivial⟩ ?_
    exact hx _ (Option.some.inj h).symm
  · have h := (if_neg g1).symm.trans h
    refine r_aload_n hX dX9_types_6 rfl ?_
    refine r_getf (v := .ref 97) hX dX9_types_7 fl_9_16 rfl (by decide) (by decide) rfl ?_
    refine r_aload_n hX dX9_types_10 rfl ?_
    refine r_getf (v := .int (M.1 94 4)) hX dX9_types_11 fl_9_87 rfl (by decide) (by decide) rfl ?_
    refine r_iload_n hX dX9_types_14 rfl ?_
    refine r_bipush (v := (8 : Int32)) hX dX9_types_15 (by decide) ?_
    refine r_iload_n hX dX9_types_17 rfl ?_
    refine r_imul hX dX9_types_18 ?_
    refine r_ishr hX dX9_types_19 ?_
    refine r_i2b hX dX9_types_20 ?_
    obtain ⟨k2, h⟩ := grd_s h
    refine r_bast hX dX9_types_21 rfl (by decide) (inb_at rfl k2) ?_
    refine r_aload_n hX dX9_types_22 rfl ?_
    refine r_aload_n hX dX9_types_23 rfl ?_
    refine r_getf (v := .int ((up2 M.1 97 (tn (M.1 94 4)) (vp_nar .byte ((c1 >>> (((8 : Int32) * v2) &&& 31)).toInt8.toInt32))) 94 4)) hX dX9_types_24 fl_9_87 rfl (by decide) (by decide) rfl ?_
    refine r_iconst (v := (1 : Int32)) hX dX9_types_27 (by decide) ?_
    refine r_iadd hX dX9_types_28 ?_
    refine r_putI' hX dX9_types_29 fl_9_87 rfl (by decide) (by decide) (okI_int _) ?_
    refine r_iinc (v := v2 + (-1 : Int32)) (L1 := [.ref 94, .int c1, .int (v2 + (-1 : Int32))]) hX dX9_types_32 rfl rfl rfl ?_
    refine r_goto (tgt := 2) hX dX9_types_35 (by decide) ?_
    exact hc (v2 + (-1 : Int32), ((up2 (up2 M.1 97 (tn (M.1 94 4)) (vp_nar .byte ((c1 >>> (((8 : Int32) * v2) &&& 31)).toInt8.toInt32))) 94 4 (((up2 M.1 97 (tn (M.1 94 4)) (vp_nar .byte ((c1 >>> (((8 : Int32) * v2) &&& 31)).toInt8.toInt32))) 94 4) + (1 : Int32))), M.2)) (Option.some.inj h).symm
set_option maxRecDepth 100000 in
theorem ok_Fm_types {G : Gm} {l : Launch} {d : Nat} (n : Nat) (v1 : Int32) (M : Mm) {z : Mm}  (h : Fm_types n v1 M = some z) : CK G l (d + 0) md_Fm_types [.ref 94, .int v1] M SS (none) z SS := by
  refine ck_of mk_Fm_types (Nat.le_of_ble_eq_true rfl) ⟨Nat.le_refl _, Nat.le_refl _⟩ (fun X hX hT hS hr hl => ?_)
  subst hl
  unfold Fm_types at h
  show WR G X (mQ G X (none) z SS) 0 [.ref 94, .int v1, vU] [] M SS
  refine r_iconst (v := (3 : Int32)) hX dX9_types_0 (by decide) ?_
  refine r_istore_n (L1 := [.ref 94, .int v1, .int (3 : Int32)]) hX dX9_types_1 (Nat.le_of_ble_eq_true rfl) rfl ?_
  obtain ⟨y3, h1, h⟩ := bnd_s h
  refine loop_ok (P := fun s1 : Int32 × Mm => WR G X (mQ G X (none) z SS) 2 [.ref 94, .int v1, .int s1.1] [] s1.2 SS) (E := fun x1 : Mm => WR G X (mQ G X (none) z SS) 38 [.ref 94, vU, vU] [] x1 SS) (fun s1 o1 g1 g2 g3 => ok_Fm_types_b2 n s1.1 s1.2  hX hT hr g2 g3 g1) n ((3 : Int32), M) y3 h1 ?_
  show WR G X (mQ G X (none) z SS) 38 [.ref 94, vU, vU] [] y3 SS
  obtain rfl := Option.some.inj h
  exact r_vret hX hT dX9_types_38
def Fm_feed (n : Nat) (v1 : Int32) (v2 : Int32) (v3 : Int32) (v4 : Int32) (v5 : Int32) (M : Mm) : Option (Int32 × Mm) :=
  if ((M.1 94 4) + (20 : Int32)) ≤ (240 : Int32) then
    bnd (Fm_types n v1 M) (fun z2 =>
    bnd (Fm_types n v2 z2) (fun z4 =>
    bnd (Fm_types n v3 z4) (fun z6 =>
    bnd (Fm_types n v4 z6) (fun z8 =>
    bnd (Fm_types n v5 z8) (fun z10 =>
    some (z10.1 94 4, z10))))))
  else
    some ((-1 : Int32), M)
set_option maxRecDepth 100000 in
theorem ok_Fm_feed {G : Gm} {l : Launch} {d : Nat} (n : Nat) (v1 : Int32) (v2 : Int32) (v3 : Int32) (v4 : Int32) (v5 : Int32) (M : Mm) {z : Int32 × Mm}  (h : Fm_feed n v1 v2 v3 v4 v5 M = some z) : CK G l (d + 1) md_Fm_feed [.ref 94, .int v1, .int v2, .int v3, .int v4, .int v5] M SS (some (.int z.1)) z.2 SS := by
  refine ck_of mk_Fm_feed (Nat.le_of_ble_eq_true rfl) ⟨Nat.le_refl _, Nat.le_refl _⟩ (fun X hX hT hS hr hl => ?_)
  subst hl
  unfold Fm_feed at h
  show WR G X (mQ G X (some (.int z.1)) z.2 SS) 0 [.ref 94, .int v1, .int v2, .int v3, .int v4, .int v5] [] M SS
  refine r_aload_n hX dX9_feed_0 rfl ?_
  refine r_getf (v := .int (M.1 94 4)) hX dX9_feed_1 fl_9_87 rfl (by decide) (by decide) rfl ?_
  refine r_bipush (v := (20 : Int32)) hX dX9_feed_4 (by decide) ?_
  refine r_iadd hX dX9_feed_6 ?_
  refine r_sipush (v := (240 : Int32)) hX dX9_feed_7 (by decide) ?_
  refine r_icmp_le (tgt := 15) hX dX9_feed_10 (by decide) (fun g1 => ?_) (fun g1 => ?_)
  · have h := (if_pos g1).symm.trans h
    refine r_aload_n hX dX9_feed_15 rfl ?_
    refine r_iload_n hX dX9_feed_16 rfl ?_
    obtain ⟨z2, p3, h⟩ := bnd_s h
    refine r_callV (As := [.int v1]) hX dX9_feed_17 mk_Fm_types mi_Fm_types ml_9_91 rfl rfl rfl rfl (by decide) (by decide) (Nat.le_of_ble_eq_true rfl) hr (ok_Fm_types (d := d + 0) n v1 M p3) ?_
    refine r_aload_n hX dX9_feed_20 rfl ?_
    refine r_iload_n hX dX9_feed_21 rfl ?_
    obtain ⟨z4, p5, h⟩ := bnd_s h
    refine r_callV (As := [.int v2]) hX dX9_feed_22 mk_Fm_types mi_Fm_types ml_9_91 rfl rfl rfl rfl (by decide) (by decide) (Nat.le_of_ble_eq_true rfl) hr (ok_Fm_types (d := d + 0) n v2 z2 p5) ?_
    refine r_aload_n hX dX9_feed_25 rfl ?_
    refine r_iload_n hX dX9_feed_26 rfl ?_
    obtain ⟨z6, p7, h⟩ := bnd_s h
    refine r_callV (As := [.int v3]) hX dX9_feed_27 mk_Fm_types mi_Fm_types ml_9_91 rfl rfl rfl rfl (by decide) (by decide) (Nat.le_of_ble_eq_true rfl) hr (ok_Fm_types (d := d + 0) n v3 z4 p7) ?_
    refine r_aload_n hX dX9_feed_30 rfl ?_
    refine r_iload hX dX9_feed_31 rfl ?_
    obtain ⟨z8, p9, h⟩ := bnd_s h
    refine r_callV (As := [.int v4]) hX dX9_feed_33 mk_Fm_types mi_Fm_types ml_9_91 rfl rfl rfl rfl (by decide) (by decide) (Nat.le_of_ble_eq_true rfl) hr (ok_Fm_types (d := d + 0) n v4 z6 p9) ?_
    refine r_aload_n hX dX9_feed_36 rfl ?_
    refine r_iload hX dX9_feed_37 rfl ?_
    obtain ⟨z10, p11, h⟩ := bnd_s h
    refine r_callV (As := [.int v5]) hX dX9_feed_39 mk_Fm_types mi_Fm_types ml_9_91 rfl rfl rfl rfl (by decide) (by decide) (Nat.le_of_ble_eq_true rfl) hr (ok_Fm_types (d := d + 0) n v5 z8 p11) ?_
    refine r_aload_n hX dX9_feed_42 rfl ?_
    refine r_getf (v := .int (z10.1 94 4)) hX dX9_feed_43 fl_9_87 rfl (by decide) (by decide) rfl ?_
    obtain rfl := Option.some.inj h
    exact r_iret hX hT dX9_feed_46 rfl
  · have h := (if_neg g1).symm.trans h
    refine r_iconst (v := (-1 : Int32)) hX dX9_feed_13 (by decide) ?_
    obtain rfl := Option.some.inj h
    exact r_iret hX hT dX9_feed_14 rfl
def Fm_here (M : Mm) : Option (Int32) :=
  if (M.1 94 6) ≤ (M.1 94 5) then
    some (-1 : Int32)
  else
    grd (inb (M.1 94 5) 240) (
    some ((M.1 97 (tn (M.1 94 5))) &&& (255 : Int32)))
set_option maxRecDepth 100000 in
theorem ok_Fm_here {G : Gm} {l : Launch} {d : Nat} (M : Mm) {z : Int32}  (h : Fm_here M = some z) : CK G l (d + 0) md_Fm_here [.ref 94] M SS (some (.int z)) M SS := by
  refine ck_of mk_Fm_here (Nat.le_of_ble_eq_true rfl) ⟨Nat.le_refl _, Nat.le_refl _⟩ (fun X hX hT hS hr hl => ?_)
  subst hl
  unfold Fm_here at h
  show WR G X (mQ G X (some (.int z)) M SS) 0 [.ref 94] [] M SS
  refine r_aload_n hX dX9_here_0 rfl ?_
  refine r_getf (v := .int (M.1 94 5)) hX dX9_here_1 fl_9_95 rfl (by decide) (by decide) rfl ?_
  refine r_aload_n hX dX9_here_4 rfl ?_
  refine r_getf (v := .int (M.1 94 6)) hX dX9_here_5 fl_9_98 rfl (by decide) (by decide) rfl ?_
  refine r_icmp_ge (tgt := 27) hX dX9_here_8 (by decide) (fun g1 => ?_) (fun g1 => ?_)
  · have h := (if_pos g1).symm.trans h
    refine r_iconst (v := (-1 : Int32)) hX dX9_here_27 (by decide) ?_
    obtain rfl := Option.some.inj h
    exact r_iret hX hT dX9_here_28 rfl
  · have h := (if_neg g1).symm.trans h
    refine r_aload_n hX dX9_here_11 rfl ?_
    refine r_getf (v := .ref 97) hX dX9_here_12 fl_9_16 rfl (by decide) (by decide) rfl ?_
    refine r_aload_n hX dX9_here_15 rfl ?_
    refine r_getf (v := .int (M.1 94 5)) hX dX9_here_16 fl_9_95 rfl (by decide) (by decide) rfl ?_
    obtain ⟨k2, h⟩ := grd_s h
    refine r_bald hX dX9_here_19 rfl (by decide) (inb_at rfl k2) ?_
    refine r_sipush (v := (255 : Int32)) hX dX9_here_20 (by decide) ?_
    refine r_iand hX dX9_here_23 ?_
    refine r_goto (tgt := 28) hX dX9_here_24 (by decide) ?_
    obtain rfl := Option.some.inj h
    exact r_iret hX hT dX9_here_28 rfl
def Fm_wrongAt (v1 : Int32) (v2 : Int32) (M : Mm) : Option (Bool × Mm) :=
  some (false, ((up2 M.1 94 7 (((-1000 : Int32) * v1) - v2)), M.2))
set_option maxRecDepth 100000 in
theorem ok_Fm_wrongAt {G : Gm} {l : Launch} {d : Nat} (v1 : Int32) (v2 : Int32) (M : Mm) {z : Bool × Mm}  (h : Fm_wrongAt v1 v2 M = some z) : CK G l (d + 0) md_Fm_wrongAt [.ref 94, .int v1, .int v2] M SS (some (.int (b2i z.1))) z.2 SS := by
  refine ck_of mk_Fm_wrongAt (Nat.le_of_ble_eq_true rfl) ⟨Nat.le_refl _, Nat.le_refl _⟩ (fun X hX hT hS hr hl => ?_)
  subst hl
  unfold Fm_wrongAt at h
  show WR G X (mQ G X (some (.int (b2i z.1))) z.2 SS) 0 [.ref 94, .int v1, .int v2] [] M SS
  refine r_aload_n hX dX9_wrongAt_0 rfl ?_
  refine r_sipush (v := (-1000 : Int32)) hX dX9_wrongAt_1 (by decide) ?_
  refine r_iload_n hX dX9_wrongAt_4 rfl ?_
  refine r_imul hX dX9_wrongAt_5 ?_
  refine r_iload_n hX dX9_wrongAt_6 rfl ?_
  refine r_isub hX dX9_wrongAt_7 ?_
  refine r_putI hX dX9_wrongAt_8 fl_9_101 rfl (by decide) (by decide) (okI_int _) ?_
  refine r_iconst (v := (0 : Int32)) hX dX9_wrongAt_11 (by decide) ?_
  obtain rfl := Option.some.inj h
  exact r_iret (v := b2i false) hX hT dX9_wrongAt_12 (okI_b false).1
def Fm_takesSign (v1 : Int32) (M : Mm) : Option (Bool × Mm) :=
  bnd (Fm_here M) (fun z1 =>
  if z1 = v1 then
    some (true, ((up2 M.1 94 5 ((M.1 94 5) + (1 : Int32))), M.2))
  else
    bnd (Fm_wrongAt (1 : Int32) (M.1 94 5) M) (fun z4 =>
    some (z4.1, z4.2)))
set_option maxRecDepth 100000 in
theorem ok_Fm_takesSign {G : Gm} {l : Launch} {d : Nat} (v1 : Int32) (M : Mm) {z : Bool × Mm}  (h : Fm_takesSign v1 M = some z) : CK G l (d + 1) md_Fm_takesSign [.ref 94, .int v1] M SS (some (.int (b2i z.1))) z.2 SS := by
  refine ck_of mk_Fm_takesSign (Nat.le_of_ble_eq_true rfl) ⟨Nat.le_refl _, Nat.le_refl _⟩ (fun X hX hT hS hr hl => ?_)
  subst hl
  unfold Fm_takesSign at h
  show WR G X (mQ G X (some (.int (b2i z.1))) z.2 SS) 0 [.ref 94, .int v1] [] M SS
  refine r_aload_n hX dX9_takesSign_0 rfl ?_
  obtain ⟨z1, p2, h⟩ := bnd_s h
  refine r_callV (As := []) hX dX9_takesSign_1 mk_Fm_here mi_Fm_here ml_9_104 rfl rfl rfl rfl (by decide) (by decide) (Nat.le_of_ble_eq_true rfl) hr (ok_Fm_here (d := d + 0) M p2) ?_
  refine r_iload_n hX dX9_takesSign_4 rfl ?_
  refine r_icmp_eq (tgt := 18) hX dX9_takesSign_5 (by decide) (fun g3 => ?_) (fun g3 => ?_)
  · have h := (if_pos g3).symm.trans h
    refine r_aload_n hX dX9_takesSign_18 rfl ?_
    refine r_aload_n hX dX9_takesSign_19 rfl ?_
    refine r_getf (v := .int (M.1 94 5)) hX dX9_takesSign_20 fl_9_95 rfl (by decide) (by decide) rfl ?_
    refine r_iconst (v := (1 : Int32)) hX dX9_takesSign_23 (by decide) ?_
    refine r_iadd hX dX9_takesSign_24 ?_
    refine r_putI hX dX9_takesSign_25 fl_9_95 rfl (by decide) (by decide) (okI_int _) ?_
    refine r_iconst (v := (1 : Int32)) hX dX9_takesSign_28 (by decide) ?_
    obtain rfl := Option.some.inj h
    exact r_iret (v := b2i true) hX hT dX9_takesSign_29 (okI_b true).1
  · have h := (if_neg g3).symm.trans h
    refine r_aload_n hX dX9_takesSign_8 rfl ?_
    refine r_iconst (v := (1 : Int32)) hX dX9_takesSign_9 (by decide) ?_
    refine r_aload_n hX dX9_takesSign_10 rfl ?_
    refine r_getf (v := .int (M.1 94 5)) hX dX9_takesSign_11 fl_9_95 rfl (by decide) (by decide) rfl ?_
    obtain ⟨z4, p5, h⟩ := bnd_s h
    refine r_callV (As := [.int (1 : Int32), .int (M.1 94 5)]) hX dX9_takesSign_14 mk_Fm_wrongAt mi_Fm_wrongAt ml_9_108 rfl rfl rfl rfl (by decide) (by decide) (Nat.le_of_ble_eq_true rfl) hr (ok_Fm_wrongAt (d := d + 0) (1 : Int32) (M.1 94 5) M p5) ?_
    obtain rfl := Option.some.inj h
    exact r_iret hX hT dX9_takesSign_17 (okI_b _).1
def Fm_isDigit (v0 : Int32) (M : Mm) : Option (Bool) :=
  bnd (Fm_in v0 (48 : Int32) (57 : Int32) M) (fun z1 =>
  some z1)
set_option maxRecDepth 100000 in
theorem ok_Fm_isDigit {G : Gm} {l : Launch} {d : Nat} (v0 : Int32) (M : Mm) {z : Bool}  (h : Fm_isDigit v0 M = some z) : CK G l (d + 1) md_Fm_isDigit [.int v0] M SS (some (.int (b2i z))) M SS := by
  refine ck_of mk_Fm_isDigit (Nat.le_of_ble_eq_true rfl) ⟨Nat.le_refl _, Nat.le_refl _⟩ (fun X hX hT hS hr hl => ?_)
  subst hl
  unfold Fm_isDigit at h
  show WR G X (mQ G X (some (.int (b2i z))) M SS) 0 [.int v0] [] M SS
  refine r_iload_n hX dX9_isDigit_0 rfl ?_
  refine r_bipush (v := (48 : Int32)) hX dX9_isDigit_1 (by decide) ?_
  refine r_bipush (v := (57 : Int32)) hX dX9_isDigit_3 (by decide) ?_
  obtain ⟨z1, p2, h⟩ := bnd_s h
  refine r_callS (As := [.int v0, .int (48 : Int32), .int (57 : Int32)]) hX dX9_isDigit_5 mk_Fm_in ms_Fm_in ml_9_83 rfl rfl rfl (Nat.le_of_ble_eq_true rfl) hr (ok_Fm_in (d := d + 0) v0 (48 : Int32) (57 : Int32) M p2) ?_
  obtain rfl := Option.some.inj h
  exact r_iret hX hT dX9_isDigit_8 (okI_b _).1
def Fm_readsWord_j65 (M : Mm) : Option ((Mm) ⊕ (Mm)) :=
  some (.inl ((up2 M.1 94 5 ((M.1 94 5) + (1 : Int32))), M.2))
def Fm_readsWord_b13 (M : Mm) : Option ((Mm) ⊕ (Mm)) :=
  bnd (Fm_here M) (fun z1 =>
  bnd (Fm_in z1 (97 : Int32) (122 : Int32) M) (fun z3 =>
  if z3 = true then
    if (8 : Int32) ≤ ((M.1 94 5) - (M.1 94 10)) then
      Fm_readsWord_j65 M
    else
      bnd (Fm_here M) (fun z7 =>
      Fm_readsWord_j65 (M.1, (up2 M.2 94 12 (((((32 : Int64) * (M.2 94 12)) + z7.toInt64) - (97 : Int64)) + (1 : Int64)))))
  else
    some (.inr M)))
def Fm_readsWord (n : Nat) (M : Mm) : Option (Mm) :=
  bnd (loop (fun s1 : Mm => Fm_readsWord_b13 s1) n ((up2 M.1 94 10 (M.1 94 5)), (up2 M.2 94 12 (0 : Int64)))) (fun y9 =>
  if ((y9.1 94 5) - (y9.1 94 10)) ≤ (8 : Int32) then
    some y9
  else
    some (y9.1, (up2 y9.2 94 12 (-1 : Int64))))
set_option maxRecDepth 100000 in
theorem ok_Fm_readsWord_j65 (n : Nat) (M : Mm)  {z : Mm} {oo : (Mm) ⊕ (Mm)} {G : Gm} {X : Cx} {d : Nat}  (hX : XK G X 9 cX9_readsWord 1 (d + 1)) (hT : XT X (none) "readsWord") (hr : XR X SS) (hc : ∀ s1 : Mm, oo = .inl s1 → WR G X (mQ G X (none) z SS) 13 [.ref 94] [] s1 SS) (hx : ∀ x1 : Mm, oo = .inr x1 → WR G X (mQ G X (none) z SS) 78 [.ref 94] [] x1 SS) (h : Fm_readsWord_j65 M = some oo) : WR G X (mQ G X (none) z SS) 65 [.ref 94] [] M SS := by
  unfold Fm_readsWord_j65 at h
  refine r_aload_n hX dX9_readsWord_65 rfl ?_
  refine r_aload_n hX dX9_readsWord_66 rfl ?_
  refine r_getf (v := .int (M.1 94 5)) hX dX9_readsWord_67 fl_9_95 rfl (by decide) (by decide) rfl ?_
  refine r_iconst (v := (1 : Int32)) hX dX9_readsWord_70 (by decide) ?_
  refine r_iadd hX dX9_readsWord_71 ?_
  refine r_putI hX dX9_readsWord_72 fl_9_95 rfl (by decide) (by decide) (okI_int _) ?_
  refine r_goto (tgt := 13) hX dX9_readsWord_75 (by decide) ?_
  exact hc ((up2 M.1 94 5 ((M.1 94 5) + (1 : Int32))), M.2) (Option.some.inj h).symm
set_option maxRecDepth 100000 in
theorem ok_Fm_readsWord_b13 (n : Nat) (M : Mm)  {z : Mm} {oo : (Mm) ⊕ (Mm)} {G : Gm} {X : Cx} {d : Nat}  (hX : XK G X 9 cX9_readsWord 1 (d + 1)) (hT : XT X (none) "readsWord") (hr : XR X SS) (hc : ∀ s1 : Mm, oo = .inl s1 → WR G X (mQ G X (none) z SS) 13 [.ref 94] [] s1 SS) (hx : ∀ x1 : Mm, oo = .inr x1 → WR G X (mQ G X (none) z SS) 78 [.ref 94] [] x1 SS) (h : Fm_readsWord_b13 M = some oo) : WR G X (mQ G X (none) z SS) 13 [.ref 94] [] M SS := by
  unfold Fm_readsWord_b13 at h
  refine r_aload_n hX dX9_readsWord_13 rfl ?_
  obtain ⟨z1, p2, h⟩ := bnd_s h
  refine r_callV (As := []) hX dX9_readsWord_14 mk_Fm_here mi_Fm_here ml_9_104 rfl rfl rfl rfl (by decide) (by decide) (Nat.le_of_ble_eq_true rfl) hr (ok_Fm_here (d := d + 0) M p2) ?_
  refine r_bipush (v := (97 : Int32)) hX dX9_readsWord_17 (by decide) ?_
  refine r_bipush (v := (122 : Int32)) hX dX9_readsWord_19 (by decide) ?_
  obtain ⟨z3, p4, h⟩ := bnd_s h
  refine r_callS (As := [.int z1, .int (97 : Int32), .int (122 : Int32)]) hX dX9_readsWord_21 mk_Fm_in ms_Fm_in ml_9_83 rfl rfl rfl (Nat.le_of_ble_eq_true rfl) hr (ok_Fm_in (d := d + 0) z1 (97 : Int32) (122 : Int32) M p4) ?_
  refine r_ifb_eq (tgt := 78) hX dX9_readsWord_24 (by decide) (fun g5 => ?_) (fun g5 => ?_)
  · have h := (if_neg (show ¬ z3 = true from fun e => by rw [g5] at e; cases e)).symm.trans h
    exact hx _ (Option.some.inj h).symm
  · have h := (if_pos g5).symm.trans h
    refine r_aload_n hX dX9_readsWord_27 rfl ?_
    refine r_getf (v := .int (M.1 94 5)) hX dX9_readsWord_28 fl_9_95 rfl (by decide) (by decide) rfl ?_
    refine r_aload_n hX dX9_readsWord_31 rfl ?_
    refine r_getf (v := .int (M.1 94 10)) hX dX9_readsWord_32 fl_9_112 rfl (by decide) (by decide) rfl ?_
    refine r_isub hX dX9_readsWord_35 ?_
    refine r_bipush (v := (8 : Int32)) hX dX9_readsWord_36 (by decide) ?_
    refine r_icmp_ge (tgt := 65) hX dX9_readsWord_38 (by decide) (fun g6 => ?_) (fun g6 => ?_)
    · have h := (if_pos g6).symm.trans h
      exact ok_Fm_readsWord_j65 n M   hX hT hr hc hx h
    · have h := (if_neg g6).symm.trans h
      refine r_aload_n hX dX9_readsWord_41 rfl ?_
      refine r_ldc2 hX dX9_readsWord_42 kl_9_119 ?_
      refine r_aload_n hX dX9_readsWord_45 rfl ?_
      refine r_getf (v := .long (M.2 94 12)) hX dX9_readsWord_46 fl_9_115 rfl (by decide) (by decide) rfl ?_
      refine r_lmul hX dX9_readsWord_49 ?_
      refine r_aload_n hX dX9_readsWord_50 rfl ?_
      obtain ⟨z7, p8, h⟩ := bnd_s h
      refine r_callV (As := []) hX dX9_readsWord_51 mk_Fm_here mi_Fm_here ml_9_104 rfl rfl rfl rfl (by decide) (by decide) (Nat.le_of_ble_eq_true rfl) hr (ok_Fm_here (d := d + 0) M p8) ?_
      refine r_i2l hX dX9_readsWord_54 ?_
      refine r_ladd hX dX9_readsWord_55 ?_
      refine r_ldc2 hX dX9_readsWord_56 kl_9_121 ?_
      refine r_lsub hX dX9_readsWord_59 ?_
      refine r_lconst (v := (1 : Int64)) hX dX9_readsWord_60 (by decide) ?_
      refine r_ladd hX dX9_readsWord_61 ?_
      refine r_putL hX dX9_readsWord_62 fl_9_115 rfl (by decide) (by decide) rfl ?_
      exact ok_Fm_readsWord_j65 n (M.1, (up2 M.2 94 12 (((((32 : Int64) * (M.2 94 12)) + z7.toInt64) - (97 : Int64)) + (1 : Int64))))   hX hT hr hc hx h
set_option maxRecDepth 100000 in
theorem ok_Fm_readsWord {G : Gm} {l : Launch} {d : Nat} (n : Nat) (M : Mm) {z : Mm}  (h : Fm_readsWord n M = some z) : CK G l (d + 1) md_Fm_readsWord [.ref 94] M SS (none) z SS := by
  refine ck_of mk_Fm_readsWord (Nat.le_of_ble_eq_true rfl) ⟨Nat.le_refl _, Nat.le_refl _⟩ (fun X hX hT hS hr hl => ?_)
  subst hl
  unfold Fm_readsWord at h
  show WR G X (mQ G X (none) z SS) 0 [.ref 94] [] M SS
  refine r_aload_n hX dX9_readsWord_0 rfl ?_
  refine r_aload_n hX dX9_readsWord_1 rfl ?_
  refine r_getf (v := .int (M.1 94 5)) hX dX9_readsWord_2 fl_9_95 rfl (by decide) (by decide) rfl ?_
  refine r_putI hX dX9_readsWord_5 fl_9_112 rfl (by decide) (by decide) (okI_int _) ?_
  refine r_aload_n hX dX9_readsWord_8 rfl ?_
  refine r_lconst (v := (0 : Int64)) hX dX9_readsWord_9 (by decide) ?_
  refine r_putL' hX dX9_readsWord_10 fl_9_115 rfl (by decide) (by decide) rfl ?_
  obtain ⟨y9, h1, h⟩ := bnd_s h
  refine loop_ok (P := fun s1 : Mm => WR G X (mQ G X (none) z SS) 13 [.ref 94] [] s1 SS) (E := fun x1 : Mm => WR G X (mQ G X (none) z SS) 78 [.ref 94] [] x1 SS) (fun s1 o1 g1 g2 g3 => ok_Fm_readsWord_b13 n s1  hX hT hr g2 g3 g1) n ((up2 M.1 94 10 (M.1 94 5)), (up2 M.2 94 12 (0 : Int64))) y9 h1 ?_
  show WR G X (mQ G X (none) z SS) 78 [.ref 94] [] y9 SS
  refine r_aload_n hX dX9_readsWord_78 rfl ?_
  refine r_getf (v := .int (y9.1 94 5)) hX dX9_readsWord_79 fl_9_95 rfl (by decide) (by decide) rfl ?_
  refine r_aload_n hX dX9_readsWord_82 rfl ?_
  refine r_getf (v := .int (y9.1 94 10)) hX dX9_readsWord_83 fl_9_112 rfl (by decide) (by decide) rfl ?_
  refine r_isub hX dX9_readsWord_86 ?_
  refine r_bipush (v := (8 : Int32)) hX dX9_readsWord_87 (by decide) ?_
  refine r_icmp_le (tgt := 99) hX dX9_readsWord_89 (by decide) (fun g10 => ?_) (fun g10 => ?_)
  · have h := (if_pos g10).symm.trans h
    obtain rfl := Option.some.inj h
    exact r_vret hX hT dX9_readsWord_99
  · have h := (if_neg g10).symm.trans h
    refine r_aload_n hX dX9_readsWord_92 rfl ?_
    refine r_ldc2 hX dX9_readsWord_93 kl_9_123 ?_
    refine r_putL hX dX9_readsWord_96 fl_9_115 rfl (by decide) (by decide) rfl ?_
    obtain rfl := Option.some.inj h
    exact r_vret hX hT dX9_readsWord_99
def Fm_readsNumber_b44 (M : Mm) : Option ((Mm) ⊕ ((Mm) ⊕ (Bool × Mm))) :=
  bnd (Fm_here M) (fun z9 =>
  bnd (Fm_isDigit z9 M) (fun z11 =>
  if z11 = true then
    if (M.1 94 5) = ((M.1 94 9) + (5 : Int32)) then
      bnd (Fm_wrongAt (2 : Int32) (M.1 94 5) M) (fun z17 =>
      some (.inr (.inr (z17.1, z17.2))))
    else
      bnd (Fm_here M) (fun z15 =>
      some (.inl ((up2 (up2 M.1 94 8 ((((10 : Int32) * (M.1 94 8)) + z15) - (48 : Int32))) 94 5 (((up2 M.1 94 8 ((((10 : Int32) * (M.1 94 8)) + z15) - (48 : Int32))) 94 5) + (1 : Int32))), M.2)))
  else
    some (.inr (.inl M))))
def Fm_readsNumber_j133 (M : Mm) : Option (Bool × Mm) :=
  some (true, M)
def Fm_readsNumber (n : Nat) (v1 : Int32) (v2 : Int32) (M : Mm) : Option (Bool × Mm) :=
  bnd (Fm_takesSign (32 : Int32) M) (fun z1 =>
  if z1.1 = true then
    bnd (Fm_here ((up2 z1.2.1 94 9 (z1.2.1 94 5)), z1.2.2)) (fun z4 =>
    bnd (Fm_isDigit z4 ((up2 z1.2.1 94 9 (z1.2.1 94 5)), z1.2.2)) (fun z6 =>
    if z6 = true then
      bnd (loop (fun s1 : Mm => Fm_readsNumber_b44 s1) n ((up2 (up2 z1.2.1 94 9 (z1.2.1 94 5)) 94 8 (0 : Int32)), z1.2.2)) (fun y19 =>
      elS y19 (fun x20 =>
        bnd (Fm_in (x20.1 94 8) v1 v2 x20) (fun z22 =>
        if z22 = true then
          Fm_readsNumber_j133 x20
        else
          bnd (Fm_wrongAt (3 : Int32) (x20.1 94 9) x20) (fun z25 =>
          if z25.1 = true then
            Fm_readsNumber_j133 z25.2
          else
            some (false, z25.2))))
        (fun e21 => some e21))
    else
      bnd (Fm_wrongAt (1 : Int32) ((up2 z1.2.1 94 9 (z1.2.1 94 5)) 94 5) ((up2 z1.2.1 94 9 (z1.2.1 94 5)), z1.2.2)) (fun z28 =>
      some (z28.1, z28.2))))
  else
    some (false, z1.2))
set_option maxRecDepth 100000 in
theorem ok_Fm_readsNumber_b44 (n : Nat) (M : Mm) {c1 : Int32} {c2 : Int32} {z : Bool × Mm} {oo : (Mm) ⊕ ((Mm) ⊕ (Bool × Mm))} {G : Gm} {X : Cx} {d : Nat}  (hX : XK G X 9 cX9_readsNumber 3 (d + 2)) (hT : XT X (some .boolean) "readsNumber") (hr : XR X SS) (hc : ∀ s1 : Mm, oo = .inl s1 → WR G X (mQ G X (some (.int (b2i z.1))) z.2 SS) 44 [.ref 94, .int c1, .int c2] [] s1 SS) (hx : ∀ x1 : (Mm) ⊕ (Bool × Mm), oo = .inr x1 → elS x1 (fun x2 => WR G X (mQ G X (some (.int (b2i z.1))) z.2 SS) 109 [.ref 94, .int c1, .int c2] [] x2 SS) (fun y1 => y1 = z)) (h : Fm_readsNumber_b44 M = some oo) : WR G X (mQ G X (some (.int (b2i z.1))) z.2 SS) 44 [.ref 94, .int c1, .int c2] [] M SS := by
  unfold Fm_readsNumber_b44 at h
  refine r_aload_n hX dX9_readsNumber_44 rfl ?_
  obtain ⟨z9, p10, h⟩ := bnd_s h
  refine r_callV (As := []) hX dX9_readsNumber_45 mk_Fm_here mi_Fm_here ml_9_104 rfl rfl rfl rfl (by decide) (by decide) (Nat.le_of_ble_eq_true rfl) hr (ok_Fm_here (d := d + 1) M p10) ?_
  obtain ⟨z11, p12, h⟩ := bnd_s h
  refine r_callS (As := [.int z9]) hX dX9_readsNumber_48 mk_Fm_isDigit ms_Fm_isDigit ml_9_132 rfl rfl rfl (Nat.le_of_ble_eq_true rfl) hr (ok_Fm_isDigit (d := d + 0) z9 M p12) ?_
  refine r_ifb_eq (tgt := 109) hX dX9_readsNumber_51 (by decide) (fun g13 => ?_) (fun g13 => ?_)
  · have h := (if_neg (show ¬ z11 = true from fun e => by rw [g13] at e; cases e)).symm.trans h
    exact hx _ (Option.some.inj h).symm
  · have h := (if_pos g13).symm.trans h
    refine r_aload_n hX dX9_readsNumber_54 rfl ?_
    refine r_getf (v := .int (M.1 94 5)) hX dX9_readsNumber_55 fl_9_95 rfl (by decide) (by decide) rfl ?_
    refine r_aload_n hX dX9_readsNumber_58 rfl ?_
    refine r_getf (v := .int (M.1 94 9)) hX dX9_readsNumber_59 fl_9_129 rfl (by decide) (by decide) rfl ?_
    refine r_iconst (v := (5 : Int32)) hX dX9_readsNumber_62 (by decide) ?_
    refine r_iadd hX dX9_readsNumber_63 ?_
    refine r_icmp_ne (tgt := 77) hX dX9_readsNumber_64 (by decide) (fun g14 => ?_) (fun g14 => ?_)
    · have h := (if_neg g14).symm.trans h
      refine r_aload_n hX dX9_readsNumber_77 rfl ?_
      refine r_bipush (v := (10 : Int32)) hX dX9_readsNumber_78 (by decide) ?_
      refine r_aload_n hX dX9_readsNumber_80 rfl ?_
      refine r_getf (v := .int (M.1 94 8)) hX dX9_readsNumber_81 fl_9_135 rfl (by decide) (by decide) rfl ?_
      refine r_imul hX dX9_readsNumber_84 ?_
      refine r_aload_n hX dX9_readsNumber_85 rfl ?_
      obtain ⟨z15, p16, h⟩ := bnd_s h
      refine r_callV (As := []) hX dX9_readsNumber_86 mk_Fm_here mi_Fm_here ml_9_104 rfl rfl rfl rfl (by decide) (by decide) (Nat.le_of_ble_eq_true rfl) hr (ok_Fm_here (d := d + 1) M p16) ?_
      refine r_iadd hX dX9_readsNumber_89 ?_
      refine r_bipush (v := (48 : Int32)) hX dX9_readsNumber_90 (by decide) ?_
      refine r_isub hX dX9_readsNumber_92 ?_
      refine r_putI hX dX9_readsNumber_93 fl_9_135 rfl (by decide) (by decide) (okI_int _) ?_
      refine r_aload_n hX dX9_readsNumber_96 rfl ?_
      refine r_aload_n hX dX9_readsNumber_97 rfl ?_
      refine r_getf (v := .int ((up2 M.1 94 8 ((((10 : Int32) * (M.1 94 8)) + z15) - (48 : Int32))) 94 5)) hX dX9_readsNumber_98 fl_9_95 rfl (by decide) (by decide) rfl ?_
      refine r_iconst (v := (1 : Int32)) hX dX9_readsNumber_101 (by decide) ?_
      refine r_iadd hX dX9_readsNumber_102 ?_
      refine r_putI' hX dX9_readsNumber_103 fl_9_95 rfl (by decide) (by decide) (okI_int _) ?_
      refine r_goto (tgt := 44) hX dX9_readsNumber_106 (by decide) ?_
      exact hc ((up2 (up2 M.1 94 8 ((((10 : Int32) * (M.1 94 8)) + z15) - (48 : Int32))) 94 5 (((up2 M.1 94 8 ((((10 : Int32) * (M.1 94 8)) + z15) - (48 : Int32))) 94 5) + (1 : Int32))), M.2) (Option.some.inj h).symm
    · have h := (if_pos g14).symm.trans h
      refine r_aload_n hX dX9_readsNumber_67 rfl ?_
      refine r_iconst (v := (2 : Int32)) hX dX9_readsNumber_68 (by decide) ?_
      refine r_aload_n hX dX9_readsNumber_69 rfl ?_
      refine r_getf (v := .int (M.1 94 5)) hX dX9_readsNumber_70 fl_9_95 rfl (by decide) (by decide) rfl ?_
      obtain ⟨z17, p18, h⟩ := bnd_s h
      refine r_callV (As := [.int (2 : Int32), .int (M.1 94 5)]) hX dX9_readsNumber_73 mk_Fm_wrongAt mi_Fm_wrongAt ml_9_108 rfl rfl rfl rfl (by decide) (by decide) (Nat.le_of_ble_eq_true rfl) hr (ok_Fm_wrongAt (d := d + 1) (2 : Int32) (M.1 94 5) M p18) ?_
      obtain rfl := hx _ (Option.some.inj h).symm
      exact r_iret hX hT dX9_readsNumber_76 (okI_b _).1
set_option maxRecDepth 100000 in
theorem ok_Fm_readsNumber_j133 (n : Nat) (M : Mm) {z : Bool × Mm} {G : Gm} {X : Cx} {d : Nat}  (hX : XK G X 9 cX9_readsNumber 3 (d + 2)) (hT : XT X (some .boolean) "readsNumber") (hr : XR X SS) (h : Fm_readsNumber_j133 M = some z) : WR G X (mQ G X (some (.int (b2i z.1))) z.2 SS) 133 [.ref 94, vU, vU] [] M SS := by
  unfold Fm_readsNumber_j133 at h
  refine r_iconst (v := (1 : Int32)) hX dX9_readsNumber_133 (by decide) ?_
  refine r_goto (tgt := 138) hX dX9_readsNumber_134 (by decide) ?_
  obtain rfl := Option.some.inj h
  exact r_iret (v := b2i true) hX hT dX9_readsNumber_138 (okI_b true).1
set_option maxRecDepth 100000 in
theorem ok_Fm_readsNumber {G : Gm} {l : Launch} {d : Nat} (n : Nat) (v1 : Int32) (v2 : Int32) (M : Mm) {z : Bool × Mm}  (h : Fm_readsNumber n v1 v2 M = some z) : CK G l (d + 2) md_Fm_readsNumber [.ref 94, .int v1, .int v2] M SS (some (.int (b2i z.1))) z.2 SS := by
  refine ck_of mk_Fm_readsNumber (Nat.le_of_ble_eq_true rfl) ⟨Nat.le_refl _, Nat.le_refl _⟩ (fun X hX hT hS hr hl => ?_)
  subst hl
  unfold Fm_readsNumber at h
  show WR G X (mQ G X (some (.int (b2i z.1))) z.2 SS) 0 [.ref 94, .int v1, .int v2] [] M SS
  refine r_aload_n hX dX9_readsNumber_0 rfl ?_
  refine r_bipush (v := (32 : Int32)) hX dX9_readsNumber_1 (by decide) ?_
  obtain ⟨z1, p2, h⟩ := bnd_s h
  refine r_callV (As := [.int (32 : Int32)]) hX dX9_readsNumber_3 mk_Fm_takesSign mi_Fm_takesSign ml_9_125 rfl rfl rfl rfl (by decide) (by decide) (Nat.le_of_ble_eq_true rfl) hr (ok_Fm_takesSign (d := d + 0) (32 : Int32) M p2) ?_
  refine r_ifb_ne (tgt := 11) hX dX9_readsNumber_6 (by decide) (fun g3 => ?_) (fun g3 => ?_)
  · have h := (if_pos g3).symm.trans h
    refine r_aload_n hX dX9_readsNumber_11 rfl ?_
    refine r_aload_n hX dX9_readsNumber_12 rfl ?_
    refine r_getf (v := .int (z1.2.1 94 5)) hX dX9_readsNumber_13 fl_9_95 rfl (by decide) (by decide) rfl ?_
    refine r_putI hX dX9_readsNumber_16 fl_9_129 rfl (by decide) (by decide) (okI_int _) ?_
    refine r_aload_n hX dX9_readsNumber_19 rfl ?_
    obtain ⟨z4, p5, h⟩ := bnd_s h
    refine r_callV (As := []) hX dX9_readsNumber_20 mk_Fm_here mi_Fm_here ml_9_104 rfl rfl rfl rfl (by decide) (by decide) (Nat.le_of_ble_eq_true rfl) hr (ok_Fm_here (d := d + 1) ((up2 z1.2.1 94 9 (z1.2.1 94 5)), z1.2.2) p5) ?_
    obtain ⟨z6, p7, h⟩ := bnd_s h
    refine r_callS (As := [.int z4]) hX dX9_readsNumber_23 mk_Fm_isDigit ms_Fm_isDigit ml_9_132 rfl rfl rfl (Nat.le_of_ble_eq_true rfl) hr (ok_Fm_isDigit (d := d + 0) z4 ((up2 z1.2.1 94 9 (z1.2.1 94 5)), z1.2.2) p7) ?_
    refine r_ifb_ne (tgt := 39) hX dX9_readsNumber_26 (by decide) (fun g8 => ?_) (fun g8 => ?_)
    · have h := (if_pos g8).symm.trans h
      refine r_aload_n hX dX9_readsNumber_39 rfl ?_
      refine r_iconst (v := (0 : Int32)) hX dX9_readsNumber_40 (by decide) ?_
      refine r_putI' hX dX9_readsNumber_41 fl_9_135 rfl (by decide) (by decide) (okI_int _) ?_
      obtain ⟨y19, h1, h⟩ := bnd_s h
      refine loop_ok (P := fun s1 : Mm => WR G X (mQ G X (some (.int (b2i z.1))) z.2 SS) 44 [.ref 94, .int v1, .int v2] [] s1 SS) (E := fun x1 : (Mm) ⊕ (Bool × Mm) => elS x1 (fun x2 => WR G X (mQ G X (some (.int (b2i z.1))) z.2 SS) 109 [.ref 94, .int v1, .int v2] [] x2 SS) (fun y1 => y1 = z)) (fun s1 o1 g1 g2 g3 => ok_Fm_readsNumber_b44 n s1  hX hT hr g2 g3 g1) n ((up2 (up2 z1.2.1 94 9 (z1.2.1 94 5)) 94 8 (0 : Int32)), z1.2.2) y19 h1 ?_
      cases y19 with
      | inr e21 =>
        exact Option.some.inj h
      | inl x20 =>
        show WR G X (mQ G X (some (.int (b2i z.1))) z.2 SS) 109 [.ref 94, .int v1, .int v2] [] x20 SS
        refine r_aload_n hX dX9_readsNumber_109 rfl ?_
        refine r_getf (v := .int (x20.1 94 8)) hX dX9_readsNumber_110 fl_9_135 rfl (by decide) (by decide) rfl ?_
        refine r_iload_n hX dX9_readsNumber_113 rfl ?_
        refine r_iload_n hX dX9_readsNumber_114 rfl ?_
        obtain ⟨z22, p23, h⟩ := bnd_s h
        refine r_callS (As := [.int (x20.1 94 8), .int v1, .int v2]) hX dX9_readsNumber_115 mk_Fm_in ms_Fm_in ml_9_83 rfl rfl rfl (Nat.le_of_ble_eq_true rfl) hr (ok_Fm_in (d := d + 1) (x20.1 94 8) v1 v2 x20 p23) ?_
        refine r_ifb_ne (tgt := 133) hX dX9_readsNumber_118 (by decide) (fun g24 => ?_) (fun g24 => ?_)
        · have h := (if_pos g24).symm.trans h
          refine WR.fg (L' := [.ref 94, vU, vU]) ⟨Or.inr rfl, Or.inl rfl, Or.inl rfl, trivial⟩ ?_
          exact ok_Fm_readsNumber_j133 n x20   hX hT hr h
        · have h := (if_neg (show ¬ z22 = true from fun e => by rw [g24] at e; cases e)).symm.trans h
          refine r_aload_n hX dX9_readsNumber_121 rfl ?_
          refine r_iconst (v := (3 : Int32)) hX dX9_readsNumber_122 (by decide) ?_
          refine r_aload_n hX dX9_readsNumber_123 rfl ?_
          refine r_getf (v := .int (x20.1 94 9)) hX dX9_readsNumber_124 fl_9_129 rfl (by decide) (by decide) rfl ?_
          obtain ⟨z25, p26, h⟩ := bnd_s h
          refine r_callV (As := [.int (3 : Int32), .int (x20.1 94 9)]) hX dX9_readsNumber_127 mk_Fm_wrongAt mi_Fm_wrongAt ml_9_108 rfl rfl rfl rfl (by decide) (by decide) (Nat.le_of_ble_eq_true rfl) hr (ok_Fm_wrongAt (d := d + 1) (3 : Int32) (x20.1 94 9) x20 p26) ?_
          refine r_ifb_eq (tgt := 137) hX dX9_readsNumber_130 (by decide) (fun g27 => ?_) (fun g27 => ?_)
          · have h := (if_neg (show ¬ z25.1 = true from fun e => by rw [g27] at e; cases e)).symm.trans h
            refine r_iconst (v := (0 : Int32)) hX dX9_readsNumber_137 (by decide) ?_
            obtain rfl := Option.some.inj h
            exact r_iret (v := b2i false) hX hT dX9_readsNumber_138 (okI_b false).1
          · have h := (if_pos g27).symm.trans h
            refine WR.fg (L' := [.ref 94, vU, vU]) ⟨Or.inr rfl, Or.inl rfl, Or.inl rfl, trivial⟩ ?_
            exact ok_Fm_readsNumber_j133 n z25.2   hX hT hr h
    · have h := (if_neg (show ¬ z6 = true from fun e => by rw [g8] at e; cases e)).symm.trans h
      refine r_aload_n hX dX9_readsNumber_29 rfl ?_
      refine r_iconst (v := (1 : Int32)) hX dX9_readsNumber_30 (by decide) ?_
      refine r_aload_n hX dX9_readsNumber_31 rfl ?_
      refine r_getf (v := .int ((up2 z1.2.1 94 9 (z1.2.1 94 5)) 94 5)) hX dX9_readsNumber_32 fl_9_95 rfl (by decide) (by decide) rfl ?_
      obtain ⟨z28, p29, h⟩ := bnd_s h
      refine r_callV (As := [.int (1 : Int32), .int ((up2 z1.2.1 94 9 (z1.2.1 94 5)) 94 5)]) hX dX9_readsNumber_35 mk_Fm_wrongAt mi_Fm_wrongAt ml_9_108 rfl rfl rfl rfl (by decide) (by decide) (Nat.le_of_ble_eq_true rfl) hr (ok_Fm_wrongAt (d := d + 1) (1 : Int32) ((up2 z1.2.1 94 9 (z1.2.1 94 5)) 94 5) ((up2 z1.2.1 94 9 (z1.2.1 94 5)), z1.2.2) p29) ?_
      obtain rfl := Option.some.inj h
      exact r_iret hX hT dX9_readsNumber_38 (okI_b _).1
  · have h := (if_neg (show ¬ z1.1 = true from fun e => by rw [g3] at e; cases e)).symm.trans h
    refine r_iconst (v := (0 : Int32)) hX dX9_readsNumber_9 (by decide) ?_
    obtain rfl := Option.some.inj h
    exact r_iret (v := b2i false) hX hT dX9_readsNumber_10 (okI_b false).1
def Fm_keepsNumber (v1 : Int32) (M : Mm) : Option (Bool × Mm) :=
  grd (inb v1 64) (
  some (true, ((up2 M.1 96 (tn v1) (M.1 94 8)), M.2)))
set_option maxRecDepth 100000 in
theorem ok_Fm_keepsNumber {G : Gm} {l : Launch} {d : Nat} (v1 : Int32) (M : Mm) {z : Bool × Mm}  (h : Fm_keepsNumber v1 M = some z) : CK G l (d + 0) md_Fm_keepsNumber [.ref 94, .int v1] M SS (some (.int (b2i z.1))) z.2 SS := by
  refine ck_of mk_Fm_keepsNumber (Nat.le_of_ble_eq_true rfl) ⟨Nat.le_refl _, Nat.le_refl _⟩ (fun X hX hT hS hr hl => ?_)
  subst hl
  unfold Fm_keepsNumber at h
  show WR G X (mQ G X (some (.int (b2i z.1))) z.2 SS) 0 [.ref 94, .int v1] [] M SS
  refine r_aload_n hX dX9_keepsNumber_0 rfl ?_
  refine r_getf (v := .ref 96) hX dX9_keepsNumber_1 fl_9_13 rfl (by decide) (by decide) rfl ?_
  refine r_iload_n hX dX9_keepsNumber_4 rfl ?_
  refine r_aload_n hX dX9_keepsNumber_5 rfl ?_
  refine r_getf (v := .int (M.1 94 8)) hX dX9_keepsNumber_6 fl_9_135 rfl (by decide) (by decide) rfl ?_
  obtain ⟨k1, h⟩ := grd_s h
  refine r_iast hX dX9_keepsNumber_9 rfl (by decide) (inb_at rfl k1) ?_
  refine r_iconst (v := (1 : Int32)) hX dX9_keepsNumber_10 (by decide) ?_
  obtain rfl := Option.some.inj h
  exact r_iret (v := b2i true) hX hT dX9_keepsNumber_11 (okI_b true).1
def Fm_beginsText (v1 : Int32) (M : Mm) : Option (Bool × Mm) :=
  bnd (Fm_in v1 (1 : Int32) (200 : Int32) M) (fun z1 =>
  if z1 = true then
    if v1 ≤ (M.1 94 4) then
      some (true, ((up2 (up2 (up2 (up2 M.1 94 5 (0 : Int32)) 94 6 v1) 94 4 (0 : Int32)) 94 11 (0 : Int32)), M.2))
    else
      some (false, M)
  else
    some (false, M))
set_option maxRecDepth 100000 in
theorem ok_Fm_beginsText {G : Gm} {l : Launch} {d : Nat} (v1 : Int32) (M : Mm) {z : Bool × Mm}  (h : Fm_beginsText v1 M = some z) : CK G l (d + 1) md_Fm_beginsText [.ref 94, .int v1] M SS (some (.int (b2i z.1))) z.2 SS := by
  refine ck_of mk_Fm_beginsText (Nat.le_of_ble_eq_true rfl) ⟨Nat.le_refl _, Nat.le_refl _⟩ (fun X hX hT hS hr hl => ?_)
  subst hl
  unfold Fm_beginsText at h
  show WR G X (mQ G X (some (.int (b2i z.1))) z.2 SS) 0 [.ref 94, .int v1] [] M SS
  refine r_iload_n hX dX9_beginsText_0 rfl ?_
  refine r_iconst (v := (1 : Int32)) hX dX9_beginsText_1 (by decide) ?_
  refine r_sipush (v := (200 : Int32)) hX dX9_beginsText_2 (by decide) ?_
  obtain ⟨z1, p2, h⟩ := bnd_s h
  refine r_callS (As := [.int v1, .int (1 : Int32), .int (200 : Int32)]) hX dX9_beginsText_5 mk_Fm_in ms_Fm_in ml_9_83 rfl rfl rfl (Nat.le_of_ble_eq_true rfl) hr (ok_Fm_in (d := d + 0) v1 (1 : Int32) (200 : Int32) M p2) ?_
  refine r_ifb_eq (tgt := 19) hX dX9_beginsText_8 (by decide) (fun g3 => ?_) (fun g3 => ?_)
  · have h := (if_neg (show ¬ z1 = true from fun e => by rw [g3] at e; cases e)).symm.trans h
    refine r_iconst (v := (0 : Int32)) hX dX9_beginsText_19 (by decide) ?_
    obtain rfl := Option.some.inj h
    exact r_iret (v := b2i false) hX hT dX9_beginsText_20 (okI_b false).1
  · have h := (if_pos g3).symm.trans h
    refine r_iload_n hX dX9_beginsText_11 rfl ?_
    refine r_aload_n hX dX9_beginsText_12 rfl ?_
    refine r_getf (v := .int (M.1 94 4)) hX dX9_beginsText_13 fl_9_87 rfl (by decide) (by decide) rfl ?_
    refine r_icmp_le (tgt := 21) hX dX9_beginsText_16 (by decide) (fun g4 => ?_) (fun g4 => ?_)
    · have h := (if_pos g4).symm.trans h
      refine r_aload_n hX dX9_beginsText_21 rfl ?_
      refine r_iconst (v := (0 : Int32)) hX dX9_beginsText_22 (by decide) ?_
      refine r_putI hX dX9_beginsText_23 fl_9_95 rfl (by decide) (by decide) (okI_int _) ?_
      refine r_aload_n hX dX9_beginsText_26 rfl ?_
      refine r_iload_n hX dX9_beginsText_27 rfl ?_
      refine r_putI' hX dX9_beginsText_28 fl_9_98 rfl (by decide) (by decide) (okI_int _) ?_
      refine r_aload_n hX dX9_beginsText_31 rfl ?_
      refine r_iconst (v := (0 : Int32)) hX dX9_beginsText_32 (by decide) ?_
      refine r_putI' hX dX9_beginsText_33 fl_9_87 rfl (by decide) (by decide) (okI_int _) ?_
      refine r_aload_n hX dX9_beginsText_36 rfl ?_
      refine r_iconst (v := (0 : Int32)) hX dX9_beginsText_37 (by decide) ?_
      refine r_putI' hX dX9_beginsText_38 fl_9_138 rfl (by decide) (by decide) (okI_int _) ?_
      refine r_iconst (v := (1 : Int32)) hX dX9_beginsText_41 (by decide) ?_
      obtain rfl := Option.some.inj h
      exact r_iret (v := b2i true) hX hT dX9_beginsText_42 (okI_b true).1
    · have h := (if_neg g4).symm.trans h
      refine r_iconst (v := (0 : Int32)) hX dX9_beginsText_19 (by decide) ?_
      obtain rfl := Option.some.inj h
      exact r_iret (v := b2i false) hX hT dX9_beginsText_20 (okI_b false).1
def Fm_isLinkedInDraft_j66 (v3 : Int32) : Option ((Int32) ⊕ ((Unit) ⊕ (Bool))) :=
  some (.inl (v3 + (1 : Int32)))
def Fm_isLinkedInDraft_j38 (c1 : Int32) (c2 : Int32) (v3 : Int32) (Mc : Mm) : Option ((Int32) ⊕ ((Unit) ⊕ (Bool))) :=
  grd (inb ((16 : Int32) + v3) 64) (
  if (Mc.1 96 (tn ((16 : Int32) + v3))) = c2 then
    grd (inb ((30 : Int32) + v3) 64) (
    if (Mc.1 96 (tn ((30 : Int32) + v3))) = c1 then
      some (.inr (.inr true))
    else
      Fm_isLinkedInDraft_j66 v3)
  else
    Fm_isLinkedInDraft_j66 v3)
def Fm_isLinkedInDraft_b2 (c1 : Int32) (c2 : Int32) (Mc : Mm) (v3 : Int32) : Option ((Int32) ⊕ ((Unit) ⊕ (Bool))) :=
  grd (inb (3 : Int32) 64) (
  if (Mc.1 96 (tn (3 : Int32))) ≤ v3 then
    some (.inr (.inl ()))
  else
    grd (inb ((16 : Int32) + v3) 64) (
    if (Mc.1 96 (tn ((16 : Int32) + v3))) = c1 then
      grd (inb ((30 : Int32) + v3) 64) (
      if (Mc.1 96 (tn ((30 : Int32) + v3))) = c2 then
        some (.inr (.inr true))
      else
        Fm_isLinkedInDraft_j38 c1 c2 v3 Mc)
    else
      Fm_isLinkedInDraft_j38 c1 c2 v3 Mc))
def Fm_isLinkedInDraft (n : Nat) (v1 : Int32) (v2 : Int32) (M : Mm) : Option (Bool) :=
  bnd (loop (fun s1 : Int32 => Fm_isLinkedInDraft_b2 v1 v2 M s1) n (0 : Int32)) (fun y11 =>
  elS y11 (fun x12 =>
    some false)
    (fun e13 => some e13))
set_option maxRecDepth 100000 in
theorem ok_Fm_isLinkedInDraft_j66 (n : Nat) (v3 : Int32) {c1 : Int32} {c2 : Int32} {Mc : Mm} {z : Bool} {oo : (Int32) ⊕ ((Unit) ⊕ (Bool))} {G : Gm} {X : Cx} {d : Nat}  (hX : XK G X 9 cX9_isLinkedInDraft 4 (d + 0)) (hT : XT X (some .boolean) "isLinkedInDraft") (hr : XR X SS) (hc : ∀ s1 : Int32, oo = .inl s1 → WR G X (mQ G X (some (.int (b2i z))) Mc SS) 2 [.ref 94, .int c1, .int c2, .int s1] [] Mc SS) (hx : ∀ x1 : (Unit) ⊕ (Bool), oo = .inr x1 → elS x1 (fun x2 => WR G X (mQ G X (some (.int (b2i z))) Mc SS) 72 [.ref 94, vU, vU, vU] [] Mc SS) (fun y1 => y1 = z)) (h : Fm_isLinkedInDraft_j66 v3 = some oo) : WR G X (mQ G X (some (.int (b2i z))) Mc SS) 66 [.ref 94, .int c1, .int c2, .int v3] [] Mc SS := by
  unfold Fm_isLinkedInDraft_j66 at h
  refine r_iinc (v := v3 + (1 : Int32)) (L1 := [.ref 94, .int c1, .int c2, .int (v3 + (1 : Int32))]) hX dX9_isLinkedInDraft_66 rfl rfl rfl ?_
  refine r_goto (tgt := 2) hX dX9_isLinkedInDraft_69 (by decide) ?_
  exact hc (v3 + (1 : Int32)) (Option.some.inj h).symm
set_option maxRecDepth 100000 in
theorem ok_Fm_isLinkedInDraft_j38 (n : Nat) (v3 : Int32) {c1 : Int32} {c2 : Int32} {Mc : Mm} {z : Bool} {oo : (Int32) ⊕ ((Unit) ⊕ (Bool))} {G : Gm} {X : Cx} {d : Nat}  (hX : XK G X 9 cX9_isLinkedInDraft 4 (d + 0)) (hT : XT X (some .boolean) "isLinkedInDraft") (hr : XR X SS) (hc : ∀ s1 : Int32, oo = .inl s1 → WR G X (mQ G X (some (.int (b2i z))) Mc SS) 2 [.ref 94, .int c1, .int c2, .int s1] [] Mc SS) (hx : ∀ x1 : (Unit) ⊕ (Bool), oo = .inr x1 → elS x1 (fun x2 => WR G X (mQ G X (some (.int (b2i z))) Mc SS) 72 [.ref 94, vU, vU, vU] [] Mc SS) (fun y1 => y1 = z)) (h : Fm_isLinkedInDraft_j38 c1 c2 v3 Mc = some oo) : WR G X (mQ G X (some (.int (b2i z))) Mc SS) 38 [.ref 94, .int c1, .int c2, .int v3] [] Mc SS := by
  unfold Fm_isLinkedInDraft_j38 at h
  refine r_aload_n hX dX9_isLinkedInDraft_38 rfl ?_
  refine r_getf (v := .ref 96) hX dX9_isLinkedInDraft_39 fl_9_13 rfl (by decide) (by decide) rfl ?_
  refine r_bipush (v := (16 : Int32)) hX dX9_isLinkedInDraft_42 (by decide) ?_
  refine r_iload_n hX dX9_isLinkedInDraft_44 rfl ?_
  refine r_iadd hX dX9_isLinkedInDraft_45 ?_
  obtain ⟨k5, h⟩ := grd_s h
  refine r_iald hX dX9_isLinkedInDraft_46 rfl (by decide) (inb_at rfl k5) ?_
  refine r_iload_n hX dX9_isLinkedInDraft_47 rfl ?_
  refine r_icmp_ne (tgt := 66) hX dX9_isLinkedInDraft_48 (by decide) (fun g6 => ?_) (fun g6 => ?_)
  · have h := (if_neg g6).symm.trans h
    exact ok_Fm_isLinkedInDraft_j66 n v3   hX hT hr hc hx h
  · have h := (if_pos g6).symm.trans h
    refine r_aload_n hX dX9_isLinkedInDraft_51 rfl ?_
    refine r_getf (v := .ref 96) hX dX9_isLinkedInDraft_52 fl_9_13 rfl (by decide) (by decide) rfl ?_
    refine r_bipush (v := (30 : Int32)) hX dX9_isLinkedInDraft_55 (by decide) ?_
    refine r_iload_n hX dX9_isLinkedInDraft_57 rfl ?_
    refine r_iadd hX dX9_isLinkedInDraft_58 ?_
    obtain ⟨k7, h⟩ := grd_s h
    refine r_iald hX dX9_isLinkedInDraft_59 rfl (by decide) (inb_at rfl k7) ?_
    refine r_iload_n hX dX9_isLinkedInDraft_60 rfl ?_
    refine r_icmp_ne (tgt := 66) hX dX9_isLinkedInDraft_61 (by decide) (fun g8 => ?_) (fun g8 => ?_)
    · have h := (if_neg g8).symm.trans h
      exact ok_Fm_isLinkedInDraft_j66 n v3   hX hT hr hc hx h
    · have h := (if_pos g8).symm.trans h
      refine r_iconst (v := (1 : Int32)) hX dX9_isLinkedInDraft_64 (by decide) ?_
      obtain rfl := hx _ (Option.some.inj h).symm
      exact r_iret (v := b2i true) hX hT dX9_isLinkedInDraft_65 (okI_b true).1
set_option maxRecDepth 100000 in
theorem ok_Fm_isLinkedInDraft_b2 (n : Nat) (v3 : Int32) {c1 : Int32} {c2 : Int32} {Mc : Mm} {z : Bool} {oo : (Int32) ⊕ ((Unit) ⊕ (Bool))} {G : Gm} {X : Cx} {d : Nat}  (hX : XK G X 9 cX9_isLinkedInDraft 4 (d + 0)) (hT : XT X (some .boolean) "isLinkedInDraft") (hr : XR X SS) (hc : ∀ s1 : Int32, oo = .inl s1 → WR G X (mQ G X (some (.int (b2i z))) Mc SS) 2 [.ref 94, .int c1, .int c2, .int s1] [] Mc SS) (hx : ∀ x1 : (Unit) ⊕ (Bool), oo = .inr x1 → elS x1 (fun x2 => WR G X (mQ G X (some (.int (b2i z))) Mc SS) 72 [.ref 94, vU, vU, vU] [] Mc SS) (fun y1 => y1 = z)) (h : Fm_isLinkedInDraft_b2 c1 c2 Mc v3 = some oo) : WR G X (mQ G X (some (.int (b2i z))) Mc SS) 2 [.ref 94, .int c1, .int c2, .int v3] [] Mc SS := by
  unfold Fm_isLinkedInDraft_b2 at h
  refine r_iload_n hX dX9_isLinkedInDraft_2 rfl ?_
  refine r_aload_n hX dX9_isLinkedInDraft_3 rfl ?_
  refine r_getf (v := .ref 96) hX dX9_isLinkedInDraft_4 fl_9_13 rfl (by decide) (by decide) rfl ?_
  refine r_iconst (v := (3 : Int32)) hX dX9_isLinkedInDraft_7 (by decide) ?_
  obtain ⟨k1, h⟩ := grd_s h
  refine r_iald hX dX9_isLinkedInDraft_8 rfl (by decide) (inb_at rfl k1) ?_
  refine r_icmp_ge (tgt := 72) hX dX9_isLinkedInDraft_9 (by decide) (fun g2 => ?_) (fun g2 => ?_)
  · have h := (if_pos g2).symm.trans h
    refine WR.fg (L' := [.ref 94, vU, vU, vU]) ⟨Or.inr rfl, Or.inl rfl, Or.inl rfl, Or.inl rfl, trivial⟩ ?_
    exact hx _ (Option.some.inj h).symm
  · have h := (if_neg g2).symm.trans h
    refine r_aload_n hX dX9_isLinkedInDraft_12 rfl ?_
    refine r_getf (v := .ref 96) hX dX9_isLinkedInDraft_13 fl_9_13 rfl (by decide) (by decide) rfl ?_
    refine r_bipush (v := (16 : Int32)) hX dX9_isLinkedInDraft_16 (by decide) ?_
    refine r_iload_n hX dX9_isLinkedInDraft_18 rfl ?_
    refine r_iadd hX dX9_isLinkedInDraft_19 ?_
    obtain ⟨k3, h⟩ := grd_s h
    refine r_iald hX dX9_isLinkedInDraft_20 rfl (by decide) (inb_at rfl k3) ?_
    refine r_iload_n hX dX9_isLinkedInDraft_21 rfl ?_
    refine r_icmp_ne (tgt := 38) hX dX9_isLinkedInDraft_22 (by decide) (fun g4 => ?_) (fun g4 => ?_)
    · have h := (if_neg g4).symm.trans h
      exact ok_Fm_isLinkedInDraft_j38 n v3   hX hT hr hc hx h
    · have h := (if_pos g4).symm.trans h
      refine r_aload_n hX dX9_isLinkedInDraft_25 rfl ?_
      refine r_getf (v := .ref 96) hX dX9_isLinkedInDraft_26 fl_9_13 rfl (by decide) (by decide) rfl ?_
      refine r_bipush (v := (30 : Int32)) hX dX9_isLinkedInDraft_29 (by decide) ?_
      refine r_iload_n hX dX9_isLinkedInDraft_31 rfl ?_
      refine r_iadd hX dX9_isLinkedInDraft_32 ?_
      obtain ⟨k9, h⟩ := grd_s h
      refine r_iald hX dX9_isLinkedInDraft_33 rfl (by decide) (inb_at rfl k9) ?_
      refine r_iload_n hX dX9_isLinkedInDraft_34 rfl ?_
      refine r_icmp_eq (tgt := 64) hX dX9_isLinkedInDraft_35 (by decide) (fun g10 => ?_) (fun g10 => ?_)
      · have h := (if_pos g10).symm.trans h
        refine r_iconst (v := (1 : Int32)) hX dX9_isLinkedInDraft_64 (by decide) ?_
        obtain rfl := hx _ (Option.some.inj h).symm
        exact r_iret (v := b2i true) hX hT dX9_isLinkedInDraft_65 (okI_b true).1
      · have h := (if_neg g10).symm.trans h
        exact ok_Fm_isLinkedInDraft_j38 n v3   hX hT hr hc hx h
set_option maxRecDepth 100000 in
theorem ok_Fm_isLinkedInDraft {G : Gm} {l : Launch} {d : Nat} (n : Nat) (v1 : Int32) (v2 : Int32) (M : Mm) {z : Bool}  (h : Fm_isLinkedInDraft n v1 v2 M = some z) : CK G l (d + 0) md_Fm_isLinkedInDraft [.ref 94, .int v1, .int v2] M SS (some (.int (b2i z))) M SS := by
  refine ck_of mk_Fm_isLinkedInDraft (Nat.le_of_ble_eq_true rfl) ⟨Nat.le_refl _, Nat.le_refl _⟩ (fun X hX hT hS hr hl => ?_)
  subst hl
  unfold Fm_isLinkedInDraft at h
  show WR G X (mQ G X (some (.int (b2i z))) M SS) 0 [.ref 94, .int v1, .int v2, vU] [] M SS
  refine r_iconst (v := (0 : Int32)) hX dX9_isLinkedInDraft_0 (by decide) ?_
  refine r_istore_n (L1 := [.ref 94, .int v1, .int v2, .int (0 : Int32)]) hX dX9_isLinkedInDraft_1 (Nat.le_of_ble_eq_true rfl) rfl ?_
  obtain ⟨y11, h1, h⟩ := bnd_s h
  refine loop_ok (P := fun s1 : Int32 => WR G X (mQ G X (some (.int (b2i z))) M SS) 2 [.ref 94, .int v1, .int v2, .int s1] [] M SS) (E := fun x1 : (Unit) ⊕ (Bool) => elS x1 (fun x2 => WR G X (mQ G X (some (.int (b2i z))) M SS) 72 [.ref 94, vU, vU, vU] [] M SS) (fun y1 => y1 = z)) (fun s1 o1 g1 g2 g3 => ok_Fm_isLinkedInDraft_b2 n s1  hX hT hr g2 g3 g1) n (0 : Int32) y11 h1 ?_
  cases y11 with
  | inr e13 =>
    exact Option.some.inj h
  | inl x12 =>
    show WR G X (mQ G X (some (.int (b2i z))) M SS) 72 [.ref 94, vU, vU, vU] [] M SS
    refine r_iconst (v := (0 : Int32)) hX dX9_isLinkedInDraft_72 (by decide) ?_
    obtain rfl := Option.some.inj h
    exact r_iret (v := b2i false) hX hT dX9_isLinkedInDraft_73 (okI_b false).1
def Fm_readsLink_j109 (M : Mm) : Option (Bool × Mm) :=
  bnd (Fm_wrongAt (6 : Int32) (M.1 94 9) M) (fun z14 =>
  some (z14.1, z14.2))
def Fm_readsLink (n : Nat) (M : Mm) : Option (Bool × Mm) :=
  grd (inb (3 : Int32) 64) (
  if (M.1 96 (tn (3 : Int32))) = (14 : Int32) then
    bnd (Fm_wrongAt (6 : Int32) (M.1 94 10) M) (fun z26 =>
    some (z26.1, z26.2))
  else
    grd (inb (0 : Int32) 64) (
    bnd (Fm_readsNumber n (0 : Int32) ((M.1 96 (tn (0 : Int32))) - (1 : Int32)) M) (fun z4 =>
    if z4.1 = true then
      grd (inb ((16 : Int32) + (M.1 96 (tn (3 : Int32)))) 64) (
      grd (inb (0 : Int32) 64) (
      bnd (Fm_readsNumber n (0 : Int32) (((up2 z4.2.1 96 (tn ((16 : Int32) + (M.1 96 (tn (3 : Int32))))) (z4.2.1 94 8)) 96 (tn (0 : Int32))) - (1 : Int32)) ((up2 z4.2.1 96 (tn ((16 : Int32) + (M.1 96 (tn (3 : Int32))))) (z4.2.1 94 8)), z4.2.2)) (fun z9 =>
      if z9.1 = true then
        grd (inb ((16 : Int32) + (M.1 96 (tn (3 : Int32)))) 64) (
        if (z9.2.1 94 8) = (z9.2.1 96 (tn ((16 : Int32) + (M.1 96 (tn (3 : Int32)))))) then
          Fm_readsLink_j109 z9.2
        else
          grd (inb ((16 : Int32) + (M.1 96 (tn (3 : Int32)))) 64) (
          bnd (Fm_isLinkedInDraft n (z9.2.1 96 (tn ((16 : Int32) + (M.1 96 (tn (3 : Int32)))))) (z9.2.1 94 8) z9.2) (fun z17 =>
          if z17 = true then
            Fm_readsLink_j109 z9.2
          else
            grd (inb ((30 : Int32) + (M.1 96 (tn (3 : Int32)))) 64) (
            bnd (Fm_readsNumber n (1 : Int32) (99 : Int32) ((up2 z9.2.1 96 (tn ((30 : Int32) + (M.1 96 (tn (3 : Int32))))) (z9.2.1 94 8)), z9.2.2)) (fun z21 =>
            if z21.1 = true then
              grd (inb ((44 : Int32) + (M.1 96 (tn (3 : Int32)))) 64) (
              grd (inb (3 : Int32) 64) (
              some (true, ((up2 (up2 z21.2.1 96 (tn ((44 : Int32) + (M.1 96 (tn (3 : Int32))))) (z21.2.1 94 8)) 96 (tn (3 : Int32)) ((M.1 96 (tn (3 : Int32))) + (1 : Int32))), z21.2.2))))
            else
              some (false, z21.2))))))
      else
        some (false, z9.2))))
    else
      some (false, z4.2))))
set_option maxRecDepth 100000 in
theorem ok_Fm_readsLink_j109 (n : Nat) (M : Mm) {z : Bool × Mm} {G : Gm} {X : Cx} {d : Nat}  (hX : XK G X 9 cX9_readsLink 2 (d + 3)) (hT : XT X (some .boolean) "readsLink") (hr : XR X SS) (h : Fm_readsLink_j109 M = some z) : WR G X (mQ G X (some (.int (b2i z.1))) z.2 SS) 109 [.ref 94, vU] [] M SS := by
  unfold Fm_readsLink_j109 at h
  refine r_aload_n hX dX9_readsLink_109 rfl ?_
  refine r_bipush (v := (6 : Int32)) hX dX9_readsLink_110 (by decide) ?_
  refine r_aload_n hX dX9_readsLink_112 rfl ?_
  refine r_getf (v := .int (M.1 94 9)) hX dX9_readsLink_113 fl_9_129 rfl (by decide) (by decide) rfl ?_
  obtain ⟨z14, p15, h⟩ := bnd_s h
  refine r_callV (As := [.int (6 : Int32), .int (M.1 94 9)]) hX dX9_readsLink_116 mk_Fm_wrongAt mi_Fm_wrongAt ml_9_108 rfl rfl rfl rfl (by decide) (by decide) (Nat.le_of_ble_eq_true rfl) hr (ok_Fm_wrongAt (d := d + 2) (6 : Int32) (M.1 94 9) M p15) ?_
  obtain rfl := Option.some.inj h
  exact r_iret hX hT dX9_readsLink_119 (okI_b _).1
set_option maxRecDepth 100000 in
theorem ok_Fm_readsLink {G : Gm} {l : Launch} {d : Nat} (n : Nat) (M : Mm) {z : Bool × Mm}  (h : Fm_readsLink n M = some z) : CK G l (d + 3) md_Fm_readsLink [.ref 94] M SS (some (.int (b2i z.1))) z.2 SS := by
  refine ck_of mk_Fm_readsLink (Nat.le_of_ble_eq_true rfl) ⟨Nat.le_refl _, Nat.le_refl _⟩ (fun X hX hT hS hr hl => ?_)
  subst hl
  unfold Fm_readsLink at h
  show WR G X (mQ G X (some (.int (b2i z.1))) z.2 SS) 0 [.ref 94, vU] [] M SS
  refine r_aload_n hX dX9_readsLink_0 rfl ?_
  refine r_getf (v := .ref 96) hX dX9_readsLink_1 fl_9_13 rfl (by decide) (by decide) rfl ?_
  refine r_iconst (v := (3 : Int32)) hX dX9_readsLink_4 (by decide) ?_
  obtain ⟨k1, h⟩ := grd_s h
  refine r_iald hX dX9_readsLink_5 rfl (by decide) (inb_at rfl k1) ?_
  refine r_istore_n (L1 := [.ref 94, .int (M.1 96 (tn (3 : Int32)))]) hX dX9_readsLink_6 (Nat.le_of_ble_eq_true rfl) rfl ?_
  refine r_iload_n hX dX9_readsLink_7 rfl ?_
  refine r_bipush (v := (14 : Int32)) hX dX9_readsLink_8 (by decide) ?_
  refine r_icmp_ne (tgt := 24) hX dX9_readsLink_10 (by decide) (fun g2 => ?_) (fun g2 => ?_)
  · have h := (if_neg g2).symm.trans h
    refine r_aload_n hX dX9_readsLink_24 rfl ?_
    refine r_iconst (v := (0 : Int32)) hX dX9_readsLink_25 (by decide) ?_
    refine r_aload_n hX dX9_readsLink_26 rfl ?_
    refine r_getf (v := .ref 96) hX dX9_readsLink_27 fl_9_13 rfl (by decide) (by decide) rfl ?_
    refine r_iconst (v := (0 : Int32)) hX dX9_readsLink_30 (by decide) ?_
    obtain ⟨k3, h⟩ := grd_s h
    refine r_iald hX dX9_readsLink_31 rfl (by decide) (inb_at rfl k3) ?_
    refine r_iconst (v := (1 : Int32)) hX dX9_readsLink_32 (by decide) ?_
    refine r_isub hX dX9_readsLink_33 ?_
    obtain ⟨z4, p5, h⟩ := bnd_s h
    refine r_callV (As := [.int (0 : Int32), .int ((M.1 96 (tn (0 : Int32))) - (1 : Int32))]) hX dX9_readsLink_34 mk_Fm_readsNumber mi_Fm_readsNumber ml_9_141 rfl rfl rfl rfl (by decide) (by decide) (Nat.le_of_ble_eq_true rfl) hr (ok_Fm_readsNumber (d := d + 0) n (0 : Int32) ((M.1 96 (tn (0 : Int32))) - (1 : Int32)) M p5) ?_
    refine r_ifb_ne (tgt := 42) hX dX9_readsLink_37 (by decide) (fun g6 => ?_) (fun g6 => ?_)
    · have h := (if_pos g6).symm.trans h
      refine r_aload_n hX dX9_readsLink_42 rfl ?_
      refine r_getf (v := .ref 96) hX dX9_readsLink_43 fl_9_13 rfl (by decide) (by decide) rfl ?_
      refine r_bipush (v := (16 : Int32)) hX dX9_readsLink_46 (by decide) ?_
      refine r_iload_n hX dX9_readsLink_48 rfl ?_
      refine r_iadd hX dX9_readsLink_49 ?_
      refine r_aload_n hX dX9_readsLink_50 rfl ?_
      refine r_getf (v := .int (z4.2.1 94 8)) hX dX9_readsLink_51 fl_9_135 rfl (by decide) (by decide) rfl ?_
      obtain ⟨k7, h⟩ := grd_s h
      refine r_iast hX dX9_readsLink_54 rfl (by decide) (inb_at rfl k7) ?_
      refine r_aload_n hX dX9_readsLink_55 rfl ?_
      refine r_iconst (v := (0 : Int32)) hX dX9_readsLink_56 (by decide) ?_
      refine r_aload_n hX dX9_readsLink_57 rfl ?_
      refine r_getf (v := .ref 96) hX dX9_readsLink_58 fl_9_13 rfl (by decide) (by decide) rfl ?_
      refine r_iconst (v := (0 : Int32)) hX dX9_readsLink_61 (by decide) ?_
      obtain ⟨k8, h⟩ := grd_s h
      refine r_iald' hX dX9_readsLink_62 rfl (by decide) (inb_at rfl k8) ?_
      refine r_iconst (v := (1 : Int32)) hX dX9_readsLink_63 (by decide) ?_
      refine r_isub hX dX9_readsLink_64 ?_
      obtain ⟨z9, p10, h⟩ := bnd_s h
      refine r_callV (As := [.int (0 : Int32), .int (((up2 z4.2.1 96 (tn ((16 : Int32) + (M.1 96 (tn (3 : Int32))))) (z4.2.1 94 8)) 96 (tn (0 : Int32))) - (1 : Int32))]) hX dX9_readsLink_65 mk_Fm_readsNumber mi_Fm_readsNumber ml_9_141 rfl rfl rfl rfl (by decide) (by decide) (Nat.le_of_ble_eq_true rfl) hr (ok_Fm_readsNumber (d := d + 0) n (0 : Int32) (((up2 z4.2.1 96 (tn ((16 : Int32) + (M.1 96 (tn (3 : Int32))))) (z4.2.1 94 8)) 96 (tn (0 : Int32))) - (1 : Int32)) ((up2 z4.2.1 96 (tn ((16 : Int32) + (M.1 96 (tn (3 : Int32))))) (z4.2.1 94 8)), z4.2.2) p10) ?_
      refine r_ifb_ne (tgt := 73) hX dX9_readsLink_68 (by decide) (fun g11 => ?_) (fun g11 => ?_)
      · have h := (if_pos g11).symm.trans h
        refine r_aload_n hX dX9_readsLink_73 rfl ?_
        refine r_getf (v := .int (z9.2.1 94 8)) hX dX9_readsLink_74 fl_9_135 rfl (by decide) (by decide) rfl ?_
        refine r_aload_n hX dX9_readsLink_77 rfl ?_
        refine r_getf (v := .ref 96) hX dX9_readsLink_78 fl_9_13 rfl (by decide) (by decide) rfl ?_
        refine r_bipush (v := (16 : Int32)) hX dX9_readsLink_81 (by decide) ?_
        refine r_iload_n hX dX9_readsLink_83 rfl ?_
        refine r_iadd hX dX9_readsLink_84 ?_
        obtain ⟨k12, h⟩ := grd_s h
        refine r_iald hX dX9_readsLink_85 rfl (by decide) (inb_at rfl k12) ?_
        refine r_icmp_eq (tgt := 109) hX dX9_readsLink_86 (by decide) (fun g13 => ?_) (fun g13 => ?_)
        · have h := (if_pos g13).symm.trans h
          refine WR.fg (L' := [.ref 94, vU]) ⟨Or.inr rfl, Or.inl rfl, trivial⟩ ?_
          exact ok_Fm_readsLink_j109 n z9.2   hX hT hr h
        · have h := (if_neg g13).symm.trans h
          refine r_aload_n hX dX9_readsLink_89 rfl ?_
          refine r_aload_n hX dX9_readsLink_90 rfl ?_
          refine r_getf (v := .ref 96) hX dX9_readsLink_91 fl_9_13 rfl (by decide) (by decide) rfl ?_
          refine r_bipush (v := (16 : Int32)) hX dX9_readsLink_94 (by decide) ?_
          refine r_iload_n hX dX9_readsLink_96 rfl ?_
          refine r_iadd hX dX9_readsLink_97 ?_
          obtain ⟨k16, h⟩ := grd_s h
          refine r_iald hX dX9_readsLink_98 rfl (by decide) (inb_at rfl k16) ?_
          refine r_aload_n hX dX9_readsLink_99 rfl ?_
          refine r_getf (v := .int (z9.2.1 94 8)) hX dX9_readsLink_100 fl_9_135 rfl (by decide) (by decide) rfl ?_
          obtain ⟨z17, p18, h⟩ := bnd_s h
          refine r_callV (As := [.int (z9.2.1 96 (tn ((16 : Int32) + (M.1 96 (tn (3 : Int32)))))), .int (z9.2.1 94 8)]) hX dX9_readsLink_103 mk_Fm_isLinkedInDraft mi_Fm_isLinkedInDraft ml_9_144 rfl rfl rfl rfl (by decide) (by decide) (Nat.le_of_ble_eq_true rfl) hr (ok_Fm_isLinkedInDraft (d := d + 2) n (z9.2.1 96 (tn ((16 : Int32) + (M.1 96 (tn (3 : Int32)))))) (z9.2.1 94 8) z9.2 p18) ?_
          refine r_ifb_eq (tgt := 120) hX dX9_readsLink_106 (by decide) (fun g19 => ?_) (fun g19 => ?_)
          · have h := (if_neg (show ¬ z17 = true from fun e => by rw [g19] at e; cases e)).symm.trans h
            refine r_aload_n hX dX9_readsLink_120 rfl ?_
            refine r_getf (v := .ref 96) hX dX9_readsLink_121 fl_9_13 rfl (by decide) (by decide) rfl ?_
            refine r_bipush (v := (30 : Int32)) hX dX9_readsLink_124 (by decide) ?_
            refine r_iload_n hX dX9_readsLink_126 rfl ?_
            refine r_iadd hX dX9_readsLink_127 ?_
            refine r_aload_n hX dX9_readsLink_128 rfl ?_
            refine r_getf (v := .int (z9.2.1 94 8)) hX dX9_readsLink_129 fl_9_135 rfl (by decide) (by decide) rfl ?_
            obtain ⟨k20, h⟩ := grd_s h
            refine r_iast hX dX9_readsLink_132 rfl (by decide) (inb_at rfl k20) ?_
            refine r_aload_n hX dX9_readsLink_133 rfl ?_
            refine r_iconst (v := (1 : Int32)) hX dX9_readsLink_134 (by decide) ?_
            refine r_bipush (v := (99 : Int32)) hX dX9_readsLink_135 (by decide) ?_
            obtain ⟨z21, p22, h⟩ := bnd_s h
            refine r_callV (As := [.int (1 : Int32), .int (99 : Int32)]) hX dX9_readsLink_137 mk_Fm_readsNumber mi_Fm_readsNumber ml_9_141 rfl rfl rfl rfl (by decide) (by decide) (Nat.le_of_ble_eq_true rfl) hr (ok_Fm_readsNumber (d := d + 0) n (1 : Int32) (99 : Int32) ((up2 z9.2.1 96 (tn ((30 : Int32) + (M.1 96 (tn (3 : Int32))))) (z9.2.1 94 8)), z9.2.2) p22) ?_
            refine r_ifb_ne (tgt := 145) hX dX9_readsLink_140 (by decide) (fun g23 => ?_) (fun g23 => ?_)
            · have h := (if_pos g23).symm.trans h
              refine r_aload_n hX dX9_readsLink_145 rfl ?_
              refine r_getf (v := .ref 96) hX dX9_readsLink_146 fl_9_13 rfl (by decide) (by decide) rfl ?_
              refine r_bipush (v := (44 : Int32)) hX dX9_readsLink_149 (by decide) ?_
              refine r_iload_n hX dX9_readsLink_151 rfl ?_
              refine r_iadd hX dX9_readsLink_152 ?_
              refine r_aload_n hX dX9_readsLink_153 rfl ?_
              refine r_getf (v := .int (z21.2.1 94 8)) hX dX9_readsLink_154 fl_9_135 rfl (by decide) (by decide) rfl ?_
              obtain ⟨k24, h⟩ := grd_s h
              refine r_iast hX dX9_readsLink_157 rfl (by decide) (inb_at rfl k24) ?_
              refine r_aload_n hX dX9_readsLink_158 rfl ?_
              refine r_getf (v := .ref 96) hX dX9_readsLink_159 fl_9_13 rfl (by decide) (by decide) rfl ?_
              refine r_iconst (v := (3 : Int32)) hX dX9_readsLink_162 (by decide) ?_
              refine r_iload_n hX dX9_readsLink_163 rfl ?_
              refine r_iconst (v := (1 : Int32)) hX dX9_readsLink_164 (by decide) ?_
              refine r_iadd hX dX9_readsLink_165 ?_
              obtain ⟨k25, h⟩ := grd_s h
              refine r_iast' hX dX9_readsLink_166 rfl (by decide) (inb_at rfl k25) ?_
              refine r_iconst (v := (1 : Int32)) hX dX9_readsLink_167 (by decide) ?_
              obtain rfl := Option.some.inj h
              exact r_iret (v := b2i true) hX hT dX9_readsLink_168 (okI_b true).1
            · have h := (if_neg (show ¬ z21.1 = true from fun e => by rw [g23] at e; cases e)).symm.trans h
              refine r_iconst (v := (0 : Int32)) hX dX9_readsLink_143 (by decide) ?_
              obtain rfl := Option.some.inj h
              exact r_iret (v := b2i false) hX hT dX9_readsLink_144 (okI_b false).1
          · have h := (if_pos g19).symm.trans h
            refine WR.fg (L' := [.ref 94, vU]) ⟨Or.inr rfl, Or.inl rfl, trivial⟩ ?_
            exact ok_Fm_readsLink_j109 n z9.2   hX hT hr h
      · have h := (if_neg (show ¬ z9.1 = true from fun e => by rw [g11] at e; cases e)).symm.trans h
        refine r_iconst (v := (0 : Int32)) hX dX9_readsLink_71 (by decide) ?_
        obtain rfl := Option.some.inj h
        exact r_iret (v := b2i false) hX hT dX9_readsLink_72 (okI_b false).1
    · have h := (if_neg (show ¬ z4.1 = true from fun e => by rw [g6] at e; cases e)).symm.trans h
      refine r_iconst (v := (0 : Int32)) hX dX9_readsLink_40 (by decide) ?_
      obtain rfl := Option.some.inj h
      exact r_iret (v := b2i false) hX hT dX9_readsLink_41 (okI_b false).1
  · have h := (if_pos g2).symm.trans h
    refine r_aload_n hX dX9_readsLink_13 rfl ?_
    refine r_bipush (v := (6 : Int32)) hX dX9_readsLink_14 (by decide) ?_
    refine r_aload_n hX dX9_readsLink_16 rfl ?_
    refine r_getf (v := .int (M.1 94 10)) hX dX9_readsLink_17 fl_9_112 rfl (by decide) (by decide) rfl ?_
    obtain ⟨z26, p27, h⟩ := bnd_s h
    refine r_callV (As := [.int (6 : Int32), .int (M.1 94 10)]) hX dX9_readsLink_20 mk_Fm_wrongAt mi_Fm_wrongAt ml_9_108 rfl rfl rfl rfl (by decide) (by decide) (Nat.le_of_ble_eq_true rfl) hr (ok_Fm_wrongAt (d := d + 2) (6 : Int32) (M.1 94 10) M p27) ?_
    obtain rfl := Option.some.inj h
    exact r_iret hX hT dX9_readsLink_23 (okI_b _).1
