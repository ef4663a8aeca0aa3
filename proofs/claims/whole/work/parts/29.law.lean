theorem ml_12_9 : ML 12 9 md_Fg_init := lwG_1 21 (by decide +kernel) (by decide +kernel)
theorem ml_12_13 : ML 12 13 md_Fg_feed := lwG_2 168 (by decide +kernel) (by decide +kernel)
theorem ml_12_18 : ML 12 18 md_Fg_grid := lwG_2 176 (by decide +kernel) (by decide +kernel)
theorem ml_12_23 : ML 12 23 md_Fg_works := lwG_3 90 (by decide +kernel) (by decide +kernel)
theorem ml_12_27 : ML 12 27 md_Fg_ask := lwG_4 110 (by decide +kernel) (by decide +kernel)
theorem ml_12_32 : ML 12 32 md_Fg_drop := lwG_4 111 (by decide +kernel) (by decide +kernel)
theorem ml_12_37 : ML 12 37 md_Fg_slide := lwG_4 112 (by decide +kernel) (by decide +kernel)
theorem ml_12_41 : ML 12 41 md_Fg_sweep := lwG_4 113 (by decide +kernel) (by decide +kernel)
theorem ml_12_46 : ML 12 46 md_Fg_sweeps := lwG_4 114 (by decide +kernel) (by decide +kernel)
theorem ml_12_50 : ML 12 50 md_Fg_jump := lwG_4 118 (by decide +kernel) (by decide +kernel)
theorem ml_12_55 : ML 12 55 md_Fg_cut := lwG_4 119 (by decide +kernel) (by decide +kernel)
theorem ml_12_59 : ML 12 59 md_Fg_mend := lwG_4 120 (by decide +kernel) (by decide +kernel)
theorem ml_12_63 : ML 12 63 md_Fg_relight := lwG_4 121 (by decide +kernel) (by decide +kernel)
theorem ml_12_144 : ML 12 144 md_Fg_ifCut := lwG_4 122 (by decide +kernel) (by decide +kernel)
theorem ml_12_71 : ML 12 71 md_Fg_lasts := lwG_4 131 (by decide +kernel) (by decide +kernel)
theorem ml_12_75 : ML 12 75 md_Fg_ticks := lwG_4 132 (by decide +kernel) (by decide +kernel)
theorem ml_12_79 : ML 12 79 md_Fg_seed := lwG_4 133 (by decide +kernel) (by decide +kernel)
theorem ml_12_83 : ML 12 83 md_Fg_gridIs := lwG_4 138 (by decide +kernel) (by decide +kernel)
theorem ml_12_87 : ML 12 87 md_Fg_linkIs := lwG_4 151 (by decide +kernel) (by decide +kernel)
theorem ml_12_91 : ML 12 91 md_Fg_demandIs := lwG_4 176 (by decide +kernel) (by decide +kernel)
theorem ml_12_95 : ML 12 95 md_Fg_way := lwG_4 195 (by decide +kernel) (by decide +kernel)
theorem ml_12_99 : ML 12 99 md_Fg_found := lwG_4 200 (by decide +kernel) (by decide +kernel)
theorem ml_12_103 : ML 12 103 md_Fg_witness := lwG_4 204 (by decide +kernel) (by decide +kernel)
theorem ml_12_107 : ML 12 107 md_Fg_blocked := lwG_4 210 (by decide +kernel) (by decide +kernel)
theorem ml_12_67 : ML 12 67 md_Fg_plan := lwG_4 219 (by decide +kernel) (by decide +kernel)
theorem ml_12_111 : ML 12 111 md_Fg_repack := lwG_4 220 (by decide +kernel) (by decide +kernel)
theorem ml_12_115 : ML 12 115 md_Fg_planned := lwG_4 228 (by decide +kernel) (by decide +kernel)
theorem ml_12_120 : ML 12 120 md_Fg_waits := lwG_4 232 (by decide +kernel) (by decide +kernel)
theorem ml_12_124 : ML 12 124 md_Fg_unravel := lwG_4 236 (by decide +kernel) (by decide +kernel)
theorem ml_12_128 : ML 12 128 md_Fg_trial := lwG_5 11 (by decide +kernel) (by decide +kernel)
theorem ml_12_132 : ML 12 132 md_Fg_bestRule := lwG_5 42 (by decide +kernel) (by decide +kernel)
theorem ml_12_136 : ML 12 136 md_Fg_parts := lwG_5 46 (by decide +kernel) (by decide +kernel)
theorem ml_12_140 : ML 12 140 md_Fg_more := lwG_5 59 (by decide +kernel) (by decide +kernel)
theorem ml_12_148 : ML 12 148 md_Fg_keep := lwG_5 63 (by decide +kernel) (by decide +kernel)
theorem ml_12_152 : ML 12 152 md_Fg_undo := lwG_5 67 (by decide +kernel) (by decide +kernel)
theorem ml_12_157 : ML 12 157 md_Fg_check := lwG_5 71 (by decide +kernel) (by decide +kernel)
theorem ml_12_161 : ML 12 161 md_Fg_count := lwG_5 79 (by decide +kernel) (by decide +kernel)
theorem ml_12_12 : ML 12 12 md_Fm_init := lwG_5 85 (by decide +kernel) (by decide +kernel)
theorem ml_12_17 : ML 12 17 md_Fm_feed := lwG_5 234 (by decide +kernel) (by decide +kernel)
theorem ml_12_22 : ML 12 22 md_Fm_grid := lwG_6 2 (by decide +kernel) (by decide +kernel)
theorem ml_12_98 : ML 12 98 md_Fm_way := lwG_6 68 (by decide +kernel) (by decide +kernel)
theorem ml_12_31 : ML 12 31 md_Fm_ask := lwG_6 113 (by decide +kernel) (by decide +kernel)
theorem ml_12_102 : ML 12 102 md_Fm_found := lwG_6 180 (by decide +kernel) (by decide +kernel)
theorem ml_12_106 : ML 12 106 md_Fm_witness := lwG_6 184 (by decide +kernel) (by decide +kernel)
theorem ml_12_110 : ML 12 110 md_Fm_blocked := lwG_6 188 (by decide +kernel) (by decide +kernel)
theorem ml_12_36 : ML 12 36 md_Fm_drop := lwG_6 196 (by decide +kernel) (by decide +kernel)
theorem ml_12_40 : ML 12 40 md_Fm_slide := lwG_6 204 (by decide +kernel) (by decide +kernel)
theorem ml_12_45 : ML 12 45 md_Fm_sweep := lwG_6 216 (by decide +kernel) (by decide +kernel)
theorem ml_12_49 : ML 12 49 md_Fm_sweeps := lwG_6 220 (by decide +kernel) (by decide +kernel)
theorem ml_12_54 : ML 12 54 md_Fm_jump := lwG_6 225 (by decide +kernel) (by decide +kernel)
theorem ml_12_58 : ML 12 58 md_Fm_cut := lwG_6 233 (by decide +kernel) (by decide +kernel)
theorem ml_12_62 : ML 12 62 md_Fm_mend := lwG_7 5 (by decide +kernel) (by decide +kernel)
theorem ml_12_66 : ML 12 66 md_Fm_relight := lwG_7 9 (by decide +kernel) (by decide +kernel)
theorem ml_12_70 : ML 12 70 md_Fm_plan := lwG_7 17 (by decide +kernel) (by decide +kernel)
theorem ml_12_114 : ML 12 114 md_Fm_repack := lwG_7 60 (by decide +kernel) (by decide +kernel)
theorem ml_12_119 : ML 12 119 md_Fm_planned := lwG_7 68 (by decide +kernel) (by decide +kernel)
theorem ml_12_123 : ML 12 123 md_Fm_waits := lwG_7 72 (by decide +kernel) (by decide +kernel)
theorem ml_12_127 : ML 12 127 md_Fm_unravel := lwG_7 76 (by decide +kernel) (by decide +kernel)
theorem ml_12_74 : ML 12 74 md_Fm_lasts := lwG_7 88 (by decide +kernel) (by decide +kernel)
theorem ml_12_78 : ML 12 78 md_Fm_ticks := lwG_7 92 (by decide +kernel) (by decide +kernel)
theorem ml_12_131 : ML 12 131 md_Fm_trial := lwG_7 101 (by decide +kernel) (by decide +kernel)
theorem ml_12_135 : ML 12 135 md_Fm_bestRule := lwG_7 121 (by decide +kernel) (by decide +kernel)
theorem ml_12_139 : ML 12 139 md_Fm_parts := lwG_7 125 (by decide +kernel) (by decide +kernel)
theorem ml_12_143 : ML 12 143 md_Fm_more := lwG_7 133 (by decide +kernel) (by decide +kernel)
theorem ml_12_147 : ML 12 147 md_Fm_ifCut := lwG_7 137 (by decide +kernel) (by decide +kernel)
theorem ml_12_26 : ML 12 26 md_Fm_works := lwG_7 141 (by decide +kernel) (by decide +kernel)
theorem ml_12_86 : ML 12 86 md_Fm_gridIs := lwG_7 180 (by decide +kernel) (by decide +kernel)
theorem ml_12_90 : ML 12 90 md_Fm_linkIs := lwG_7 196 (by decide +kernel) (by decide +kernel)
theorem ml_12_94 : ML 12 94 md_Fm_demandIs := lwG_7 212 (by decide +kernel) (by decide +kernel)
theorem ml_12_82 : ML 12 82 md_Fm_seed := lwG_7 223 (by decide +kernel) (by decide +kernel)
theorem ml_12_151 : ML 12 151 md_Fm_keep := lwG_7 228 (by decide +kernel) (by decide +kernel)
theorem ml_12_156 : ML 12 156 md_Fm_undo := lwG_7 232 (by decide +kernel) (by decide +kernel)
theorem ml_12_160 : ML 12 160 md_Fm_check := lwG_7 236 (by decide +kernel) (by decide +kernel)
theorem ml_12_164 : ML 12 164 md_Fm_count := lwG_8 0 (by decide +kernel) (by decide +kernel)
theorem r_xld {G : Gm} {X : Cx} {Q : State → Prop} {own : Nat} {cc : ByteArray} {nL d pc : Nat} {L st : List Value} {M : Mm} {S : Sg} {N : Nat} {xs : Nat → Int32} {i : Int32} (hX : XK G X own cc nL d) (hd : decode cc pc = .ok (.iaload, 1)) (hxs : va_X (G.2.2.2 9) N xs X.2.2.2.2.1 G.1 ∧ G.2.2.2 9 < G.1.size) (hi : inb i N = true) (k : WR G X Q (pc + 1) L (.int (xs (tn i)) :: st) M S) : WR G X Q pc L (.int i :: .ref (1000 + 9) :: st) M S := by
  intro ls H locs hL hR hz
  show W _ _ _ _ _ _ _ _ _ _ _ _ _ _ _ (F0 _ pc ls (.int i :: .ref (ad G (1000 + 9)) :: st.map (cv G)))
  rw [ad_st]
  exact va_sld hX.1 hX.2.1 hxs.1 hxs.2 (Nat.not_le.mpr hxs.2) hR.2.1 (vp_in_iff.mpr (of_decide_eq_true hi)) hd (k ls H locs hL hR hz)
theorem r_xlen {G : Gm} {X : Cx} {Q : State → Prop} {own : Nat} {cc : ByteArray} {nL d pc : Nat} {L st : List Value} {M : Mm} {S : Sg} {N : Nat} {xs : Nat → Int32} (hX : XK G X own cc nL d) (hd : decode cc pc = .ok (.arraylength, 1)) (hxs : va_X (G.2.2.2 9) N xs X.2.2.2.2.1 G.1 ∧ G.2.2.2 9 < G.1.size) (k : WR G X Q (pc + 1) L (.int (Int32.ofNat N) :: st) M S) : WR G X Q pc L (.ref (1000 + 9) :: st) M S := by
  intro ls H locs hL hR hz
  show W _ _ _ _ _ _ _ _ _ _ _ _ _ _ _ (F0 _ pc ls (.ref (ad G (1000 + 9)) :: st.map (cv G)))
  rw [ad_st]
  exact va_slen hX.1 hX.2.1 hxs.1 hxs.2 (Nat.not_le.mpr hxs.2) hR.2.1 hd (k ls H locs hL hR hz)
def La_law_j1400 (v3 : Int32) (M : Mm) : Option ((Int32 × Mm) ⊕ ((Mm) ⊕ (Bool × Mm))) :=
  some (.inl (v3 + (6 : Int32), M))
def La_law_b18 (n : Nat) (L : Nat) (xs : Nat → Int32) (v3 : Int32) (M : Mm) : Option ((Int32 × Mm) ⊕ ((Mm) ⊕ (Bool × Mm))) :=
  if ((Int32.ofNat L) - (6 : Int32)) < v3 then
    some (.inr (.inl M))
  else
    grd (inb v3 L) (
    if ((xs (tn v3)) &&& (63 : Int32)) = (0 : Int32) then
      grd (inb (v3 + (1 : Int32)) L) (
      grd (inb (v3 + (2 : Int32)) L) (
      grd (inb (v3 + (3 : Int32)) L) (
      grd (inb (v3 + (4 : Int32)) L) (
      grd (inb (v3 + (5 : Int32)) L) (
      bnd (Fg_feed n (xs (tn (v3 + (1 : Int32)))) (xs (tn (v3 + (2 : Int32)))) (xs (tn (v3 + (3 : Int32)))) (xs (tn (v3 + (4 : Int32)))) (xs (tn (v3 + (5 : Int32)))) M) (fun z9 =>
      grd (inb (v3 + (1 : Int32)) L) (
      grd (inb (v3 + (2 : Int32)) L) (
      grd (inb (v3 + (3 : Int32)) L) (
      grd (inb (v3 + (4 : Int32)) L) (
      grd (inb (v3 + (5 : Int32)) L) (
      bnd (Fm_feed n (xs (tn (v3 + (1 : Int32)))) (xs (tn (v3 + (2 : Int32)))) (xs (tn (v3 + (3 : Int32)))) (xs (tn (v3 + (4 : Int32)))) (xs (tn (v3 + (5 : Int32)))) z9.2) (fun z16 =>
      if z9.1 = z16.1 then
        La_law_j1400 v3 z16.2
      else
        some (.inr (.inr (false, z16.2)))))))))))))))
    else
      if ((xs (tn v3)) &&& (63 : Int32)) = (1 : Int32) then
        grd (inb (v3 + (1 : Int32)) L) (
        bnd (Fg_grid n (xs (tn (v3 + (1 : Int32)))) M) (fun z21 =>
        grd (inb (v3 + (1 : Int32)) L) (
        bnd (Fm_grid n (xs (tn (v3 + (1 : Int32)))) z21.2) (fun z24 =>
        if z21.1 = z24.1 then
          La_law_j1400 v3 z24.2
        else
          some (.inr (.inr (false, z24.2)))))))
      else
        if ((xs (tn v3)) &&& (63 : Int32)) = (2 : Int32) then
          grd (inb (v3 + (1 : Int32)) L) (
          bnd (Fg_works n (xs (tn (v3 + (1 : Int32)))) M) (fun z29 =>
          grd (inb (v3 + (1 : Int32)) L) (
          bnd (Fm_works n (xs (tn (v3 + (1 : Int32)))) z29.2) (fun z32 =>
          if z29.1 = z32.1 then
            La_law_j1400 v3 z32.2
          else
            some (.inr (.inr (false, z32.2)))))))
        else
          if ((xs (tn v3)) &&& (63 : Int32)) = (3 : Int32) then
            grd (inb (v3 + (1 : Int32)) L) (
            grd (inb (v3 + (2 : Int32)) L) (
            grd (inb (v3 + (3 : Int32)) L) (
            grd (inb (v3 + (4 : Int32)) L) (
            bnd (Fg_ask n (xs (tn (v3 + (1 : Int32)))) (xs (tn (v3 + (2 : Int32)))) (xs (tn (v3 + (3 : Int32)))) (xs (tn (v3 + (4 : Int32)))) M) (fun z40 =>
            grd (inb (v3 + (1 : Int32)) L) (
            grd (inb (v3 + (2 : Int32)) L) (
            grd (inb (v3 + (3 : Int32)) L) (
            grd (inb (v3 + (4 : Int32)) L) (
            bnd (Fm_ask n (xs (tn (v3 + (1 : Int32)))) (xs (tn (v3 + (2 : Int32)))) (xs (tn (v3 + (3 : Int32)))) (xs (tn (v3 + (4 : Int32)))) z40.2) (fun z46 =>
            if z40.1 = z46.1 then
              La_law_j1400 v3 z46.2
            else
              some (.inr (.inr (false, z46.2)))))))))))))
          else
            if ((xs (tn v3)) &&& (63 : Int32)) = (4 : Int32) then
              grd (inb (v3 + (1 : Int32)) L) (
              bnd (Fg_drop n (xs (tn (v3 + (1 : Int32)))) M) (fun z51 =>
              grd (inb (v3 + (1 : Int32)) L) (
              bnd (Fm_drop (xs (tn (v3 + (1 : Int32)))) z51.2) (fun z54 =>
              if (b2i z51.1) = (b2i z54.1) then
                La_law_j1400 v3 z54.2
              else
                some (.inr (.inr (false, z54.2)))))))
            else
              if ((xs (tn v3)) &&& (63 : Int32)) = (5 : Int32) then
                grd (inb (v3 + (1 : Int32)) L) (
                bnd (Fg_slide n (xs (tn (v3 + (1 : Int32)))) M) (fun z59 =>
                grd (inb (v3 + (1 : Int32)) L) (
                bnd (Fm_slide n (xs (tn (v3 + (1 : Int32)))) z59.2) (fun z62 =>
                if z59.1 = z62.1 then
                  La_law_j1400 v3 z62.2
                else
                  some (.inr (.inr (false, z62.2)))))))
              else
                if ((xs (tn v3)) &&& (63 : Int32)) = (6 : Int32) then
                  bnd (Fg_sweep n M) (fun z66 =>
                  bnd (Fm_sweep n z66.2) (fun z68 =>
                  if z66.1 = z68.1 then
                    La_law_j1400 v3 z68.2
                  else
                    some (.inr (.inr (false, z68.2)))))
                else
                  if ((xs (tn v3)) &&& (63 : Int32)) = (7 : Int32) then
                    bnd (Fg_sweeps n M) (fun z72 =>
                    bnd (Fm_sweeps n z72.2) (fun z74 =>
                    if z72.1 = z74.1 then
                      La_law_j1400 v3 z74.2
                    else
                      some (.inr (.inr (false, z74.2)))))
                  else
                    if ((xs (tn v3)) &&& (63 : Int32)) = (8 : Int32) then
                      grd (inb (v3 + (1 : Int32)) L) (
                      grd (inb (v3 + (2 : Int32)) L) (
                      bnd (Fg_jump n (xs (tn (v3 + (1 : Int32)))) (xs (tn (v3 + (2 : Int32)))) M) (fun z80 =>
                      grd (inb (v3 + (1 : Int32)) L) (
                      grd (inb (v3 + (2 : Int32)) L) (
                      bnd (Fm_jump n (xs (tn (v3 + (1 : Int32)))) (xs (tn (v3 + (2 : Int32)))) z80.2) (fun z84 =>
                      if z80.1 = z84.1 then
                        La_law_j1400 v3 z84.2
                      else
                        some (.inr (.inr (false, z84.2)))))))))
                    else
                      if ((xs (tn v3)) &&& (63 : Int32)) = (9 : Int32) then
                        grd (inb (v3 + (1 : Int32)) L) (
                        bnd (Fg_cut n (xs (tn (v3 + (1 : Int32)))) M) (fun z89 =>
                        grd (inb (v3 + (1 : Int32)) L) (
                        bnd (Fm_cut n (xs (tn (v3 + (1 : Int32)))) z89.2) (fun z92 =>
                        if z89.1 = z92.1 then
                          La_law_j1400 v3 z92.2
                        else
                          some (.inr (.inr (false, z92.2)))))))
                      else
                        if ((xs (tn v3)) &&& (63 : Int32)) = (10 : Int32) then
                          grd (inb (v3 + (1 : Int32)) L) (
                          bnd (Fg_mend (xs (tn (v3 + (1 : Int32)))) M) (fun z97 =>
                          grd (inb (v3 + (1 : Int32)) L) (
                          bnd (Fm_mend (xs (tn (v3 + (1 : Int32)))) z97.2) (fun z100 =>
                          if (b2i z97.1) = (b2i z100.1) then
                            La_law_j1400 v3 z100.2
                          else
                            some (.inr (.inr (false, z100.2)))))))
                        else
                          if ((xs (tn v3)) &&& (63 : Int32)) = (11 : Int32) then
                            grd (inb (v3 + (1 : Int32)) L) (
                            bnd (Fg_relight n (xs (tn (v3 + (1 : Int32)))) M) (fun z105 =>
                            grd (inb (v3 + (1 : Int32)) L) (
                            bnd (Fm_relight n (xs (tn (v3 + (1 : Int32)))) z105.2) (fun z108 =>
                            if z105.1 = z108.1 then
                              La_law_j1400 v3 z108.2
                            else
                              some (.inr (.inr (false, z108.2)))))))
                          else
                            if ((xs (tn v3)) &&& (63 : Int32)) = (12 : Int32) then
                              grd (inb (v3 + (1 : Int32)) L) (
                              bnd (Fg_plan n (xs (tn (v3 + (1 : Int32)))) M) (fun z113 =>
                              grd (inb (v3 + (1 : Int32)) L) (
                              bnd (Fm_plan n (xs (tn (v3 + (1 : Int32)))) z113.2) (fun z116 =>
                              if z113.1 = z116.1 then
                                La_law_j1400 v3 z116.2
                              else
                                some (.inr (.inr (false, z116.2)))))))
                            else
                              if ((xs (tn v3)) &&& (63 : Int32)) = (13 : Int32) then
                                grd (inb (v3 + (1 : Int32)) L) (
                                grd (inb (v3 + (2 : Int32)) L) (
                                bnd (Fg_lasts (xs (tn (v3 + (1 : Int32)))) (xs (tn (v3 + (2 : Int32)))) M) (fun z122 =>
                                grd (inb (v3 + (1 : Int32)) L) (
                                grd (inb (v3 + (2 : Int32)) L) (
                                bnd (Fm_lasts (xs (tn (v3 + (1 : Int32)))) (xs (tn (v3 + (2 : Int32)))) z122.2) (fun z126 =>
                                if z122.1 = z126.1 then
                                  La_law_j1400 v3 z126.2
                                else
                                  some (.inr (.inr (false, z126.2)))))))))
                              else
                                if ((xs (tn v3)) &&& (63 : Int32)) = (14 : Int32) then
                                  grd (inb (v3 + (1 : Int32)) L) (
                                  bnd (Fg_ticks n (xs (tn (v3 + (1 : Int32)))) M) (fun z131 =>
                                  grd (inb (v3 + (1 : Int32)) L) (
                                  bnd (Fm_ticks n (xs (tn (v3 + (1 : Int32)))) z131.2) (fun z134 =>
                                  if z131.1 = z134.1 then
                                    La_law_j1400 v3 z134.2
                                  else
                                    some (.inr (.inr (false, z134.2)))))))
                                else
                                  if ((xs (tn v3)) &&& (63 : Int32)) = (15 : Int32) then
                                    grd (inb (v3 + (1 : Int32)) L) (
                                    bnd (Fg_seed (xs (tn (v3 + (1 : Int32)))) M) (fun z139 =>
                                    grd (inb (v3 + (1 : Int32)) L) (
                                    bnd (Fm_seed (xs (tn (v3 + (1 : Int32)))) z139.2) (fun z142 =>
                                    if (b2i z139.1) = (b2i z142.1) then
                                      La_law_j1400 v3 z142.2
                                    else
                                      some (.inr (.inr (false, z142.2)))))))
                                  else
                                    if ((xs (tn v3)) &&& (63 : Int32)) = (16 : Int32) then
                                      grd (inb (v3 + (1 : Int32)) L) (
                                      bnd (Fg_gridIs n (xs (tn (v3 + (1 : Int32)))) M) (fun z147 =>
                                      grd (inb (v3 + (1 : Int32)) L) (
                                      bnd (Fm_gridIs n (xs (tn (v3 + (1 : Int32)))) M) (fun z150 =>
                                      if z147 = z150 then
                                        La_law_j1400 v3 M
                                      else
                                        some (.inr (.inr (false, M)))))))
                                    else
                                      if ((xs (tn v3)) &&& (63 : Int32)) = (17 : Int32) then
                                        grd (inb (v3 + (1 : Int32)) L) (
                                        grd (inb (v3 + (2 : Int32)) L) (
                                        bnd (Fg_linkIs n (xs (tn (v3 + (1 : Int32)))) (xs (tn (v3 + (2 : Int32)))) M) (fun z156 =>
                                        grd (inb (v3 + (1 : Int32)) L) (
                                        grd (inb (v3 + (2 : Int32)) L) (
                                        bnd (Fm_linkIs n (xs (tn (v3 + (1 : Int32)))) (xs (tn (v3 + (2 : Int32)))) M) (fun z160 =>
                                        if z156 = z160.1 then
                                          La_law_j1400 v3 z160.2
                                        else
                                          some (.inr (.inr (false, z160.2)))))))))
                                      else
                                        if ((xs (tn v3)) &&& (63 : Int32)) = (18 : Int32) then
                                          grd (inb (v3 + (1 : Int32)) L) (
                                          grd (inb (v3 + (2 : Int32)) L) (
                                          bnd (Fg_demandIs n (xs (tn (v3 + (1 : Int32)))) (xs (tn (v3 + (2 : Int32)))) M) (fun z166 =>
                                          grd (inb (v3 + (1 : Int32)) L) (
                                          grd (inb (v3 + (2 : Int32)) L) (
                                          bnd (Fm_demandIs n (xs (tn (v3 + (1 : Int32)))) (xs (tn (v3 + (2 : Int32)))) M) (fun z170 =>
                                          if z166 = z170 then
                                            La_law_j1400 v3 M
                                          else
                                            some (.inr (.inr (false, M)))))))))
                                        else
                                          if ((xs (tn v3)) &&& (63 : Int32)) = (19 : Int32) then
                                            grd (inb (v3 + (1 : Int32)) L) (
                                            grd (inb (v3 + (2 : Int32)) L) (
                                            grd (inb (v3 + (3 : Int32)) L) (
                                            grd (inb (v3 + (4 : Int32)) L) (
                                            bnd (Fg_way n (xs (tn (v3 + (1 : Int32)))) (xs (tn (v3 + (2 : Int32)))) (xs (tn (v3 + (3 : Int32)))) (xs (tn (v3 + (4 : Int32)))) M) (fun z178 =>
                                            grd (inb (v3 + (1 : Int32)) L) (
                                            grd (inb (v3 + (2 : Int32)) L) (
                                            grd (inb (v3 + (3 : Int32)) L) (
                                            grd (inb (v3 + (4 : Int32)) L) (
                                            bnd (Fm_way n (xs (tn (v3 + (1 : Int32)))) (xs (tn (v3 + (2 : Int32)))) (xs (tn (v3 + (3 : Int32)))) (xs (tn (v3 + (4 : Int32)))) z178.2) (fun z184 =>
                                            if z178.1 = z184.1 then
                                              La_law_j1400 v3 z184.2
                                            else
                                              some (.inr (.inr (false, z184.2)))))))))))))
                                          else
                                            if ((xs (tn v3)) &&& (63 : Int32)) = (20 : Int32) then
                                              grd (inb (v3 + (1 : Int32)) L) (
                                              grd (inb (v3 + (2 : Int32)) L) (
                                              grd (inb (v3 + (3 : Int32)) L) (
                                              grd (inb (v3 + (4 : Int32)) L) (
                                              grd (inb (v3 + (5 : Int32)) L) (
                                              bnd (Fg_found n (xs (tn (v3 + (1 : Int32)))) (xs (tn (v3 + (2 : Int32)))) (xs (tn (v3 + (3 : Int32)))) (xs (tn (v3 + (4 : Int32)))) (xs (tn (v3 + (5 : Int32)))) M) (fun z193 =>
                                              grd (inb (v3 + (1 : Int32)) L) (
                                              grd (inb (v3 + (2 : Int32)) L) (
                                              grd (inb (v3 + (3 : Int32)) L) (
                                              grd (inb (v3 + (4 : Int32)) L) (
                                              grd (inb (v3 + (5 : Int32)) L) (
                                              bnd (Fm_found n (xs (tn (v3 + (1 : Int32)))) (xs (tn (v3 + (2 : Int32)))) (xs (tn (v3 + (3 : Int32)))) (xs (tn (v3 + (4 : Int32)))) (xs (tn (v3 + (5 : Int32)))) z193.2) (fun z200 =>
                                              if z193.1 = z200.1 then
                                                La_law_j1400 v3 z200.2
                                              else
                                                some (.inr (.inr (false, z200.2)))))))))))))))
                                            else
                                              if ((xs (tn v3)) &&& (63 : Int32)) = (21 : Int32) then
                                                grd (inb (v3 + (1 : Int32)) L) (
                                                grd (inb (v3 + (2 : Int32)) L) (
                                                grd (inb (v3 + (3 : Int32)) L) (
                                                grd (inb (v3 + (4 : Int32)) L) (
                                                grd (inb (v3 + (5 : Int32)) L) (
                                                bnd (Fg_witness n (xs (tn (v3 + (1 : Int32)))) (xs (tn (v3 + (2 : Int32)))) (xs (tn (v3 + (3 : Int32)))) (xs (tn (v3 + (4 : Int32)))) (xs (tn (v3 + (5 : Int32)))) M) (fun z209 =>
                                                grd (inb (v3 + (1 : Int32)) L) (
                                                grd (inb (v3 + (2 : Int32)) L) (
                                                grd (inb (v3 + (3 : Int32)) L) (
                                                grd (inb (v3 + (4 : Int32)) L) (
                                                grd (inb (v3 + (5 : Int32)) L) (
                                                bnd (Fm_witness n (xs (tn (v3 + (1 : Int32)))) (xs (tn (v3 + (2 : Int32)))) (xs (tn (v3 + (3 : Int32)))) (xs (tn (v3 + (4 : Int32)))) (xs (tn (v3 + (5 : Int32)))) z209.2) (fun z216 =>
                                                if z209.1 = z216.1 then
                                                  La_law_j1400 v3 z216.2
                                                else
                                                  some (.inr (.inr (false, z216.2)))))))))))))))
                                              else
                                                if ((xs (tn v3)) &&& (63 : Int32)) = (22 : Int32) then
                                                  grd (inb (v3 + (1 : Int32)) L) (
                                                  grd (inb (v3 + (2 : Int32)) L) (
                                                  grd (inb (v3 + (3 : Int32)) L) (
                                                  grd (inb (v3 + (4 : Int32)) L) (
                                                  bnd (Fg_blocked n (xs (tn (v3 + (1 : Int32)))) (xs (tn (v3 + (2 : Int32)))) (xs (tn (v3 + (3 : Int32)))) (xs (tn (v3 + (4 : Int32)))) M) (fun z224 =>
                                                  grd (inb (v3 + (1 : Int32)) L) (
                                                  grd (inb (v3 + (2 : Int32)) L) (
                                                  grd (inb (v3 + (3 : Int32)) L) (
                                                  grd (inb (v3 + (4 : Int32)) L) (
                                                  bnd (Fm_blocked n (xs (tn (v3 + (1 : Int32)))) (xs (tn (v3 + (2 : Int32)))) (xs (tn (v3 + (3 : Int32)))) (xs (tn (v3 + (4 : Int32)))) z224.2) (fun z230 =>
                                                  if z224.1 = z230.1 then
                                                    La_law_j1400 v3 z230.2
                                                  else
                                                    some (.inr (.inr (false, z230.2)))))))))))))
                                                else
                                                  if ((xs (tn v3)) &&& (63 : Int32)) = (23 : Int32) then
                                                    grd (inb (v3 + (1 : Int32)) L) (
                                                    grd (inb (v3 + (2 : Int32)) L) (
                                                    bnd (Fg_repack n (xs (tn (v3 + (1 : Int32)))) (xs (tn (v3 + (2 : Int32)))) M) (fun z236 =>
                                                    grd (inb (v3 + (1 : Int32)) L) (
                                                    grd (inb (v3 + (2 : Int32)) L) (
                                                    bnd (Fm_repack n (xs (tn (v3 + (1 : Int32)))) (xs (tn (v3 + (2 : Int32)))) z236.2) (fun z240 =>
                                                    if z236.1 = z240.1 then
                                                      La_law_j1400 v3 z240.2
                                                    else
                                                      some (.inr (.inr (false, z240.2)))))))))
                                                  else
                                                    if ((xs (tn v3)) &&& (63 : Int32)) = (24 : Int32) then
                                                      grd (inb (v3 + (1 : Int32)) L) (
                                                      grd (inb (v3 + (2 : Int32)) L) (
                                                      grd (inb (v3 + (3 : Int32)) L) (
                                                      bnd (Fg_planned n (xs (tn (v3 + (1 : Int32)))) (xs (tn (v3 + (2 : Int32)))) (xs (tn (v3 + (3 : Int32)))) M) (fun z247 =>
                                                      grd (inb (v3 + (1 : Int32)) L) (
                                                      grd (inb (v3 + (2 : Int32)) L) (
                                                      grd (inb (v3 + (3 : Int32)) L) (
                                                      bnd (Fm_planned n (xs (tn (v3 + (1 : Int32)))) (xs (tn (v3 + (2 : Int32)))) (xs (tn (v3 + (3 : Int32)))) z247.2) (fun z252 =>
                                                      if z247.1 = z252.1 then
                                                        La_law_j1400 v3 z252.2
                                                      else
                                                        some (.inr (.inr (false, z252.2)))))))))))
                                                    else
                                                      if ((xs (tn v3)) &&& (63 : Int32)) = (25 : Int32) then
                                                        grd (inb (v3 + (1 : Int32)) L) (
                                                        grd (inb (v3 + (2 : Int32)) L) (
                                                        bnd (Fg_waits n (xs (tn (v3 + (1 : Int32)))) (xs (tn (v3 + (2 : Int32)))) M) (fun z258 =>
                                                        grd (inb (v3 + (1 : Int32)) L) (
                                                        grd (inb (v3 + (2 : Int32)) L) (
                                                        bnd (Fm_waits n (xs (tn (v3 + (1 : Int32)))) (xs (tn (v3 + (2 : Int32)))) z258.2) (fun z262 =>
                                                        if z258.1 = z262.1 then
                                                          La_law_j1400 v3 z262.2
                                                        else
                                                          some (.inr (.inr (false, z262.2)))))))))
                                                      else
                                                        if ((xs (tn v3)) &&& (63 : Int32)) = (26 : Int32) then
                                                          grd (inb (v3 + (1 : Int32)) L) (
                                                          grd (inb (v3 + (2 : Int32)) L) (
                                                          bnd (Fg_unravel n (xs (tn (v3 + (1 : Int32)))) (xs (tn (v3 + (2 : Int32)))) M) (fun z268 =>
                                                          grd (inb (v3 + (1 : Int32)) L) (
                                                          grd (inb (v3 + (2 : Int32)) L) (
                                                          bnd (Fm_unravel n (xs (tn (v3 + (1 : Int32)))) (xs (tn (v3 + (2 : Int32)))) z268.2) (fun z272 =>
                                                          if z268.1 = z272.1 then
                                                            La_law_j1400 v3 z272.2
                                                          else
                                                            some (.inr (.inr (false, z272.2)))))))))
                                                        else
                                                          if ((xs (tn v3)) &&& (63 : Int32)) = (27 : Int32) then
                                                            grd (inb (v3 + (1 : Int32)) L) (
                                                            grd (inb (v3 + (2 : Int32)) L) (
                                                            grd (inb (v3 + (3 : Int32)) L) (
                                                            grd (inb (v3 + (4 : Int32)) L) (
                                                            bnd (Fg_trial n (xs (tn (v3 + (1 : Int32)))) (xs (tn (v3 + (2 : Int32)))) (xs (tn (v3 + (3 : Int32)))) (xs (tn (v3 + (4 : Int32)))) M) (fun z280 =>
                                                            grd (inb (v3 + (1 : Int32)) L) (
                                                            grd (inb (v3 + (2 : Int32)) L) (
                                                            grd (inb (v3 + (3 : Int32)) L) (
                                                            grd (inb (v3 + (4 : Int32)) L) (
                                                            bnd (Fm_trial n (xs (tn (v3 + (1 : Int32)))) (xs (tn (v3 + (2 : Int32)))) (xs (tn (v3 + (3 : Int32)))) (xs (tn (v3 + (4 : Int32)))) z280.2) (fun z286 =>
                                                            if z280.1 = z286.1 then
                                                              La_law_j1400 v3 z286.2
                                                            else
                                                              some (.inr (.inr (false, z286.2)))))))))))))
                                                          else
                                                            if ((xs (tn v3)) &&& (63 : Int32)) = (28 : Int32) then
                                                              grd (inb (v3 + (1 : Int32)) L) (
                                                              grd (inb (v3 + (2 : Int32)) L) (
                                                              bnd (Fg_bestRule n (xs (tn (v3 + (1 : Int32)))) (xs (tn (v3 + (2 : Int32)))) M) (fun z292 =>
                                                              grd (inb (v3 + (1 : Int32)) L) (
                                                              grd (inb (v3 + (2 : Int32)) L) (
                                                              bnd (Fm_bestRule n (xs (tn (v3 + (1 : Int32)))) (xs (tn (v3 + (2 : Int32)))) z292.2) (fun z296 =>
                                                              if z292.1 = z296.1 then
                                                                La_law_j1400 v3 z296.2
                                                              else
                                                                some (.inr (.inr (false, z296.2)))))))))
                                                            else
                                                              if ((xs (tn v3)) &&& (63 : Int32)) = (29 : Int32) then
                                                                grd (inb (v3 + (1 : Int32)) L) (
                                                                grd (inb (v3 + (2 : Int32)) L) (
                                                                grd (inb (v3 + (3 : Int32)) L) (
                                                                grd (inb (v3 + (4 : Int32)) L) (
                                                                bnd (Fg_parts n (xs (tn (v3 + (1 : Int32)))) (xs (tn (v3 + (2 : Int32)))) (xs (tn (v3 + (3 : Int32)))) (xs (tn (v3 + (4 : Int32)))) M) (fun z304 =>
                                                                grd (inb (v3 + (1 : Int32)) L) (
                                                                grd (inb (v3 + (2 : Int32)) L) (
                                                                grd (inb (v3 + (3 : Int32)) L) (
                                                                grd (inb (v3 + (4 : Int32)) L) (
                                                                bnd (Fm_parts n (xs (tn (v3 + (1 : Int32)))) (xs (tn (v3 + (2 : Int32)))) (xs (tn (v3 + (3 : Int32)))) (xs (tn (v3 + (4 : Int32)))) z304.2) (fun z310 =>
                                                                if z304.1 = z310.1 then
                                                                  La_law_j1400 v3 z310.2
                                                                else
                                                                  some (.inr (.inr (false, z310.2)))))))))))))
                                                              else
                                                                if ((xs (tn v3)) &&& (63 : Int32)) = (30 : Int32) then
                                                                  grd (inb (v3 + (1 : Int32)) L) (
                                                                  grd (inb (v3 + (2 : Int32)) L) (
                                                                  grd (inb (v3 + (3 : Int32)) L) (
                                                                  grd (inb (v3 + (4 : Int32)) L) (
                                                                  bnd (Fg_more n (xs (tn (v3 + (1 : Int32)))) (xs (tn (v3 + (2 : Int32)))) (xs (tn (v3 + (3 : Int32)))) (xs (tn (v3 + (4 : Int32)))) M) (fun z318 =>
                                                                  grd (inb (v3 + (1 : Int32)) L) (
                                                                  grd (inb (v3 + (2 : Int32)) L) (
                                                                  grd (inb (v3 + (3 : Int32)) L) (
                                                                  grd (inb (v3 + (4 : Int32)) L) (
                                                                  bnd (Fm_more n (xs (tn (v3 + (1 : Int32)))) (xs (tn (v3 + (2 : Int32)))) (xs (tn (v3 + (3 : Int32)))) (xs (tn (v3 + (4 : Int32)))) z318.2) (fun z324 =>
                                                                  if z318.1 = z324.1 then
                                                                    La_law_j1400 v3 z324.2
                                                                  else
                                                                    some (.inr (.inr (false, z324.2)))))))))))))
                                                                else
                                                                  if ((xs (tn v3)) &&& (63 : Int32)) = (31 : Int32) then
                                                                    grd (inb (v3 + (1 : Int32)) L) (
                                                                    grd (inb (v3 + (2 : Int32)) L) (
                                                                    grd (inb (v3 + (3 : Int32)) L) (
                                                                    bnd (Fg_ifCut n (xs (tn (v3 + (1 : Int32)))) (xs (tn (v3 + (2 : Int32)))) (xs (tn (v3 + (3 : Int32)))) M) (fun z331 =>
                                                                    grd (inb (v3 + (1 : Int32)) L) (
                                                                    grd (inb (v3 + (2 : Int32)) L) (
                                                                    grd (inb (v3 + (3 : Int32)) L) (
                                                                    bnd (Fm_ifCut n (xs (tn (v3 + (1 : Int32)))) (xs (tn (v3 + (2 : Int32)))) (xs (tn (v3 + (3 : Int32)))) z331.2) (fun z336 =>
                                                                    if z331.1 = z336.1 then
                                                                      La_law_j1400 v3 z336.2
                                                                    else
                                                                      some (.inr (.inr (false, z336.2)))))))))))
                                                                  else
                                                                    if ((xs (tn v3)) &&& (63 : Int32)) = (32 : Int32) then
                                                                      bnd (Fg_keep M) (fun z340 =>
                                                                      bnd (Fm_keep n z340.2) (fun z342 =>
                                                                      if z340.1 = z342.1 then
                                                                        La_law_j1400 v3 z342.2
                                                                      else
                                                                        some (.inr (.inr (false, z342.2)))))
                                                                    else
                                                                      if ((xs (tn v3)) &&& (63 : Int32)) = (33 : Int32) then
                                                                        bnd (Fg_undo n M) (fun z346 =>
                                                                        bnd (Fm_undo n z346.2) (fun z348 =>
                                                                        if (b2i z346.1) = (b2i z348.1) then
                                                                          La_law_j1400 v3 z348.2
                                                                        else
                                                                          some (.inr (.inr (false, z348.2)))))
                                                                      else
                                                                        if ((xs (tn v3)) &&& (63 : Int32)) = (34 : Int32) then
                                                                          grd (inb (v3 + (1 : Int32)) L) (
                                                                          bnd (Fg_check n (xs (tn (v3 + (1 : Int32)))) M) (fun z353 =>
                                                                          grd (inb (v3 + (1 : Int32)) L) (
                                                                          bnd (Fm_check n (xs (tn (v3 + (1 : Int32)))) z353.2) (fun z356 =>
                                                                          if z353.1 = z356.1 then
                                                                            La_law_j1400 v3 z356.2
                                                                          else
                                                                            some (.inr (.inr (false, z356.2)))))))
                                                                        else
                                                                          if ((xs (tn v3)) &&& (63 : Int32)) = (35 : Int32) then
                                                                            grd (inb (v3 + (1 : Int32)) L) (
                                                                            bnd (Fg_count (xs (tn (v3 + (1 : Int32)))) M) (fun z361 =>
                                                                            grd (inb (v3 + (1 : Int32)) L) (
                                                                            bnd (Fm_count (xs (tn (v3 + (1 : Int32)))) M) (fun z364 =>
                                                                            if z361 = z364 then
                                                                              La_law_j1400 v3 M
                                                                            else
                                                                              some (.inr (.inr (false, M)))))))
                                                                          else
                                                                            La_law_j1400 v3 M)
def La_law (n : Nat) (L : Nat) (xs : Nat → Int32) (M : Mm) : Option (Bool × Mm) :=
  bnd (loop (fun s1 : Int32 × Mm => La_law_b18 n L xs s1.1 s1.2) n ((0 : Int32), M)) (fun y367 =>
  elS y367 (fun x368 =>
    some (true, x368))
    (fun e369 => some e369))
set_option maxRecDepth 100000 in
theorem ok_La_law_j1400 (n : Nat) (L : Nat) (xs : Nat → Int32) (v3 : Int32) (M : Mm)  {z : Bool × Mm} {oo : (Int32 × Mm) ⊕ ((Mm) ⊕ (Bool × Mm))} {G : Gm} {X : Cx} {d : Nat} {Q : State → Prop} (hL2 : L ≤ 3072) (hxs : va_X (G.2.2.2 9) L xs X.2.2.2.2.1 G.1 ∧ G.2.2.2 9 < G.1.size) (hX : XK G X 12 cL_law 4 (d + 17)) (hT : ∀ (pc : Nat) (L : List Value) (M : Mm), decode cL_law pc = .ok (.ireturn, 1) → WR G X Q pc L [.int 1] M SS) (hr : XR X SS) (hz1 : z.1 = true) (hc : ∀ s1 : Int32 × Mm, oo = .inl s1 → WR G X Q 18 [.ref (1000 + 9), .ref 0, .ref 94, .int s1.1] [] s1.2 SS) (hx : ∀ x1 : (Mm) ⊕ (Bool × Mm), oo = .inr x1 → elS x1 (fun x2 => WR G X Q 1406 [vU, vU, vU, vU] [] x2 SS) (fun y1 => y1 = z)) (h : La_law_j1400 v3 M = some oo) : WR G X Q 1400 [.ref (1000 + 9), .ref 0, .ref 94, .int v3] [] M SS := by
  unfold La_law_j1400 at h
  refine r_iinc (v := v3 + (6 : Int32)) (L1 := [.ref (1000 + 9), .ref 0, .ref 94, .int (v3 + (6 : Int32))]) hX dL_law_1400 rfl rfl rfl ?_
  refine r_goto (tgt := 18) hX dL_law_1403 (by decide) ?_
  exact hc (v3 + (6 : Int32), M) (Option.some.inj h).symm
set_option maxRecDepth 100000 in
theorem ok_La_law_b18 (n : Nat) (L : Nat) (xs : Nat → Int32) (v3 : Int32) (M : Mm)  {z : Bool × Mm} {oo : (Int32 × Mm) ⊕ ((Mm) ⊕ (Bool × Mm))} {G : Gm} {X : Cx} {d : Nat} {Q : State → Prop} (hL2 : L ≤ 3072) (hxs : va_X (G.2.2.2 9) L xs X.2.2.2.2.1 G.1 ∧ G.2.2.2 9 < G.1.size) (hX : XK G X 12 cL_law 4 (d + 17)) (hT : ∀ (pc : Nat) (L : List Value) (M : Mm), decode cL_law pc = .ok (.ireturn, 1) → WR G X Q pc L [.int 1] M SS) (hr : XR X SS) (hz1 : z.1 = true) (hc : ∀ s1 : Int32 × Mm, oo = .inl s1 → WR G X Q 18 [.ref (1000 + 9), .ref 0, .ref 94, .int s1.1] [] s1.2 SS) (hx : ∀ x1 : (Mm) ⊕ (Bool × Mm), oo = .inr x1 → elS x1 (fun x2 => WR G X Q 1406 [vU, vU, vU, vU] [] x2 SS) (fun y1 => y1 = z)) (h : La_law_b18 n L xs v3 M = some oo) : WR G X Q 18 [.ref (1000 + 9), .ref 0, .ref 94, .int v3] [] M SS := by
  unfold La_law_b18 at h
  refine r_iload_n hX dL_law_18 rfl ?_
  refine r_aload_n hX dL_law_19 rfl ?_
  refine r_xlen hX dL_law_20 hxs ?_
  refine r_bipush (v := (6 : Int32)) hX dL_law_21 (by decide) ?_
  refine r_isub hX dL_law_23 ?_
  refine r_icmp_gt (tgt := 1406) hX dL_law_24 (by decide) (fun g1 => ?_) (fun g1 => ?_)
  · have h := (if_pos g1).symm.trans h
    refine WR.fg (L' := [vU, vU, vU, vU]) ⟨Or.inl rfl, Or.inl rfl, Or.inl rfl, Or.inl rfl, trivial⟩ ?_
    exact hx _ (Option.some.inj h).symm
  · have h := (if_neg g1).symm.trans h
    refine r_aload_n hX dL_law_27 rfl ?_
    refine r_iload_n hX dL_law_28 rfl ?_
    obtain ⟨k2, h⟩ := grd_s h
    refine r_xld hX dL_law_29 hxs k2 ?_
    refine r_bipush (v := (63 : Int32)) hX dL_law_30 (by decide) ?_
    refine r_iand hX dL_law_32 ?_
    by_cases g3 : ((xs (tn v3)) &&& (63 : Int32)) = (0 : Int32)
    · have h := (if_pos g3).symm.trans h
      refine r_tabEq (tgt := 192) hX dL_law_33 g3 ⟨by decide, by decide, rfl⟩ (by decide) ?_
      refine r_aload_n hX dL_law_192 rfl ?_
      refine r_aload_n hX dL_law_193 rfl ?_
      refine r_iload_n hX dL_law_194 rfl ?_
      refine r_iconst (v := (1 : Int32)) hX dL_law_195 (by decide) ?_
      refine r_iadd hX dL_law_196 ?_
      obtain ⟨k4, h⟩ := grd_s h
      refine r_xld hX dL_law_197 hxs k4 ?_
      refine r_aload_n hX dL_law_198 rfl ?_
      refine r_iload_n hX dL_law_199 rfl ?_
      refine r_iconst (v := (2 : Int32)) hX dL_law_200 (by decide) ?_
      refine r_iadd hX dL_law_201 ?_
      obtain ⟨k5, h⟩ := grd_s h
      refine r_xld hX dL_law_202 hxs k5 ?_
      refine r_aload_n hX dL_law_203 rfl ?_
      refine r_iload_n hX dL_law_204 rfl ?_
      refine r_iconst (v := (3 : Int32)) hX dL_law_205 (by decide) ?_
      refine r_iadd hX dL_law_206 ?_
      obtain ⟨k6, h⟩ := grd_s h
      refine r_xld hX dL_law_207 hxs k6 ?_
      refine r_aload_n hX dL_law_208 rfl ?_
      refine r_iload_n hX dL_law_209 rfl ?_
      refine r_iconst (v := (4 : Int32)) hX dL_law_210 (by decide) ?_
      refine r_iadd hX dL_law_211 ?_
      obtain ⟨k7, h⟩ := grd_s h
      refine r_xld hX dL_law_212 hxs k7 ?_
      refine r_aload_n hX dL_law_213 rfl ?_
      refine r_iload_n hX dL_law_214 rfl ?_
      refine r_iconst (v := (5 : Int32)) hX dL_law_215 (by decide) ?_
      refine r_iadd hX dL_law_216 ?_
      obtain ⟨k8, h⟩ := grd_s h
      refine r_xld hX dL_law_217 hxs k8 ?_
      obtain ⟨z9, p10, h⟩ := bnd_s h
      refine r_callV (As := [.int (xs (tn (v3 + (1 : Int32)))), .int (xs (tn (v3 + (2 : Int32)))), .int (xs (tn (v3 + (3 : Int32)))), .int (xs (tn (v3 + (4 : Int32)))), .int (xs (tn (v3 + (5 : Int32))))]) hX dL_law_218 mk_Fg_feed mi_Fg_feed ml_12_13 rfl rfl rfl rfl (by decide) (by decide) (Nat.le_of_ble_eq_true rfl) hr (ok_Fg_feed (d := d + 15) n (xs (tn (v3 + (1 : Int32)))) (xs (tn (v3 + (2 : Int32)))) (xs (tn (v3 + (3 : Int32)))) (xs (tn (v3 + (4 : Int32)))) (xs (tn (v3 + (5 : Int32)))) M p10) ?_
      refine r_aload_n hX dL_law_221 rfl ?_
      refine r_aload_n hX dL_law_222 rfl ?_
      refine r_iload_n hX dL_law_223 rfl ?_
      refine r_iconst (v := (1 : Int32)) hX dL_law_224 (by decide) ?_
      refine r_iadd hX dL_law_225 ?_
      obtain ⟨k11, h⟩ := grd_s h
      refine r_xld hX dL_law_226 hxs k11 ?_
      refine r_aload_n hX dL_law_227 rfl ?_
      refine r_iload_n hX dL_law_228 rfl ?_
      refine r_iconst (v := (2 : Int32)) hX dL_law_229 (by decide) ?_
      refine r_iadd hX dL_law_230 ?_
      obtain ⟨k12, h⟩ := grd_s h
      refine r_xld hX dL_law_231 hxs k12 ?_
      refine r_aload_n hX dL_law_232 rfl ?_
      refine r_iload_n hX dL_law_233 rfl ?_
      refine r_iconst (v := (3 : Int32)) hX dL_law_234 (by decide) ?_
      refine r_iadd hX dL_law_235 ?_
      obtain ⟨k13, h⟩ := grd_s h
      refine r_xld hX dL_law_236 hxs k13 ?_
      refine r_aload_n hX dL_law_237 rfl ?_
      refine r_iload_n hX dL_law_238 rfl ?_
      refine r_iconst (v := (4 : Int32)) hX dL_law_239 (by decide) ?_
      refine r_iadd hX dL_law_240 ?_
      obtain ⟨k14, h⟩ := grd_s h
      refine r_xld hX dL_law_241 hxs k14 ?_
      refine r_aload_n hX dL_law_242 rfl ?_
      refine r_iload_n hX dL_law_243 rfl ?_
      refine r_iconst (v := (5 : Int32)) hX dL_law_244 (by decide) ?_
      refine r_iadd hX dL_law_245 ?_
      obtain ⟨k15, h⟩ := grd_s h
      refine r_xld hX dL_law_246 hxs k15 ?_
      obtain ⟨z16, p17, h⟩ := bnd_s h
      refine r_callV (As := [.int (xs (tn (v3 + (1 : Int32)))), .int (xs (tn (v3 + (2 : Int32)))), .int (xs (tn (v3 + (3 : Int32)))), .int (xs (tn (v3 + (4 : Int32)))), .int (xs (tn (v3 + (5 : Int32))))]) hX dL_law_247 mk_Fm_feed mi_Fm_feed ml_12_17 rfl rfl rfl rfl (by decide) (by decide) (Nat.le_of_ble_eq_true rfl) hr (ok_Fm_feed (d := d + 15) n (xs (tn (v3 + (1 : Int32)))) (xs (tn (v3 + (2 : Int32)))) (xs (tn (v3 + (3 : Int32)))) (xs (tn (v3 + (4 : Int32)))) (xs (tn (v3 + (5 : Int32)))) z9.2 p17) ?_
      refine r_icmp_eq (tgt := 1400) hX dL_law_250 (by decide) (fun g18 => ?_) (fun g18 => ?_)
      · have h := (if_pos g18).symm.trans h
        exact ok_La_law_j1400 n L xs v3 z16.2  hL2 hxs hX hT hr hz1 hc hx h
      · have h := (if_neg g18).symm.trans h
        refine r_iconst (v := (0 : Int32)) hX dL_law_253 (by decide) ?_
        obtain rfl := hx _ (Option.some.inj h).symm
        cases hz1
    · have h := (if_neg g3).symm.trans h
      by_cases g19 : ((xs (tn v3)) &&& (63 : Int32)) = (1 : Int32)
      · have h := (if_pos g19).symm.trans h
        refine r_tabEq (tgt := 255) hX dL_law_33 g19 ⟨by decide, by decide, rfl⟩ (by decide) ?_
        refine r_aload_n hX dL_law_255 rfl ?_
        refine r_aload_n hX dL_law_256 rfl ?_
        refine r_iload_n hX dL_law_257 rfl ?_
        refine r_iconst (v := (1 : Int32)) hX dL_law_258 (by decide) ?_
        refine r_iadd hX dL_law_259 ?_
        obtain ⟨k20, h⟩ := grd_s h
        refine r_xld hX dL_law_260 hxs k20 ?_
        obtain ⟨z21, p22, h⟩ := bnd_s h
        refine r_callV (As := [.int (xs (tn (v3 + (1 : Int32))))]) hX dL_law_261 mk_Fg_grid mi_Fg_grid ml_12_18 rfl rfl rfl rfl (by decide) (by decide) (Nat.le_of_ble_eq_true rfl) hr (ok_Fg_grid (d := d + 8) n (xs (tn (v3 + (1 : Int32)))) M p22) ?_
        refine r_aload_n hX dL_law_264 rfl ?_
        refine r_aload_n hX dL_law_265 rfl ?_
        refine r_iload_n hX dL_law_266 rfl ?_
        refine r_iconst (v := (1 : Int32)) hX dL_law_267 (by decide) ?_
        refine r_iadd hX dL_law_268 ?_
        obtain ⟨k23, h⟩ := grd_s h
        refine r_xld hX dL_law_269 hxs k23 ?_
        obtain ⟨z24, p25, h⟩ := bnd_s h
        refine r_callV (As := [.int (xs (tn (v3 + (1 : Int32))))]) hX dL_law_270 mk_Fm_grid mi_Fm_grid ml_12_22 rfl rfl rfl rfl (by decide) (by decide) (Nat.le_of_ble_eq_true rfl) hr (ok_Fm_grid (d := d + 11) n (xs (tn (v3 + (1 : Int32)))) z21.2 p25) ?_
        refine r_icmp_eq (tgt := 1400) hX dL_law_273 (by decide) (fun g26 => ?_) (fun g26 => ?_)
        · have h := (if_pos g26).symm.trans h
          exact ok_La_law_j1400 n L xs v3 z24.2  hL2 hxs hX hT hr hz1 hc hx h
        · have h := (if_neg g26).symm.trans h
          refine r_iconst (v := (0 : Int32)) hX dL_law_276 (by decide) ?_
          obtain rfl := hx _ (Option.some.inj h).symm
          cases hz1
      · have h := (if_neg g19).symm.trans h
        by_cases g27 : ((xs (tn v3)) &&& (63 : Int32)) = (2 : Int32)
        · have h := (if_pos g27).symm.trans h
          refine r_tabEq (tgt := 278) hX dL_law_33 g27 ⟨by decide, by decide, rfl⟩ (by decide) ?_
          refine r_aload_n hX dL_law_278 rfl ?_
          refine r_aload_n hX dL_law_279 rfl ?_
          refine r_iload_n hX dL_law_280 rfl ?_
          refine r_iconst (v := (1 : Int32)) hX dL_law_281 (by decide) ?_
          refine r_iadd hX dL_law_282 ?_
          obtain ⟨k28, h⟩ := grd_s h
          refine r_xld hX dL_law_283 hxs k28 ?_
          obtain ⟨z29, p30, h⟩ := bnd_s h
          refine r_callV (As := [.int (xs (tn (v3 + (1 : Int32))))]) hX dL_law_284 mk_Fg_works mi_Fg_works ml_12_23 rfl rfl rfl rfl (by decide) (by decide) (Nat.le_of_ble_eq_true rfl) hr (ok_Fg_works (d := d + 0) n (xs (tn (v3 + (1 : Int32)))) M p30) ?_
          refine r_aload_n hX dL_law_287 rfl ?_
          refine r_aload_n hX dL_law_288 rfl ?_
          refine r_iload_n hX dL_law_289 rfl ?_
          refine r_iconst (v := (1 : Int32)) hX dL_law_290 (by decide) ?_
          refine r_iadd hX dL_law_291 ?_
          obtain ⟨k31, h⟩ := grd_s h
          refine r_xld hX dL_law_292 hxs k31 ?_
          obtain ⟨z32, p33, h⟩ := bnd_s h
          refine r_callV (As := [.int (xs (tn (v3 + (1 : Int32))))]) hX dL_law_293 mk_Fm_works mi_Fm_works ml_12_26 rfl rfl rfl rfl (by decide) (by decide) (Nat.le_of_ble_eq_true rfl) hr (ok_Fm_works (d := d + 7) n (xs (tn (v3 + (1 : Int32)))) z29.2 p33) ?_
          refine r_icmp_eq (tgt := 1400) hX dL_law_296 (by decide) (fun g34 => ?_) (fun g34 => ?_)
          · have h := (if_pos g34).symm.trans h
            exact ok_La_law_j1400 n L xs v3 z32.2  hL2 hxs hX hT hr hz1 hc hx h
          · have h := (if_neg g34).symm.trans h
            refine r_iconst (v := (0 : Int32)) hX dL_law_299 (by decide) ?_
            obtain rfl := hx _ (Option.some.inj h).symm
            cases hz1
        · have h := (if_neg g27).symm.trans h
          by_cases g35 : ((xs (tn v3)) &&& (63 : Int32)) = (3 : Int32)
          · have h := (if_pos g35).symm.trans h
            refine r_tabEq (tgt := 301) hX dL_law_33 g35 ⟨by decide, by decide, rfl⟩ (by decide) ?_
            refine r_aload_n hX dL_law_301 rfl ?_
            refine r_aload_n hX dL_law_302 rfl ?_
            refine r_iload_n hX dL_law_303 rfl ?_
            refine r_iconst (v := (1 : Int32)) hX dL_law_304 (by decide) ?_
            refine r_iadd hX dL_law_305 ?_
            obtain ⟨k36, h⟩ := grd_s h
            refine r_xld hX dL_law_306 hxs k36 ?_
            refine r_aload_n hX dL_law_307 rfl ?_
            refine r_iload_n hX dL_law_308 rfl ?_
            refine r_iconst (v := (2 : Int32)) hX dL_law_309 (by decide) ?_
            refine r_iadd hX dL_law_310 ?_
            obtain ⟨k37, h⟩ := grd_s h
            refine r_xld hX dL_law_311 hxs k37 ?_
            refine r_aload_n hX dL_law_312 rfl ?_
            refine r_iload_n hX dL_law_313 rfl ?_
            refine r_iconst (v := (3 : Int32)) hX dL_law_314 (by decide) ?_
            refine r_iadd hX dL_law_315 ?_
            obtain ⟨k38, h⟩ := grd_s h
            refine r_xld hX dL_law_316 hxs k38 ?_
            refine r_aload_n hX dL_law_317 rfl ?_
            refine r_iload_n hX dL_law_318 rfl ?_
            refine r_iconst (v := (4 : Int32)) hX dL_law_319 (by decide) ?_
            refine r_iadd hX dL_law_320 ?_
            obtain ⟨k39, h⟩ := grd_s h
            refine r_xld hX dL_law_321 hxs k39 ?_
            obtain ⟨z40, p41, h⟩ := bnd_s h
            refine r_callV (As := [.int (xs (tn (v3 + (1 : Int32)))), .int (xs (tn (v3 + (2 : Int32)))), .int (xs (tn (v3 + (3 : Int32)))), .int (xs (tn (v3 + (4 : Int32))))]) hX dL_law_322 mk_Fg_ask mi_Fg_ask ml_12_27 rfl rfl rfl rfl (by decide) (by decide) (Nat.le_of_ble_eq_true rfl) hr (ok_Fg_ask (d := d + 3) n (xs (tn (v3 + (1 : Int32)))) (xs (tn (v3 + (2 : Int32)))) (xs (tn (v3 + (3 : Int32)))) (xs (tn (v3 + (4 : Int32)))) M p41) ?_
            refine r_aload_n hX dL_law_325 rfl ?_
            refine r_aload_n hX dL_law_326 rfl ?_
            refine r_iload_n hX dL_law_327 rfl ?_
            refine r_iconst (v := (1 : Int32)) hX dL_law_328 (by decide) ?_
            refine r_iadd hX dL_law_329 ?_
            obtain ⟨k42, h⟩ := grd_s h
            refine r_xld hX dL_law_330 hxs k42 ?_
            refine r_aload_n hX dL_law_331 rfl ?_
            refine r_iload_n hX dL_law_332 rfl ?_
            refine r_iconst (v := (2 : Int32)) hX dL_law_333 (by decide) ?_
            refine r_iadd hX dL_law_334 ?_
            obtain ⟨k43, h⟩ := grd_s h
            refine r_xld hX dL_law_335 hxs k43 ?_
            refine r_aload_n hX dL_law_336 rfl ?_
            refine r_iload_n hX dL_law_337 rfl ?_
            refine r_iconst (v := (3 : Int32)) hX dL_law_338 (by decide) ?_
            refine r_iadd hX dL_law_339 ?_
            obtain ⟨k44, h⟩ := grd_s h
            refine r_xld hX dL_law_340 hxs k44 ?_
            refine r_aload_n hX dL_law_341 rfl ?_
            refine r_iload_n hX dL_law_342 rfl ?_
            refine r_iconst (v := (4 : Int32)) hX dL_law_343 (by decide) ?_
            refine r_iadd hX dL_law_344 ?_
            obtain ⟨k45, h⟩ := grd_s h
            refine r_xld hX dL_law_345 hxs k45 ?_
            obtain ⟨z46, p47, h⟩ := bnd_s h
            refine r_callV (As := [.int (xs (tn (v3 + (1 : Int32)))), .int (xs (tn (v3 + (2 : Int32)))), .int (xs (tn (v3 + (3 : Int32)))), .int (xs (tn (v3 + (4 : Int32))))]) hX dL_law_346 mk_Fm_ask mi_Fm_ask ml_12_31 rfl rfl rfl rfl (by decide) (by decide) (Nat.le_of_ble_eq_true rfl) hr (ok_Fm_ask (d := d + 10) n (xs (tn (v3 + (1 : Int32)))) (xs (tn (v3 + (2 : Int32)))) (xs (tn (v3 + (3 : Int32)))) (xs (tn (v3 + (4 : Int32)))) z40.2 p47) ?_
            refine r_icmp_eq (tgt := 1400) hX dL_law_349 (by decide) (fun g48 => ?_) (fun g48 => ?_)
            · have h := (if_pos g48).symm.trans h
              exact ok_La_law_j1400 n L xs v3 z46.2  hL2 hxs hX hT hr hz1 hc hx h
            · have h := (if_neg g48).symm.trans h
              refine r_iconst (v := (0 : Int32)) hX dL_law_352 (by decide) ?_
              obtain rfl := hx _ (Option.some.inj h).symm
              cases hz1
          · have h := (if_neg g35).symm.trans h
            by_cases g49 : ((xs (tn v3)) &&& (63 : Int32)) = (4 : Int32)
            · have h := (if_pos g49).symm.trans h
              refine r_tabEq (tgt := 354) hX dL_law_33 g49 ⟨by decide, by decide, rfl⟩ (by decide) ?_
              refine r_aload_n hX dL_law_354 rfl ?_
              refine r_aload_n hX dL_law_355 rfl ?_
              refine r_iload_n hX dL_law_356 rfl ?_
              refine r_iconst (v := (1 : Int32)) hX dL_law_357 (by decide) ?_
              refine r_iadd hX dL_law_358 ?_
              obtain ⟨k50, h⟩ := grd_s h
              refine r_xld hX dL_law_359 hxs k50 ?_
              obtain ⟨z51, p52, h⟩ := bnd_s h
              refine r_callV (As := [.int (xs (tn (v3 + (1 : Int32))))]) hX dL_law_360 mk_Fg_drop mi_Fg_drop ml_12_32 rfl rfl rfl rfl (by decide) (by decide) (Nat.le_of_ble_eq_true rfl) hr (ok_Fg_drop (d := d + 15) n (xs (tn (v3 + (1 : Int32)))) M p52) ?_
              refine r_aload_n hX dL_law_363 rfl ?_
              refine r_aload_n hX dL_law_364 rfl ?_
              refine r_iload_n hX dL_law_365 rfl ?_
              refine r_iconst (v := (1 : Int32)) hX dL_law_366 (by decide) ?_
              refine r_iadd hX dL_law_367 ?_
              obtain ⟨k53, h⟩ := grd_s h
              refine r_xld hX dL_law_368 hxs k53 ?_
              obtain ⟨z54, p55, h⟩ := bnd_s h
              refine r_callV (As := [.int (xs (tn (v3 + (1 : Int32))))]) hX dL_law_369 mk_Fm_drop mi_Fm_drop ml_12_36 rfl rfl rfl rfl (by decide) (by decide) (Nat.le_of_ble_eq_true rfl) hr (ok_Fm_drop (d := d + 14) (xs (tn (v3 + (1 : Int32)))) z51.2 p55) ?_
              refine r_icmp_eq (tgt := 1400) hX dL_law_372 (by decide) (fun g56 => ?_) (fun g56 => ?_)
              · have h := (if_pos g56).symm.trans h
                exact ok_La_law_j1400 n L xs v3 z54.2  hL2 hxs hX hT hr hz1 hc hx h
              · have h := (if_neg g56).symm.trans h
                refine r_iconst (v := (0 : Int32)) hX dL_law_375 (by decide) ?_
                obtain rfl := hx _ (Option.some.inj h).symm
                cases hz1
            · have h := (if_neg g49).symm.trans h
              by_cases g57 : ((xs (tn v3)) &&& (63 : Int32)) = (5 : Int32)
              · have h := (if_pos g57).symm.trans h
                refine r_tabEq (tgt := 377) hX dL_law_33 g57 ⟨by decide, by decide, rfl⟩ (by decide) ?_
                refine r_aload_n hX dL_law_377 rfl ?_
                refine r_aload_n hX dL_law_378 rfl ?_
                refine r_iload_n hX dL_law_379 rfl ?_
                refine r_iconst (v := (1 : Int32)) hX dL_law_380 (by decide) ?_
                refine r_iadd hX dL_law_381 ?_
                obtain ⟨k58, h⟩ := grd_s h
                refine r_xld hX dL_law_382 hxs k58 ?_
                obtain ⟨z59, p60, h⟩ := bnd_s h
                refine r_callV (As := [.int (xs (tn (v3 + (1 : Int32))))]) hX dL_law_383 mk_Fg_slide mi_Fg_slide ml_12_37 rfl rfl rfl rfl (by decide) (by decide) (Nat.le_of_ble_eq_true rfl) hr (ok_Fg_slide (d := d + 12) n (xs (tn (v3 + (1 : Int32)))) M p60) ?_
                refine r_aload_n hX dL_law_386 rfl ?_
                refine r_aload_n hX dL_law_387 rfl ?_
                refine r_iload_n hX dL_law_388 rfl ?_
                refine r_iconst (v := (1 : Int32)) hX dL_law_389 (by decide) ?_
                refine r_iadd hX dL_law_390 ?_
                obtain ⟨k61, h⟩ := grd_s h
                refine r_xld hX dL_law_391 hxs k61 ?_
                obtain ⟨z62, p63, h⟩ := bnd_s h
                refine r_callV (As := [.int (xs (tn (v3 + (1 : Int32))))]) hX dL_law_392 mk_Fm_slide mi_Fm_slide ml_12_40 rfl rfl rfl rfl (by decide) (by decide) (Nat.le_of_ble_eq_true rfl) hr (ok_Fm_slide (d := d + 10) n (xs (tn (v3 + (1 : Int32)))) z59.2 p63) ?_
                refine r_icmp_eq (tgt := 1400) hX dL_law_395 (by decide) (fun g64 => ?_) (fun g64 => ?_)
                · have h := (if_pos g64).symm.trans h
                  exact ok_La_law_j1400 n L xs v3 z62.2  hL2 hxs hX hT hr hz1 hc hx h
                · have h := (if_neg g64).symm.trans h
                  refine r_iconst (v := (0 : Int32)) hX dL_law_398 (by decide) ?_
                  obtain rfl := hx _ (Option.some.inj h).symm
                  cases hz1
              · have h := (if_neg g57).symm.trans h
                by_cases g65 : ((xs (tn v3)) &&& (63 : Int32)) = (6 : Int32)
                · have h := (if_pos g65).symm.trans h
                  refine r_tabEq (tgt := 400) hX dL_law_33 g65 ⟨by decide, by decide, rfl⟩ (by decide) ?_
                  refine r_aload_n hX dL_law_400 rfl ?_
                  obtain ⟨z66, p67, h⟩ := bnd_s h
                  refine r_callV (As := []) hX dL_law_401 mk_Fg_sweep mi_Fg_sweep ml_12_41 rfl rfl rfl rfl (by decide) (by decide) (Nat.le_of_ble_eq_true rfl) hr (ok_Fg_sweep (d := d + 12) n M p67) ?_
                  refine r_aload_n hX dL_law_404 rfl ?_
                  obtain ⟨z68, p69, h⟩ := bnd_s h
                  refine r_callV (As := []) hX dL_law_405 mk_Fm_sweep mi_Fm_sweep ml_12_45 rfl rfl rfl rfl (by decide) (by decide) (Nat.le_of_ble_eq_true rfl) hr (ok_Fm_sweep (d := d + 10) n z66.2 p69) ?_
                  refine r_icmp_eq (tgt := 1400) hX dL_law_408 (by decide) (fun g70 => ?_) (fun g70 => ?_)
                  · have h := (if_pos g70).symm.trans h
                    exact ok_La_law_j1400 n L xs v3 z68.2  hL2 hxs hX hT hr hz1 hc hx h
                  · have h := (if_neg g70).symm.trans h
                    refine r_iconst (v := (0 : Int32)) hX dL_law_411 (by decide) ?_
                    obtain rfl := hx _ (Option.some.inj h).symm
                    cases hz1
                · have h := (if_neg g65).symm.trans h
                  by_cases g71 : ((xs (tn v3)) &&& (63 : Int32)) = (7 : Int32)
                  · have h := (if_pos g71).symm.trans h
                    refine r_tabEq (tgt := 413) hX dL_law_33 g71 ⟨by decide, by decide, rfl⟩ (by decide) ?_
                    refine r_aload_n hX dL_law_413 rfl ?_
                    obtain ⟨z72, p73, h⟩ := bnd_s h
                    refine r_callV (As := []) hX dL_law_414 mk_Fg_sweeps mi_Fg_sweeps ml_12_46 rfl rfl rfl rfl (by decide) (by decide) (Nat.le_of_ble_eq_true rfl) hr (ok_Fg_sweeps (d := d + 11) n M p73) ?_
                    refine r_aload_n hX dL_law_417 rfl ?_
                    obtain ⟨z74, p75, h⟩ := bnd_s h
                    refine r_callV (As := []) hX dL_law_418 mk_Fm_sweeps mi_Fm_sweeps ml_12_49 rfl rfl rfl rfl (by decide) (by decide) (Nat.le_of_ble_eq_true rfl) hr (ok_Fm_sweeps (d := d + 9) n z72.2 p75) ?_
                    refine r_icmp_eq (tgt := 1400) hX dL_law_421 (by decide) (fun g76 => ?_) (fun g76 => ?_)
                    · have h := (if_pos g76).symm.trans h
                      exact ok_La_law_j1400 n L xs v3 z74.2  hL2 hxs hX hT hr hz1 hc hx h
                    · have h := (if_neg g76).symm.trans h
                      refine r_iconst (v := (0 : Int32)) hX dL_law_424 (by decide) ?_
                      obtain rfl := hx _ (Option.some.inj h).symm
                      cases hz1
                  · have h := (if_neg g71).symm.trans h
                    by_cases g77 : ((xs (tn v3)) &&& (63 : Int32)) = (8 : Int32)
                    · have h := (if_pos g77).symm.trans h
                      refine r_tabEq (tgt := 426) hX dL_law_33 g77 ⟨by decide, by decide, rfl⟩ (by decide) ?_
                      refine r_aload_n hX dL_law_426 rfl ?_
                      refine r_aload_n hX dL_law_427 rfl ?_
                      refine r_iload_n hX dL_law_428 rfl ?_
                      refine r_iconst (v := (1 : Int32)) hX dL_law_429 (by decide) ?_
                      refine r_iadd hX dL_law_430 ?_
                      obtain ⟨k78, h⟩ := grd_s h
                      refine r_xld hX dL_law_431 hxs k78 ?_
                      refine r_aload_n hX dL_law_432 rfl ?_
                      refine r_iload_n hX dL_law_433 rfl ?_
                      refine r_iconst (v := (2 : Int32)) hX dL_law_434 (by decide) ?_
                      refine r_iadd hX dL_law_435 ?_
                      obtain ⟨k79, h⟩ := grd_s h
                      refine r_xld hX dL_law_436 hxs k79 ?_
                      obtain ⟨z80, p81, h⟩ := bnd_s h
                      refine r_callV (As := [.int (xs (tn (v3 + (1 : Int32)))), .int (xs (tn (v3 + (2 : Int32))))]) hX dL_law_437 mk_Fg_jump mi_Fg_jump ml_12_50 rfl rfl rfl rfl (by decide) (by decide) (Nat.le_of_ble_eq_true rfl) hr (ok_Fg_jump (d := d + 13) n (xs (tn (v3 + (1 : Int32)))) (xs (tn (v3 + (2 : Int32)))) M p81) ?_
                      refine r_aload_n hX dL_law_440 rfl ?_
                      refine r_aload_n hX dL_law_441 rfl ?_
                      refine r_iload_n hX dL_law_442 rfl ?_
                      refine r_iconst (v := (1 : Int32)) hX dL_law_443 (by decide) ?_
                      refine r_iadd hX dL_law_444 ?_
                      obtain ⟨k82, h⟩ := grd_s h
                      refine r_xld hX dL_law_445 hxs k82 ?_
                      refine r_aload_n hX dL_law_446 rfl ?_
                      refine r_iload_n hX dL_law_447 rfl ?_
                      refine r_iconst (v := (2 : Int32)) hX dL_law_448 (by decide) ?_
                      refine r_iadd hX dL_law_449 ?_
                      obtain ⟨k83, h⟩ := grd_s h
                      refine r_xld hX dL_law_450 hxs k83 ?_
                      obtain ⟨z84, p85, h⟩ := bnd_s h
                      refine r_callV (As := [.int (xs (tn (v3 + (1 : Int32)))), .int (xs (tn (v3 + (2 : Int32))))]) hX dL_law_451 mk_Fm_jump mi_Fm_jump ml_12_54 rfl rfl rfl rfl (by decide) (by decide) (Nat.le_of_ble_eq_true rfl) hr (ok_Fm_jump (d := d + 11) n (xs (tn (v3 + (1 : Int32)))) (xs (tn (v3 + (2 : Int32)))) z80.2 p85) ?_
                      refine r_icmp_eq (tgt := 1400) hX dL_law_454 (by decide) (fun g86 => ?_) (fun g86 => ?_)
                      · have h := (if_pos g86).symm.trans h
                        exact ok_La_law_j1400 n L xs v3 z84.2  hL2 hxs hX hT hr hz1 hc hx h
                      · have h := (if_neg g86).symm.trans h
                        refine r_iconst (v := (0 : Int32)) hX dL_law_457 (by decide) ?_
                        obtain rfl := hx _ (Option.some.inj h).symm
                        cases hz1
                    · have h := (if_neg g77).symm.trans h
                      by_cases g87 : ((xs (tn v3)) &&& (63 : Int32)) = (9 : Int32)
                      · have h := (if_pos g87).symm.trans h
                        refine r_tabEq (tgt := 459) hX dL_law_33 g87 ⟨by decide, by decide, rfl⟩ (by decide) ?_
                        refine r_aload_n hX dL_law_459 rfl ?_
                        refine r_aload_n hX dL_law_460 rfl ?_
                        refine r_iload_n hX dL_law_461 rfl ?_
                        refine r_iconst (v := (1 : Int32)) hX dL_law_462 (by decide) ?_
                        refine r_iadd hX dL_law_463 ?_
                        obtain ⟨k88, h⟩ := grd_s h
                        refine r_xld hX dL_law_464 hxs k88 ?_
                        obtain ⟨z89, p90, h⟩ := bnd_s h
                        refine r_callV (As := [.int (xs (tn (v3 + (1 : Int32))))]) hX dL_law_465 mk_Fg_cut mi_Fg_cut ml_12_55 rfl rfl rfl rfl (by decide) (by decide) (Nat.le_of_ble_eq_true rfl) hr (ok_Fg_cut (d := d + 14) n (xs (tn (v3 + (1 : Int32)))) M p90) ?_
                        refine r_aload_n hX dL_law_468 rfl ?_
                        refine r_aload_n hX dL_law_469 rfl ?_
                        refine r_iload_n hX dL_law_470 rfl ?_
                        refine r_iconst (v := (1 : Int32)) hX dL_law_471 (by decide) ?_
                        refine r_iadd hX dL_law_472 ?_
                        obtain ⟨k91, h⟩ := grd_s h
                        refine r_xld hX dL_law_473 hxs k91 ?_
                        obtain ⟨z92, p93, h⟩ := bnd_s h
                        refine r_callV (As := [.int (xs (tn (v3 + (1 : Int32))))]) hX dL_law_474 mk_Fm_cut mi_Fm_cut ml_12_58 rfl rfl rfl rfl (by decide) (by decide) (Nat.le_of_ble_eq_true rfl) hr (ok_Fm_cut (d := d + 13) n (xs (tn (v3 + (1 : Int32)))) z89.2 p93) ?_
                        refine r_icmp_eq (tgt := 1400) hX dL_law_477 (by decide) (fun g94 => ?_) (fun g94 => ?_)
                        · have h := (if_pos g94).symm.trans h
                          exact ok_La_law_j1400 n L xs v3 z92.2  hL2 hxs hX hT hr hz1 hc hx h
                        · have h := (if_neg g94).symm.trans h
                          refine r_iconst (v := (0 : Int32)) hX dL_law_480 (by decide) ?_
                          obtain rfl := hx _ (Option.some.inj h).symm
                          cases hz1
                      · have h := (if_neg g87).symm.trans h
                        by_cases g95 : ((xs (tn v3)) &&& (63 : Int32)) = (10 : Int32)
                        · have h := (if_pos g95).symm.trans h
                          refine r_tabEq (tgt := 482) hX dL_law_33 g95 ⟨by decide, by decide, rfl⟩ (by decide) ?_
                          refine r_aload_n hX dL_law_482 rfl ?_
                          refine r_aload_n hX dL_law_483 rfl ?_
                          refine r_iload_n hX dL_law_484 rfl ?_
                          refine r_iconst (v := (1 : Int32)) hX dL_law_485 (by decide) ?_
                          refine r_iadd hX dL_law_486 ?_
                          obtain ⟨k96, h⟩ := grd_s h
                          refine r_xld hX dL_law_487 hxs k96 ?_
                          obtain ⟨z97, p98, h⟩ := bnd_s h
                          refine r_callV (As := [.int (xs (tn (v3 + (1 : Int32))))]) hX dL_law_488 mk_Fg_mend mi_Fg_mend ml_12_59 rfl rfl rfl rfl (by decide) (by decide) (Nat.le_of_ble_eq_true rfl) hr (ok_Fg_mend (d := d + 15) (xs (tn (v3 + (1 : Int32)))) M p98) ?_
                          refine r_aload_n hX dL_law_491 rfl ?_
                          refine r_aload_n hX dL_law_492 rfl ?_
                          refine r_iload_n hX dL_law_493 rfl ?_
                          refine r_iconst (v := (1 : Int32)) hX dL_law_494 (by decide) ?_
                          refine r_iadd hX dL_law_495 ?_
                          obtain ⟨k99, h⟩ := grd_s h
                          refine r_xld hX dL_law_496 hxs k99 ?_
                          obtain ⟨z100, p101, h⟩ := bnd_s h
                          refine r_callV (As := [.int (xs (tn (v3 + (1 : Int32))))]) hX dL_law_497 mk_Fm_mend mi_Fm_mend ml_12_62 rfl rfl rfl rfl (by decide) (by decide) (Nat.le_of_ble_eq_true rfl) hr (ok_Fm_mend (d := d + 14) (xs (tn (v3 + (1 : Int32)))) z97.2 p101) ?_
                          refine r_icmp_eq (tgt := 1400) hX dL_law_500 (by decide) (fun g102 => ?_) (fun g102 => ?_)
                          · have h := (if_pos g102).symm.trans h
                            exact ok_La_law_j1400 n L xs v3 z100.2  hL2 hxs hX hT hr hz1 hc hx h
                          · have h := (if_neg g102).symm.trans h
                            refine r_iconst (v := (0 : Int32)) hX dL_law_503 (by decide) ?_
                            obtain rfl := hx _ (Option.some.inj h).symm
                            cases hz1
                        · have h := (if_neg g95).symm.trans h
                          by_cases g103 : ((xs (tn v3)) &&& (63 : Int32)) = (11 : Int32)
                          · have h := (if_pos g103).symm.trans h
                            refine r_tabEq (tgt := 505) hX dL_law_33 g103 ⟨by decide, by decide, rfl⟩ (by decide) ?_
                            refine r_aload_n hX dL_law_505 rfl ?_
                            refine r_aload_n hX dL_law_506 rfl ?_
                            refine r_iload_n hX dL_law_507 rfl ?_
                            refine r_iconst (v := (1 : Int32)) hX dL_law_508 (by decide) ?_
                            refine r_iadd hX dL_law_509 ?_
                            obtain ⟨k104, h⟩ := grd_s h
                            refine r_xld hX dL_law_510 hxs k104 ?_
                            obtain ⟨z105, p106, h⟩ := bnd_s h
                            refine r_callV (As := [.int (xs (tn (v3 + (1 : Int32))))]) hX dL_law_511 mk_Fg_relight mi_Fg_relight ml_12_63 rfl rfl rfl rfl (by decide) (by decide) (Nat.le_of_ble_eq_true rfl) hr (ok_Fg_relight (d := d + 2) n (xs (tn (v3 + (1 : Int32)))) M p106) ?_
                            refine r_aload_n hX dL_law_514 rfl ?_
                            refine r_aload_n hX dL_law_515 rfl ?_
                            refine r_iload_n hX dL_law_516 rfl ?_
                            refine r_iconst (v := (1 : Int32)) hX dL_law_517 (by decide) ?_
                            refine r_iadd hX dL_law_518 ?_
                            obtain ⟨k107, h⟩ := grd_s h
                            refine r_xld hX dL_law_519 hxs k107 ?_
                            obtain ⟨z108, p109, h⟩ := bnd_s h
                            refine r_callV (As := [.int (xs (tn (v3 + (1 : Int32))))]) hX dL_law_520 mk_Fm_relight mi_Fm_relight ml_12_66 rfl rfl rfl rfl (by decide) (by decide) (Nat.le_of_ble_eq_true rfl) hr (ok_Fm_relight (d := d + 9) n (xs (tn (v3 + (1 : Int32)))) z105.2 p109) ?_
                            refine r_icmp_eq (tgt := 1400) hX dL_law_523 (by decide) (fun g110 => ?_) (fun g110 => ?_)
                            · have h := (if_pos g110).symm.trans h
                              exact ok_La_law_j1400 n L xs v3 z108.2  hL2 hxs hX hT hr hz1 hc hx h
                            · have h := (if_neg g110).symm.trans h
                              refine r_iconst (v := (0 : Int32)) hX dL_law_526 (by decide) ?_
                              obtain rfl := hx _ (Option.some.inj h).symm
                              cases hz1
                          · have h := (if_neg g103).symm.trans h
                            by_cases g111 : ((xs (tn v3)) &&& (63 : Int32)) = (12 : Int32)
                            · have h := (if_pos g111).symm.trans h
                              refine r_tabEq (tgt := 528) hX dL_law_33 g111 ⟨by decide, by decide, rfl⟩ (by decide) ?_
                              refine r_aload_n hX dL_law_528 rfl ?_
                              refine r_aload_n hX dL_law_529 rfl ?_
                              refine r_iload_n hX dL_law_530 rfl ?_
                              refine r_iconst (v := (1 : Int32)) hX dL_law_531 (by decide) ?_
                              refine r_iadd hX dL_law_532 ?_
                              obtain ⟨k112, h⟩ := grd_s h
                              refine r_xld hX dL_law_533 hxs k112 ?_
                              obtain ⟨z113, p114, h⟩ := bnd_s h
                              refine r_callV (As := [.int (xs (tn (v3 + (1 : Int32))))]) hX dL_law_534 mk_Fg_plan mi_Fg_plan ml_12_67 rfl rfl rfl rfl (by decide) (by decide) (Nat.le_of_ble_eq_true rfl) hr (ok_Fg_plan (d := d + 2) n (xs (tn (v3 + (1 : Int32)))) M p114) ?_
                              refine r_aload_n hX dL_law_537 rfl ?_
                              refine r_aload_n hX dL_law_538 rfl ?_
                              refine r_iload_n hX dL_law_539 rfl ?_
                              refine r_iconst (v := (1 : Int32)) hX dL_law_540 (by decide) ?_
                              refine r_iadd hX dL_law_541 ?_
                              obtain ⟨k115, h⟩ := grd_s h
                              refine r_xld hX dL_law_542 hxs k115 ?_
                              obtain ⟨z116, p117, h⟩ := bnd_s h
                              refine r_callV (As := [.int (xs (tn (v3 + (1 : Int32))))]) hX dL_law_543 mk_Fm_plan mi_Fm_plan ml_12_70 rfl rfl rfl rfl (by decide) (by decide) (Nat.le_of_ble_eq_true rfl) hr (ok_Fm_plan (d := d + 9) n (xs (tn (v3 + (1 : Int32)))) z113.2 p117) ?_
                              refine r_icmp_eq (tgt := 1400) hX dL_law_546 (by decide) (fun g118 => ?_) (fun g118 => ?_)
                              · have h := (if_pos g118).symm.trans h
                                exact ok_La_law_j1400 n L xs v3 z116.2  hL2 hxs hX hT hr hz1 hc hx h
                              · have h := (if_neg g118).symm.trans h
                                refine r_iconst (v := (0 : Int32)) hX dL_law_549 (by decide) ?_
                                obtain rfl := hx _ (Option.some.inj h).symm
                                cases hz1
                            · have h := (if_neg g111).symm.trans h
                              by_cases g119 : ((xs (tn v3)) &&& (63 : Int32)) = (13 : Int32)
                              · have h := (if_pos g119).symm.trans h
                                refine r_tabEq (tgt := 551) hX dL_law_33 g119 ⟨by decide, by decide, rfl⟩ (by decide) ?_
                                refine r_aload_n hX dL_law_551 rfl ?_
                                refine r_aload_n hX dL_law_552 rfl ?_
                                refine r_iload_n hX dL_law_553 rfl ?_
                                refine r_iconst (v := (1 : Int32)) hX dL_law_554 (by decide) ?_
                                refine r_iadd hX dL_law_555 ?_
                                obtain ⟨k120, h⟩ := grd_s h
                                refine r_xld hX dL_law_556 hxs k120 ?_
                                refine r_aload_n hX dL_law_557 rfl ?_
                                refine r_iload_n hX dL_law_558 rfl ?_
                                refine r_iconst (v := (2 : Int32)) hX dL_law_559 (by decide) ?_
                                refine r_iadd hX dL_law_560 ?_
                                obtain ⟨k121, h⟩ := grd_s h
                                refine r_xld hX dL_law_561 hxs k121 ?_
                                obtain ⟨z122, p123, h⟩ := bnd_s h
                                refine r_callV (As := [.int (xs (tn (v3 + (1 : Int32)))), .int (xs (tn (v3 + (2 : Int32))))]) hX dL_law_562 mk_Fg_lasts mi_Fg_lasts ml_12_71 rfl rfl rfl rfl (by decide) (by decide) (Nat.le_of_ble_eq_true rfl) hr (ok_Fg_lasts (d := d + 14) (xs (tn (v3 + (1 : Int32)))) (xs (tn (v3 + (2 : Int32)))) M p123) ?_
                                refine r_aload_n hX dL_law_565 rfl ?_
                                refine r_aload_n hX dL_law_566 rfl ?_
                                refine r_iload_n hX dL_law_567 rfl ?_
                                refine r_iconst (v := (1 : Int32)) hX dL_law_568 (by decide) ?_
                                refine r_iadd hX dL_law_569 ?_
                                obtain ⟨k124, h⟩ := grd_s h
                                refine r_xld hX dL_law_570 hxs k124 ?_
                                refine r_aload_n hX dL_law_571 rfl ?_
                                refine r_iload_n hX dL_law_572 rfl ?_
                                refine r_iconst (v := (2 : Int32)) hX dL_law_573 (by decide) ?_
                                refine r_iadd hX dL_law_574 ?_
                                obtain ⟨k125, h⟩ := grd_s h
                                refine r_xld hX dL_law_575 hxs k125 ?_
                                obtain ⟨z126, p127, h⟩ := bnd_s h
                                refine r_callV (As := [.int (xs (tn (v3 + (1 : Int32)))), .int (xs (tn (v3 + (2 : Int32))))]) hX dL_law_576 mk_Fm_lasts mi_Fm_lasts ml_12_74 rfl rfl rfl rfl (by decide) (by decide) (Nat.le_of_ble_eq_true rfl) hr (ok_Fm_lasts (d := d + 14) (xs (tn (v3 + (1 : Int32)))) (xs (tn (v3 + (2 : Int32)))) z122.2 p127) ?_
                                refine r_icmp_eq (tgt := 1400) hX dL_law_579 (by decide) (fun g128 => ?_) (fun g128 => ?_)
                                · have h := (if_pos g128).symm.trans h
                                  exact ok_La_law_j1400 n L xs v3 z126.2  hL2 hxs hX hT hr hz1 hc hx h
                                · have h := (if_neg g128).symm.trans h
                                  refine r_iconst (v := (0 : Int32)) hX dL_law_582 (by decide) ?_
                                  obtain rfl := hx _ (Option.some.inj h).symm
                                  cases hz1
                              · have h := (if_neg g119).symm.trans h
                                by_cases g129 : ((xs (tn v3)) &&& (63 : Int32)) = (14 : Int32)
                                · have h := (if_pos g129).symm.trans h
                                  refine r_tabEq (tgt := 584) hX dL_law_33 g129 ⟨by decide, by decide, rfl⟩ (by decide) ?_
                                  refine r_aload_n hX dL_law_584 rfl ?_
                                  refine r_aload_n hX dL_law_585 rfl ?_
                                  refine r_iload_n hX dL_law_586 rfl ?_
                                  refine r_iconst (v := (1 : Int32)) hX dL_law_587 (by decide) ?_
                                  refine r_iadd hX dL_law_588 ?_
                                  obtain ⟨k130, h⟩ := grd_s h
                                  refine r_xld hX dL_law_589 hxs k130 ?_
                                  obtain ⟨z131, p132, h⟩ := bnd_s h
                                  refine r_callV (As := [.int (xs (tn (v3 + (1 : Int32))))]) hX dL_law_590 mk_Fg_ticks mi_Fg_ticks ml_12_75 rfl rfl rfl rfl (by decide) (by decide) (Nat.le_of_ble_eq_true rfl) hr (ok_Fg_ticks (d := d + 13) n (xs (tn (v3 + (1 : Int32)))) M p132) ?_
                                  refine r_aload_n hX dL_law_593 rfl ?_
                                  refine r_aload_n hX dL_law_594 rfl ?_
                                  refine r_iload_n hX dL_law_595 rfl ?_
                                  refine r_iconst (v := (1 : Int32)) hX dL_law_596 (by decide) ?_
                                  refine r_iadd hX dL_law_597 ?_
                                  obtain ⟨k133, h⟩ := grd_s h
                                  refine r_xld hX dL_law_598 hxs k133 ?_
                                  obtain ⟨z134, p135, h⟩ := bnd_s h
                                  refine r_callV (As := [.int (xs (tn (v3 + (1 : Int32))))]) hX dL_law_599 mk_Fm_ticks mi_Fm_ticks ml_12_78 rfl rfl rfl rfl (by decide) (by decide) (Nat.le_of_ble_eq_true rfl) hr (ok_Fm_ticks (d := d + 14) n (xs (tn (v3 + (1 : Int32)))) z131.2 p135) ?_
                                  refine r_icmp_eq (tgt := 1400) hX dL_law_602 (by decide) (fun g136 => ?_) (fun g136 => ?_)
                                  · have h := (if_pos g136).symm.trans h
                                    exact ok_La_law_j1400 n L xs v3 z134.2  hL2 hxs hX hT hr hz1 hc hx h
                                  · have h := (if_neg g136).symm.trans h
                                    refine r_iconst (v := (0 : Int32)) hX dL_law_605 (by decide) ?_
                                    obtain rfl := hx _ (Option.some.inj h).symm
                                    cases hz1
                                · have h := (if_neg g129).symm.trans h
                                  by_cases g137 : ((xs (tn v3)) &&& (63 : Int32)) = (15 : Int32)
                                  · have h := (if_pos g137).symm.trans h
                                    refine r_tabEq (tgt := 607) hX dL_law_33 g137 ⟨by decide, by decide, rfl⟩ (by decide) ?_
                                    refine r_aload_n hX dL_law_607 rfl ?_
                                    refine r_aload_n hX dL_law_608 rfl ?_
                                    refine r_iload_n hX dL_law_609 rfl ?_
                                    refine r_iconst (v := (1 : Int32)) hX dL_law_610 (by decide) ?_
                                    refine r_iadd hX dL_law_611 ?_
                                    obtain ⟨k138, h⟩ := grd_s h
                                    refine r_xld hX dL_law_612 hxs k138 ?_
                                    obtain ⟨z139, p140, h⟩ := bnd_s h
                                    refine r_callV (As := [.int (xs (tn (v3 + (1 : Int32))))]) hX dL_law_613 mk_Fg_seed mi_Fg_seed ml_12_79 rfl rfl rfl rfl (by decide) (by decide) (Nat.le_of_ble_eq_true rfl) hr (ok_Fg_seed (d := d + 16) (xs (tn (v3 + (1 : Int32)))) M p140) ?_
                                    refine r_aload_n hX dL_law_616 rfl ?_
                                    refine r_aload_n hX dL_law_617 rfl ?_
                                    refine r_iload_n hX dL_law_618 rfl ?_
                                    refine r_iconst (v := (1 : Int32)) hX dL_law_619 (by decide) ?_
                                    refine r_iadd hX dL_law_620 ?_
                                    obtain ⟨k141, h⟩ := grd_s h
                                    refine r_xld hX dL_law_621 hxs k141 ?_
                                    obtain ⟨z142, p143, h⟩ := bnd_s h
                                    refine r_callV (As := [.int (xs (tn (v3 + (1 : Int32))))]) hX dL_law_622 mk_Fm_seed mi_Fm_seed ml_12_82 rfl rfl rfl rfl (by decide) (by decide) (Nat.le_of_ble_eq_true rfl) hr (ok_Fm_seed (d := d + 15) (xs (tn (v3 + (1 : Int32)))) z139.2 p143) ?_
                                    refine r_icmp_eq (tgt := 1400) hX dL_law_625 (by decide) (fun g144 => ?_) (fun g144 => ?_)
                                    · have h := (if_pos g144).symm.trans h
                                      exact ok_La_law_j1400 n L xs v3 z142.2  hL2 hxs hX hT hr hz1 hc hx h
                                    · have h := (if_neg g144).symm.trans h
                                      refine r_iconst (v := (0 : Int32)) hX dL_law_628 (by decide) ?_
                                      obtain rfl := hx _ (Option.some.inj h).symm
                                      cases hz1
                                  · have h := (if_neg g137).symm.trans h
                                    by_cases g145 : ((xs (tn v3)) &&& (63 : Int32)) = (16 : Int32)
                                    · have h := (if_pos g145).symm.trans h
                                      refine r_tabEq (tgt := 630) hX dL_law_33 g145 ⟨by decide, by decide, rfl⟩ (by decide) ?_
                                      refine r_aload_n hX dL_law_630 rfl ?_
                                      refine r_aload_n hX dL_law_631 rfl ?_
                                      refine r_iload_n hX dL_law_632 rfl ?_
                                      refine r_iconst (v := (1 : Int32)) hX dL_law_633 (by decide) ?_
                                      refine r_iadd hX dL_law_634 ?_
                                      obtain ⟨k146, h⟩ := grd_s h
                                      refine r_xld hX dL_law_635 hxs k146 ?_
                                      obtain ⟨z147, p148, h⟩ := bnd_s h
                                      refine r_callV (As := [.int (xs (tn (v3 + (1 : Int32))))]) hX dL_law_636 mk_Fg_gridIs mi_Fg_gridIs ml_12_83 rfl rfl rfl rfl (by decide) (by decide) (Nat.le_of_ble_eq_true rfl) hr (ok_Fg_gridIs (d := d + 13) n (xs (tn (v3 + (1 : Int32)))) M p148) ?_
                                      refine r_aload_n hX dL_law_639 rfl ?_
                                      refine r_aload_n hX dL_law_640 rfl ?_
                                      refine r_iload_n hX dL_law_641 rfl ?_
                                      refine r_iconst (v := (1 : Int32)) hX dL_law_642 (by decide) ?_
                                      refine r_iadd hX dL_law_643 ?_
                                      obtain ⟨k149, h⟩ := grd_s h
                                      refine r_xld hX dL_law_644 hxs k149 ?_
                                      obtain ⟨z150, p151, h⟩ := bnd_s h
                                      refine r_callV (As := [.int (xs (tn (v3 + (1 : Int32))))]) hX dL_law_645 mk_Fm_gridIs mi_Fm_gridIs ml_12_86 rfl rfl rfl rfl (by decide) (by decide) (Nat.le_of_ble_eq_true rfl) hr (ok_Fm_gridIs (d := d + 12) n (xs (tn (v3 + (1 : Int32)))) M p151) ?_
                                      refine r_icmp_eq (tgt := 1400) hX dL_law_648 (by decide) (fun g152 => ?_) (fun g152 => ?_)
                                      · have h := (if_pos g152).symm.trans h
                                        exact ok_La_law_j1400 n L xs v3 M  hL2 hxs hX hT hr hz1 hc hx h
                                      · have h := (if_neg g152).symm.trans h
                                        refine r_iconst (v := (0 : Int32)) hX dL_law_651 (by decide) ?_
                                        obtain rfl := hx _ (Option.some.inj h).symm
                                        cases hz1
                                    · have h := (if_neg g145).symm.trans h
                                      by_cases g153 : ((xs (tn v3)) &&& (63 : Int32)) = (17 : Int32)
                                      · have h := (if_pos g153).symm.trans h
                                        refine r_tabEq (tgt := 653) hX dL_law_33 g153 ⟨by decide, by decide, rfl⟩ (by decide) ?_
                                        refine r_aload_n hX dL_law_653 rfl ?_
                                        refine r_aload_n hX dL_law_654 rfl ?_
                                        refine r_iload_n hX dL_law_655 rfl ?_
                                        refine r_iconst (v := (1 : Int32)) hX dL_law_656 (by decide) ?_
                                        refine r_iadd hX dL_law_657 ?_
                                        obtain ⟨k154, h⟩ := grd_s h
                                        refine r_xld hX dL_law_658 hxs k154 ?_
                                        refine r_aload_n hX dL_law_659 rfl ?_
                                        refine r_iload_n hX dL_law_660 rfl ?_
                                        refine r_iconst (v := (2 : Int32)) hX dL_law_661 (by decide) ?_
                                        refine r_iadd hX dL_law_662 ?_
                                        obtain ⟨k155, h⟩ := grd_s h
                                        refine r_xld hX dL_law_663 hxs k155 ?_
                                        obtain ⟨z156, p157, h⟩ := bnd_s h
                                        refine r_callV (As := [.int (xs (tn (v3 + (1 : Int32)))), .int (xs (tn (v3 + (2 : Int32))))]) hX dL_law_664 mk_Fg_linkIs mi_Fg_linkIs ml_12_87 rfl rfl rfl rfl (by decide) (by decide) (Nat.le_of_ble_eq_true rfl) hr (ok_Fg_linkIs (d := d + 14) n (xs (tn (v3 + (1 : Int32)))) (xs (tn (v3 + (2 : Int32)))) M p157) ?_
                                        refine r_aload_n hX dL_law_667 rfl ?_
                                        refine r_aload_n hX dL_law_668 rfl ?_
                                        refine r_iload_n hX dL_law_669 rfl ?_
                                        refine r_iconst (v := (1 : Int32)) hX dL_law_670 (by decide) ?_
                                        refine r_iadd hX dL_law_671 ?_
                                        obtain ⟨k158, h⟩ := grd_s h
                                        refine r_xld hX dL_law_672 hxs k158 ?_
                                        refine r_aload_n hX dL_law_673 rfl ?_
                                        refine r_iload_n hX dL_law_674 rfl ?_
                                        refine r_iconst (v := (2 : Int32)) hX dL_law_675 (by decide) ?_
                                        refine r_iadd hX dL_law_676 ?_
                                        obtain ⟨k159, h⟩ := grd_s h
                                        refine r_xld hX dL_law_677 hxs k159 ?_
                                        obtain ⟨z160, p161, h⟩ := bnd_s h
                                        refine r_callV (As := [.int (xs (tn (v3 + (1 : Int32)))), .int (xs (tn (v3 + (2 : Int32))))]) hX dL_law_678 mk_Fm_linkIs mi_Fm_linkIs ml_12_90 rfl rfl rfl rfl (by decide) (by decide) (Nat.le_of_ble_eq_true rfl) hr (ok_Fm_linkIs (d := d + 12) n (xs (tn (v3 + (1 : Int32)))) (xs (tn (v3 + (2 : Int32)))) M p161) ?_
                                        refine r_icmp_eq (tgt := 1400) hX dL_law_681 (by decide) (fun g162 => ?_) (fun g162 => ?_)
                                        · have h := (if_pos g162).symm.trans h
                                          exact ok_La_law_j1400 n L xs v3 z160.2  hL2 hxs hX hT hr hz1 hc hx h
                                        · have h := (if_neg g162).symm.trans h
                                          refine r_iconst (v := (0 : Int32)) hX dL_law_684 (by decide) ?_
                                          obtain rfl := hx _ (Option.some.inj h).symm
                                          cases hz1
                                      · have h := (if_neg g153).symm.trans h
                                        by_cases g163 : ((xs (tn v3)) &&& (63 : Int32)) = (18 : Int32)
                                        · have h := (if_pos g163).symm.trans h
                                          refine r_tabEq (tgt := 686) hX dL_law_33 g163 ⟨by decide, by decide, rfl⟩ (by decide) ?_
                                          refine r_aload_n hX dL_law_686 rfl ?_
                                          refine r_aload_n hX dL_law_687 rfl ?_
                                          refine r_iload_n hX dL_law_688 rfl ?_
                                          refine r_iconst (v := (1 : Int32)) hX dL_law_689 (by decide) ?_
                                          refine r_iadd hX dL_law_690 ?_
                                          obtain ⟨k164, h⟩ := grd_s h
                                          refine r_xld hX dL_law_691 hxs k164 ?_
                                          refine r_aload_n hX dL_law_692 rfl ?_
                                          refine r_iload_n hX dL_law_693 rfl ?_
                                          refine r_iconst (v := (2 : Int32)) hX dL_law_694 (by decide) ?_
                                          refine r_iadd hX dL_law_695 ?_
                                          obtain ⟨k165, h⟩ := grd_s h
                                          refine r_xld hX dL_law_696 hxs k165 ?_
                                          obtain ⟨z166, p167, h⟩ := bnd_s h
                                          refine r_callV (As := [.int (xs (tn (v3 + (1 : Int32)))), .int (xs (tn (v3 + (2 : Int32))))]) hX dL_law_697 mk_Fg_demandIs mi_Fg_demandIs ml_12_91 rfl rfl rfl rfl (by decide) (by decide) (Nat.le_of_ble_eq_true rfl) hr (ok_Fg_demandIs (d := d + 12) n (xs (tn (v3 + (1 : Int32)))) (xs (tn (v3 + (2 : Int32)))) M p167) ?_
                                          refine r_aload_n hX dL_law_700 rfl ?_
                                          refine r_aload_n hX dL_law_701 rfl ?_
                                          refine r_iload_n hX dL_law_702 rfl ?_
                                          refine r_iconst (v := (1 : Int32)) hX dL_law_703 (by decide) ?_
                                          refine r_iadd hX dL_law_704 ?_
                                          obtain ⟨k168, h⟩ := grd_s h
                                          refine r_xld hX dL_law_705 hxs k168 ?_
                                          refine r_aload_n hX dL_law_706 rfl ?_
                                          refine r_iload_n hX dL_law_707 rfl ?_
                                          refine r_iconst (v := (2 : Int32)) hX dL_law_708 (by decide) ?_
                                          refine r_iadd hX dL_law_709 ?_
                                          obtain ⟨k169, h⟩ := grd_s h
                                          refine r_xld hX dL_law_710 hxs k169 ?_
                                          obtain ⟨z170, p171, h⟩ := bnd_s h
                                          refine r_callV (As := [.int (xs (tn (v3 + (1 : Int32)))), .int (xs (tn (v3 + (2 : Int32))))]) hX dL_law_711 mk_Fm_demandIs mi_Fm_demandIs ml_12_94 rfl rfl rfl rfl (by decide) (by decide) (Nat.le_of_ble_eq_true rfl) hr (ok_Fm_demandIs (d := d + 11) n (xs (tn (v3 + (1 : Int32)))) (xs (tn (v3 + (2 : Int32)))) M p171) ?_
                                          refine r_icmp_eq (tgt := 1400) hX dL_law_714 (by decide) (fun g172 => ?_) (fun g172 => ?_)
                                          · have h := (if_pos g172).symm.trans h
                                            exact ok_La_law_j1400 n L xs v3 M  hL2 hxs hX hT hr hz1 hc hx h
                                          · have h := (if_neg g172).symm.trans h
                                            refine r_iconst (v := (0 : Int32)) hX dL_law_717 (by decide) ?_
                                            obtain rfl := hx _ (Option.some.inj h).symm
                                            cases hz1
                                        · have h := (if_neg g163).symm.trans h
                                          by_cases g173 : ((xs (tn v3)) &&& (63 : Int32)) = (19 : Int32)
                                          · have h := (if_pos g173).symm.trans h
                                            refine r_tabEq (tgt := 719) hX dL_law_33 g173 ⟨by decide, by decide, rfl⟩ (by decide) ?_
                                            refine r_aload_n hX dL_law_719 rfl ?_
                                            refine r_aload_n hX dL_law_720 rfl ?_
                                            refine r_iload_n hX dL_law_721 rfl ?_
                                            refine r_iconst (v := (1 : Int32)) hX dL_law_722 (by decide) ?_
                                            refine r_iadd hX dL_law_723 ?_
                                            obtain ⟨k174, h⟩ := grd_s h
                                            refine r_xld hX dL_law_724 hxs k174 ?_
                                            refine r_aload_n hX dL_law_725 rfl ?_
                                            refine r_iload_n hX dL_law_726 rfl ?_
                                            refine r_iconst (v := (2 : Int32)) hX dL_law_727 (by decide) ?_
                                            refine r_iadd hX dL_law_728 ?_
                                            obtain ⟨k175, h⟩ := grd_s h
                                            refine r_xld hX dL_law_729 hxs k175 ?_
                                            refine r_aload_n hX dL_law_730 rfl ?_
                                            refine r_iload_n hX dL_law_731 rfl ?_
                                            refine r_iconst (v := (3 : Int32)) hX dL_law_732 (by decide) ?_
                                            refine r_iadd hX dL_law_733 ?_
                                            obtain ⟨k176, h⟩ := grd_s h
                                            refine r_xld hX dL_law_734 hxs k176 ?_
                                            refine r_aload_n hX dL_law_735 rfl ?_
                                            refine r_iload_n hX dL_law_736 rfl ?_
                                            refine r_iconst (v := (4 : Int32)) hX dL_law_737 (by decide) ?_
                                            refine r_iadd hX dL_law_738 ?_
                                            obtain ⟨k177, h⟩ := grd_s h
                                            refine r_xld hX dL_law_739 hxs k177 ?_
                                            obtain ⟨z178, p179, h⟩ := bnd_s h
                                            refine r_callV (As := [.int (xs (tn (v3 + (1 : Int32)))), .int (xs (tn (v3 + (2 : Int32)))), .int (xs (tn (v3 + (3 : Int32)))), .int (xs (tn (v3 + (4 : Int32))))]) hX dL_law_740 mk_Fg_way mi_Fg_way ml_12_95 rfl rfl rfl rfl (by decide) (by decide) (Nat.le_of_ble_eq_true rfl) hr (ok_Fg_way (d := d + 4) n (xs (tn (v3 + (1 : Int32)))) (xs (tn (v3 + (2 : Int32)))) (xs (tn (v3 + (3 : Int32)))) (xs (tn (v3 + (4 : Int32)))) M p179) ?_
                                            refine r_aload_n hX dL_law_743 rfl ?_
                                            refine r_aload_n hX dL_law_744 rfl ?_
                                            refine r_iload_n hX dL_law_745 rfl ?_
                                            refine r_iconst (v := (1 : Int32)) hX dL_law_746 (by decide) ?_
                                            refine r_iadd hX dL_law_747 ?_
                                            obtain ⟨k180, h⟩ := grd_s h
                                            refine r_xld hX dL_law_748 hxs k180 ?_
                                            refine r_aload_n hX dL_law_749 rfl ?_
                                            refine r_iload_n hX dL_law_750 rfl ?_
                                            refine r_iconst (v := (2 : Int32)) hX dL_law_751 (by decide) ?_
                                            refine r_iadd hX dL_law_752 ?_
                                            obtain ⟨k181, h⟩ := grd_s h
                                            refine r_xld hX dL_law_753 hxs k181 ?_
                                            refine r_aload_n hX dL_law_754 rfl ?_
                                            refine r_iload_n hX dL_law_755 rfl ?_
                                            refine r_iconst (v := (3 : Int32)) hX dL_law_756 (by decide) ?_
                                            refine r_iadd hX dL_law_757 ?_
                                            obtain ⟨k182, h⟩ := grd_s h
                                            refine r_xld hX dL_law_758 hxs k182 ?_
                                            refine r_aload_n hX dL_law_759 rfl ?_
                                            refine r_iload_n hX dL_law_760 rfl ?_
                                            refine r_iconst (v := (4 : Int32)) hX dL_law_761 (by decide) ?_
                                            refine r_iadd hX dL_law_762 ?_
                                            obtain ⟨k183, h⟩ := grd_s h
                                            refine r_xld hX dL_law_763 hxs k183 ?_
                                            obtain ⟨z184, p185, h⟩ := bnd_s h
                                            refine r_callV (As := [.int (xs (tn (v3 + (1 : Int32)))), .int (xs (tn (v3 + (2 : Int32)))), .int (xs (tn (v3 + (3 : Int32)))), .int (xs (tn (v3 + (4 : Int32))))]) hX dL_law_764 mk_Fm_way mi_Fm_way ml_12_98 rfl rfl rfl rfl (by decide) (by decide) (Nat.le_of_ble_eq_true rfl) hr (ok_Fm_way (d := d + 12) n (xs (tn (v3 + (1 : Int32)))) (xs (tn (v3 + (2 : Int32)))) (xs (tn (v3 + (3 : Int32)))) (xs (tn (v3 + (4 : Int32)))) z178.2 p185) ?_
                                            refine r_icmp_eq (tgt := 1400) hX dL_law_767 (by decide) (fun g186 => ?_) (fun g186 => ?_)
                                            · have h := (if_pos g186).symm.trans h
                                              exact ok_La_law_j1400 n L xs v3 z184.2  hL2 hxs hX hT hr hz1 hc hx h
                                            · have h := (if_neg g186).symm.trans h
                                              refine r_iconst (v := (0 : Int32)) hX dL_law_770 (by decide) ?_
                                              obtain rfl := hx _ (Option.some.inj h).symm
                                              cases hz1
                                          · have h := (if_neg g173).symm.trans h
                                            by_cases g187 : ((xs (tn v3)) &&& (63 : Int32)) = (20 : Int32)
                                            · have h := (if_pos g187).symm.trans h
                                              refine r_tabEq (tgt := 772) hX dL_law_33 g187 ⟨by decide, by decide, rfl⟩ (by decide) ?_
                                              refine r_aload_n hX dL_law_772 rfl ?_
                                              refine r_aload_n hX dL_law_773 rfl ?_
                                              refine r_iload_n hX dL_law_774 rfl ?_
                                              refine r_iconst (v := (1 : Int32)) hX dL_law_775 (by decide) ?_
                                              refine r_iadd hX dL_law_776 ?_
                                              obtain ⟨k188, h⟩ := grd_s h
                                              refine r_xld hX dL_law_777 hxs k188 ?_
                                              refine r_aload_n hX dL_law_778 rfl ?_
                                              refine r_iload_n hX dL_law_779 rfl ?_
                                              refine r_iconst (v := (2 : Int32)) hX dL_law_780 (by decide) ?_
                                              refine r_iadd hX dL_law_781 ?_
                                              obtain ⟨k189, h⟩ := grd_s h
                                              refine r_xld hX dL_law_782 hxs k189 ?_
                                              refine r_aload_n hX dL_law_783 rfl ?_
                                              refine r_iload_n hX dL_law_784 rfl ?_
                                              refine r_iconst (v := (3 : Int32)) hX dL_law_785 (by decide) ?_
                                              refine r_iadd hX dL_law_786 ?_
                                              obtain ⟨k190, h⟩ := grd_s h
                                              refine r_xld hX dL_law_787 hxs k190 ?_
                                              refine r_aload_n hX dL_law_788 rfl ?_
                                              refine r_iload_n hX dL_law_789 rfl ?_
                                              refine r_iconst (v := (4 : Int32)) hX dL_law_790 (by decide) ?_
                                              refine r_iadd hX dL_law_791 ?_
                                              obtain ⟨k191, h⟩ := grd_s h
                                              refine r_xld hX dL_law_792 hxs k191 ?_
                                              refine r_aload_n hX dL_law_793 rfl ?_
                                              refine r_iload_n hX dL_law_794 rfl ?_
                                              refine r_iconst (v := (5 : Int32)) hX dL_law_795 (by decide) ?_
                                              refine r_iadd hX dL_law_796 ?_
                                              obtain ⟨k192, h⟩ := grd_s h
                                              refine r_xld hX dL_law_797 hxs k192 ?_
                                              obtain ⟨z193, p194, h⟩ := bnd_s h
                                              refine r_callV (As := [.int (xs (tn (v3 + (1 : Int32)))), .int (xs (tn (v3 + (2 : Int32)))), .int (xs (tn (v3 + (3 : Int32)))), .int (xs (tn (v3 + (4 : Int32)))), .int (xs (tn (v3 + (5 : Int32))))]) hX dL_law_798 mk_Fg_found mi_Fg_found ml_12_99 rfl rfl rfl rfl (by decide) (by decide) (Nat.le_of_ble_eq_true rfl) hr (ok_Fg_found (d := d + 3) n (xs (tn (v3 + (1 : Int32)))) (xs (tn (v3 + (2 : Int32)))) (xs (tn (v3 + (3 : Int32)))) (xs (tn (v3 + (4 : Int32)))) (xs (tn (v3 + (5 : Int32)))) M p194) ?_
                                              refine r_aload_n hX dL_law_801 rfl ?_
                                              refine r_aload_n hX dL_law_802 rfl ?_
                                              refine r_iload_n hX dL_law_803 rfl ?_
                                              refine r_iconst (v := (1 : Int32)) hX dL_law_804 (by decide) ?_
                                              refine r_iadd hX dL_law_805 ?_
                                              obtain ⟨k195, h⟩ := grd_s h
                                              refine r_xld hX dL_law_806 hxs k195 ?_
                                              refine r_aload_n hX dL_law_807 rfl ?_
                                              refine r_iload_n hX dL_law_808 rfl ?_
                                              refine r_iconst (v := (2 : Int32)) hX dL_law_809 (by decide) ?_
                                              refine r_iadd hX dL_law_810 ?_
                                              obtain ⟨k196, h⟩ := grd_s h
                                              refine r_xld hX dL_law_811 hxs k196 ?_
                                              refine r_aload_n hX dL_law_812 rfl ?_
                                              refine r_iload_n hX dL_law_813 rfl ?_
                                              refine r_iconst (v := (3 : Int32)) hX dL_law_814 (by decide) ?_
                                              refine r_iadd hX dL_law_815 ?_
                                              obtain ⟨k197, h⟩ := grd_s h
                                              refine r_xld hX dL_law_816 hxs k197 ?_
                                              refine r_aload_n hX dL_law_817 rfl ?_
                                              refine r_iload_n hX dL_law_818 rfl ?_
                                              refine r_iconst (v := (4 : Int32)) hX dL_law_819 (by decide) ?_
                                              refine r_iadd hX dL_law_820 ?_
                                              obtain ⟨k198, h⟩ := grd_s h
                                              refine r_xld hX dL_law_821 hxs k198 ?_
                                              refine r_aload_n hX dL_law_822 rfl ?_
                                              refine r_iload_n hX dL_law_823 rfl ?_
                                              refine r_iconst (v := (5 : Int32)) hX dL_law_824 (by decide) ?_
                                              refine r_iadd hX dL_law_825 ?_
                                              obtain ⟨k199, h⟩ := grd_s h
                                              refine r_xld hX dL_law_826 hxs k199 ?_
                                              obtain ⟨z200, p201, h⟩ := bnd_s h
                                              refine r_callV (As := [.int (xs (tn (v3 + (1 : Int32)))), .int (xs (tn (v3 + (2 : Int32)))), .int (xs (tn (v3 + (3 : Int32)))), .int (xs (tn (v3 + (4 : Int32)))), .int (xs (tn (v3 + (5 : Int32))))]) hX dL_law_827 mk_Fm_found mi_Fm_found ml_12_102 rfl rfl rfl rfl (by decide) (by decide) (Nat.le_of_ble_eq_true rfl) hr (ok_Fm_found (d := d + 10) n (xs (tn (v3 + (1 : Int32)))) (xs (tn (v3 + (2 : Int32)))) (xs (tn (v3 + (3 : Int32)))) (xs (tn (v3 + (4 : Int32)))) (xs (tn (v3 + (5 : Int32)))) z193.2 p201) ?_
                                              refine r_icmp_eq (tgt := 1400) hX dL_law_830 (by decide) (fun g202 => ?_) (fun g202 => ?_)
                                              · have h := (if_pos g202).symm.trans h
                                                exact ok_La_law_j1400 n L xs v3 z200.2  hL2 hxs hX hT hr hz1 hc hx h
                                              · have h := (if_neg g202).symm.trans h
                                                refine r_iconst (v := (0 : Int32)) hX dL_law_833 (by decide) ?_
                                                obtain rfl := hx _ (Option.some.inj h).symm
                                                cases hz1
                                            · have h := (if_neg g187).symm.trans h
                                              by_cases g203 : ((xs (tn v3)) &&& (63 : Int32)) = (21 : Int32)
                                              · have h := (if_pos g203).symm.trans h
                                                refine r_tabEq (tgt := 835) hX dL_law_33 g203 ⟨by decide, by decide, rfl⟩ (by decide) ?_
                                                refine r_aload_n hX dL_law_835 rfl ?_
                                                refine r_aload_n hX dL_law_836 rfl ?_
                                                refine r_iload_n hX dL_law_837 rfl ?_
                                                refine r_iconst (v := (1 : Int32)) hX dL_law_838 (by decide) ?_
                                                refine r_iadd hX dL_law_839 ?_
                                                obtain ⟨k204, h⟩ := grd_s h
                                                refine r_xld hX dL_law_840 hxs k204 ?_
                                                refine r_aload_n hX dL_law_841 rfl ?_
                                                refine r_iload_n hX dL_law_842 rfl ?_
                                                refine r_iconst (v := (2 : Int32)) hX dL_law_843 (by decide) ?_
                                                refine r_iadd hX dL_law_844 ?_
                                                obtain ⟨k205, h⟩ := grd_s h
                                                refine r_xld hX dL_law_845 hxs k205 ?_
                                                refine r_aload_n hX dL_law_846 rfl ?_
                                                refine r_iload_n hX dL_law_847 rfl ?_
                                                refine r_iconst (v := (3 : Int32)) hX dL_law_848 (by decide) ?_
                                                refine r_iadd hX dL_law_849 ?_
                                                obtain ⟨k206, h⟩ := grd_s h
                                                refine r_xld hX dL_law_850 hxs k206 ?_
                                                refine r_aload_n hX dL_law_851 rfl ?_
                                                refine r_iload_n hX dL_law_852 rfl ?_
                                                refine r_iconst (v := (4 : Int32)) hX dL_law_853 (by decide) ?_
                                                refine r_iadd hX dL_law_854 ?_
                                                obtain ⟨k207, h⟩ := grd_s h
                                                refine r_xld hX dL_law_855 hxs k207 ?_
                                                refine r_aload_n hX dL_law_856 rfl ?_
                                                refine r_iload_n hX dL_law_857 rfl ?_
                                                refine r_iconst (v := (5 : Int32)) hX dL_law_858 (by decide) ?_
                                                refine r_iadd hX dL_law_859 ?_
                                                obtain ⟨k208, h⟩ := grd_s h
                                                refine r_xld hX dL_law_860 hxs k208 ?_
                                                obtain ⟨z209, p210, h⟩ := bnd_s h
                                                refine r_callV (As := [.int (xs (tn (v3 + (1 : Int32)))), .int (xs (tn (v3 + (2 : Int32)))), .int (xs (tn (v3 + (3 : Int32)))), .int (xs (tn (v3 + (4 : Int32)))), .int (xs (tn (v3 + (5 : Int32))))]) hX dL_law_861 mk_Fg_witness mi_Fg_witness ml_12_103 rfl rfl rfl rfl (by decide) (by decide) (Nat.le_of_ble_eq_true rfl) hr (ok_Fg_witness (d := d + 4) n (xs (tn (v3 + (1 : Int32)))) (xs (tn (v3 + (2 : Int32)))) (xs (tn (v3 + (3 : Int32)))) (xs (tn (v3 + (4 : Int32)))) (xs (tn (v3 + (5 : Int32)))) M p210) ?_
                                                refine r_aload_n hX dL_law_864 rfl ?_
                                                refine r_aload_n hX dL_law_865 rfl ?_
                                                refine r_iload_n hX dL_law_866 rfl ?_
                                                refine r_iconst (v := (1 : Int32)) hX dL_law_867 (by decide) ?_
                                                refine r_iadd hX dL_law_868 ?_
                                                obtain ⟨k211, h⟩ := grd_s h
                                                refine r_xld hX dL_law_869 hxs k211 ?_
                                                refine r_aload_n hX dL_law_870 rfl ?_
                                                refine r_iload_n hX dL_law_871 rfl ?_
                                                refine r_iconst (v := (2 : Int32)) hX dL_law_872 (by decide) ?_
                                                refine r_iadd hX dL_law_873 ?_
                                                obtain ⟨k212, h⟩ := grd_s h
                                                refine r_xld hX dL_law_874 hxs k212 ?_
                                                refine r_aload_n hX dL_law_875 rfl ?_
                                                refine r_iload_n hX dL_law_876 rfl ?_
                                                refine r_iconst (v := (3 : Int32)) hX dL_law_877 (by decide) ?_
                                                refine r_iadd hX dL_law_878 ?_
                                                obtain ⟨k213, h⟩ := grd_s h
                                                refine r_xld hX dL_law_879 hxs k213 ?_
                                                refine r_aload_n hX dL_law_880 rfl ?_
                                                refine r_iload_n hX dL_law_881 rfl ?_
                                                refine r_iconst (v := (4 : Int32)) hX dL_law_882 (by decide) ?_
                                                refine r_iadd hX dL_law_883 ?_
                                                obtain ⟨k214, h⟩ := grd_s h
                                                refine r_xld hX dL_law_884 hxs k214 ?_
                                                refine r_aload_n hX dL_law_885 rfl ?_
                                                refine r_iload_n hX dL_law_886 rfl ?_
                                                refine r_iconst (v := (5 : Int32)) hX dL_law_887 (by decide) ?_
                                                refine r_iadd hX dL_law_888 ?_
                                                obtain ⟨k215, h⟩ := grd_s h
                                                refine r_xld hX dL_law_889 hxs k215 ?_
                                                obtain ⟨z216, p217, h⟩ := bnd_s h
                                                refine r_callV (As := [.int (xs (tn (v3 + (1 : Int32)))), .int (xs (tn (v3 + (2 : Int32)))), .int (xs (tn (v3 + (3 : Int32)))), .int (xs (tn (v3 + (4 : Int32)))), .int (xs (tn (v3 + (5 : Int32))))]) hX dL_law_890 mk_Fm_witness mi_Fm_witness ml_12_106 rfl rfl rfl rfl (by decide) (by decide) (Nat.le_of_ble_eq_true rfl) hr (ok_Fm_witness (d := d + 12) n (xs (tn (v3 + (1 : Int32)))) (xs (tn (v3 + (2 : Int32)))) (xs (tn (v3 + (3 : Int32)))) (xs (tn (v3 + (4 : Int32)))) (xs (tn (v3 + (5 : Int32)))) z209.2 p217) ?_
                                                refine r_icmp_eq (tgt := 1400) hX dL_law_893 (by decide) (fun g218 => ?_) (fun g218 => ?_)
                                                · have h := (if_pos g218).symm.trans h
                                                  exact ok_La_law_j1400 n L xs v3 z216.2  hL2 hxs hX hT hr hz1 hc hx h
                                                · have h := (if_neg g218).symm.trans h
                                                  refine r_iconst (v := (0 : Int32)) hX dL_law_896 (by decide) ?_
                                                  obtain rfl := hx _ (Option.some.inj h).symm
                                                  cases hz1
                                              · have h := (if_neg g203).symm.trans h
                                                by_cases g219 : ((xs (tn v3)) &&& (63 : Int32)) = (22 : Int32)
                                                · have h := (if_pos g219).symm.trans h
                                                  refine r_tabEq (tgt := 898) hX dL_law_33 g219 ⟨by decide, by decide, rfl⟩ (by decide) ?_
                                                  refine r_aload_n hX dL_law_898 rfl ?_
                                                  refine r_aload_n hX dL_law_899 rfl ?_
                                                  refine r_iload_n hX dL_law_900 rfl ?_
                                                  refine r_iconst (v := (1 : Int32)) hX dL_law_901 (by decide) ?_
                                                  refine r_iadd hX dL_law_902 ?_
                                                  obtain ⟨k220, h⟩ := grd_s h
                                                  refine r_xld hX dL_law_903 hxs k220 ?_
                                                  refine r_aload_n hX dL_law_904 rfl ?_
                                                  refine r_iload_n hX dL_law_905 rfl ?_
                                                  refine r_iconst (v := (2 : Int32)) hX dL_law_906 (by decide) ?_
                                                  refine r_iadd hX dL_law_907 ?_
                                                  obtain ⟨k221, h⟩ := grd_s h
                                                  refine r_xld hX dL_law_908 hxs k221 ?_
                                                  refine r_aload_n hX dL_law_909 rfl ?_
                                                  refine r_iload_n hX dL_law_910 rfl ?_
                                                  refine r_iconst (v := (3 : Int32)) hX dL_law_911 (by decide) ?_
                                                  refine r_iadd hX dL_law_912 ?_
                                                  obtain ⟨k222, h⟩ := grd_s h
                                                  refine r_xld hX dL_law_913 hxs k222 ?_
                                                  refine r_aload_n hX dL_law_914 rfl ?_
                                                  refine r_iload_n hX dL_law_915 rfl ?_
                                                  refine r_iconst (v := (4 : Int32)) hX dL_law_916 (by decide) ?_
                                                  refine r_iadd hX dL_law_917 ?_
                                                  obtain ⟨k223, h⟩ := grd_s h
                                                  refine r_xld hX dL_law_918 hxs k223 ?_
                                                  obtain ⟨z224, p225, h⟩ := bnd_s h
                                                  refine r_callV (As := [.int (xs (tn (v3 + (1 : Int32)))), .int (xs (tn (v3 + (2 : Int32)))), .int (xs (tn (v3 + (3 : Int32)))), .int (xs (tn (v3 + (4 : Int32))))]) hX dL_law_919 mk_Fg_blocked mi_Fg_blocked ml_12_107 rfl rfl rfl rfl (by decide) (by decide) (Nat.le_of_ble_eq_true rfl) hr (ok_Fg_blocked (d := d + 3) n (xs (tn (v3 + (1 : Int32)))) (xs (tn (v3 + (2 : Int32)))) (xs (tn (v3 + (3 : Int32)))) (xs (tn (v3 + (4 : Int32)))) M p225) ?_
                                                  refine r_aload_n hX dL_law_922 rfl ?_
                                                  refine r_aload_n hX dL_law_923 rfl ?_
                                                  refine r_iload_n hX dL_law_924 rfl ?_
                                                  refine r_iconst (v := (1 : Int32)) hX dL_law_925 (by decide) ?_
                                                  refine r_iadd hX dL_law_926 ?_
                                                  obtain ⟨k226, h⟩ := grd_s h
                                                  refine r_xld hX dL_law_927 hxs k226 ?_
                                                  refine r_aload_n hX dL_law_928 rfl ?_
                                                  refine r_iload_n hX dL_law_929 rfl ?_
                                                  refine r_iconst (v := (2 : Int32)) hX dL_law_930 (by decide) ?_
                                                  refine r_iadd hX dL_law_931 ?_
                                                  obtain ⟨k227, h⟩ := grd_s h
                                                  refine r_xld hX dL_law_932 hxs k227 ?_
                                                  refine r_aload_n hX dL_law_933 rfl ?_
                                                  refine r_iload_n hX dL_law_934 rfl ?_
                                                  refine r_iconst (v := (3 : Int32)) hX dL_law_935 (by decide) ?_
                                                  refine r_iadd hX dL_law_936 ?_
                                                  obtain ⟨k228, h⟩ := grd_s h
                                                  refine r_xld hX dL_law_937 hxs k228 ?_
                                                  refine r_aload_n hX dL_law_938 rfl ?_
                                                  refine r_iload_n hX dL_law_939 rfl ?_
                                                  refine r_iconst (v := (4 : Int32)) hX dL_law_940 (by decide) ?_
                                                  refine r_iadd hX dL_law_941 ?_
                                                  obtain ⟨k229, h⟩ := grd_s h
                                                  refine r_xld hX dL_law_942 hxs k229 ?_
                                                  obtain ⟨z230, p231, h⟩ := bnd_s h
                                                  refine r_callV (As := [.int (xs (tn (v3 + (1 : Int32)))), .int (xs (tn (v3 + (2 : Int32)))), .int (xs (tn (v3 + (3 : Int32)))), .int (xs (tn (v3 + (4 : Int32))))]) hX dL_law_943 mk_Fm_blocked mi_Fm_blocked ml_12_110 rfl rfl rfl rfl (by decide) (by decide) (Nat.le_of_ble_eq_true rfl) hr (ok_Fm_blocked (d := d + 11) n (xs (tn (v3 + (1 : Int32)))) (xs (tn (v3 + (2 : Int32)))) (xs (tn (v3 + (3 : Int32)))) (xs (tn (v3 + (4 : Int32)))) z224.2 p231) ?_
                                                  refine r_icmp_eq (tgt := 1400) hX dL_law_946 (by decide) (fun g232 => ?_) (fun g232 => ?_)
                                                  · have h := (if_pos g232).symm.trans h
                                                    exact ok_La_law_j1400 n L xs v3 z230.2  hL2 hxs hX hT hr hz1 hc hx h
                                                  · have h := (if_neg g232).symm.trans h
                                                    refine r_iconst (v := (0 : Int32)) hX dL_law_949 (by decide) ?_
                                                    obtain rfl := hx _ (Option.some.inj h).symm
                                                    cases hz1
                                                · have h := (if_neg g219).symm.trans h
                                                  by_cases g233 : ((xs (tn v3)) &&& (63 : Int32)) = (23 : Int32)
                                                  · have h := (if_pos g233).symm.trans h
                                                    refine r_tabEq (tgt := 951) hX dL_law_33 g233 ⟨by decide, by decide, rfl⟩ (by decide) ?_
                                                    refine r_aload_n hX dL_law_951 rfl ?_
                                                    refine r_aload_n hX dL_law_952 rfl ?_
                                                    refine r_iload_n hX dL_law_953 rfl ?_
                                                    refine r_iconst (v := (1 : Int32)) hX dL_law_954 (by decide) ?_
                                                    refine r_iadd hX dL_law_955 ?_
                                                    obtain ⟨k234, h⟩ := grd_s h
                                                    refine r_xld hX dL_law_956 hxs k234 ?_
                                                    refine r_aload_n hX dL_law_957 rfl ?_
                                                    refine r_iload_n hX dL_law_958 rfl ?_
                                                    refine r_iconst (v := (2 : Int32)) hX dL_law_959 (by decide) ?_
                                                    refine r_iadd hX dL_law_960 ?_
                                                    obtain ⟨k235, h⟩ := grd_s h
                                                    refine r_xld hX dL_law_961 hxs k235 ?_
                                                    obtain ⟨z236, p237, h⟩ := bnd_s h
                                                    refine r_callV (As := [.int (xs (tn (v3 + (1 : Int32)))), .int (xs (tn (v3 + (2 : Int32))))]) hX dL_law_962 mk_Fg_repack mi_Fg_repack ml_12_111 rfl rfl rfl rfl (by decide) (by decide) (Nat.le_of_ble_eq_true rfl) hr (ok_Fg_repack (d := d + 2) n (xs (tn (v3 + (1 : Int32)))) (xs (tn (v3 + (2 : Int32)))) M p237) ?_
                                                    refine r_aload_n hX dL_law_965 rfl ?_
                                                    refine r_aload_n hX dL_law_966 rfl ?_
                                                    refine r_iload_n hX dL_law_967 rfl ?_
                                                    refine r_iconst (v := (1 : Int32)) hX dL_law_968 (by decide) ?_
                                                    refine r_iadd hX dL_law_969 ?_
                                                    obtain ⟨k238, h⟩ := grd_s h
                                                    refine r_xld hX dL_law_970 hxs k238 ?_
                                                    refine r_aload_n hX dL_law_971 rfl ?_
                                                    refine r_iload_n hX dL_law_972 rfl ?_
                                                    refine r_iconst (v := (2 : Int32)) hX dL_law_973 (by decide) ?_
                                                    refine r_iadd hX dL_law_974 ?_
                                                    obtain ⟨k239, h⟩ := grd_s h
                                                    refine r_xld hX dL_law_975 hxs k239 ?_
                                                    obtain ⟨z240, p241, h⟩ := bnd_s h
                                                    refine r_callV (As := [.int (xs (tn (v3 + (1 : Int32)))), .int (xs (tn (v3 + (2 : Int32))))]) hX dL_law_976 mk_Fm_repack mi_Fm_repack ml_12_114 rfl rfl rfl rfl (by decide) (by decide) (Nat.le_of_ble_eq_true rfl) hr (ok_Fm_repack (d := d + 9) n (xs (tn (v3 + (1 : Int32)))) (xs (tn (v3 + (2 : Int32)))) z236.2 p241) ?_
                                                    refine r_icmp_eq (tgt := 1400) hX dL_law_979 (by decide) (fun g242 => ?_) (fun g242 => ?_)
                                                    · have h := (if_pos g242).symm.trans h
                                                      exact ok_La_law_j1400 n L xs v3 z240.2  hL2 hxs hX hT hr hz1 hc hx h
                                                    · have h := (if_neg g242).symm.trans h
                                                      refine r_iconst (v := (0 : Int32)) hX dL_law_982 (by decide) ?_
                                                      obtain rfl := hx _ (Option.some.inj h).symm
                                                      cases hz1
                                                  · have h := (if_neg g233).symm.trans h
                                                    by_cases g243 : ((xs (tn v3)) &&& (63 : Int32)) = (24 : Int32)
                                                    · have h := (if_pos g243).symm.trans h
                                                      refine r_tabEq (tgt := 984) hX dL_law_33 g243 ⟨by decide, by decide, rfl⟩ (by decide) ?_
                                                      refine r_aload_n hX dL_law_984 rfl ?_
                                                      refine r_aload_n hX dL_law_985 rfl ?_
                                                      refine r_iload_n hX dL_law_986 rfl ?_
                                                      refine r_iconst (v := (1 : Int32)) hX dL_law_987 (by decide) ?_
                                                      refine r_iadd hX dL_law_988 ?_
                                                      obtain ⟨k244, h⟩ := grd_s h
                                                      refine r_xld hX dL_law_989 hxs k244 ?_
                                                      refine r_aload_n hX dL_law_990 rfl ?_
                                                      refine r_iload_n hX dL_law_991 rfl ?_
                                                      refine r_iconst (v := (2 : Int32)) hX dL_law_992 (by decide) ?_
                                                      refine r_iadd hX dL_law_993 ?_
                                                      obtain ⟨k245, h⟩ := grd_s h
                                                      refine r_xld hX dL_law_994 hxs k245 ?_
                                                      refine r_aload_n hX dL_law_995 rfl ?_
                                                      refine r_iload_n hX dL_law_996 rfl ?_
                                                      refine r_iconst (v := (3 : Int32)) hX dL_law_997 (by decide) ?_
                                                      refine r_iadd hX dL_law_998 ?_
                                                      obtain ⟨k246, h⟩ := grd_s h
                                                      refine r_xld hX dL_law_999 hxs k246 ?_
                                                      obtain ⟨z247, p248, h⟩ := bnd_s h
                                                      refine r_callV (As := [.int (xs (tn (v3 + (1 : Int32)))), .int (xs (tn (v3 + (2 : Int32)))), .int (xs (tn (v3 + (3 : Int32))))]) hX dL_law_1000 mk_Fg_planned mi_Fg_planned ml_12_115 rfl rfl rfl rfl (by decide) (by decide) (Nat.le_of_ble_eq_true rfl) hr (ok_Fg_planned (d := d + 2) n (xs (tn (v3 + (1 : Int32)))) (xs (tn (v3 + (2 : Int32)))) (xs (tn (v3 + (3 : Int32)))) M p248) ?_
                                                      refine r_aload_n hX dL_law_1003 rfl ?_
                                                      refine r_aload_n hX dL_law_1004 rfl ?_
                                                      refine r_iload_n hX dL_law_1005 rfl ?_
                                                      refine r_iconst (v := (1 : Int32)) hX dL_law_1006 (by decide) ?_
                                                      refine r_iadd hX dL_law_1007 ?_
                                                      obtain ⟨k249, h⟩ := grd_s h
                                                      refine r_xld hX dL_law_1008 hxs k249 ?_
                                                      refine r_aload_n hX dL_law_1009 rfl ?_
                                                      refine r_iload_n hX dL_law_1010 rfl ?_
                                                      refine r_iconst (v := (2 : Int32)) hX dL_law_1011 (by decide) ?_
                                                      refine r_iadd hX dL_law_1012 ?_
                                                      obtain ⟨k250, h⟩ := grd_s h
                                                      refine r_xld hX dL_law_1013 hxs k250 ?_
                                                      refine r_aload_n hX dL_law_1014 rfl ?_
                                                      refine r_iload_n hX dL_law_1015 rfl ?_
                                                      refine r_iconst (v := (3 : Int32)) hX dL_law_1016 (by decide) ?_
                                                      refine r_iadd hX dL_law_1017 ?_
                                                      obtain ⟨k251, h⟩ := grd_s h
                                                      refine r_xld hX dL_law_1018 hxs k251 ?_
                                                      obtain ⟨z252, p253, h⟩ := bnd_s h
                                                      refine r_callV (As := [.int (xs (tn (v3 + (1 : Int32)))), .int (xs (tn (v3 + (2 : Int32)))), .int (xs (tn (v3 + (3 : Int32))))]) hX dL_law_1019 mk_Fm_planned mi_Fm_planned ml_12_119 rfl rfl rfl rfl (by decide) (by decide) (Nat.le_of_ble_eq_true rfl) hr (ok_Fm_planned (d := d + 9) n (xs (tn (v3 + (1 : Int32)))) (xs (tn (v3 + (2 : Int32)))) (xs (tn (v3 + (3 : Int32)))) z247.2 p253) ?_
                                                      refine r_icmp_eq (tgt := 1400) hX dL_law_1022 (by decide) (fun g254 => ?_) (fun g254 => ?_)
                                                      · have h := (if_pos g254).symm.trans h
                                                        exact ok_La_law_j1400 n L xs v3 z252.2  hL2 hxs hX hT hr hz1 hc hx h
                                                      · have h := (if_neg g254).symm.trans h
                                                        refine r_iconst (v := (0 : Int32)) hX dL_law_1025 (by decide) ?_
                                                        obtain rfl := hx _ (Option.some.inj h).symm
                                                        cases hz1
                                                    · have h := (if_neg g243).symm.trans h
                                                      by_cases g255 : ((xs (tn v3)) &&& (63 : Int32)) = (25 : Int32)
                                                      · have h := (if_pos g255).symm.trans h
                                                        refine r_tabEq (tgt := 1027) hX dL_law_33 g255 ⟨by decide, by decide, rfl⟩ (by decide) ?_
                                                        refine r_aload_n hX dL_law_1027 rfl ?_
                                                        refine r_aload_n hX dL_law_1028 rfl ?_
                                                        refine r_iload_n hX dL_law_1029 rfl ?_
                                                        refine r_iconst (v := (1 : Int32)) hX dL_law_1030 (by decide) ?_
                                                        refine r_iadd hX dL_law_1031 ?_
                                                        obtain ⟨k256, h⟩ := grd_s h
                                                        refine r_xld hX dL_law_1032 hxs k256 ?_
                                                        refine r_aload_n hX dL_law_1033 rfl ?_
                                                        refine r_iload_n hX dL_law_1034 rfl ?_
                                                        refine r_iconst (v := (2 : Int32)) hX dL_law_1035 (by decide) ?_
                                                        refine r_iadd hX dL_law_1036 ?_
                                                        obtain ⟨k257, h⟩ := grd_s h
                                                        refine r_xld hX dL_law_1037 hxs k257 ?_
                                                        obtain ⟨z258, p259, h⟩ := bnd_s h
                                                        refine r_callV (As := [.int (xs (tn (v3 + (1 : Int32)))), .int (xs (tn (v3 + (2 : Int32))))]) hX dL_law_1038 mk_Fg_waits mi_Fg_waits ml_12_120 rfl rfl rfl rfl (by decide) (by decide) (Nat.le_of_ble_eq_true rfl) hr (ok_Fg_waits (d := d + 2) n (xs (tn (v3 + (1 : Int32)))) (xs (tn (v3 + (2 : Int32)))) M p259) ?_
                                                        refine r_aload_n hX dL_law_1041 rfl ?_
                                                        refine r_aload_n hX dL_law_1042 rfl ?_
                                                        refine r_iload_n hX dL_law_1043 rfl ?_
                                                        refine r_iconst (v := (1 : Int32)) hX dL_law_1044 (by decide) ?_
                                                        refine r_iadd hX dL_law_1045 ?_
                                                        obtain ⟨k260, h⟩ := grd_s h
                                                        refine r_xld hX dL_law_1046 hxs k260 ?_
                                                        refine r_aload_n hX dL_law_1047 rfl ?_
                                                        refine r_iload_n hX dL_law_1048 rfl ?_
                                                        refine r_iconst (v := (2 : Int32)) hX dL_law_1049 (by decide) ?_
                                                        refine r_iadd hX dL_law_1050 ?_
                                                        obtain ⟨k261, h⟩ := grd_s h
                                                        refine r_xld hX dL_law_1051 hxs k261 ?_
                                                        obtain ⟨z262, p263, h⟩ := bnd_s h
                                                        refine r_callV (As := [.int (xs (tn (v3 + (1 : Int32)))), .int (xs (tn (v3 + (2 : Int32))))]) hX dL_law_1052 mk_Fm_waits mi_Fm_waits ml_12_123 rfl rfl rfl rfl (by decide) (by decide) (Nat.le_of_ble_eq_true rfl) hr (ok_Fm_waits (d := d + 9) n (xs (tn (v3 + (1 : Int32)))) (xs (tn (v3 + (2 : Int32)))) z258.2 p263) ?_
                                                        refine r_icmp_eq (tgt := 1400) hX dL_law_1055 (by decide) (fun g264 => ?_) (fun g264 => ?_)
                                                        · have h := (if_pos g264).symm.trans h
                                                          exact ok_La_law_j1400 n L xs v3 z262.2  hL2 hxs hX hT hr hz1 hc hx h
                                                        · have h := (if_neg g264).symm.trans h
                                                          refine r_iconst (v := (0 : Int32)) hX dL_law_1058 (by decide) ?_
                                                          obtain rfl := hx _ (Option.some.inj h).symm
                                                          cases hz1
                                                      · have h := (if_neg g255).symm.trans h
                                                        by_cases g265 : ((xs (tn v3)) &&& (63 : Int32)) = (26 : Int32)
                                                        · have h := (if_pos g265).symm.trans h
                                                          refine r_tabEq (tgt := 1060) hX dL_law_33 g265 ⟨by decide, by decide, rfl⟩ (by decide) ?_
                                                          refine r_aload_n hX dL_law_1060 rfl ?_
                                                          refine r_aload_n hX dL_law_1061 rfl ?_
                                                          refine r_iload_n hX dL_law_1062 rfl ?_
                                                          refine r_iconst (v := (1 : Int32)) hX dL_law_1063 (by decide) ?_
                                                          refine r_iadd hX dL_law_1064 ?_
                                                          obtain ⟨k266, h⟩ := grd_s h
                                                          refine r_xld hX dL_law_1065 hxs k266 ?_
                                                          refine r_aload_n hX dL_law_1066 rfl ?_
                                                          refine r_iload_n hX dL_law_1067 rfl ?_
                                                          refine r_iconst (v := (2 : Int32)) hX dL_law_1068 (by decide) ?_
                                                          refine r_iadd hX dL_law_1069 ?_
                                                          obtain ⟨k267, h⟩ := grd_s h
                                                          refine r_xld hX dL_law_1070 hxs k267 ?_
                                                          obtain ⟨z268, p269, h⟩ := bnd_s h
                                                          refine r_callV (As := [.int (xs (tn (v3 + (1 : Int32)))), .int (xs (tn (v3 + (2 : Int32))))]) hX dL_law_1071 mk_Fg_unravel mi_Fg_unravel ml_12_124 rfl rfl rfl rfl (by decide) (by decide) (Nat.le_of_ble_eq_true rfl) hr (ok_Fg_unravel (d := d + 2) n (xs (tn (v3 + (1 : Int32)))) (xs (tn (v3 + (2 : Int32)))) M p269) ?_
                                                          refine r_aload_n hX dL_law_1074 rfl ?_
                                                          refine r_aload_n hX dL_law_1075 rfl ?_
                                                          refine r_iload_n hX dL_law_1076 rfl ?_
                                                          refine r_iconst (v := (1 : Int32)) hX dL_law_1077 (by decide) ?_
                                                          refine r_iadd hX dL_law_1078 ?_
                                                          obtain ⟨k270, h⟩ := grd_s h
                                                          refine r_xld hX dL_law_1079 hxs k270 ?_
                                                          refine r_aload_n hX dL_law_1080 rfl ?_
                                                          refine r_iload_n hX dL_law_1081 rfl ?_
                                                          refine r_iconst (v := (2 : Int32)) hX dL_law_1082 (by decide) ?_
                                                          refine r_iadd hX dL_law_1083 ?_
                                                          obtain ⟨k271, h⟩ := grd_s h
                                                          refine r_xld hX dL_law_1084 hxs k271 ?_
                                                          obtain ⟨z272, p273, h⟩ := bnd_s h
                                                          refine r_callV (As := [.int (xs (tn (v3 + (1 : Int32)))), .int (xs (tn (v3 + (2 : Int32))))]) hX dL_law_1085 mk_Fm_unravel mi_Fm_unravel ml_12_127 rfl rfl rfl rfl (by decide) (by decide) (Nat.le_of_ble_eq_true rfl) hr (ok_Fm_unravel (d := d + 9) n (xs (tn (v3 + (1 : Int32)))) (xs (tn (v3 + (2 : Int32)))) z268.2 p273) ?_
                                                          refine r_icmp_eq (tgt := 1400) hX dL_law_1088 (by decide) (fun g274 => ?_) (fun g274 => ?_)
                                                          · have h := (if_pos g274).symm.trans h
                                                            exact ok_La_law_j1400 n L xs v3 z272.2  hL2 hxs hX hT hr hz1 hc hx h
                                                          · have h := (if_neg g274).symm.trans h
                                                            refine r_iconst (v := (0 : Int32)) hX dL_law_1091 (by decide) ?_
                                                            obtain rfl := hx _ (Option.some.inj h).symm
                                                            cases hz1
                                                        · have h := (if_neg g265).symm.trans h
                                                          by_cases g275 : ((xs (tn v3)) &&& (63 : Int32)) = (27 : Int32)
                                                          · have h := (if_pos g275).symm.trans h
                                                            refine r_tabEq (tgt := 1093) hX dL_law_33 g275 ⟨by decide, by decide, rfl⟩ (by decide) ?_
                                                            refine r_aload_n hX dL_law_1093 rfl ?_
                                                            refine r_aload_n hX dL_law_1094 rfl ?_
                                                            refine r_iload_n hX dL_law_1095 rfl ?_
                                                            refine r_iconst (v := (1 : Int32)) hX dL_law_1096 (by decide) ?_
                                                            refine r_iadd hX dL_law_1097 ?_
                                                            obtain ⟨k276, h⟩ := grd_s h
                                                            refine r_xld hX dL_law_1098 hxs k276 ?_
                                                            refine r_aload_n hX dL_law_1099 rfl ?_
                                                            refine r_iload_n hX dL_law_1100 rfl ?_
                                                            refine r_iconst (v := (2 : Int32)) hX dL_law_1101 (by decide) ?_
                                                            refine r_iadd hX dL_law_1102 ?_
                                                            obtain ⟨k277, h⟩ := grd_s h
                                                            refine r_xld hX dL_law_1103 hxs k277 ?_
                                                            refine r_aload_n hX dL_law_1104 rfl ?_
                                                            refine r_iload_n hX dL_law_1105 rfl ?_
                                                            refine r_iconst (v := (3 : Int32)) hX dL_law_1106 (by decide) ?_
                                                            refine r_iadd hX dL_law_1107 ?_
                                                            obtain ⟨k278, h⟩ := grd_s h
                                                            refine r_xld hX dL_law_1108 hxs k278 ?_
                                                            refine r_aload_n hX dL_law_1109 rfl ?_
                                                            refine r_iload_n hX dL_law_1110 rfl ?_
                                                            refine r_iconst (v := (4 : Int32)) hX dL_law_1111 (by decide) ?_
                                                            refine r_iadd hX dL_law_1112 ?_
                                                            obtain ⟨k279, h⟩ := grd_s h
                                                            refine r_xld hX dL_law_1113 hxs k279 ?_
                                                            obtain ⟨z280, p281, h⟩ := bnd_s h
                                                            refine r_callV (As := [.int (xs (tn (v3 + (1 : Int32)))), .int (xs (tn (v3 + (2 : Int32)))), .int (xs (tn (v3 + (3 : Int32)))), .int (xs (tn (v3 + (4 : Int32))))]) hX dL_law_1114 mk_Fg_trial mi_Fg_trial ml_12_128 rfl rfl rfl rfl (by decide) (by decide) (Nat.le_of_ble_eq_true rfl) hr (ok_Fg_trial (d := d + 1) n (xs (tn (v3 + (1 : Int32)))) (xs (tn (v3 + (2 : Int32)))) (xs (tn (v3 + (3 : Int32)))) (xs (tn (v3 + (4 : Int32)))) M p281) ?_
                                                            refine r_aload_n hX dL_law_1117 rfl ?_
                                                            refine r_aload_n hX dL_law_1118 rfl ?_
                                                            refine r_iload_n hX dL_law_1119 rfl ?_
                                                            refine r_iconst (v := (1 : Int32)) hX dL_law_1120 (by decide) ?_
                                                            refine r_iadd hX dL_law_1121 ?_
                                                            obtain ⟨k282, h⟩ := grd_s h
                                                            refine r_xld hX dL_law_1122 hxs k282 ?_
                                                            refine r_aload_n hX dL_law_1123 rfl ?_
                                                            refine r_iload_n hX dL_law_1124 rfl ?_
                                                            refine r_iconst (v := (2 : Int32)) hX dL_law_1125 (by decide) ?_
                                                            refine r_iadd hX dL_law_1126 ?_
                                                            obtain ⟨k283, h⟩ := grd_s h
                                                            refine r_xld hX dL_law_1127 hxs k283 ?_
                                                            refine r_aload_n hX dL_law_1128 rfl ?_
                                                            refine r_iload_n hX dL_law_1129 rfl ?_
                                                            refine r_iconst (v := (3 : Int32)) hX dL_law_1130 (by decide) ?_
                                                            refine r_iadd hX dL_law_1131 ?_
                                                            obtain ⟨k284, h⟩ := grd_s h
                                                            refine r_xld hX dL_law_1132 hxs k284 ?_
                                                            refine r_aload_n hX dL_law_1133 rfl ?_
                                                            refine r_iload_n hX dL_law_1134 rfl ?_
                                                            refine r_iconst (v := (4 : Int32)) hX dL_law_1135 (by decide) ?_
                                                            refine r_iadd hX dL_law_1136 ?_
                                                            obtain ⟨k285, h⟩ := grd_s h
                                                            refine r_xld hX dL_law_1137 hxs k285 ?_
                                                            obtain ⟨z286, p287, h⟩ := bnd_s h
                                                            refine r_callV (As := [.int (xs (tn (v3 + (1 : Int32)))), .int (xs (tn (v3 + (2 : Int32)))), .int (xs (tn (v3 + (3 : Int32)))), .int (xs (tn (v3 + (4 : Int32))))]) hX dL_law_1138 mk_Fm_trial mi_Fm_trial ml_12_131 rfl rfl rfl rfl (by decide) (by decide) (Nat.le_of_ble_eq_true rfl) hr (ok_Fm_trial (d := d + 9) n (xs (tn (v3 + (1 : Int32)))) (xs (tn (v3 + (2 : Int32)))) (xs (tn (v3 + (3 : Int32)))) (xs (tn (v3 + (4 : Int32)))) z280.2 p287) ?_
                                                            refine r_icmp_eq (tgt := 1400) hX dL_law_1141 (by decide) (fun g288 => ?_) (fun g288 => ?_)
                                                            · have h := (if_pos g288).symm.trans h
                                                              exact ok_La_law_j1400 n L xs v3 z286.2  hL2 hxs hX hT hr hz1 hc hx h
                                                            · have h := (if_neg g288).symm.trans h
                                                              refine r_iconst (v := (0 : Int32)) hX dL_law_1144 (by decide) ?_
                                                              obtain rfl := hx _ (Option.some.inj h).symm
                                                              cases hz1
                                                          · have h := (if_neg g275).symm.trans h
                                                            by_cases g289 : ((xs (tn v3)) &&& (63 : Int32)) = (28 : Int32)
                                                            · have h := (if_pos g289).symm.trans h
                                                              refine r_tabEq (tgt := 1146) hX dL_law_33 g289 ⟨by decide, by decide, rfl⟩ (by decide) ?_
                                                              refine r_aload_n hX dL_law_1146 rfl ?_
                                                              refine r_aload_n hX dL_law_1147 rfl ?_
                                                              refine r_iload_n hX dL_law_1148 rfl ?_
                                                              refine r_iconst (v := (1 : Int32)) hX dL_law_1149 (by decide) ?_
                                                              refine r_iadd hX dL_law_1150 ?_
                                                              obtain ⟨k290, h⟩ := grd_s h
                                                              refine r_xld hX dL_law_1151 hxs k290 ?_
                                                              refine r_aload_n hX dL_law_1152 rfl ?_
                                                              refine r_iload_n hX dL_law_1153 rfl ?_
                                                              refine r_iconst (v := (2 : Int32)) hX dL_law_1154 (by decide) ?_
                                                              refine r_iadd hX dL_law_1155 ?_
                                                              obtain ⟨k291, h⟩ := grd_s h
                                                              refine r_xld hX dL_law_1156 hxs k291 ?_
                                                              obtain ⟨z292, p293, h⟩ := bnd_s h
                                                              refine r_callV (As := [.int (xs (tn (v3 + (1 : Int32)))), .int (xs (tn (v3 + (2 : Int32))))]) hX dL_law_1157 mk_Fg_bestRule mi_Fg_bestRule ml_12_132 rfl rfl rfl rfl (by decide) (by decide) (Nat.le_of_ble_eq_true rfl) hr (ok_Fg_bestRule (d := d + 1) n (xs (tn (v3 + (1 : Int32)))) (xs (tn (v3 + (2 : Int32)))) M p293) ?_
                                                              refine r_aload_n hX dL_law_1160 rfl ?_
                                                              refine r_aload_n hX dL_law_1161 rfl ?_
                                                              refine r_iload_n hX dL_law_1162 rfl ?_
                                                              refine r_iconst (v := (1 : Int32)) hX dL_law_1163 (by decide) ?_
                                                              refine r_iadd hX dL_law_1164 ?_
                                                              obtain ⟨k294, h⟩ := grd_s h
                                                              refine r_xld hX dL_law_1165 hxs k294 ?_
                                                              refine r_aload_n hX dL_law_1166 rfl ?_
                                                              refine r_iload_n hX dL_law_1167 rfl ?_
                                                              refine r_iconst (v := (2 : Int32)) hX dL_law_1168 (by decide) ?_
                                                              refine r_iadd hX dL_law_1169 ?_
                                                              obtain ⟨k295, h⟩ := grd_s h
                                                              refine r_xld hX dL_law_1170 hxs k295 ?_
                                                              obtain ⟨z296, p297, h⟩ := bnd_s h
                                                              refine r_callV (As := [.int (xs (tn (v3 + (1 : Int32)))), .int (xs (tn (v3 + (2 : Int32))))]) hX dL_law_1171 mk_Fm_bestRule mi_Fm_bestRule ml_12_135 rfl rfl rfl rfl (by decide) (by decide) (Nat.le_of_ble_eq_true rfl) hr (ok_Fm_bestRule (d := d + 9) n (xs (tn (v3 + (1 : Int32)))) (xs (tn (v3 + (2 : Int32)))) z292.2 p297) ?_
                                                              refine r_icmp_eq (tgt := 1400) hX dL_law_1174 (by decide) (fun g298 => ?_) (fun g298 => ?_)
                                                              · have h := (if_pos g298).symm.trans h
                                                                exact ok_La_law_j1400 n L xs v3 z296.2  hL2 hxs hX hT hr hz1 hc hx h
                                                              · have h := (if_neg g298).symm.trans h
                                                                refine r_iconst (v := (0 : Int32)) hX dL_law_1177 (by decide) ?_
                                                                obtain rfl := hx _ (Option.some.inj h).symm
                                                                cases hz1
                                                            · have h := (if_neg g289).symm.trans h
                                                              by_cases g299 : ((xs (tn v3)) &&& (63 : Int32)) = (29 : Int32)
                                                              · have h := (if_pos g299).symm.trans h
                                                                refine r_tabEq (tgt := 1179) hX dL_law_33 g299 ⟨by decide, by decide, rfl⟩ (by decide) ?_
                                                                refine r_aload_n hX dL_law_1179 rfl ?_
                                                                refine r_aload_n hX dL_law_1180 rfl ?_
                                                                refine r_iload_n hX dL_law_1181 rfl ?_
                                                                refine r_iconst (v := (1 : Int32)) hX dL_law_1182 (by decide) ?_
                                                                refine r_iadd hX dL_law_1183 ?_
                                                                obtain ⟨k300, h⟩ := grd_s h
                                                                refine r_xld hX dL_law_1184 hxs k300 ?_
                                                                refine r_aload_n hX dL_law_1185 rfl ?_
                                                                refine r_iload_n hX dL_law_1186 rfl ?_
                                                                refine r_iconst (v := (2 : Int32)) hX dL_law_1187 (by decide) ?_
                                                                refine r_iadd hX dL_law_1188 ?_
                                                                obtain ⟨k301, h⟩ := grd_s h
                                                                refine r_xld hX dL_law_1189 hxs k301 ?_
                                                                refine r_aload_n hX dL_law_1190 rfl ?_
                                                                refine r_iload_n hX dL_law_1191 rfl ?_
                                                                refine r_iconst (v := (3 : Int32)) hX dL_law_1192 (by decide) ?_
                                                                refine r_iadd hX dL_law_1193 ?_
                                                                obtain ⟨k302, h⟩ := grd_s h
                                                                refine r_xld hX dL_law_1194 hxs k302 ?_
                                                                refine r_aload_n hX dL_law_1195 rfl ?_
                                                                refine r_iload_n hX dL_law_1196 rfl ?_
                                                                refine r_iconst (v := (4 : Int32)) hX dL_law_1197 (by decide) ?_
                                                                refine r_iadd hX dL_law_1198 ?_
                                                                obtain ⟨k303, h⟩ := grd_s h
                                                                refine r_xld hX dL_law_1199 hxs k303 ?_
                                                                obtain ⟨z304, p305, h⟩ := bnd_s h
                                                                refine r_callV (As := [.int (xs (tn (v3 + (1 : Int32)))), .int (xs (tn (v3 + (2 : Int32)))), .int (xs (tn (v3 + (3 : Int32)))), .int (xs (tn (v3 + (4 : Int32))))]) hX dL_law_1200 mk_Fg_parts mi_Fg_parts ml_12_136 rfl rfl rfl rfl (by decide) (by decide) (Nat.le_of_ble_eq_true rfl) hr (ok_Fg_parts (d := d + 2) n (xs (tn (v3 + (1 : Int32)))) (xs (tn (v3 + (2 : Int32)))) (xs (tn (v3 + (3 : Int32)))) (xs (tn (v3 + (4 : Int32)))) M p305) ?_
                                                                refine r_aload_n hX dL_law_1203 rfl ?_
                                                                refine r_aload_n hX dL_law_1204 rfl ?_
                                                                refine r_iload_n hX dL_law_1205 rfl ?_
                                                                refine r_iconst (v := (1 : Int32)) hX dL_law_1206 (by decide) ?_
                                                                refine r_iadd hX dL_law_1207 ?_
                                                                obtain ⟨k306, h⟩ := grd_s h
                                                                refine r_xld hX dL_law_1208 hxs k306 ?_
                                                                refine r_aload_n hX dL_law_1209 rfl ?_
                                                                refine r_iload_n hX dL_law_1210 rfl ?_
                                                                refine r_iconst (v := (2 : Int32)) hX dL_law_1211 (by decide) ?_
                                                                refine r_iadd hX dL_law_1212 ?_
                                                                obtain ⟨k307, h⟩ := grd_s h
                                                                refine r_xld hX dL_law_1213 hxs k307 ?_
                                                                refine r_aload_n hX dL_law_1214 rfl ?_
                                                                refine r_iload_n hX dL_law_1215 rfl ?_
                                                                refine r_iconst (v := (3 : Int32)) hX dL_law_1216 (by decide) ?_
                                                                refine r_iadd hX dL_law_1217 ?_
                                                                obtain ⟨k308, h⟩ := grd_s h
                                                                refine r_xld hX dL_law_1218 hxs k308 ?_
                                                                refine r_aload_n hX dL_law_1219 rfl ?_
                                                                refine r_iload_n hX dL_law_1220 rfl ?_
                                                                refine r_iconst (v := (4 : Int32)) hX dL_law_1221 (by decide) ?_
                                                                refine r_iadd hX dL_law_1222 ?_
                                                                obtain ⟨k309, h⟩ := grd_s h
                                                                refine r_xld hX dL_law_1223 hxs k309 ?_
                                                                obtain ⟨z310, p311, h⟩ := bnd_s h
                                                                refine r_callV (As := [.int (xs (tn (v3 + (1 : Int32)))), .int (xs (tn (v3 + (2 : Int32)))), .int (xs (tn (v3 + (3 : Int32)))), .int (xs (tn (v3 + (4 : Int32))))]) hX dL_law_1224 mk_Fm_parts mi_Fm_parts ml_12_139 rfl rfl rfl rfl (by decide) (by decide) (Nat.le_of_ble_eq_true rfl) hr (ok_Fm_parts (d := d + 10) n (xs (tn (v3 + (1 : Int32)))) (xs (tn (v3 + (2 : Int32)))) (xs (tn (v3 + (3 : Int32)))) (xs (tn (v3 + (4 : Int32)))) z304.2 p311) ?_
                                                                refine r_icmp_eq (tgt := 1400) hX dL_law_1227 (by decide) (fun g312 => ?_) (fun g312 => ?_)
                                                                · have h := (if_pos g312).symm.trans h
                                                                  exact ok_La_law_j1400 n L xs v3 z310.2  hL2 hxs hX hT hr hz1 hc hx h
                                                                · have h := (if_neg g312).symm.trans h
                                                                  refine r_iconst (v := (0 : Int32)) hX dL_law_1230 (by decide) ?_
                                                                  obtain rfl := hx _ (Option.some.inj h).symm
                                                                  cases hz1
                                                              · have h := (if_neg g299).symm.trans h
                                                                by_cases g313 : ((xs (tn v3)) &&& (63 : Int32)) = (30 : Int32)
                                                                · have h := (if_pos g313).symm.trans h
                                                                  refine r_tabEq (tgt := 1232) hX dL_law_33 g313 ⟨by decide, by decide, rfl⟩ (by decide) ?_
                                                                  refine r_aload_n hX dL_law_1232 rfl ?_
                                                                  refine r_aload_n hX dL_law_1233 rfl ?_
                                                                  refine r_iload_n hX dL_law_1234 rfl ?_
                                                                  refine r_iconst (v := (1 : Int32)) hX dL_law_1235 (by decide) ?_
                                                                  refine r_iadd hX dL_law_1236 ?_
                                                                  obtain ⟨k314, h⟩ := grd_s h
                                                                  refine r_xld hX dL_law_1237 hxs k314 ?_
                                                                  refine r_aload_n hX dL_law_1238 rfl ?_
                                                                  refine r_iload_n hX dL_law_1239 rfl ?_
                                                                  refine r_iconst (v := (2 : Int32)) hX dL_law_1240 (by decide) ?_
                                                                  refine r_iadd hX dL_law_1241 ?_
                                                                  obtain ⟨k315, h⟩ := grd_s h
                                                                  refine r_xld hX dL_law_1242 hxs k315 ?_
                                                                  refine r_aload_n hX dL_law_1243 rfl ?_
                                                                  refine r_iload_n hX dL_law_1244 rfl ?_
                                                                  refine r_iconst (v := (3 : Int32)) hX dL_law_1245 (by decide) ?_
                                                                  refine r_iadd hX dL_law_1246 ?_
                                                                  obtain ⟨k316, h⟩ := grd_s h
                                                                  refine r_xld hX dL_law_1247 hxs k316 ?_
                                                                  refine r_aload_n hX dL_law_1248 rfl ?_
                                                                  refine r_iload_n hX dL_law_1249 rfl ?_
                                                                  refine r_iconst (v := (4 : Int32)) hX dL_law_1250 (by decide) ?_
                                                                  refine r_iadd hX dL_law_1251 ?_
                                                                  obtain ⟨k317, h⟩ := grd_s h
                                                                  refine r_xld hX dL_law_1252 hxs k317 ?_
                                                                  obtain ⟨z318, p319, h⟩ := bnd_s h
                                                                  refine r_callV (As := [.int (xs (tn (v3 + (1 : Int32)))), .int (xs (tn (v3 + (2 : Int32)))), .int (xs (tn (v3 + (3 : Int32)))), .int (xs (tn (v3 + (4 : Int32))))]) hX dL_law_1253 mk_Fg_more mi_Fg_more ml_12_140 rfl rfl rfl rfl (by decide) (by decide) (Nat.le_of_ble_eq_true rfl) hr (ok_Fg_more (d := d + 3) n (xs (tn (v3 + (1 : Int32)))) (xs (tn (v3 + (2 : Int32)))) (xs (tn (v3 + (3 : Int32)))) (xs (tn (v3 + (4 : Int32)))) M p319) ?_
                                                                  refine r_aload_n hX dL_law_1256 rfl ?_
                                                                  refine r_aload_n hX dL_law_1257 rfl ?_
                                                                  refine r_iload_n hX dL_law_1258 rfl ?_
                                                                  refine r_iconst (v := (1 : Int32)) hX dL_law_1259 (by decide) ?_
                                                                  refine r_iadd hX dL_law_1260 ?_
                                                                  obtain ⟨k320, h⟩ := grd_s h
                                                                  refine r_xld hX dL_law_1261 hxs k320 ?_
                                                                  refine r_aload_n hX dL_law_1262 rfl ?_
                                                                  refine r_iload_n hX dL_law_1263 rfl ?_
                                                                  refine r_iconst (v := (2 : Int32)) hX dL_law_1264 (by decide) ?_
                                                                  refine r_iadd hX dL_law_1265 ?_
                                                                  obtain ⟨k321, h⟩ := grd_s h
                                                                  refine r_xld hX dL_law_1266 hxs k321 ?_
                                                                  refine r_aload_n hX dL_law_1267 rfl ?_
                                                                  refine r_iload_n hX dL_law_1268 rfl ?_
                                                                  refine r_iconst (v := (3 : Int32)) hX dL_law_1269 (by decide) ?_
                                                                  refine r_iadd hX dL_law_1270 ?_
                                                                  obtain ⟨k322, h⟩ := grd_s h
                                                                  refine r_xld hX dL_law_1271 hxs k322 ?_
                                                                  refine r_aload_n hX dL_law_1272 rfl ?_
                                                                  refine r_iload_n hX dL_law_1273 rfl ?_
                                                                  refine r_iconst (v := (4 : Int32)) hX dL_law_1274 (by decide) ?_
                                                                  refine r_iadd hX dL_law_1275 ?_
                                                                  obtain ⟨k323, h⟩ := grd_s h
                                                                  refine r_xld hX dL_law_1276 hxs k323 ?_
                                                                  obtain ⟨z324, p325, h⟩ := bnd_s h
                                                                  refine r_callV (As := [.int (xs (tn (v3 + (1 : Int32)))), .int (xs (tn (v3 + (2 : Int32)))), .int (xs (tn (v3 + (3 : Int32)))), .int (xs (tn (v3 + (4 : Int32))))]) hX dL_law_1277 mk_Fm_more mi_Fm_more ml_12_143 rfl rfl rfl rfl (by decide) (by decide) (Nat.le_of_ble_eq_true rfl) hr (ok_Fm_more (d := d + 11) n (xs (tn (v3 + (1 : Int32)))) (xs (tn (v3 + (2 : Int32)))) (xs (tn (v3 + (3 : Int32)))) (xs (tn (v3 + (4 : Int32)))) z318.2 p325) ?_
                                                                  refine r_icmp_eq (tgt := 1400) hX dL_law_1280 (by decide) (fun g326 => ?_) (fun g326 => ?_)
                                                                  · have h := (if_pos g326).symm.trans h
                                                                    exact ok_La_law_j1400 n L xs v3 z324.2  hL2 hxs hX hT hr hz1 hc hx h
                                                                  · have h := (if_neg g326).symm.trans h
                                                                    refine r_iconst (v := (0 : Int32)) hX dL_law_1283 (by decide) ?_
                                                                    obtain rfl := hx _ (Option.some.inj h).symm
                                                                    cases hz1
                                                                · have h := (if_neg g313).symm.trans h
                                                                  by_cases g327 : ((xs (tn v3)) &&& (63 : Int32)) = (31 : Int32)
                                                                  · have h := (if_pos g327).symm.trans h
                                                                    refine r_tabEq (tgt := 1285) hX dL_law_33 g327 ⟨by decide, by decide, rfl⟩ (by decide) ?_
                                                                    refine r_aload_n hX dL_law_1285 rfl ?_
                                                                    refine r_aload_n hX dL_law_1286 rfl ?_
                                                                    refine r_iload_n hX dL_law_1287 rfl ?_
                                                                    refine r_iconst (v := (1 : Int32)) hX dL_law_1288 (by decide) ?_
                                                                    refine r_iadd hX dL_law_1289 ?_
                                                                    obtain ⟨k328, h⟩ := grd_s h
                                                                    refine r_xld hX dL_law_1290 hxs k328 ?_
                                                                    refine r_aload_n hX dL_law_1291 rfl ?_
                                                                    refine r_iload_n hX dL_law_1292 rfl ?_
                                                                    refine r_iconst (v := (2 : Int32)) hX dL_law_1293 (by decide) ?_
                                                                    refine r_iadd hX dL_law_1294 ?_
                                                                    obtain ⟨k329, h⟩ := grd_s h
                                                                    refine r_xld hX dL_law_1295 hxs k329 ?_
                                                                    refine r_aload_n hX dL_law_1296 rfl ?_
                                                                    refine r_iload_n hX dL_law_1297 rfl ?_
                                                                    refine r_iconst (v := (3 : Int32)) hX dL_law_1298 (by decide) ?_
                                                                    refine r_iadd hX dL_law_1299 ?_
                                                                    obtain ⟨k330, h⟩ := grd_s h
                                                                    refine r_xld hX dL_law_1300 hxs k330 ?_
                                                                    obtain ⟨z331, p332, h⟩ := bnd_s h
                                                                    refine r_callV (As := [.int (xs (tn (v3 + (1 : Int32)))), .int (xs (tn (v3 + (2 : Int32)))), .int (xs (tn (v3 + (3 : Int32))))]) hX dL_law_1301 mk_Fg_ifCut mi_Fg_ifCut ml_12_144 rfl rfl rfl rfl (by decide) (by decide) (Nat.le_of_ble_eq_true rfl) hr (ok_Fg_ifCut (d := d + 2) n (xs (tn (v3 + (1 : Int32)))) (xs (tn (v3 + (2 : Int32)))) (xs (tn (v3 + (3 : Int32)))) M p332) ?_
                                                                    refine r_aload_n hX dL_law_1304 rfl ?_
                                                                    refine r_aload_n hX dL_law_1305 rfl ?_
                                                                    refine r_iload_n hX dL_law_1306 rfl ?_
                                                                    refine r_iconst (v := (1 : Int32)) hX dL_law_1307 (by decide) ?_
                                                                    refine r_iadd hX dL_law_1308 ?_
                                                                    obtain ⟨k333, h⟩ := grd_s h
                                                                    refine r_xld hX dL_law_1309 hxs k333 ?_
                                                                    refine r_aload_n hX dL_law_1310 rfl ?_
                                                                    refine r_iload_n hX dL_law_1311 rfl ?_
                                                                    refine r_iconst (v := (2 : Int32)) hX dL_law_1312 (by decide) ?_
                                                                    refine r_iadd hX dL_law_1313 ?_
                                                                    obtain ⟨k334, h⟩ := grd_s h
                                                                    refine r_xld hX dL_law_1314 hxs k334 ?_
                                                                    refine r_aload_n hX dL_law_1315 rfl ?_
                                                                    refine r_iload_n hX dL_law_1316 rfl ?_
                                                                    refine r_iconst (v := (3 : Int32)) hX dL_law_1317 (by decide) ?_
                                                                    refine r_iadd hX dL_law_1318 ?_
                                                                    obtain ⟨k335, h⟩ := grd_s h
                                                                    refine r_xld hX dL_law_1319 hxs k335 ?_
                                                                    obtain ⟨z336, p337, h⟩ := bnd_s h
                                                                    refine r_callV (As := [.int (xs (tn (v3 + (1 : Int32)))), .int (xs (tn (v3 + (2 : Int32)))), .int (xs (tn (v3 + (3 : Int32))))]) hX dL_law_1320 mk_Fm_ifCut mi_Fm_ifCut ml_12_147 rfl rfl rfl rfl (by decide) (by decide) (Nat.le_of_ble_eq_true rfl) hr (ok_Fm_ifCut (d := d + 9) n (xs (tn (v3 + (1 : Int32)))) (xs (tn (v3 + (2 : Int32)))) (xs (tn (v3 + (3 : Int32)))) z331.2 p337) ?_
                                                                    refine r_icmp_eq (tgt := 1400) hX dL_law_1323 (by decide) (fun g338 => ?_) (fun g338 => ?_)
                                                                    · have h := (if_pos g338).symm.trans h
                                                                      exact ok_La_law_j1400 n L xs v3 z336.2  hL2 hxs hX hT hr hz1 hc hx h
                                                                    · have h := (if_neg g338).symm.trans h
                                                                      refine r_iconst (v := (0 : Int32)) hX dL_law_1326 (by decide) ?_
                                                                      obtain rfl := hx _ (Option.some.inj h).symm
                                                                      cases hz1
                                                                  · have h := (if_neg g327).symm.trans h
                                                                    by_cases g339 : ((xs (tn v3)) &&& (63 : Int32)) = (32 : Int32)
                                                                    · have h := (if_pos g339).symm.trans h
                                                                      refine r_tabEq (tgt := 1328) hX dL_law_33 g339 ⟨by decide, by decide, rfl⟩ (by decide) ?_
                                                                      refine r_aload_n hX dL_law_1328 rfl ?_
                                                                      obtain ⟨z340, p341, h⟩ := bnd_s h
                                                                      refine r_callV (As := []) hX dL_law_1329 mk_Fg_keep mi_Fg_keep ml_12_148 rfl rfl rfl rfl (by decide) (by decide) (Nat.le_of_ble_eq_true rfl) hr (ok_Fg_keep (d := d + 14) M p341) ?_
                                                                      refine r_aload_n hX dL_law_1332 rfl ?_
                                                                      obtain ⟨z342, p343, h⟩ := bnd_s h
                                                                      refine r_callV (As := []) hX dL_law_1333 mk_Fm_keep mi_Fm_keep ml_12_151 rfl rfl rfl rfl (by decide) (by decide) (Nat.le_of_ble_eq_true rfl) hr (ok_Fm_keep (d := d + 15) n z340.2 p343) ?_
                                                                      refine r_icmp_eq (tgt := 1400) hX dL_law_1336 (by decide) (fun g344 => ?_) (fun g344 => ?_)
                                                                      · have h := (if_pos g344).symm.trans h
                                                                        exact ok_La_law_j1400 n L xs v3 z342.2  hL2 hxs hX hT hr hz1 hc hx h
                                                                      · have h := (if_neg g344).symm.trans h
                                                                        refine r_iconst (v := (0 : Int32)) hX dL_law_1339 (by decide) ?_
                                                                        obtain rfl := hx _ (Option.some.inj h).symm
                                                                        cases hz1
                                                                    · have h := (if_neg g339).symm.trans h
                                                                      by_cases g345 : ((xs (tn v3)) &&& (63 : Int32)) = (33 : Int32)
                                                                      · have h := (if_pos g345).symm.trans h
                                                                        refine r_tabEq (tgt := 1341) hX dL_law_33 g345 ⟨by decide, by decide, rfl⟩ (by decide) ?_
                                                                        refine r_aload_n hX dL_law_1341 rfl ?_
                                                                        obtain ⟨z346, p347, h⟩ := bnd_s h
                                                                        refine r_callV (As := []) hX dL_law_1342 mk_Fg_undo mi_Fg_undo ml_12_152 rfl rfl rfl rfl (by decide) (by decide) (Nat.le_of_ble_eq_true rfl) hr (ok_Fg_undo (d := d + 14) n M p347) ?_
                                                                        refine r_aload_n hX dL_law_1345 rfl ?_
                                                                        obtain ⟨z348, p349, h⟩ := bnd_s h
                                                                        refine r_callV (As := []) hX dL_law_1346 mk_Fm_undo mi_Fm_undo ml_12_156 rfl rfl rfl rfl (by decide) (by decide) (Nat.le_of_ble_eq_true rfl) hr (ok_Fm_undo (d := d + 15) n z346.2 p349) ?_
                                                                        refine r_icmp_eq (tgt := 1400) hX dL_law_1349 (by decide) (fun g350 => ?_) (fun g350 => ?_)
                                                                        · have h := (if_pos g350).symm.trans h
                                                                          exact ok_La_law_j1400 n L xs v3 z348.2  hL2 hxs hX hT hr hz1 hc hx h
                                                                        · have h := (if_neg g350).symm.trans h
                                                                          refine r_iconst (v := (0 : Int32)) hX dL_law_1352 (by decide) ?_
                                                                          obtain rfl := hx _ (Option.some.inj h).symm
                                                                          cases hz1
                                                                      · have h := (if_neg g345).symm.trans h
                                                                        by_cases g351 : ((xs (tn v3)) &&& (63 : Int32)) = (34 : Int32)
                                                                        · have h := (if_pos g351).symm.trans h
                                                                          refine r_tabEq (tgt := 1354) hX dL_law_33 g351 ⟨by decide, by decide, rfl⟩ (by decide) ?_
                                                                          refine r_aload_n hX dL_law_1354 rfl ?_
                                                                          refine r_aload_n hX dL_law_1355 rfl ?_
                                                                          refine r_iload_n hX dL_law_1356 rfl ?_
                                                                          refine r_iconst (v := (1 : Int32)) hX dL_law_1357 (by decide) ?_
                                                                          refine r_iadd hX dL_law_1358 ?_
                                                                          obtain ⟨k352, h⟩ := grd_s h
                                                                          refine r_xld hX dL_law_1359 hxs k352 ?_
                                                                          obtain ⟨z353, p354, h⟩ := bnd_s h
                                                                          refine r_callV (As := [.int (xs (tn (v3 + (1 : Int32))))]) hX dL_law_1360 mk_Fg_check mi_Fg_check ml_12_157 rfl rfl rfl rfl (by decide) (by decide) (Nat.le_of_ble_eq_true rfl) hr (ok_Fg_check (d := d + 13) n (xs (tn (v3 + (1 : Int32)))) M p354) ?_
                                                                          refine r_aload_n hX dL_law_1363 rfl ?_
                                                                          refine r_aload_n hX dL_law_1364 rfl ?_
                                                                          refine r_iload_n hX dL_law_1365 rfl ?_
                                                                          refine r_iconst (v := (1 : Int32)) hX dL_law_1366 (by decide) ?_
                                                                          refine r_iadd hX dL_law_1367 ?_
                                                                          obtain ⟨k355, h⟩ := grd_s h
                                                                          refine r_xld hX dL_law_1368 hxs k355 ?_
                                                                          obtain ⟨z356, p357, h⟩ := bnd_s h
                                                                          refine r_callV (As := [.int (xs (tn (v3 + (1 : Int32))))]) hX dL_law_1369 mk_Fm_check mi_Fm_check ml_12_160 rfl rfl rfl rfl (by decide) (by decide) (Nat.le_of_ble_eq_true rfl) hr (ok_Fm_check (d := d + 14) n (xs (tn (v3 + (1 : Int32)))) z353.2 p357) ?_
                                                                          refine r_icmp_eq (tgt := 1400) hX dL_law_1372 (by decide) (fun g358 => ?_) (fun g358 => ?_)
                                                                          · have h := (if_pos g358).symm.trans h
                                                                            exact ok_La_law_j1400 n L xs v3 z356.2  hL2 hxs hX hT hr hz1 hc hx h
                                                                          · have h := (if_neg g358).symm.trans h
                                                                            refine r_iconst (v := (0 : Int32)) hX dL_law_1375 (by decide) ?_
                                                                            obtain rfl := hx _ (Option.some.inj h).symm
                                                                            cases hz1
                                                                        · have h := (if_neg g351).symm.trans h
                                                                          by_cases g359 : ((xs (tn v3)) &&& (63 : Int32)) = (35 : Int32)
                                                                          · have h := (if_pos g359).symm.trans h
                                                                            refine r_tabEq (tgt := 1377) hX dL_law_33 g359 ⟨by decide, by decide, rfl⟩ (by decide) ?_
                                                                            refine r_aload_n hX dL_law_1377 rfl ?_
                                                                            refine r_aload_n hX dL_law_1378 rfl ?_
                                                                            refine r_iload_n hX dL_law_1379 rfl ?_
                                                                            refine r_iconst (v := (1 : Int32)) hX dL_law_1380 (by decide) ?_
                                                                            refine r_iadd hX dL_law_1381 ?_
                                                                            obtain ⟨k360, h⟩ := grd_s h
                                                                            refine r_xld hX dL_law_1382 hxs k360 ?_
                                                                            obtain ⟨z361, p362, h⟩ := bnd_s h
                                                                            refine r_callV (As := [.int (xs (tn (v3 + (1 : Int32))))]) hX dL_law_1383 mk_Fg_count mi_Fg_count ml_12_161 rfl rfl rfl rfl (by decide) (by decide) (Nat.le_of_ble_eq_true rfl) hr (ok_Fg_count (d := d + 16) (xs (tn (v3 + (1 : Int32)))) M p362) ?_
                                                                            refine r_aload_n hX dL_law_1386 rfl ?_
                                                                            refine r_aload_n hX dL_law_1387 rfl ?_
                                                                            refine r_iload_n hX dL_law_1388 rfl ?_
                                                                            refine r_iconst (v := (1 : Int32)) hX dL_law_1389 (by decide) ?_
                                                                            refine r_iadd hX dL_law_1390 ?_
                                                                            obtain ⟨k363, h⟩ := grd_s h
                                                                            refine r_xld hX dL_law_1391 hxs k363 ?_
                                                                            obtain ⟨z364, p365, h⟩ := bnd_s h
                                                                            refine r_callV (As := [.int (xs (tn (v3 + (1 : Int32))))]) hX dL_law_1392 mk_Fm_count mi_Fm_count ml_12_164 rfl rfl rfl rfl (by decide) (by decide) (Nat.le_of_ble_eq_true rfl) hr (ok_Fm_count (d := d + 16) (xs (tn (v3 + (1 : Int32)))) M p365) ?_
                                                                            refine r_icmp_eq (tgt := 1400) hX dL_law_1395 (by decide) (fun g366 => ?_) (fun g366 => ?_)
                                                                            · have h := (if_pos g366).symm.trans h
                                                                              exact ok_La_law_j1400 n L xs v3 M  hL2 hxs hX hT hr hz1 hc hx h
                                                                            · have h := (if_neg g366).symm.trans h
                                                                              refine r_iconst (v := (0 : Int32)) hX dL_law_1398 (by decide) ?_
                                                                              obtain rfl := hx _ (Option.some.inj h).symm
                                                                              cases hz1
                                                                          · have h := (if_neg g359).symm.trans h
                                                                            refine r_tabOut (tgt := 1400) hX dL_law_33 (by have q0 := ne_ti g3 (k := 0) (by decide); have q1 := ne_ti g19 (k := 1) (by decide); have q2 := ne_ti g27 (k := 2) (by decide); have q3 := ne_ti g35 (k := 3) (by decide); have q4 := ne_ti g49 (k := 4) (by decide); have q5 := ne_ti g57 (k := 5) (by decide); have q6 := ne_ti g65 (k := 6) (by decide); have q7 := ne_ti g71 (k := 7) (by decide); have q8 := ne_ti g77 (k := 8) (by decide); have q9 := ne_ti g87 (k := 9) (by decide); have q10 := ne_ti g95 (k := 10) (by decide); have q11 := ne_ti g103 (k := 11) (by decide); have q12 := ne_ti g111 (k := 12) (by decide); have q13 := ne_ti g119 (k := 13) (by decide); have q14 := ne_ti g129 (k := 14) (by decide); have q15 := ne_ti g137 (k := 15) (by decide); have q16 := ne_ti g145 (k := 16) (by decide); have q17 := ne_ti g153 (k := 17) (by decide); have q18 := ne_ti g163 (k := 18) (by decide); have q19 := ne_ti g173 (k := 19) (by decide); have q20 := ne_ti g187 (k := 20) (by decide); have q21 := ne_ti g203 (k := 21) (by decide); have q22 := ne_ti g219 (k := 22) (by decide); have q23 := ne_ti g233 (k := 23) (by decide); have q24 := ne_ti g243 (k := 24) (by decide); have q25 := ne_ti g255 (k := 25) (by decide); have q26 := ne_ti g265 (k := 26) (by decide); have q27 := ne_ti g275 (k := 27) (by decide); have q28 := ne_ti g289 (k := 28) (by decide); have q29 := ne_ti g299 (k := 29) (by decide); have q30 := ne_ti g313 (k := 30) (by decide); have q31 := ne_ti g327 (k := 31) (by decide); have q32 := ne_ti g339 (k := 32) (by decide); have q33 := ne_ti g345 (k := 33) (by decide); have q34 := ne_ti g351 (k := 34) (by decide); have q35 := ne_ti g359 (k := 35) (by decide); omega) (by decide) ?_
                                                                            exact ok_La_law_j1400 n L xs v3 M  hL2 hxs hX hT hr hz1 hc hx h
set_option maxRecDepth 100000 in
theorem ok_La_law (n L : Nat) (xs : Nat → Int32) (M : Mm) {z : Bool × Mm} {G : Gm} {X : Cx} {d : Nat} {Q : State → Prop} (hL2 : L ≤ 3072) (hxs : va_X (G.2.2.2 9) L xs X.2.2.2.2.1 G.1 ∧ G.2.2.2 9 < G.1.size) (hX : XK G X 12 cL_law 4 (d + 17)) (hT : ∀ (pc : Nat) (L : List Value) (M : Mm), decode cL_law pc = .ok (.ireturn, 1) → WR G X Q pc L [.int 1] M SS) (hr : XR X SS) (hz1 : z.1 = true) (h : La_law n L xs M = some z) : WR G X Q 16 [.ref (1000 + 9), .ref 0, .ref 94, vU] [] M SS := by
  unfold La_law at h
  refine r_iconst (v := (0 : Int32)) hX dL_law_16 (by decide) ?_
  refine r_istore_n (L1 := [.ref (1000 + 9), .ref 0, .ref 94, .int (0 : Int32)]) hX dL_law_17 (Nat.le_of_ble_eq_true rfl) rfl ?_
  obtain ⟨y367, h1, h⟩ := bnd_s h
  refine loop_ok (P := fun s1 : Int32 × Mm => WR G X Q 18 [.ref (1000 + 9), .ref 0, .ref 94, .int s1.1] [] s1.2 SS) (E := fun x1 : (Mm) ⊕ (Bool × Mm) => elS x1 (fun x2 => WR G X Q 1406 [vU, vU, vU, vU] [] x2 SS) (fun y1 => y1 = z)) (fun s1 o1 g1 g2 g3 => ok_La_law_b18 n L xs s1.1 s1.2 hL2 hxs hX hT hr hz1 g2 g3 g1) n ((0 : Int32), M) y367 h1 ?_
  cases y367 with
  | inr e369 =>
    exact Option.some.inj h
  | inl x368 =>
    show WR G X Q 1406 [vU, vU, vU, vU] [] x368 SS
    refine r_iconst (v := (1 : Int32)) hX dL_law_1406 (by decide) ?_
    obtain rfl := Option.some.inj h
    exact hT _ _ _ dL_law_1407
