/-! static arrays, String constants -/
def stV (j k : Nat) : Int32 := (stT j).getD k 0
theorem ad_st {G : Gm} (j : Nat) : ad G (1000 + j) = G.2.2.2 j := by
  unfold ad
  rw [if_neg (by omega), show 1000 + j - 1000 = j by omega]
theorem xS_old {G : Gm} {X : Cx} {own : Nat} {cc : ByteArray} {nL d : Nat} {M : Mm} {S : Sg} {H : Heap} {locs : List Loc} (hX : XK G X own cc nL d) (hR : Rep G M S H locs) (hz : (xS X).2.1 ≤ S.2.1 ∧ (xS X).2.2 ≤ S.2.2) : va_S (gA G) X.2.2.2.2.1.heap H locs := by
  refine ⟨?_, fun q _ h2 => ?_, hR.2.1.2.2⟩
  · rw [hX.2.2.2.2.2.2.2.1]
    have := hR.ge
    omega
  · have hq : q < G.1.size := Nat.not_le.mp h2
    rw [hR.2.1.2.1 q hq h2, hX.2.2.2.2.2.2.2.2 q hq]
theorem r_gets {G : Gm} {X : Cx} {Q : State → Prop} {cc : ByteArray} {nL d pc : Nat} {L st : List Value} {M : Mm} {S : Sg} {idx j : Nat} (hX : XK G X 2 cc nL d) (hd : decode cc pc = .ok (.getstatic idx, 3)) (hj : j < 3) (hl : Cond.fieldLink "FlexGrid$Reader" idx "FlexGrid$Reader" (stN j) "[I" ∈ lwG) (k : WR G X Q (pc + 3) L (.ref (1000 + j) :: st) M S) : WR G X Q pc L st M S := by
  intro ls H locs hL hR hz
  have h1 := (hX.2.2.2.2.2.1.2.2.1 j hj).1
  have kk := k ls H locs hL hR hz
  simp only [List.map_cons, cv, ad_st] at kk
  exact va_gets hX.1 hX.2.1 (h1.kept (fun a ha _ => hX.2.2.2.2.2.2.2.2 a ha)) (xS_old hX hR hz) hX.2.2.2.1 (hX.2.2.2.2.1 _ hl) (fun _ h => h) hd kk
theorem r_sald {G : Gm} {X : Cx} {Q : State → Prop} {own : Nat} {cc : ByteArray} {nL d pc : Nat} {L st : List Value} {M : Mm} {S : Sg} {j : Nat} {i : Int32} (hX : XK G X own cc nL d) (hd : decode cc pc = .ok (.iaload, 1)) (hj : j < 3) (hi : inb i (stT j).length = true) (k : WR G X Q (pc + 1) L (.int (stV j (tn i)) :: st) M S) : WR G X Q pc L (.int i :: .ref (1000 + j) :: st) M S := by
  intro ls H locs hL hR hz
  obtain ⟨cell, h1, h2, h3, h4, h5, h6, h7⟩ := (hX.2.2.2.2.2.1.2.2.1 j hj).2
  have hv := of_decide_eq_true hi
  have hin : vp_in i (stT j).length := vp_in_iff.mpr hv
  have hlt : i.toNatClampNeg < (stT j).length := Nat.not_le.mp fun q => hin (Or.inr q)
  show W _ _ _ _ _ _ _ _ _ _ _ _ _ _ _ (F0 _ pc ls (.int i :: .ref (ad G (1000 + j)) :: st.map (cv G)))
  rw [ad_st]
  have hq : G.2.2.2 j < G.1.size := Nat.not_le.mp h7
  exact W.iald (v := .int (stV j (tn i))) (cell := cell) hX.1 hX.2.1 (by rw [hR.2.1.2.1 _ hq h7]; exact h1) h2 h3 (fun q => q.elim (fun a => hin (Or.inl a)) (fun a => by omega)) (h6 _ hlt) rfl rfl hd (k ls H locs hL hR hz)
theorem r_stlen {G : Gm} {X : Cx} {Q : State → Prop} {own : Nat} {cc : ByteArray} {nL d pc : Nat} {L st : List Value} {M : Mm} {S : Sg} {j : Nat} {v : Int32} (hX : XK G X own cc nL d) (hd : decode cc pc = .ok (.arraylength, 1)) (hj : j < 3) (hv : Int32.ofNat (stT j).length = v) (k : WR G X Q (pc + 1) L (.int v :: st) M S) : WR G X Q pc L (.ref (1000 + j) :: st) M S := by
  intro ls H locs hL hR hz
  obtain ⟨cell, h1, h2, h3, h4, h5, h6, h7⟩ := (hX.2.2.2.2.2.1.2.2.1 j hj).2
  show W _ _ _ _ _ _ _ _ _ _ _ _ _ _ _ (F0 _ pc ls (.ref (ad G (1000 + j)) :: st.map (cv G)))
  rw [ad_st]
  have hq : G.2.2.2 j < G.1.size := Nat.not_le.mp h7
  exact W.alen (n := v) (cell := cell) hX.1 hX.2.1 (by rw [hR.2.1.2.1 _ hq h7]; exact h1) h2 (by rw [h5]; exact hv) rfl rfl hd (k ls H locs hL hR hz)
def strLen (u : Nat) : Int32 := Int32.ofNat (strL.getD u 0)
def strCh (u k : Nat) : Int32 := (strB.getD u []).getD k 0
theorem r_ldcS {G : Gm} {X : Cx} {Q : State → Prop} {cc : ByteArray} {nL d pc : Nat} {L st : List Value} {M : Mm} {S : Sg} {idx u : Nat} (hX : XK G X 2 cc nL d) (hd : decode cc pc = .ok (.ldc idx, 2)) (hu : u < 16) (hi : strI.getD u 0 = idx) (k : WR G X Q (pc + 2) L (.ref (1010 + u) :: st) M S) : WR G X Q pc L st M S := by
  intro ls H locs hL hR hz
  have h1 := hX.2.2.2.2.2.1.2.2.2.2.1 u hu
  rw [hi] at h1
  have kk := k ls H locs hL hR hz
  have e : ad G (1010 + u) = G.2.2.2 (10 + u) := by rw [show 1010 + u = 1000 + (10 + u) by omega]; exact ad_st _
  simp only [List.map_cons, cv, e] at kk
  exact va_ldcS hX.1 hX.2.1 hX.2.2.2.1 h1 hd kk
/-! the JDK's own methods of a text that is a constant -/
theorem ini13 : Cond.initialized (RN 13) ∈ lwG := lwG_1 11 (by decide +kernel) (by decide +kernel)
theorem ini14 : Cond.initialized (RN 14) ∈ lwG := lwG_1 12 (by decide +kernel) (by decide +kernel)
theorem ini15 : Cond.initialized (RN 15) ∈ lwG := lwG_1 13 (by decide +kernel) (by decide +kernel)
abbrev md_S_length : MD := (yJ0_length_8abf5, cJ0_length_8abf5, 1, some .int, 13, 0)
theorem mk_S_length : mOK md_S_length := ⟨lwG_2 230 (by decide +kernel) (by decide +kernel), ini13, rfl, by decide, ⟨by decide, by decide⟩, (by decide +kernel), by decide⟩
theorem mi_S_length : mI md_S_length := ⟨lwG_2 228 (by decide +kernel) (by decide +kernel), lwG_2 229 (by decide +kernel) (by decide +kernel)⟩
abbrev md_S_coder : MD := (yJ0_coder_7d493, cJ0_coder_7d493, 1, some .byte, 13, 0)
theorem mk_S_coder : mOK md_S_coder := ⟨lwG_2 234 (by decide +kernel) (by decide +kernel), ini13, rfl, by decide, ⟨by decide, by decide⟩, (by decide +kernel), by decide⟩
theorem mi_S_coder : mI md_S_coder := ⟨lwG_2 232 (by decide +kernel) (by decide +kernel), lwG_2 233 (by decide +kernel) (by decide +kernel)⟩
abbrev md_S_charAt : MD := (yJ0_charAt_5068e, cJ0_charAt_5068e, 2, some .char, 13, 1)
theorem mk_S_charAt : mOK md_S_charAt := ⟨lwG_3 0 (by decide +kernel) (by decide +kernel), ini13, rfl, by decide, ⟨by decide, by decide⟩, (by decide +kernel), by decide⟩
theorem mi_S_charAt : mI md_S_charAt := ⟨lwG_2 238 (by decide +kernel) (by decide +kernel), lwG_2 239 (by decide +kernel) (by decide +kernel)⟩
abbrev md_S_isLatin1 : MD := (yJ0_isLatin1_aae02, cJ0_isLatin1_aae02, 1, some .boolean, 13, 0)
theorem mk_S_isLatin1 : mOK md_S_isLatin1 := ⟨lwG_3 4 (by decide +kernel) (by decide +kernel), ini13, rfl, by decide, ⟨by decide, by decide⟩, (by decide +kernel), by decide⟩
theorem mi_S_isLatin1 : mI md_S_isLatin1 := ⟨lwG_3 2 (by decide +kernel) (by decide +kernel), lwG_3 3 (by decide +kernel) (by decide +kernel)⟩
abbrev md_S_checkIndex : MD := (yJ0_checkIndex_df160, cJ0_checkIndex_df160, 2, none, 13, 2)
theorem mk_S_checkIndex : mOK md_S_checkIndex := ⟨lwG_3 10 (by decide +kernel) (by decide +kernel), ini13, rfl, by decide, ⟨by decide, by decide⟩, (by decide +kernel), by decide⟩
theorem ms_S_checkIndex : mS md_S_checkIndex := lwG_3 9 (by decide +kernel) (by decide +kernel)
abbrev md_L_charAt : MD := (yJ1_charAt_3b067, cJ1_charAt_3b067, 2, some .char, 14, 2)
theorem mk_L_charAt : mOK md_L_charAt := ⟨lwG_3 7 (by decide +kernel) (by decide +kernel), ini14, rfl, by decide, ⟨by decide, by decide⟩, (by decide +kernel), by decide⟩
theorem ms_L_charAt : mS md_L_charAt := lwG_3 6 (by decide +kernel) (by decide +kernel)
abbrev md_P_checkIndex : MD := (yJ3_checkIndex_8e157, cJ3_checkIndex_8e157, 3, some .int, 15, 3)
theorem mk_P_checkIndex : mOK md_P_checkIndex := ⟨lwG_3 15 (by decide +kernel) (by decide +kernel), ini15, rfl, by decide, ⟨by decide, by decide⟩, (by decide +kernel), by decide⟩
theorem ms_P_checkIndex : mS md_P_checkIndex := lwG_3 14 (by decide +kernel) (by decide +kernel)
theorem ml_13_335 : ML 13 335 md_S_coder := lwG_2 231 (by decide +kernel) (by decide +kernel)
theorem ml_13_492 : ML 13 492 md_S_isLatin1 := lwG_3 1 (by decide +kernel) (by decide +kernel)
theorem ml_13_495 : ML 13 495 md_L_charAt := lwG_3 5 (by decide +kernel) (by decide +kernel)
theorem ml_14_9 : ML 14 9 md_S_checkIndex := lwG_3 8 (by decide +kernel) (by decide +kernel)
theorem ml_13_1059 : ML 13 1059 md_P_checkIndex := lwG_3 13 (by decide +kernel) (by decide +kernel)
theorem fj_38 : Cond.fieldLink "java/lang/String" 38 "java/lang/String" "COMPACT_STRINGS" "Z" ∈ lwG := lwG_2 235 (by decide +kernel) (by decide +kernel)
theorem fj_1053 : Cond.fieldLink "java/lang/String" 1053 "jdk/internal/util/Preconditions" "SIOOBE_FORMATTER" "Ljava/util/function/BiFunction;" ∈ lwG := lwG_3 11 (by decide +kernel) (by decide +kernel)
theorem fj_9 : Cond.fieldLink "java/lang/String" 9 "java/lang/String" "value" "[B" ∈ lwG := lwG_8 4 (by decide +kernel) (by decide +kernel)
theorem fj_15 : Cond.fieldLink "java/lang/String" 15 "java/lang/String" "coder" "B" ∈ lwG := lwG_8 5 (by decide +kernel) (by decide +kernel)
theorem ad_str {G : Gm} (u : Nat) : ad G (1010 + u) = G.2.2.2 (10 + u) := by rw [show 1010 + u = 1000 + (10 + u) by omega]; exact ad_st _
theorem ad_val {G : Gm} (u : Nat) : ad G (1030 + u) = G.2.2.2 (30 + u) := by rw [show 1030 + u = 1000 + (30 + u) by omega]; exact ad_st _
theorem r_getsC {G : Gm} {X : Cx} {Q : State → Prop} {cc : ByteArray} {nL d pc : Nat} {L st : List Value} {M : Mm} {S : Sg} (hX : XK G X 13 cc nL d) (hd : decode cc pc = .ok (.getstatic 38, 3)) (k : WR G X Q (pc + 3) L (.int 1 :: st) M S) : WR G X Q pc L st M S := by
  intro ls H locs hL hR hz
  have h1 := hX.2.2.2.2.2.1.2.2.2.2.2.1
  exact va_gets hX.1 hX.2.1 (h1.kept (fun a ha _ => hX.2.2.2.2.2.2.2.2 a ha)) (xS_old hX hR hz) hX.2.2.2.1 (hX.2.2.2.2.1 _ fj_38) (fun _ h => h) hd (k ls H locs hL hR hz)
theorem r_getsF {G : Gm} {X : Cx} {Q : State → Prop} {cc : ByteArray} {nL d pc : Nat} {L st : List Value} {M : Mm} {S : Sg} (hX : XK G X 13 cc nL d) (hd : decode cc pc = .ok (.getstatic 1053, 3)) (kr : WR G X Q (pc + 3) L (.ref (1000 + 8) :: st) M S) (kn : WR G X Q (pc + 3) L (.null :: st) M S) : WR G X Q pc L st M S := by
  intro ls H locs hL hR hz
  rcases hX.2.2.2.2.2.1.2.2.2.2.2.2 with h1 | h1
  · have kk := kr ls H locs hL hR hz
    simp only [List.map_cons, cv, ad_st] at kk
    exact va_gets hX.1 hX.2.1 (h1.kept (fun a ha _ => hX.2.2.2.2.2.2.2.2 a ha)) (xS_old hX hR hz) hX.2.2.2.1 (hX.2.2.2.2.1 _ fj_1053) (fun _ h => h) hd kk
  · exact va_gets hX.1 hX.2.1 (h1.kept (fun a ha _ => hX.2.2.2.2.2.2.2.2 a ha)) (xS_old hX hR hz) hX.2.2.2.1 (hX.2.2.2.2.1 _ fj_1053) (fun _ h => h) hd (kn ls H locs hL hR hz)
theorem va_OF_kept {o n d : String} {v : Value} {t : Nat} {A : Nat → Prop} {U : State} {H H1 : Heap} (h : va_OF o n d v t A U H) (hq : ∀ a : Nat, a < H.size → ¬ A a → H1[a]? = H[a]?) : va_OF o n d v t A U H1 := by
  first
    | exact h.kept hq
    | (obtain ⟨cf, k, i, f, cell, h1, h2, h3, h4, h5, h6⟩ := h
       exact ⟨cf, k, i, f, cell, h1, h2, by rw [hq t (Array.getElem?_eq_some_iff.mp h3).1 (by assumption)]; exact h3, h4, h5, h6⟩)
theorem r_sgetV {G : Gm} {X : Cx} {Q : State → Prop} {cc : ByteArray} {nL d pc : Nat} {L st : List Value} {M : Mm} {S : Sg} {u : Nat} (hX : XK G X 13 cc nL d) (hu : u < 16) (hd : decode cc pc = .ok (.getfield 9, 3)) (k : WR G X Q (pc + 3) L (.ref (1030 + u) :: st) M S) : WR G X Q pc L (.ref (1010 + u) :: st) M S := by
  intro ls H locs hL hR hz
  have h1 := (hX.2.2.2.2.2.1.2.2.2.1.1 u hu).2.2.1
  have kk := k ls H locs hL hR hz
  simp only [List.map_cons, cv, ad_val] at kk
  show W _ _ _ _ _ _ _ _ _ _ _ _ _ _ _ (F0 _ pc ls (.ref (ad G (1010 + u)) :: st.map (cv G)))
  rw [ad_str]
  exact vk_getf hX.1 hX.2.1 (va_OF_kept h1 (fun a ha _ => hX.2.2.2.2.2.2.2.2 a ha)) (xS_old hX hR hz) hX.2.2.2.1 (hX.2.2.2.2.1 _ fj_9) (fun _ h => h) hd kk
theorem r_sgetC {G : Gm} {X : Cx} {Q : State → Prop} {cc : ByteArray} {nL d pc : Nat} {L st : List Value} {M : Mm} {S : Sg} {u : Nat} (hX : XK G X 13 cc nL d) (hu : u < 16) (hd : decode cc pc = .ok (.getfield 15, 3)) (k : WR G X Q (pc + 3) L (.int 0 :: st) M S) : WR G X Q pc L (.ref (1010 + u) :: st) M S := by
  intro ls H locs hL hR hz
  have h1 := (hX.2.2.2.2.2.1.2.2.2.1.1 u hu).2.1
  show W _ _ _ _ _ _ _ _ _ _ _ _ _ _ _ (F0 _ pc ls (.ref (ad G (1010 + u)) :: st.map (cv G)))
  rw [ad_str]
  exact vk_getf hX.1 hX.2.1 (va_OF_kept h1 (fun a ha _ => hX.2.2.2.2.2.2.2.2 a ha)) (xS_old hX hR hz) hX.2.2.2.1 (hX.2.2.2.2.1 _ fj_15) (fun _ h => h) hd (k ls H locs hL hR hz)
theorem r_balen {G : Gm} {X : Cx} {Q : State → Prop} {cc : ByteArray} {nL d pc : Nat} {L st : List Value} {M : Mm} {S : Sg} {own u : Nat} (hX : XK G X own cc nL d) (hu : u < 16) (hd : decode cc pc = .ok (.arraylength, 1)) (k : WR G X Q (pc + 1) L (.int (strLen u) :: st) M S) : WR G X Q pc L (.ref (1030 + u) :: st) M S := by
  intro ls H locs hL hR hz
  obtain ⟨cell, h1, h2, h3, h4, h5, h6, h7⟩ := (hX.2.2.2.2.2.1.2.2.2.1.1 u hu).2.2.2
  show W _ _ _ _ _ _ _ _ _ _ _ _ _ _ _ (F0 _ pc ls (.ref (ad G (1030 + u)) :: st.map (cv G)))
  rw [ad_val]
  exact W.alen (n := strLen u) (cell := cell) hX.1 hX.2.1 (by rw [hR.2.1.2.1 _ (Nat.not_le.mp h7) h7]; exact h1) h2 h5 rfl rfl hd (k ls H locs hL hR hz)
theorem r_sbald {G : Gm} {X : Cx} {Q : State → Prop} {cc : ByteArray} {nL d pc : Nat} {L st : List Value} {M : Mm} {S : Sg} {own u : Nat} {i : Int32} (hX : XK G X own cc nL d) (hu : u < 16) (hd : decode cc pc = .ok (.baload, 1)) (hi : inb i (strL.getD u 0) = true) (k : WR G X Q (pc + 1) L (.int (strCh u (tn i)) :: st) M S) : WR G X Q pc L (.int i :: .ref (1030 + u) :: st) M S := by
  intro ls H locs hL hR hz
  obtain ⟨cell, h1, h2, h3, h4, h5, h6, h7⟩ := (hX.2.2.2.2.2.1.2.2.2.1.1 u hu).2.2.2
  have hin : vp_in i (strL.getD u 0) := vp_in_iff.mpr (of_decide_eq_true hi)
  have hlt : i.toNatClampNeg < strL.getD u 0 := Nat.not_le.mp fun q => hin (Or.inr q)
  show W _ _ _ _ _ _ _ _ _ _ _ _ _ _ _ (F0 _ pc ls (.int i :: .ref (ad G (1030 + u)) :: st.map (cv G)))
  rw [ad_val]
  exact W.bald (v := .int (strCh u (tn i))) (cell := cell) hX.1 hX.2.1 (by rw [hR.2.1.2.1 _ (Nat.not_le.mp h7) h7]; exact h1) h2 h3 (fun q => q.elim (fun a => hin (Or.inl a)) (fun a => by omega)) (h6 _ hlt) rfl rfl hd (k ls H locs hL hR hz)
theorem r_pop {G : Gm} {X : Cx} {Q : State → Prop} {cc : ByteArray} {nL d pc : Nat} {L st : List Value} {M : Mm} {S : Sg} {own : Nat} {v : Value} (hX : XK G X own cc nL d) (hd : decode cc pc = .ok (.pop, 1)) (hv : v.category = 1) (k : WR G X Q (pc + 1) L st M S) : WR G X Q pc L (v :: st) M S :=
  fun ls H locs hL hR hz => lv_pop (va := cv G v) (rest := st.map (cv G)) hX.1 hX.2.1 hd (by rw [cv_cat]; exact hv) (k ls H locs hL hR hz)
theorem r_i2c {G : Gm} {X : Cx} {Q : State → Prop} {cc : ByteArray} {nL d pc : Nat} {L st : List Value} {M : Mm} {S : Sg} {own : Nat} {x v : Int32} (hX : XK G X own cc nL d) (hd : decode cc pc = .ok (.i2c, 1)) (hv : (x.toUInt32 % 65536).toInt32 = v) (k : WR G X Q (pc + 1) L (.int v :: st) M S) : WR G X Q pc L (.int x :: st) M S :=
  fun ls H locs hL hR hz => lv_i2c (rest := st.map (cv G)) hX.1 hX.2.1 hd hv (k ls H locs hL hR hz)
theorem r_callStr {G : Gm} {X : Cx} {Q : State → Prop} {own : Nat} {cc : ByteArray} {nL d pc idx u : Nat} {L st st0 As : List Value} {M M1 : Mm} {S S1 : Sg} {md : MD} {r : Option Value} (hX : XK G X own cc nL (d + 1)) (hu : u < 16) (hd : decode cc pc = .ok (.invokevirtual idx, 3)) (hm : mOK md) (hi : mI md) (hl : ML own idx md) (hst : st0 = As.reverse ++ .ref (1010 + u) :: st) (hA : As.length = md.2.2.2.2.2) (hLn : L.length = nL) (hk : md.2.2.2.2.1 = 13) (hw : (st.map fun v => v.category).sum ≤ 8) (hf : XR X S1) (hC : CK G X.2.1 d md (.ref (1010 + u) :: As) M S r M1 S1) (k : WR G X Q (pc + 3) L (r.toList ++ st) M1 S1) : WR G X Q pc L st0 M S := by
  intro ls H locs hL hR hz
  refine W_size (fun hs => ?_)
  rw [hX.2.2.2.2.2.2.2.1] at hs
  have hH : H.size = G.1.size + S.2.1 := Nat.le_antisymm (by have := hz.1; omega) hR.ge
  refine WR_call (av := ((Value.ref (1010 + u) :: As).map (cv G)).toArray) hL hR hz ⟨hC.1, hC.2.1⟩ k ?_
  subst hst
  rw [cvMap_rev]
  obtain ⟨cell, q1, q2, q3, q4⟩ := (hX.2.2.2.2.2.1.2.2.2.1.1 u hu).1
  refine va_runV (Ts := lwG) (C := RN md.2.2.2.2.1) ⟨hX.1, hX.2.1, hX.2.2.1, hX.2.2.2.1, hX.2.2.2.2.1⟩ hC.2.2 ⟨m_callB hX hm hl, hX.2.2.2.2.1 _ hi.1, hX.2.2.2.2.1 _ hi.2⟩ ⟨pc_blind, ⟨cell, ?_, q2, ?_⟩, fun U hU hW => pc_at (av := .ref (1010 + u) :: As) hX.2.2.2.2.2.1 hR hH hU hW⟩ rfl (by rw [List.length_map]; exact hA) (WR_len hL hLn rfl) rfl (lv_room (by rw [cat_sum]; exact hw)) hd (cells_ok hz ⟨hC.1, hC.2.1⟩ hf)
  · rw [ad_str, hR.2.1.2.1 _ (Nat.not_le.mp q4) q4]; exact q1
  · rw [hk]; exact q3
theorem ok_S_coder {G : Gm} {l : Launch} {d u : Nat} {M : Mm} {S : Sg} (hu : u < 16) : CK G l d md_S_coder [.ref (1010 + u)] M S (some (.int 0)) M S := by
  refine ck_of mk_S_coder (Nat.le_of_ble_eq_true rfl) ⟨Nat.le_refl _, Nat.le_refl _⟩ (fun X hX hT hS hr hl => ?_)
  show WR G X (mQ G X (some (.int 0)) M S) 0 [.ref (1010 + u)] [] M S
  refine r_getsC hX dJ0_coder_7d493_0 ?_
  refine r_if_eq (tgt := 13) hX dJ0_coder_7d493_3 (by decide) (fun g => absurd g (by decide)) (fun _ => ?_)
  refine r_aload_n hX dJ0_coder_7d493_6 rfl ?_
  refine r_sgetC hX hu dJ0_coder_7d493_7 ?_
  refine r_goto (tgt := 14) hX dJ0_coder_7d493_10 (by decide) ?_
  exact r_iret hX hT dJ0_coder_7d493_14 rfl
theorem ok_S_isLatin1 {G : Gm} {l : Launch} {d u : Nat} {M : Mm} {S : Sg} (hu : u < 16) : CK G l d md_S_isLatin1 [.ref (1010 + u)] M S (some (.int 1)) M S := by
  refine ck_of mk_S_isLatin1 (Nat.le_of_ble_eq_true rfl) ⟨Nat.le_refl _, Nat.le_refl _⟩ (fun X hX hT hS hr hl => ?_)
  show WR G X (mQ G X (some (.int 1)) M S) 0 [.ref (1010 + u)] [] M S
  refine r_getsC hX dJ0_isLatin1_aae02_0 ?_
  refine r_if_eq (tgt := 17) hX dJ0_isLatin1_aae02_3 (by decide) (fun g => absurd g (by decide)) (fun _ => ?_)
  refine r_aload_n hX dJ0_isLatin1_aae02_6 rfl ?_
  refine r_sgetC hX hu dJ0_isLatin1_aae02_7 ?_
  refine r_if_ne (tgt := 17) hX dJ0_isLatin1_aae02_10 (by decide) (fun g => absurd rfl g) (fun _ => ?_)
  refine r_iconst (v := 1) hX dJ0_isLatin1_aae02_13 (by decide) ?_
  refine r_goto (tgt := 18) hX dJ0_isLatin1_aae02_14 (by decide) ?_
  exact r_iret hX hT dJ0_isLatin1_aae02_18 rfl
theorem ok_S_length {G : Gm} {l : Launch} {d u : Nat} {M : Mm} {S : Sg} (hu : u < 16) : CK G l (d + 1) md_S_length [.ref (1010 + u)] M S (some (.int (strLen u))) M S := by
  refine ck_of mk_S_length (Nat.le_of_ble_eq_true rfl) ⟨Nat.le_refl _, Nat.le_refl _⟩ (fun X hX hT hS hr hl => ?_)
  subst hl
  show WR G X (mQ G X (some (.int (strLen u))) M S) 0 [.ref (1010 + u)] [] M S
  refine r_aload_n hX dJ0_length_8abf5_0 rfl ?_
  refine r_sgetV hX hu dJ0_length_8abf5_1 ?_
  refine r_balen hX hu dJ0_length_8abf5_4 ?_
  refine r_aload_n hX dJ0_length_8abf5_5 rfl ?_
  refine r_callStr (As := []) hX hu dJ0_length_8abf5_6 mk_S_coder mi_S_coder ml_13_335 rfl rfl rfl rfl (Nat.le_of_ble_eq_true rfl) hr (ok_S_coder hu) ?_
  refine r_ishr hX dJ0_length_8abf5_9 ?_
  rw [sb_shr0]
  exact r_iret hX hT dJ0_length_8abf5_10 rfl
theorem ok_P_checkIndex {G : Gm} {l : Launch} {d : Nat} {M : Mm} {S : Sg} {i n : Int32} {v : Value} (hv : v.category = 1) (h0 : ¬ i < 0) (hn : i < n) : CK G l d md_P_checkIndex [.int i, .int n, v] M S (some (.int i)) M S := by
  refine ck_of mk_P_checkIndex (by simp [entL, hv, show (Value.int i).category = 1 from rfl, show (Value.int n).category = 1 from rfl]) ⟨Nat.le_refl _, Nat.le_refl _⟩ (fun X hX hT hS hr hl => ?_)
  have e : padL [.int i, .int n, v] md_P_checkIndex.2.2.1 = [.int i, .int n, v] := by simp [padL, entL, hv, show (Value.int i).category = 1 from rfl, show (Value.int n).category = 1 from rfl]
  rw [e]
  refine r_iload_n hX dJ3_checkIndex_8e157_0 rfl ?_
  refine r_if_lt (tgt := 9) hX dJ3_checkIndex_8e157_1 (by decide) (fun g => absurd g h0) (fun _ => ?_)
  refine r_iload_n hX dJ3_checkIndex_8e157_4 rfl ?_
  refine r_iload_n hX dJ3_checkIndex_8e157_5 rfl ?_
  refine r_icmp_lt (tgt := 16) hX dJ3_checkIndex_8e157_6 (by decide) (fun _ => ?_) (fun g => absurd hn g)
  refine r_iload_n hX dJ3_checkIndex_8e157_16 rfl ?_
  exact r_iret hX hT dJ3_checkIndex_8e157_17 rfl
theorem ok_S_checkIndex {G : Gm} {l : Launch} {d : Nat} {M : Mm} {S : Sg} {i n : Int32} (h0 : ¬ i < 0) (hn : i < n) : CK G l (d + 1) md_S_checkIndex [.int i, .int n] M S none M S := by
  refine ck_of mk_S_checkIndex (Nat.le_of_ble_eq_true rfl) ⟨Nat.le_refl _, Nat.le_refl _⟩ (fun X hX hT hS hr hl => ?_)
  subst hl
  show WR G X (mQ G X none M S) 0 [.int i, .int n] [] M S
  refine r_iload_n hX dJ0_checkIndex_df160_0 rfl ?_
  refine r_iload_n hX dJ0_checkIndex_df160_1 rfl ?_
  refine r_getsF hX dJ0_checkIndex_df160_2 ?_ ?_
  · refine r_callS (As := [.int i, .int n, .ref (1000 + 8)]) hX dJ0_checkIndex_df160_5 mk_P_checkIndex ms_P_checkIndex ml_13_1059 rfl rfl rfl (Nat.le_of_ble_eq_true rfl) hr (ok_P_checkIndex rfl h0 hn) ?_
    refine r_pop hX dJ0_checkIndex_df160_8 rfl ?_
    exact r_vret hX hT dJ0_checkIndex_df160_9
  · refine r_callS (As := [.int i, .int n, .null]) hX dJ0_checkIndex_df160_5 mk_P_checkIndex ms_P_checkIndex ml_13_1059 rfl rfl rfl (Nat.le_of_ble_eq_true rfl) hr (ok_P_checkIndex rfl h0 hn) ?_
    refine r_pop hX dJ0_checkIndex_df160_8 rfl ?_
    exact r_vret hX hT dJ0_checkIndex_df160_9
theorem str_ch : ∀ u, u < 16 → ∀ k, k < strL.getD u 0 → (((strCh u k) &&& 255).toUInt32 % 65536).toInt32 = strCh u k ∧ narrow .char (.int (strCh u k)) = .int (strCh u k) := by decide +kernel
theorem str_ln : ∀ u, u < 16 → (strLen u).toInt = (strL.getD u 0 : Int) := by decide +kernel
theorem inb_cmp {i : Int32} {u : Nat} (hu : u < 16) (hi : inb i (strL.getD u 0) = true) : ¬ i < 0 ∧ i < strLen u ∧ tn i < strL.getD u 0 := by
  have hv := of_decide_eq_true hi
  have hin : vp_in i (strL.getD u 0) := vp_in_iff.mpr hv
  refine ⟨fun q => hin (Or.inl q), ?_, Nat.not_le.mp fun q => hin (Or.inr q)⟩
  rw [Int32.lt_iff_toInt_lt, str_ln u hu]
  exact hv.2
theorem ok_L_charAt {G : Gm} {l : Launch} {d u : Nat} {M : Mm} {S : Sg} {i : Int32} (hu : u < 16) (hi : inb i (strL.getD u 0) = true) : CK G l (d + 2) md_L_charAt [.ref (1030 + u), .int i] M S (some (.int (strCh u (tn i)))) M S := by
  obtain ⟨h0, hn, hk⟩ := inb_cmp hu hi
  refine ck_of mk_L_charAt (Nat.le_of_ble_eq_true rfl) ⟨Nat.le_refl _, Nat.le_refl _⟩ (fun X hX hT hS hr hl => ?_)
  subst hl
  show WR G X (mQ G X (some (.int (strCh u (tn i)))) M S) 0 [.ref (1030 + u), .int i] [] M S
  refine r_iload_n hX dJ1_charAt_3b067_0 rfl ?_
  refine r_aload_n hX dJ1_charAt_3b067_1 rfl ?_
  refine r_balen hX hu dJ1_charAt_3b067_2 ?_
  refine r_callS (As := [.int i, .int (strLen u)]) hX dJ1_charAt_3b067_3 mk_S_checkIndex ms_S_checkIndex ml_14_9 rfl rfl rfl (Nat.le_of_ble_eq_true rfl) hr (ok_S_checkIndex h0 hn) ?_
  refine r_aload_n hX dJ1_charAt_3b067_6 rfl ?_
  refine r_iload_n hX dJ1_charAt_3b067_7 rfl ?_
  refine r_sbald hX hu dJ1_charAt_3b067_8 hi ?_
  refine r_sipush (v := 255) hX dJ1_charAt_3b067_9 (by decide) ?_
  refine r_iand hX dJ1_charAt_3b067_12 ?_
  refine r_i2c hX dJ1_charAt_3b067_13 (str_ch u hu (tn i) hk).1 ?_
  exact r_iret hX hT dJ1_charAt_3b067_14 (str_ch u hu (tn i) hk).2
theorem ok_S_charAt {G : Gm} {l : Launch} {d u : Nat} {M : Mm} {S : Sg} {i : Int32} (hu : u < 16) (hi : inb i (strL.getD u 0) = true) : CK G l (d + 3) md_S_charAt [.ref (1010 + u), .int i] M S (some (.int (strCh u (tn i)))) M S := by
  obtain ⟨h0, hn, hk⟩ := inb_cmp hu hi
  refine ck_of mk_S_charAt (Nat.le_of_ble_eq_true rfl) ⟨Nat.le_refl _, Nat.le_refl _⟩ (fun X hX hT hS hr hl => ?_)
  subst hl
  show WR G X (mQ G X (some (.int (strCh u (tn i)))) M S) 0 [.ref (1010 + u), .int i] [] M S
  refine r_aload_n hX dJ0_charAt_5068e_0 rfl ?_
  refine r_callStr (As := []) hX hu dJ0_charAt_5068e_1 mk_S_isLatin1 mi_S_isLatin1 ml_13_492 rfl rfl rfl rfl (Nat.le_of_ble_eq_true rfl) hr (ok_S_isLatin1 hu) ?_
  refine r_if_eq (tgt := 16) hX dJ0_charAt_5068e_4 (by decide) (fun g => absurd g (by decide)) (fun _ => ?_)
  refine r_aload_n hX dJ0_charAt_5068e_7 rfl ?_
  refine r_sgetV hX hu dJ0_charAt_5068e_8 ?_
  refine r_iload_n hX dJ0_charAt_5068e_11 rfl ?_
  refine r_callS (As := [.ref (1030 + u), .int i]) hX dJ0_charAt_5068e_12 mk_L_charAt ms_L_charAt ml_13_495 rfl rfl rfl (Nat.le_of_ble_eq_true rfl) hr (ok_L_charAt hu hi) ?_
  exact r_iret hX hT dJ0_charAt_5068e_15 (str_ch u hu (tn i) hk).2
theorem r_strlen {G : Gm} {X : Cx} {Q : State → Prop} {own : Nat} {cc : ByteArray} {nL d pc : Nat} {L st : List Value} {M : Mm} {S : Sg} {idx u : Nat} (hX : XK G X own cc nL (d + 4)) (hd : decode cc pc = .ok (.invokevirtual idx, 3)) (hl : Cond.methodLink (RN own) idx yJ0_length_8abf5 ∈ lwG) (hu : u < 16) (hLn : L.length = nL) (hw : (st.map fun v => v.category).sum ≤ 8) (hf : XR X S) (k : WR G X Q (pc + 3) L (.int (strLen u) :: st) M S) : WR G X Q pc L (.ref (1010 + u) :: st) M S :=
  r_callStr (As := []) hX hu hd mk_S_length mi_S_length hl rfl rfl hLn rfl hw hf (ok_S_length (d := d + 2) hu) k
theorem r_strch {G : Gm} {X : Cx} {Q : State → Prop} {own : Nat} {cc : ByteArray} {nL d pc : Nat} {L st : List Value} {M : Mm} {S : Sg} {idx u : Nat} {i : Int32} (hX : XK G X own cc nL (d + 4)) (hd : decode cc pc = .ok (.invokevirtual idx, 3)) (hl : Cond.methodLink (RN own) idx yJ0_charAt_5068e ∈ lwG) (hu : u < 16) (hi : inb i (strL.getD u 0) = true) (hLn : L.length = nL) (hw : (st.map fun v => v.category).sum ≤ 8) (hf : XR X S) (k : WR G X Q (pc + 3) L (.int (strCh u (tn i)) :: st) M S) : WR G X Q pc L (.int i :: .ref (1010 + u) :: st) M S :=
  r_callStr (As := [.int i]) hX hu hd mk_S_charAt mi_S_charAt hl rfl rfl hLn rfl hw hf (ok_S_charAt (d := d) hu hi) k
theorem r_lookEq {G : Gm} {X : Cx} {Q : State → Prop} {own : Nat} {cc : ByteArray} {nL d pc : Nat} {L st : List Value} {M : Mm} {S : Sg} {x c : Int32} {dflt off : Int} {ps : Array (Int × Int)} {len tgt : Nat} (hX : XK G X own cc nL d) (hd : decode cc pc = .ok (.lookupswitch dflt ps, len)) (hp : (ps.toList.zip (ps.toList.drop 1)).all (fun (a, next) => a.1 < next.1) = true) (hc : x = c) (ho : Op.lookupswitch.offset ps.toList dflt c.toInt = off) (ht : (pc : Int) + off = (tgt : Int)) (k : WR G X Q tgt L st M S) : WR G X Q pc L (.int x :: st) M S := by
  subst hc
  exact r_lookup hX hd hp ho ht k
def isAr (b : Nat) : Prop := b = 98 ∨ b = 99 ∨ b = 100 ∨ b = 101
theorem ar98 : isAr 98 := by simp [isAr]
theorem ar99 : isAr 99 := by simp [isAr]
theorem ar100 : isAr 100 := by simp [isAr]
theorem ar101 : isAr 101 := by simp [isAr]
theorem kdA0 {b : Nat} (h : isAr b) : kd b = 10 := by rcases h with rfl | rfl | rfl | rfl <;> rfl
theorem ltA0 {b : Nat} (h : isAr b) : pl b < SS.2.1 := by rcases h with rfl | rfl | rfl | rfl <;> decide
theorem lnA0 {b : Nat} (h : isAr b) : ln b = 5 := by rcases h with rfl | rfl | rfl | rfl <;> rfl
theorem fs_2_69 : Cond.fieldLink "FlexGrid$Reader" 69 "FlexGrid$Reader" (stN 0) "[I" ∈ lwG := lwG_2 197 (by decide +kernel) (by decide +kernel)
theorem fs_2_72 : Cond.fieldLink "FlexGrid$Reader" 72 "FlexGrid$Reader" (stN 1) "[I" ∈ lwG := lwG_2 199 (by decide +kernel) (by decide +kernel)
theorem fs_2_85 : Cond.fieldLink "FlexGrid$Reader" 85 "FlexGrid$Reader" (stN 2) "[I" ∈ lwG := lwG_3 63 (by decide +kernel) (by decide +kernel)
theorem ml_2_123 : Cond.methodLink (RN 2) 123 yJ0_length_8abf5 ∈ lwG := lwG_2 227 (by decide +kernel) (by decide +kernel)
theorem ml_2_129 : Cond.methodLink (RN 2) 129 yJ0_charAt_5068e ∈ lwG := lwG_2 237 (by decide +kernel) (by decide +kernel)
