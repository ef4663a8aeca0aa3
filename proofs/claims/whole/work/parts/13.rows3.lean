/-! static arrays, String constants -/
def stV (j k : Nat) : Int32 := (stT j).getD k 0
theorem ad_st {G : Gm} (j : Nat) : ad G (1000 + j) = G.2.2.2 j := by
  unfold ad
  rw [if_neg (by omega), show 1000 + j - 1000 = j by omega]
theorem xS_old {G : Gm} {X : Cx} {own : Nat} {cc : ByteArray} {nL d : Nat} {M : Mm} {S : Sg} {H : Heap} {locs : List Loc} (hX : XK G X own cc nL d) (hR : Rep G M S H locs) (hz : (xS X).2.1 ≤ S.2.1 ∧ (xS X).2.2 ≤ S.2.2) : va_S (gA G) X.2.2.2.2.1.heap H locs := by
  refine ⟨?_, fun q _ h2 => ?_, hR.2.1.2.2⟩
  · rw [hX.2.2.2.2.2.2.2.1]
    have := hR.ge
    omega
  · have hq : q < G.1.size := Nat.not_le.mp h2
    rw [hR.2.1.2.1 q hq h2, hX.2.2.2.2.2.2.2.2 q hq]
theorem r_gets {G : Gm} {X : Cx} {Q : State → Prop} {cc : ByteArray} {nL d pc : Nat} {L st : List Value} {M : Mm} {S : Sg} {idx j : Nat} (hX : XK G X 2 cc nL d) (hd : decode cc pc = .ok (.getstatic idx, 3)) (hj : j < 3) (hl : Cond.fieldLink "FlexGrid$Reader" idx "FlexGrid$Reader" (stN j) "[I" ∈ lwG) (k : WR G X Q (pc + 3) L (.ref (1000 + j) :: st) M S) : WR G X Q pc L st M S := by
  intro ls H locs hL hR hz
  have h1 := (hX.2.2.2.2.2.1.2.2.1 j hj).1
  have kk := k ls H locs hL hR hz
  simp only [List.map_cons, cv, ad_st] at kk
  exact va_gets hX.1 hX.2.1 (h1.kept (fun a ha _ => hX.2.2.2.2.2.2.2.2 a ha)) (xS_old hX hR hz) hX.2.2.2.1 (hX.2.2.2.2.1 _ hl) (fun _ h => h) hd kk
theorem r_sald {G : Gm} {X : Cx} {Q : State → Prop} {own : Nat} {cc : ByteArray} {nL d pc : Nat} {L st : List Value} {M : Mm} {S : Sg} {j : Nat} {i : Int32} (hX : XK G X own cc nL d) (hd : decode cc pc = .ok (.iaload, 1)) (hj : j < 3) (hi : inb i (stT j).length = true) (k : WR G X Q (pc + 1) L (.int (stV j (tn i)) :: st) M S) : WR G X Q pc L (.int i :: .ref (1000 + j) :: st) M S := by
  intro ls H locs hL hR hz
  obtain ⟨cell, h1, h2, h3, h4, h5, h6, h7⟩ := (hX.2.2.2.2.2.1.2.2.1 j hj).2
  have hv := of_decide_eq_true hi
  have hin : vp_in i (stT j).length := vp_in_iff.mpr hv
  have hlt : i.toNatClampNeg < (stT j).length := Nat.not_le.mp fun q => hin (Or.inr q)
  show W _ _ _ _ _ _ _ _ _ _ _ _ _ _ _ (F0 _ pc ls (.int i :: .ref (ad G (1000 + j)) :: st.map (cv G)))
  rw [ad_st]
  have hq : G.2.2.2 j < G.1.size := Nat.not_le.mp h7
  exact W.iald (v := .int (stV j (tn i))) (cell := cell) hX.1 hX.2.1 (by rw [hR.2.1.2.1 _ hq h7]; exact h1) h2 h3 (fun q => q.elim (fun a => hin (Or.inl a)) (fun a => by omega)) (h6 _ hlt) rfl rfl hd (k ls H locs hL hR hz)
theorem r_stlen {G : Gm} {X : Cx} {Q : State → Prop} {own : Nat} {cc : ByteArray} {nL d pc : Nat} {L st : List Value} {M : Mm} {S : Sg} {j : Nat} {v : Int32} (hX : XK G X own cc nL d) (hd : decode cc pc = .ok (.arraylength, 1)) (hj : j < 3) (hv : Int32.ofNat (stT j).length = v) (k : WR G X Q (pc + 1) L (.int v :: st) M S) : WR G X Q pc L (.ref (1000 + j) :: st) M S := by
  intro ls H locs hL hR hz
  obtain ⟨cell, h1, h2, h3, h4, h5, h6, h7⟩ := (hX.2.2.2.2.2.1.2.2.1 j hj).2
  show W _ _ _ _ _ _ _ _ _ _ _ _ _ _ _ (F0 _ pc ls (.ref (ad G (1000 + j)) :: st.map (cv G)))
  rw [ad_st]
  have hq : G.2.2.2 j < G.1.size := Nat.not_le.mp h7
  exact W.alen (n := v) (cell := cell) hX.1 hX.2.1 (by rw [hR.2.1.2.1 _ hq h7]; exact h1) h2 (by rw [h5]; exact hv) rfl rfl hd (k ls H locs hL hR hz)
def strLen (u : Nat) : Int32 := Int32.ofNat (strL.getD u 0)
def strCh (u k : Nat) : Int32 := (strB.getD u []).getD k 0
theorem r_ldcS {G : Gm} {X : Cx} {Q : State → Prop} {cc : ByteArray} {nL d pc : Nat} {L st : List Value} {M : Mm} {S : Sg} {idx u : Nat} (hX : XK G X 2 cc nL d) (hd : decode cc pc = .ok (.ldc idx, 2)) (hu : u < 16) (hi : strI.getD u 0 = idx) (k : WR G X Q (pc + 2) L (.ref (1010 + u) :: st) M S) : WR G X Q pc L st M S := by
  intro ls H locs hL hR hz
  have h1 := hX.2.2.2.2.2.1.2.2.2.2 u hu
  rw [hi] at h1
  have kk := k ls H locs hL hR hz
  have e : ad G (1010 + u) = G.2.2.2 (10 + u) := by rw [show 1010 + u = 1000 + (10 + u) by omega]; exact ad_st _
  simp only [List.map_cons, cv, e] at kk
  exact va_ldcS hX.1 hX.2.1 hX.2.2.2.1 h1 hd kk
theorem r_strlen {G : Gm} {X : Cx} {Q : State → Prop} {own : Nat} {cc : ByteArray} {nL d pc : Nat} {L st : List Value} {M : Mm} {S : Sg} {idx u : Nat} (hX : XK G X own cc nL (d + 4)) (hd : decode cc pc = .ok (.invokevirtual idx, 3)) (hl : Cond.methodLink (RN own) idx yJ0_length_8abf5 ∈ lwG) (hu : u < 16) (hLn : L.length = nL) (hw : (st.map fun v => v.category).sum ≤ 8) (hf : XR X S) (k : WR G X Q (pc + 3) L (.int (strLen u) :: st) M S) : WR G X Q pc L (.ref (1010 + u) :: st) M S := by
  sorry
theorem r_strch {G : Gm} {X : Cx} {Q : State → Prop} {own : Nat} {cc : ByteArray} {nL d pc : Nat} {L st : List Value} {M : Mm} {S : Sg} {idx u : Nat} {i : Int32} (hX : XK G X own cc nL (d + 4)) (hd : decode cc pc = .ok (.invokevirtual idx, 3)) (hl : Cond.methodLink (RN own) idx yJ0_charAt_5068e ∈ lwG) (hu : u < 16) (hi : inb i (strL.getD u 0) = true) (hLn : L.length = nL) (hw : (st.map fun v => v.category).sum ≤ 8) (hf : XR X S) (k : WR G X Q (pc + 3) L (.int (strCh u (tn i)) :: st) M S) : WR G X Q pc L (.int i :: .ref (1010 + u) :: st) M S := by
  sorry
theorem r_lookEq {G : Gm} {X : Cx} {Q : State → Prop} {own : Nat} {cc : ByteArray} {nL d pc : Nat} {L st : List Value} {M : Mm} {S : Sg} {x c : Int32} {dflt off : Int} {ps : Array (Int × Int)} {len tgt : Nat} (hX : XK G X own cc nL d) (hd : decode cc pc = .ok (.lookupswitch dflt ps, len)) (hp : (ps.toList.zip (ps.toList.drop 1)).all (fun (a, next) => a.1 < next.1) = true) (hc : x = c) (ho : Op.lookupswitch.offset ps.toList dflt c.toInt = off) (ht : (pc : Int) + off = (tgt : Int)) (k : WR G X Q tgt L st M S) : WR G X Q pc L (.int x :: st) M S := by
  subst hc
  exact r_lookup hX hd hp ho ht k
def isAr (b : Nat) : Prop := b = 98 ∨ b = 99 ∨ b = 100 ∨ b = 101
theorem ar98 : isAr 98 := by simp [isAr]
theorem ar99 : isAr 99 := by simp [isAr]
theorem ar100 : isAr 100 := by simp [isAr]
theorem ar101 : isAr 101 := by simp [isAr]
theorem kdA0 {b : Nat} (h : isAr b) : kd b = 10 := by rcases h with rfl | rfl | rfl | rfl <;> rfl
theorem ltA0 {b : Nat} (h : isAr b) : b < SS.2.1 := by rcases h with rfl | rfl | rfl | rfl <;> decide
theorem lnA0 {b : Nat} (h : isAr b) : ln b = 5 := by rcases h with rfl | rfl | rfl | rfl <;> rfl
theorem fs_2_69 : Cond.fieldLink "FlexGrid$Reader" 69 "FlexGrid$Reader" (stN 0) "[I" ∈ lwG := lwG_2 193 (by decide +kernel) (by decide +kernel)
theorem fs_2_72 : Cond.fieldLink "FlexGrid$Reader" 72 "FlexGrid$Reader" (stN 1) "[I" ∈ lwG := lwG_2 195 (by decide +kernel) (by decide +kernel)
theorem fs_2_85 : Cond.fieldLink "FlexGrid$Reader" 85 "FlexGrid$Reader" (stN 2) "[I" ∈ lwG := lwG_3 59 (by decide +kernel) (by decide +kernel)
theorem ml_2_123 : Cond.methodLink (RN 2) 123 yJ0_length_8abf5 ∈ lwG := lwG_2 223 (by decide +kernel) (by decide +kernel)
theorem ml_2_129 : Cond.methodLink (RN 2) 129 yJ0_charAt_5068e ∈ lwG := lwG_2 233 (by decide +kernel) (by decide +kernel)
