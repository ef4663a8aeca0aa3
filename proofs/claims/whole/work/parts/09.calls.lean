/-! calls, returns, a method's contract out of its body -/
theorem good_all {w : Cond} (h : w ∈ lwG) : (w.onTables && w.keeps) = true ∨ ∃ ty, w = .arrayClass ty := good_of_word (List.mem_filter.mp h).2
theorem wsm_in {md : MD} (hm : mOK md) : ∀ w ∈ wsm md, w ∈ lwG := fun w h => (List.mem_cons.mp h).elim (fun e => e ▸ hm.1) id
theorem W_size {p : Program} {l : Launch} {e : Env} {R : Room} {s : State} {m : MethodId} {args : Array Value} {below : List Frame} {meth : Method} {c : Code} {H : Heap} {locs : List Loc} {cells slots : Nat} {Q : State → Prop} {g : JFrame} (h : H.size ≤ s.heap.size + cells → W p l e R s m args below meth c H locs cells slots Q g) : W p l e R s m args below meth c H locs cells slots Q g := by
  intro T hT X
  have hs := X.heapSize
  rw [hT] at hs
  exact h hs T hT X
theorem Rep.ge {G : Gm} {M : Mm} {S : Sg} {H : Heap} {locs : List Loc} (h : Rep G M S H locs) : G.1.size + S.2.1 ≤ H.size := by
  rcases Nat.eq_zero_or_pos S.2.1 with h0 | h0
  · rw [h0]; exact h.2.1.1
  · have hk : S.2.1 - 1 < S.2.1 := by omega
    have h1 := (h.1 _ _ (wrl_i hk)).lt
    simp only at h1
    omega
theorem W_callG {p : Program} {l : Launch} {e : Env} {R : Room} {s : State} {m : MethodId} {args : Array Value} {below : List Frame} {meth : Method} {c : Code} {H : Heap} {locs : List Loc} {cells slots mc ms pc : Nat} {Q : State → Prop} {ls : Array Slot} {st0 rest : List Value} {Qa : State → Outcome → State → Prop} {free : Addr → Prop}
    (hr : va_Run p l e R s m args below meth c H locs cells slots mc ms (F0 m pc ls st0) rest Qa free)
    (kk : ∀ (v : Option Value) (st₀ t : State) (L : List Loc), Qa st₀ (.returned v) t → (∀ q ∈ L, free q.base) → W p l e R s m args below meth c t.heap (locs ++ L) (cells + mc) (slots + ms) Q (F0 m (pc + 3) ls (v.toList ++ rest))) : W p l e R s m args below meth c H locs cells slots Q (F0 m pc ls st0) := by
  intro T hT X
  obtain ⟨v, st₀, t, T', L, h0, X', hL, e1, e2, hq, st⟩ := hr T hT X
  obtain ⟨t2, a1, b1⟩ := kk v st₀ t L hq hL T' e1 X'
  exact ⟨t2, st t2 a1, b1⟩
theorem WR_call {G : Gm} {X : Cx} {Q : State → Prop} {pc : Nat} {L st st0 : List Value} {M M1 : Mm} {S S1 : Sg} {r : Option Value} {ls : Array Slot} {H : Heap} {locs : List Loc} {av : Array Value} (hL : LRep G ls L) (hR : Rep G M S H locs) (hz : (xS X).2.1 ≤ S.2.1 ∧ (xS X).2.2 ≤ S.2.2) (hz1 : S.2.1 ≤ S1.2.1 ∧ S.2.2 ≤ S1.2.2) (k : WR G X Q (pc + 3) L (r.toList ++ st) M1 S1)
    (hr : va_Run X.1 X.2.1 X.2.2.1 X.2.2.2.1 X.2.2.2.2.1 X.2.2.2.2.2.1 X.2.2.2.2.2.2.1 X.2.2.2.2.2.2.2.1 X.2.2.2.2.2.2.2.2.1 X.2.2.2.2.2.2.2.2.2.1 H locs (S.2.1 - (xS X).2.1) (S.2.2 - (xS X).2.2) (S1.2.1 - S.2.1) (S1.2.2 - S.2.2) (F0 X.2.2.2.2.2.1 pc ls (st0.map (cv G))) (st.map (cv G)) (qM G r M1 S1 av) (gA G)) :
    W X.1 X.2.1 X.2.2.1 X.2.2.2.1 X.2.2.2.2.1 X.2.2.2.2.2.1 X.2.2.2.2.2.2.1 X.2.2.2.2.2.2.2.1 X.2.2.2.2.2.2.2.2.1 X.2.2.2.2.2.2.2.2.2.1 H locs (S.2.1 - (xS X).2.1) (S.2.2 - (xS X).2.2) Q (F0 X.2.2.2.2.2.1 pc ls (st0.map (cv G))) := by
  refine W_callG hr (fun v st₀ t Lc hq hLc => ?_)
  obtain ⟨hv, hR1⟩ := hq
  have hv : v = r.map (cv G) := by cases hv; rfl
  subst hv
  have e1 : S.2.1 - (xS X).2.1 + (S1.2.1 - S.2.1) = S1.2.1 - (xS X).2.1 := by omega
  have e2 : S.2.2 - (xS X).2.2 + (S1.2.2 - S.2.2) = S1.2.2 - (xS X).2.2 := by omega
  have e3 : (r.map (cv G)).toList ++ st.map (cv G) = (r.toList ++ st).map (cv G) := by cases r <;> simp
  rw [e1, e2, e3]
  exact k ls t.heap (locs ++ Lc) hL ⟨hR1.1, ⟨hR1.2.1.1, hR1.2.1.2.1, fun q hq => (List.mem_append.mp hq).elim (hR.2.1.2.2 q) (hLc q)⟩, hR1.2.2⟩ ⟨Nat.le_trans hz.1 hz1.1, Nat.le_trans hz.2 hz1.2⟩
theorem cvMap_rev (G : Gm) (As st : List Value) (a : Nat) : (As.reverse ++ .ref a :: st).map (cv G) = (As.map (cv G)).reverse ++ .ref (ad G a) :: st.map (cv G) := by simp [cv]
theorem cvMap_revS (G : Gm) (As st : List Value) : (As.reverse ++ st).map (cv G) = (As.map (cv G)).reverse ++ st.map (cv G) := by simp
theorem pc_blind {G : Gm} {av : List Value} {M : Mm} {S : Sg} : FrameBlind (fun v U => v = (av.map (cv G)).toArray ∧ (Rep G M S U.heap [] ∧ U.heap.size = G.1.size + S.2.1) ∧ KF G U) := fun _ U _ _ q => ⟨q.1, q.2.1, KF.same (s := U) rfl q.2.2⟩
theorem pc_at {G : Gm} {M : Mm} {S : Sg} {s U : State} {H : Heap} {locs : List Loc} {av : List Value} (hK : KF G s) (hR : Rep G M S H locs) (hH : H.size = G.1.size + S.2.1) (hU : U.heap = H) (hW : s.WarmedH U.vm) : (av.map (cv G)).toArray = (av.map (cv G)).toArray ∧ (Rep G M S U.heap [] ∧ U.heap.size = G.1.size + S.2.1) ∧ KF G U :=
  ⟨rfl, ⟨by rw [hU]; exact ⟨hR.1, ⟨hR.2.1.1, hR.2.1.2.1, fun _ h => by cases h⟩, hR.2.2⟩, by rw [hU]; exact hH⟩, KF.warm hW hK⟩
theorem m_par {md : MD} (hm : mOK md) {n : Nat} (h : n = md.2.2.2.2.2) : ∀ sig, parseMethodDescriptor md.1.desc = some sig → n = sig.parameters.length := fun sig hs => by
  have h2 := hm.2.2.2.2.2.1
  rw [hs] at h2
  exact h.trans (Option.some.inj h2).symm
theorem m_callB {G : Gm} {X : Cx} {own : Nat} {cc : ByteArray} {nL d idx : Nat} {md : MD} {S S1 : Sg} (hX : XK G X own cc nL (d + 1)) (hm : mOK md) (hl : ML own idx md) : CallB X.2.2.2.1 X.2.2.2.2.1 X.2.2.2.2.2.2.1 (RN own) idx md.1 md.2.1 md.2.2.1 md.2.2.2.1 (wsm md) (rmd d S S1) (S1.2.1 - S.2.1) (S1.2.2 - S.2.2) md.2.2.2.2.2 := by
  obtain ⟨hx, hb, hml, hown, hts, hK, hro, -⟩ := hX
  refine ⟨rfl, rfl, hro.1, ?_, pay_in hts (fun w hw => ⟨wsm_in hm w hw, good_all (wsm_in hm w hw)⟩), List.mem_cons_self, hts _ hm.1, ?_, hm.2.2.2.2.1, m_par hm rfl, hts _ hl⟩
  · show 8 + (md.2.2.1 + 11) + 64 * (d + 1) ≤ _
    have := hm.2.2.2.2.2.2
    omega
  · rw [hm.2.2.1]; exact hts _ hm.2.1
theorem m_callN {G : Gm} {X : Cx} {own : Nat} {cc : ByteArray} {nL d idx : Nat} {md : MD} {S S1 : Sg} (hX : XK G X own cc nL (d + 1)) (hm : mOK md) (hl : MN own idx md) : va_CN X.2.2.2.1 X.2.2.2.2.1 X.2.2.2.2.2.2.1 (RN own) idx md.1 RX8 md.2.1 md.2.2.1 md.2.2.2.1 (wsm md) (rmd d S S1) (S1.2.1 - S.2.1) (S1.2.2 - S.2.2) md.2.2.2.2.2 := by
  obtain ⟨hx, hb, hml, hown, hts, hK, hro, -⟩ := hX
  refine ⟨⟨rfl, rfl, hro.1, ?_, pay_in hts (fun w hw => ⟨wsm_in hm w hw, good_all (wsm_in hm w hw)⟩), List.mem_cons_self⟩, hts _ hm.1, ?_, hm.2.2.2.2.1, m_par hm rfl, va_Nw.use rfl (hK.2.1 _ hl)⟩
  · show 8 + (md.2.2.1 + 11) + 64 * (d + 1) ≤ _
    have := hm.2.2.2.2.2.2
    omega
  · rw [hm.2.2.1]; exact hts _ hm.2.1
theorem WR_len {G : Gm} {ls : Array Slot} {L : List Value} {nL n : Nat} (hL : LRep G ls L) (h : L.length = nL) (h2 : n = nL) : ls.size = n := hL.1.trans (h.trans h2.symm)
theorem cells_ok {X : Cx} {S S1 : Sg} (hz : (xS X).2.1 ≤ S.2.1 ∧ (xS X).2.2 ≤ S.2.2) (hz1 : S.2.1 ≤ S1.2.1 ∧ S.2.2 ≤ S1.2.2) (h : XR X S1) : (S.2.1 - (xS X).2.1) + (S1.2.1 - S.2.1) ≤ X.2.2.2.1.cells ∧ (S.2.2 - (xS X).2.2) + (S1.2.2 - S.2.2) ≤ X.2.2.2.1.slots := by
  have h1 := h.1
  have h2 := h.2
  omega
theorem xr0 {X : Cx} {S : Sg} (h : xS X = S) : XR X S := by simp [XR, h]
theorem r_callV {G : Gm} {X : Cx} {Q : State → Prop} {own : Nat} {cc : ByteArray} {nL d pc idx a : Nat} {L st st0 As : List Value} {M M1 : Mm} {S S1 : Sg} {md : MD} {r : Option Value} (hX : XK G X own cc nL (d + 1)) (hd : decode cc pc = .ok (.invokevirtual idx, 3)) (hm : mOK md) (hi : mI md) (hl : ML own idx md) (hst : st0 = As.reverse ++ .ref a :: st) (hA : As.length = md.2.2.2.2.2) (hLn : L.length = nL) (hk : kd a = md.2.2.2.2.1) (hc : md.2.2.2.2.1 < 10) (hn : pl a < S.2.1) (hw : (st.map fun v => v.category).sum ≤ 8) (hf : XR X S1) (hC : CK G X.2.1 d md (.ref a :: As) M S r M1 S1) (k : WR G X Q (pc + 3) L (r.toList ++ st) M1 S1) : WR G X Q pc L st0 M S := by
  intro ls H locs hL hR hz
  refine W_size (fun hs => ?_)
  rw [hX.2.2.2.2.2.2.2.1] at hs
  have hH : H.size = G.1.size + S.2.1 := Nat.le_antisymm (by have := hz.1; omega) hR.ge
  refine WR_call (av := ((Value.ref a :: As).map (cv G)).toArray) hL hR hz ⟨hC.1, hC.2.1⟩ k ?_
  have hwg := wrl_get (G := G) (M := M) (S := S) hn
  rw [enE_obj hk hc] at hwg
  have had : ad G a = G.1.size + pl a := ad_lt (hR.lt hn)
  obtain ⟨c1, c2, c3, c4, c5⟩ := cls_ok _ hc
  subst hst
  rw [cvMap_rev, had]
  have e0 : ((Value.ref a :: As).map (cv G)) = .ref (G.1.size + pl a) :: As.map (cv G) := by rw [← had]; rfl
  rw [e0]
  refine va_runV (Ts := lwG) (C := RN md.2.2.2.2.1) ⟨hX.1, hX.2.1, hX.2.2.1, hX.2.2.2.1, hX.2.2.2.2.1⟩ hC.2.2 ⟨m_callB hX hm hl, hX.2.2.2.2.1 _ hi.1, hX.2.2.2.2.1 _ hi.2⟩ ⟨pc_blind, va_recv hX.2.2.2.2.2.1.1 hR.1 c2 hwg, fun U hU hW => ?_⟩ rfl (by rw [List.length_map]; exact hA) (WR_len hL hLn rfl) rfl (lv_room (by rw [cat_sum]; exact hw)) hd (cells_ok hz ⟨hC.1, hC.2.1⟩ hf)
  have h := pc_at (av := .ref a :: As) hX.2.2.2.2.2.1 hR hH hU hW
  exact ⟨by rw [← e0], h.2⟩
theorem r_callS {G : Gm} {X : Cx} {Q : State → Prop} {own : Nat} {cc : ByteArray} {nL d pc idx : Nat} {L st st0 As : List Value} {M M1 : Mm} {S S1 : Sg} {md : MD} {r : Option Value} (hX : XK G X own cc nL (d + 1)) (hd : decode cc pc = .ok (.invokestatic idx, 3)) (hm : mOK md) (hi : mS md) (hl : ML own idx md) (hst : st0 = As.reverse ++ st) (hA : As.length = md.2.2.2.2.2) (hLn : L.length = nL) (hw : (st.map fun v => v.category).sum ≤ 8) (hf : XR X S1) (hC : CK G X.2.1 d md As M S r M1 S1) (k : WR G X Q (pc + 3) L (r.toList ++ st) M1 S1) : WR G X Q pc L st0 M S := by
  intro ls H locs hL hR hz
  refine W_size (fun hs => ?_)
  rw [hX.2.2.2.2.2.2.2.1] at hs
  have hH : H.size = G.1.size + S.2.1 := Nat.le_antisymm (by have := hz.1; omega) hR.ge
  refine WR_call (av := (As.map (cv G)).toArray) hL hR hz ⟨hC.1, hC.2.1⟩ k ?_
  subst hst
  rw [cvMap_revS]
  exact va_runS (Ts := lwG) ⟨hX.1, hX.2.1, hX.2.2.1, hX.2.2.2.1, hX.2.2.2.2.1⟩ hC.2.2 ⟨m_callB hX hm hl, hX.2.2.2.2.1 _ hi⟩ ⟨pc_blind, fun U hU hW => pc_at hX.2.2.2.2.2.1 hR hH hU hW⟩ rfl (by rw [List.length_map]; exact hA) (WR_len hL hLn rfl) rfl (lv_room (by rw [cat_sum]; exact hw)) hd (cells_ok hz ⟨hC.1, hC.2.1⟩ hf)
theorem r_callSN {G : Gm} {X : Cx} {Q : State → Prop} {own : Nat} {cc : ByteArray} {nL d pc idx : Nat} {L st st0 As : List Value} {M M1 : Mm} {S S1 : Sg} {md : MD} {r : Option Value} (hX : XK G X own cc nL (d + 1)) (hd : decode cc pc = .ok (.invokestatic idx, 3)) (hm : mOK md) (hi : mS md) (hl : MN own idx md) (hst : st0 = As.reverse ++ st) (hA : As.length = md.2.2.2.2.2) (hLn : L.length = nL) (hw : (st.map fun v => v.category).sum ≤ 8) (hf : XR X S1) (hC : CK G X.2.1 d md As M S r M1 S1) (k : WR G X Q (pc + 3) L (r.toList ++ st) M1 S1) : WR G X Q pc L st0 M S := by
  intro ls H locs hL hR hz
  refine W_size (fun hs => ?_)
  rw [hX.2.2.2.2.2.2.2.1] at hs
  have hH : H.size = G.1.size + S.2.1 := Nat.le_antisymm (by have := hz.1; omega) hR.ge
  refine WR_call (av := (As.map (cv G)).toArray) hL hR hz ⟨hC.1, hC.2.1⟩ k ?_
  subst hst
  rw [cvMap_revS]
  exact va_runSN (Ts := lwG) ⟨hX.1, hX.2.1, hX.2.2.1, hX.2.2.2.1, hX.2.2.2.2.1⟩ hC.2.2 ⟨m_callN hX hm hl, hX.2.2.2.2.1 _ hi, trivial⟩ ⟨pc_blind, fun U hU hW => pc_at hX.2.2.2.2.2.1 hR hH hU hW⟩ rfl (by rw [List.length_map]; exact hA) (WR_len hL hLn rfl) rfl (lv_room (by rw [cat_sum]; exact hw)) hd (cells_ok hz ⟨hC.1, hC.2.1⟩ hf)
theorem r_callI {G : Gm} {X : Cx} {Q : State → Prop} {own : Nat} {cc : ByteArray} {nL d pc idx a : Nat} {L st st0 As : List Value} {M M1 : Mm} {S S1 : Sg} {md : MD} {r : Option Value} (hX : XK G X own cc nL (d + 1)) (hd : decode cc pc = .ok (.invokespecial idx, 3)) (hm : mOK md) (hi : mC md) (hl : ML own idx md) (hst : st0 = As.reverse ++ .ref a :: st) (hA : As.length = md.2.2.2.2.2) (hLn : L.length = nL) (hn : pl a < S.2.1) (hw : (st.map fun v => v.category).sum ≤ 8) (hf : XR X S1) (hC : CK G X.2.1 d md (.ref a :: As) M S r M1 S1) (k : WR G X Q (pc + 3) L (r.toList ++ st) M1 S1) : WR G X Q pc L st0 M S := by
  intro ls H locs hL hR hz
  refine W_size (fun hs => ?_)
  rw [hX.2.2.2.2.2.2.2.1] at hs
  have hH : H.size = G.1.size + S.2.1 := Nat.le_antisymm (by have := hz.1; omega) hR.ge
  refine WR_call (av := ((Value.ref a :: As).map (cv G)).toArray) hL hR hz ⟨hC.1, hC.2.1⟩ k ?_
  subst hst
  rw [cvMap_rev]
  have hB := m_callB (S := S) (S1 := S1) hX hm hl
  rw [hi.2.2] at hB
  exact va_runI (Ts := lwG) (b := ad G a) (As := As.map (cv G)) ⟨hX.1, hX.2.1, hX.2.2.1, hX.2.2.2.1, hX.2.2.2.2.1⟩ hC.2.2 ⟨hB, hi.2.1, hX.2.2.2.2.1 _ hi.1⟩ ⟨pc_blind, fun U hU hW => pc_at (av := .ref a :: As) hX.2.2.2.2.2.1 hR hH hU hW⟩ rfl (by rw [List.length_map]; exact hA) (WR_len hL hLn rfl) rfl (lv_room (by rw [cat_sum]; exact hw)) hd (cells_ok hz ⟨hC.1, hC.2.1⟩ hf)
theorem r_callIN {G : Gm} {X : Cx} {Q : State → Prop} {own : Nat} {cc : ByteArray} {nL d pc idx a : Nat} {L st st0 As : List Value} {M M1 : Mm} {S S1 : Sg} {md : MD} {r : Option Value} (hX : XK G X own cc nL (d + 1)) (hd : decode cc pc = .ok (.invokespecial idx, 3)) (hm : mOK md) (hi : mC md) (hl : MN own idx md) (hst : st0 = As.reverse ++ .ref a :: st) (hA : As.length = md.2.2.2.2.2) (hLn : L.length = nL) (hn : pl a < S.2.1) (hw : (st.map fun v => v.category).sum ≤ 8) (hf : XR X S1) (hC : CK G X.2.1 d md (.ref a :: As) M S r M1 S1) (k : WR G X Q (pc + 3) L (r.toList ++ st) M1 S1) : WR G X Q pc L st0 M S := by
  intro ls H locs hL hR hz
  refine W_size (fun hs => ?_)
  rw [hX.2.2.2.2.2.2.2.1] at hs
  have hH : H.size = G.1.size + S.2.1 := Nat.le_antisymm (by have := hz.1; omega) hR.ge
  refine WR_call (av := ((Value.ref a :: As).map (cv G)).toArray) hL hR hz ⟨hC.1, hC.2.1⟩ k ?_
  subst hst
  rw [cvMap_rev]
  have hB := m_callN (S := S) (S1 := S1) hX hm hl
  rw [hi.2.2] at hB
  exact va_runIN (Ts := lwG) (b := ad G a) (As := As.map (cv G)) ⟨hX.1, hX.2.1, hX.2.2.1, hX.2.2.2.1, hX.2.2.2.2.1⟩ hC.2.2 ⟨hB, hi.2.1, hX.2.2.2.2.1 _ hi.1⟩ ⟨pc_blind, fun U hU hW => pc_at (av := .ref a :: As) hX.2.2.2.2.2.1 hR hH hU hW⟩ rfl (by rw [List.length_map]; exact hA) (WR_len hL hLn rfl) rfl (lv_room (by rw [cat_sum]; exact hw)) hd (cells_ok hz ⟨hC.1, hC.2.1⟩ hf)
theorem r_iret {G : Gm} {X : Cx} {own : Nat} {cc : ByteArray} {nL d pc : Nat} {L : List Value} {M : Mm} {S : Sg} {ty : FieldType} {nm : String} {v : Int32} (hX : XK G X own cc nL d) (hT : XT X (some ty) nm) (hd : decode cc pc = .ok (.ireturn, 1)) (hn : narrow ty (.int v) = .int v) : WR G X (mQ G X (some (.int v)) M S) pc L [.int v] M S := by
  intro ls H locs hL hR hz
  exact W.zret hX.1 hX.2.1 hT.1 hn (fun t ht _ => ⟨rfl, by rw [ht]; exact ⟨hR.1, ⟨hR.2.1.1, hR.2.1.2.1, fun _ h => by cases h⟩, hR.2.2⟩⟩) hR.2.1.2.2 hd hT.2.1
theorem r_lret {G : Gm} {X : Cx} {own : Nat} {cc : ByteArray} {nL d pc : Nat} {L : List Value} {M : Mm} {S : Sg} {nm : String} {v : Int64} (hX : XK G X own cc nL d) (hT : XT X (some .long) nm) (hd : decode cc pc = .ok (.lreturn, 1)) : WR G X (mQ G X (some (.long v)) M S) pc L [.long v] M S := by
  intro ls H locs hL hR hz
  exact W.lret hX.1 hX.2.1 hT.1 (fun t ht _ => ⟨rfl, by rw [ht]; exact ⟨hR.1, ⟨hR.2.1.1, hR.2.1.2.1, fun _ h => by cases h⟩, hR.2.2⟩⟩) hR.2.1.2.2 hd hT.2.1
theorem r_aret {G : Gm} {X : Cx} {own : Nat} {cc : ByteArray} {nL d pc : Nat} {L : List Value} {M : Mm} {S : Sg} {nm cn : String} {a : Nat} (hX : XK G X own cc nL d) (hT : XT X (some (.object cn)) nm) (hd : decode cc pc = .ok (.areturn, 1)) : WR G X (mQ G X (some (.ref a)) M S) pc L [.ref a] M S := by
  intro ls H locs hL hR hz
  exact W.aret hX.1 hX.2.1 hT.1 (Or.inl ⟨cn, rfl⟩) (Or.inr ⟨ad G a, rfl⟩) (fun t ht _ => ⟨rfl, by rw [ht]; exact ⟨hR.1, ⟨hR.2.1.1, hR.2.1.2.1, fun _ h => by cases h⟩, hR.2.2⟩⟩) hR.2.1.2.2 hd hT.2.1
theorem r_vret {G : Gm} {X : Cx} {own : Nat} {cc : ByteArray} {nL d pc : Nat} {L : List Value} {M : Mm} {S : Sg} {nm : String} (hX : XK G X own cc nL d) (hT : XT X none nm) (hd : decode cc pc = .ok (.return_, 1)) : WR G X (mQ G X none M S) pc L [] M S := by
  intro ls H locs hL hR hz
  exact W.vret hX.1 hX.2.1 hT.1 (fun t ht _ => ⟨rfl, by rw [ht]; exact ⟨hR.1, ⟨hR.2.1.1, hR.2.1.2.1, fun _ h => by cases h⟩, hR.2.2⟩⟩) hR.2.1.2.2 hd hT.2.1
theorem entL_args (G : Gm) : ∀ (av : List Value) (b i : Nat) (v : Value), (entL av)[i]? = some v → v ≠ vU → (b + i, cv G v) ∈ lv_args b (av.map (cv G))
  | [], b, i, v, h, _ => by simp [entL] at h
  | w :: t, b, i, v, h, hu => by
    simp only [List.map_cons, lv_args, cv_cat]
    by_cases hc : w.category = 2
    · simp only [entL, if_pos hc] at h
      match i with
      | 0 => simp at h; subst h; exact List.mem_cons_self
      | 1 => simp at h; exact absurd h.symm hu
      | i + 2 =>
        simp at h
        rw [if_pos hc]
        have := entL_args G t (b + 2) i v (by simpa using h) hu
        rw [show b + (i + 2) = b + 2 + i by omega]
        exact List.mem_cons_of_mem _ this
    · simp only [entL, if_neg hc] at h
      match i with
      | 0 => simp at h; subst h; exact List.mem_cons_self
      | i + 1 =>
        simp at h
        rw [if_neg hc]
        have := entL_args G t (b + 1) i v (by simpa using h) hu
        rw [show b + (i + 1) = b + 1 + i by omega]
        exact List.mem_cons_of_mem _ this
theorem entL_len (G : Gm) : ∀ (av : List Value), (lg_sl (av.map (cv G))).length = (entL av).length
  | [] => rfl
  | w :: t => by
    have ih := entL_len G t
    by_cases hc : w.category = 2
    · simp only [List.map_cons, lg_sl, List.flatMap_cons, cv_cat, if_pos hc, entL, List.length_append, List.length_cons] at ih ⊢
      rw [ih]; simp; omega
    · simp only [List.map_cons, lg_sl, List.flatMap_cons, cv_cat, if_neg hc, entL, List.length_append, List.length_cons] at ih ⊢
      rw [ih]; simp; omega
theorem ck_of {G : Gm} {l : Launch} {d : Nat} {md : MD} {av : List Value} {M M' : Mm} {S S' : Sg} {r : Option Value} (hm : mOK md) (hl : (entL av).length ≤ md.2.2.1) (hz : S.2.1 ≤ S'.2.1 ∧ S.2.2 ≤ S'.2.2)
    (body : ∀ X : Cx, XK G X md.2.2.2.2.1 md.2.1 md.2.2.1 d → XT X md.2.2.2.1 md.1.name → xS X = S → XR X S' → X.2.1 = l → WR G X (mQ G X r M' S') 0 (padL av md.2.2.1) [] M S) : CK G l d md av M S r M' S' := by
  refine ⟨hz.1, hz.2, ?_⟩
  refine Met.ofW (cc := md.2.1) (maxL := md.2.2.1) (ret := md.2.2.2.1) hm.2.2.2.1 rfl ?_
  intro p e s m args below meth c s₁ B hml hv
  obtain ⟨rfl, ⟨hR, hsz⟩, hK⟩ := hv
  have hts := atoms_spec (ws := wsm md) B.pre
  have hown : s.vm.findClass md.1.cls = some m.cls := findClass_of_methodNamed B.named
  have hnm : meth.name = md.1.name := (name_of_methodNamed B.named B.method).1
  have hb := body (p, l, e, rmd d S S', s, m, ((av.map (cv G)).toArray), below, meth, c, S)
    ⟨B.exec, B.bytes, hml, by rw [← hm.2.2.1]; exact hown, fun w hw => hts w (List.mem_cons_of_mem _ hw), hK, ⟨Nat.le_refl _, Nat.le_refl _⟩, hsz, fun q hq => hR.2.1.2.1 q hq (Nat.not_le.mpr hq)⟩
    ⟨B.returns, B.notSynchronized, hnm⟩ rfl ⟨Nat.le_refl _, Nat.le_refl _⟩ rfl
  rw [lg_entry_eq]
  have hent := lv_entry (av.map (cv G)) (n := md.2.2.1) (by rw [entL_len]; exact hl)
  have hLR : LRep G ((lg_sl (av.map (cv G)) ++ List.replicate (md.2.2.1 - (lg_sl (av.map (cv G))).length) Slot.unset).toArray) (padL av md.2.2.1) := by
    refine ⟨?_, hent.2.1, fun i v hi hu => ?_⟩
    · rw [hent.1]; simp [padL]; omega
    · by_cases hlt : i < (entL av).length
      · rw [padL, List.getElem?_append_left hlt] at hi
        have := entL_args G av 0 i v hi hu
        rw [Nat.zero_add] at this
        exact hent.2.2 _ this
      · rw [padL, List.getElem?_append_right (by omega), List.getElem?_replicate] at hi
        split at hi
        · exact absurd (Option.some.inj hi).symm hu
        · cases hi
  have hw := hb _ s.heap [] hLR hR ⟨Nat.le_refl _, Nat.le_refl _⟩
  have e1 : S.2.1 - S.2.1 = 0 := Nat.sub_self _
  have e2 : S.2.2 - S.2.2 = 0 := Nat.sub_self _
  simp only [xS, e1, e2, mQ] at hw
  exact hw
