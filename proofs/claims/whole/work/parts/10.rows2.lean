/-! Math, arraycopy, what is made -/
theorem w_max_s : Cond.static Lib.Math.max.name ∈ lwG := lwG_at 833 (by decide +kernel) (by decide +kernel)
theorem w_max_c : Cond.code Lib.Math.max.name Lib.Math.max.code 2 (some .int) ∈ lwG := lwG_at 834 (by decide +kernel) (by decide +kernel)
theorem w_min_s : Cond.static Lib.Math.min.name ∈ lwG := lwG_at 1114 (by decide +kernel) (by decide +kernel)
theorem w_min_c : Cond.code Lib.Math.min.name Lib.Math.min.code 2 (some .int) ∈ lwG := lwG_at 1115 (by decide +kernel) (by decide +kernel)
theorem w_math : Cond.initialized "java/lang/Math" ∈ lwG := lwG_at 120 (by decide +kernel) (by decide +kernel)
theorem w_sys : Cond.initialized "java/lang/System" ∈ lwG := lwG_at 118 (by decide +kernel) (by decide +kernel)
theorem w_cpy_n : Cond.native arraycopyName ∈ lwG := lwG_at 658 (by decide +kernel) (by decide +kernel)
theorem w_cpy_s : Cond.static arraycopyName ∈ lwG := lwG_at 657 (by decide +kernel) (by decide +kernel)
theorem w_obj_i : Cond.instanceMethod Lib.objectInit ∈ lwG := lwG_at 128 (by decide +kernel) (by decide +kernel)
theorem w_obj_c : Cond.code Lib.objectInit ⟨#[0xb1]⟩ 1 none ∈ lwG := lwG_at 129 (by decide +kernel) (by decide +kernel)
def MLn (own idx : Nat) (y : MethodName) : Prop := Cond.methodLink (RN own) idx y ∈ lwG
theorem r_max {G : Gm} {X : Cx} {Q : State → Prop} {own : Nat} {cc : ByteArray} {nL d pc : Nat} {L st : List Value} {M : Mm} {S : Sg} {idx : Nat} {x y : Int32} (hX : XK G X own cc nL d) (hd : decode cc pc = .ok (.invokestatic idx, 3)) (hl : MLn own idx Lib.Math.max.name) (hLn : L.length = nL) (hw : (st.map fun v => v.category).sum ≤ 8) (hf : XR X S) (k : WR G X Q (pc + 3) L (.int (if x < y then y else x) :: st) M S) : WR G X Q pc L (.int y :: .int x :: st) M S := by
  intro ls H locs hL hR hz
  have h1 := hX.2.2.2.2.2.2.1.1
  have h2 := hX.2.2.2.2.2.2.1.2
  exact va_mmax (rest := st.map (cv G)) hX.1 hX.2.1 (hX.2.2.1.trans (hLn.symm.trans hL.1.symm)) hX.2.2.2.1 (hX.2.2.2.2.1 _ hl) (hX.2.2.2.2.1 _ w_max_s) (hX.2.2.2.2.1 _ w_math) (hX.2.2.2.2.1 _ w_max_c) (by omega) (by rw [cat_sum]; omega) hf.1 hf.2 hd (k ls H locs hL hR hz)
theorem r_min {G : Gm} {X : Cx} {Q : State → Prop} {own : Nat} {cc : ByteArray} {nL d pc : Nat} {L st : List Value} {M : Mm} {S : Sg} {idx : Nat} {x y : Int32} (hX : XK G X own cc nL d) (hd : decode cc pc = .ok (.invokestatic idx, 3)) (hl : MLn own idx Lib.Math.min.name) (hLn : L.length = nL) (hw : (st.map fun v => v.category).sum ≤ 8) (hf : XR X S) (k : WR G X Q (pc + 3) L (.int (if y < x then y else x) :: st) M S) : WR G X Q pc L (.int y :: .int x :: st) M S := by
  intro ls H locs hL hR hz
  have h1 := hX.2.2.2.2.2.2.1.1
  have h2 := hX.2.2.2.2.2.2.1.2
  exact va_mmin (rest := st.map (cv G)) hX.1 hX.2.1 (hX.2.2.1.trans (hLn.symm.trans hL.1.symm)) hX.2.2.2.1 (hX.2.2.2.2.1 _ hl) (hX.2.2.2.2.1 _ w_min_s) (hX.2.2.2.2.1 _ w_math) (hX.2.2.2.2.1 _ w_min_c) (by omega) (by rw [cat_sum]; omega) hf.1 hf.2 hd (k ls H locs hL hR hz)
def cpy2 {α : Type} (f : Nat → Nat → α) (a0 a sp dp n : Nat) : Nat → Nat → α := fun b i => if b = a then va_cpy (f a0) (f a) sp dp n i else f b i
theorem cpy2_ne {α : Type} {f : Nat → Nat → α} {a0 a sp dp n b i : Nat} (h : b ≠ a) : cpy2 f a0 a sp dp n b i = f b i := if_neg h
theorem cpy2_row {α : Type} {f : Nat → Nat → α} {a0 a sp dp n : Nat} : va_cpy (f a0) (f a) sp dp n = cpy2 f a0 a sp dp n a := funext fun i => (if_pos rfl).symm
theorem r_copyi {G : Gm} {X : Cx} {Q : State → Prop} {own : Nat} {cc : ByteArray} {nL d pc : Nat} {L st : List Value} {M : Mm} {S : Sg} {idx a0 a : Nat} {sp dp n : Int32} (hX : XK G X own cc nL d) (hd : decode cc pc = .ok (.invokestatic idx, 3)) (hl : MLn own idx arraycopyName) (hLn : L.length = nL) (hw : (st.map fun v => v.category).sum ≤ 8) (hk0 : kd a0 = 10) (hn0 : pl a0 < S.2.1) (hk : kd a = 10) (hn : pl a < S.2.1) (h3 : ¬ sp < 0 ∧ ¬ dp < 0 ∧ ¬ n < 0) (h4 : sp.toNatClampNeg + n.toNatClampNeg ≤ ln a0) (h5 : dp.toNatClampNeg + n.toNatClampNeg ≤ ln a) (k : WR G X Q (pc + 3) L st (cpy2 M.1 a0 a sp.toNatClampNeg dp.toNatClampNeg n.toNatClampNeg, M.2) S) : WR G X Q pc L (.int n :: .int dp :: .ref a :: .int sp :: .ref a0 :: st) M S := by
  intro ls H locs hL hR hz
  have g1 := hX.2.2.2.2.2.2.1.1
  have g2 := hX.2.2.2.2.2.2.1.2
  have hw0 := wrl_get (G := G) (M := M) (S := S) hn0
  rw [enE_I hk0 (by decide) (by decide)] at hw0
  have hw1 := wrl_get (G := G) (M := M) (S := S) hn
  rw [enE_I hk (by decide) (by decide)] at hw1
  have had0 : ad G a0 = G.1.size + pl a0 := ad_lt (hR.lt hn0)
  have had : ad G a = G.1.size + pl a := ad_lt (hR.lt hn)
  show W _ _ _ _ _ _ _ _ _ _ _ _ _ _ _ (F0 _ pc ls (.int n :: .int dp :: .ref (ad G a) :: .int sp :: .ref (ad G a0) :: st.map (cv G)))
  rw [had, had0]
  have nf : nativeFrameWords "java/lang/System" "arraycopy" 5 + 11 ≤ 56 := by decide +kernel
  refine va_copyi (rest := st.map (cv G)) hX.1 hX.2.1 (hX.2.2.1.trans (hLn.symm.trans hL.1.symm)) hX.2.2.2.1 (hX.2.2.2.2.1 _ hl) (hX.2.2.2.2.1 _ w_cpy_n) (hX.2.2.2.2.1 _ w_cpy_s) (hX.2.2.2.2.1 _ w_sys) hX.2.2.2.2.2.1.1 hR.1 wrl_D hR.2.1 (pl a0) (pl a) 0 0 hw0 hw1 rfl rfl rfl h3.1 h3.2.1 h3.2.2 h4 h5 (fun _ _ => rfl) (by omega) (by rw [cat_sum]; omega) hd (fun H1 locs1 hP hD hS => ?_)
  rw [wrl_set (G := G) (M := M) (S := S) (k := a) (M' := (cpy2 M.1 a0 a sp.toNatClampNeg dp.toNatClampNeg n.toNatClampNeg, M.2)) (S' := S) rfl (e := _) (by
      rw [enE_I hk (by decide) (by decide)]
      exact congrArg (fun g => Sum.inl (G.2.2.1 10, ln a, Sum.inl g)) cpy2_row) (fun i _ hi => enE_congr (fun _ => cpy2_ne hi) (fun _ => rfl) (fun _ => rfl))] at hP
  exact k ls H1 locs1 hL ⟨hP, hS, hR.2.2⟩ hz
theorem r_copyl {G : Gm} {X : Cx} {Q : State → Prop} {own : Nat} {cc : ByteArray} {nL d pc : Nat} {L st : List Value} {M : Mm} {S : Sg} {idx a0 a : Nat} {sp dp n : Int32} (hX : XK G X own cc nL d) (hd : decode cc pc = .ok (.invokestatic idx, 3)) (hl : MLn own idx arraycopyName) (hLn : L.length = nL) (hw : (st.map fun v => v.category).sum ≤ 8) (hk0 : kd a0 = 11) (hn0 : pl a0 < S.2.1) (hk : kd a = 11) (hn : pl a < S.2.1) (h3 : ¬ sp < 0 ∧ ¬ dp < 0 ∧ ¬ n < 0) (h4 : sp.toNatClampNeg + n.toNatClampNeg ≤ ln a0) (h5 : dp.toNatClampNeg + n.toNatClampNeg ≤ ln a) (k : WR G X Q (pc + 3) L st (M.1, cpy2 M.2 a0 a sp.toNatClampNeg dp.toNatClampNeg n.toNatClampNeg) S) : WR G X Q pc L (.int n :: .int dp :: .ref a :: .int sp :: .ref a0 :: st) M S := by
  intro ls H locs hL hR hz
  have g1 := hX.2.2.2.2.2.2.1.1
  have g2 := hX.2.2.2.2.2.2.1.2
  have hw0 := wrl_get (G := G) (M := M) (S := S) hn0
  rw [enE_J hk0] at hw0
  have hw1 := wrl_get (G := G) (M := M) (S := S) hn
  rw [enE_J hk] at hw1
  have had0 : ad G a0 = G.1.size + pl a0 := ad_lt (hR.lt hn0)
  have had : ad G a = G.1.size + pl a := ad_lt (hR.lt hn)
  show W _ _ _ _ _ _ _ _ _ _ _ _ _ _ _ (F0 _ pc ls (.int n :: .int dp :: .ref (ad G a) :: .int sp :: .ref (ad G a0) :: st.map (cv G)))
  rw [had, had0]
  have nf : nativeFrameWords "java/lang/System" "arraycopy" 5 + 11 ≤ 56 := by decide +kernel
  refine va_copyl (rest := st.map (cv G)) hX.1 hX.2.1 (hX.2.2.1.trans (hLn.symm.trans hL.1.symm)) hX.2.2.2.1 (hX.2.2.2.2.1 _ hl) (hX.2.2.2.2.1 _ w_cpy_n) (hX.2.2.2.2.1 _ w_cpy_s) (hX.2.2.2.2.1 _ w_sys) hX.2.2.2.2.2.1.1 hR.1 wrl_D hR.2.1 (pl a0) (pl a) 1 1 hw0 hw1 rfl rfl rfl h3.1 h3.2.1 h3.2.2 h4 h5 (fun _ _ => rfl) (by omega) (by rw [cat_sum]; omega) hd (fun H1 locs1 hP hD hS => ?_)
  rw [wrl_set (G := G) (M := M) (S := S) (k := a) (M' := (M.1, cpy2 M.2 a0 a sp.toNatClampNeg dp.toNatClampNeg n.toNatClampNeg)) (S' := S) rfl (e := _) (by
      rw [enE_J hk]
      exact congrArg (fun g => Sum.inl (G.2.2.1 11, ln a, Sum.inr (Sum.inl g))) cpy2_row) (fun i _ hi => enE_congr (fun _ => rfl) (fun _ => cpy2_ne hi) (fun _ => rfl))] at hP
  exact k ls H1 locs1 hL ⟨hP, hS, hR.2.2⟩ hz
/-- nothing is in the memory yet at a cell's number -/
def fresh (M : Mm) (S : Sg) (a : Nat) : Prop := (∀ j, M.1 a j = 0) ∧ (∀ j, M.2 a j = 0) ∧ ∀ j, S.1 a j = none
theorem r_objInit {G : Gm} {X : Cx} {Q : State → Prop} {own : Nat} {cc : ByteArray} {nL d pc : Nat} {L st : List Value} {M : Mm} {S : Sg} {idx a : Nat} (hX : XK G X own cc nL d) (hd : decode cc pc = .ok (.invokespecial idx, 3)) (hl : MLn own idx Lib.objectInit) (hLn : L.length = nL) (hw : (st.map fun v => v.category).sum ≤ 8) (k : WR G X Q (pc + 3) L st M S) : WR G X Q pc L (.ref a :: st) M S := by
  intro ls H locs hL hR hz
  have g1 := hX.2.2.2.2.2.2.1.1
  have g2 := hX.2.2.2.2.2.2.1.2
  refine W.objInit (a := ad G a) (rest := st.map (cv G)) hX.1 hX.2.1 hX.2.2.2.1 (hX.2.2.2.2.1 _ hl) (hX.2.2.2.2.1 _ w_obj_i) (hX.2.2.2.2.1 _ w_obj_c) rfl (WR_len hL hLn hX.2.2.1) rfl hd (by omega) ?_ (k ls H locs hL hR hz)
  show 2 * 0 + _ + 12 ≤ _
  rw [cat_sum]
  omega
theorem r_new {G : Gm} {X : Cx} {Q : State → Prop} {own : Nat} {cc : ByteArray} {nL d pc : Nat} {L st : List Value} {M : Mm} {S : Sg} {idx ci : Nat} (hX : XK G X own cc nL d) (hd : decode cc pc = .ok (.new idx, 3)) (hl : Cond.classLink (RN own) idx (RN ci) ∈ lwG) (hi : Cond.instantiable (RN ci) (NF ci) ∈ lwG) (hi2 : Cond.initialized (RN ci) ∈ lwG) (hk : kd (vi S.2.1) = ci) (hc : ci < 10) (hf : fresh M S (vi S.2.1)) (hn : S.2.1 + 1 < 1000) (hr : XR X (S.1, S.2.1 + 1, S.2.2 + NF ci)) (k : WR G X Q (pc + 3) L (.ref (vi S.2.1) :: st) M (S.1, S.2.1 + 1, S.2.2 + NF ci)) : WR G X Q pc L st M S := by
  intro ls H locs hL hR hz
  refine W_size (fun hs => ?_)
  rw [hX.2.2.2.2.2.2.2.1] at hs
  have hH : H.size = G.1.size + S.2.1 := Nat.le_antisymm (by have := hz.1; omega) hR.ge
  obtain ⟨c1, c2, c3, c4, c5⟩ := cls_ok ci hc
  have hKn := hX.2.2.2.2.2.1.1.1 ci _ c2
  have hr1 := hr.1
  have hr2 := hr.2
  simp only at hr1 hr2
  refine W.newcK hX.1 hX.2.1 hX.2.2.2.1 (hX.2.2.2.2.1 _ hl) (hX.2.2.2.2.1 _ hi) (hX.2.2.2.2.1 _ hi2) rfl hd (by omega) (by omega) hKn.2.1 hH fun H1 kC hkC e1 z1 o1 => ?_
  have e2 : S.2.1 - (xS X).2.1 + 1 = S.2.1 + 1 - (xS X).2.1 := by omega
  have e3 : S.2.2 - (xS X).2.2 + NF ci = S.2.2 + NF ci - (xS X).2.2 := by omega
  have e4 : ad G (vi S.2.1) = G.1.size + S.2.1 := (ad_lt (pl_lt (by rw [pl_vi]; exact hR.2.2))).trans (by rw [pl_vi])
  have kk := k ls H1 locs hL ⟨?_, ⟨Nat.le_trans hR.2.1.1 (by omega), fun x h1 h2 => (o1 x (by omega)).trans (hR.2.1.2.1 x h1 h2), hR.2.1.2.2⟩, hn⟩ ⟨Nat.le_trans hz.1 (Nat.le_add_right _ _), Nat.le_trans hz.2 (Nat.le_add_right _ _)⟩
  · simp only [List.map_cons, cv, e4] at kk
    rw [e2, e3]
    exact kk
  · rw [← wrl_push (G := G) (M := M) (S := S) (M' := M) (S' := (S.1, S.2.1 + 1, S.2.2 + NF ci)) (e := .inr (ci, (List.range (NF ci)).map (fun j => cv G (fv M (S.1, S.2.1 + 1, S.2.2 + NF ci) ci (vi S.2.1) j)))) rfl (by rw [enE_obj hk hc]) (fun i _ => enE_congr (fun _ => rfl) (fun _ => rfl) (fun _ => rfl))]
    refine va_P.app (va_P.kept hR.1 (fun k x hx => ?_)) (fun k x hx => ?_)
    · obtain ⟨hk', rfl⟩ := wrl_at hx
      exact o1 _ (by simp only; omega)
    · have hz0 : k < 1 := (List.getElem?_eq_some_iff.mp hx).1
      rw [show k = 0 by omega] at hx
      cases hx
      refine ⟨_, c2, (u_born (TyN ci) hX.2.2.2.2.1 c1 hKn hkC e1 c3).to (fun j hj => ?_)⟩
      have : fv M (S.1, S.2.1 + 1, S.2.2 + NF ci) ci (vi S.2.1) j = defaultValue (TyN ci j) ∨ ∃ z, TyN ci j = z ∧ (z = .float ∨ z = .double) := by
        unfold fv
        cases ht : TyN ci j <;> simp [hf.1, hf.2.1, hf.2.2, defaultValue]
      rcases this with h | ⟨z, h, h'⟩
      · have h5 : cv G (defaultValue (TyN ci j)) = defaultValue (TyN ci j) := by cases TyN ci j <;> rfl
        simp [vp_V, hj, h, h5]
      · exfalso
        have hno : ∀ ci, ci < 10 → ∀ j, j < NF ci → TyN ci j ≠ .float ∧ TyN ci j ≠ .double := by decide +kernel
        rcases h' with h' | h'
        · exact (hno ci hc j hj).1 (h.trans h')
        · exact (hno ci hc j hj).2 (h.trans h')
theorem r_newI {G : Gm} {X : Cx} {Q : State → Prop} {own : Nat} {cc : ByteArray} {nL d pc : Nat} {L st : List Value} {M : Mm} {S : Sg} {at_ : ArrayType} {ci : Nat} {n : Int32} {N : Nat} (hX : XK G X own cc nL d) (hd : decode cc pc = .ok (.newarray at_, 2)) (hl : Cond.arrayClass (newarray.typeOf at_) ∈ lwG) (ht : (tyL G)[ci - 10]? = some (G.2.2.1 ci, newarray.typeOf at_)) (hp : ∀ c, newarray.typeOf at_ ≠ .object c) (h0 : defaultValue (newarray.typeOf at_) = .int 0) (hk : kd (vi S.2.1) = ci) (hc : 10 ≤ ci ∧ ci ≠ 11) (hN : ln (vi S.2.1) = N) (hn1 : n.toNatClampNeg = N) (hn2 : ¬ n < 0) (hb : N * componentBytes (newarray.typeOf at_) ≤ 536870912) (hf : fresh M S (vi S.2.1)) (hn : S.2.1 + 1 < 1000) (hr : XR X (S.1, S.2.1 + 1, S.2.2 + N)) (k : WR G X Q (pc + 2) L (.ref (vi S.2.1) :: st) M (S.1, S.2.1 + 1, S.2.2 + N)) : WR G X Q pc L (.int n :: st) M S := by
  intro ls H locs hL hR hz
  refine W_size (fun hs => ?_)
  rw [hX.2.2.2.2.2.2.2.1] at hs
  have hH : H.size = G.1.size + S.2.1 := Nat.le_antisymm (by have := hz.1; omega) hR.ge
  have hr1 := hr.1
  have hr2 := hr.2
  simp only at hr1 hr2
  refine va_newaK (rest := st.map (cv G)) hX.1 hX.2.1 (hX.2.2.2.2.1 _ hl) rfl hd rfl hn2 hn1 hb (by omega) (by omega) hH fun H1 cA e1 z1 o1 hAr hNm => ?_
  have hRA := (hX.2.2.2.2.2.1.1.2 _ _ ht).2
  have hcA : cA = G.2.2.1 ci := by
    have h2 : X.2.2.2.2.1.vm.findClass ("[" ++ (newarray.typeOf at_).toString) = some (G.2.2.1 ci) := by
      unfold va_RA at hRA
      cases hty : newarray.typeOf at_ with
      | object c => exact absurd hty (hp c)
      | _ => rw [hty] at hRA; exact hRA
    exact Option.some.inj (hNm.symm.trans h2)
  subst hcA
  have e2 : S.2.1 - (xS X).2.1 + 1 = S.2.1 + 1 - (xS X).2.1 := by omega
  have e3 : S.2.2 - (xS X).2.2 + N = S.2.2 + N - (xS X).2.2 := by omega
  have e4 : ad G (vi S.2.1) = G.1.size + S.2.1 := (ad_lt (pl_lt (by rw [pl_vi]; exact hR.2.2))).trans (by rw [pl_vi])
  have kk := k ls H1 locs hL ⟨?_, ⟨Nat.le_trans hR.2.1.1 (by omega), fun x h1 h2 => (o1 x (by omega)).trans (hR.2.1.2.1 x h1 h2), hR.2.1.2.2⟩, hn⟩ ⟨Nat.le_trans hz.1 (Nat.le_add_right _ _), Nat.le_trans hz.2 (Nat.le_add_right _ _)⟩
  · simp only [List.map_cons, cv, e4] at kk
    rw [e2, e3]
    exact kk
  · rw [← wrl_push (G := G) (M := M) (S := S) (M' := M) (S' := (S.1, S.2.1 + 1, S.2.2 + N)) (e := .inl (G.2.2.1 ci, ln (vi S.2.1), .inl (M.1 (vi S.2.1)))) rfl (by rw [enE_I hk (by omega) hc.2]) (fun i _ => enE_congr (fun _ => rfl) (fun _ => rfl) (fun _ => rfl))]
    refine va_P.app (va_P.kept hR.1 (fun k x hx => ?_)) (fun k x hx => ?_)
    · obtain ⟨hk', rfl⟩ := wrl_at hx
      exact o1 _ (by simp only; omega)
    · have hz0 : k < 1 := (List.getElem?_eq_some_iff.mp hx).1
      rw [show k = 0 by omega] at hx
      cases hx
      show H1[G.1.size + S.2.1]? = some (vp_cell _ _)
      rw [e1, h0, vp_cell_i, hN]
      congr 2
      funext j
      rw [hf.1 j]
theorem r_newJ {G : Gm} {X : Cx} {Q : State → Prop} {own : Nat} {cc : ByteArray} {nL d pc : Nat} {L st : List Value} {M : Mm} {S : Sg} {n : Int32} {N : Nat} (hX : XK G X own cc nL d) (hd : decode cc pc = .ok (.newarray .long, 2)) (hl : Cond.arrayClass .long ∈ lwG) (hk : kd (vi S.2.1) = 11) (hN : ln (vi S.2.1) = N) (hn1 : n.toNatClampNeg = N) (hn2 : ¬ n < 0) (hb : N * componentBytes .long ≤ 536870912) (hf : fresh M S (vi S.2.1)) (hn : S.2.1 + 1 < 1000) (hr : XR X (S.1, S.2.1 + 1, S.2.2 + N)) (k : WR G X Q (pc + 2) L (.ref (vi S.2.1) :: st) M (S.1, S.2.1 + 1, S.2.2 + N)) : WR G X Q pc L (.int n :: st) M S := by
  intro ls H locs hL hR hz
  refine W_size (fun hs => ?_)
  rw [hX.2.2.2.2.2.2.2.1] at hs
  have hH : H.size = G.1.size + S.2.1 := Nat.le_antisymm (by have := hz.1; omega) hR.ge
  have hr1 := hr.1
  have hr2 := hr.2
  simp only at hr1 hr2
  refine va_newaK (atype := .long) (rest := st.map (cv G)) hX.1 hX.2.1 (hX.2.2.2.2.1 _ hl) rfl hd rfl hn2 hn1 hb (by omega) (by omega) hH fun H1 cA e1 z1 o1 hAr hNm => ?_
  have hRA := (hX.2.2.2.2.2.1.1.2 1 _ rfl).2
  have hcA : cA = G.2.2.1 11 := Option.some.inj (hNm.symm.trans hRA)
  subst hcA
  have e2 : S.2.1 - (xS X).2.1 + 1 = S.2.1 + 1 - (xS X).2.1 := by omega
  have e3 : S.2.2 - (xS X).2.2 + N = S.2.2 + N - (xS X).2.2 := by omega
  have e4 : ad G (vi S.2.1) = G.1.size + S.2.1 := (ad_lt (pl_lt (by rw [pl_vi]; exact hR.2.2))).trans (by rw [pl_vi])
  have kk := k ls H1 locs hL ⟨?_, ⟨Nat.le_trans hR.2.1.1 (by omega), fun x h1 h2 => (o1 x (by omega)).trans (hR.2.1.2.1 x h1 h2), hR.2.1.2.2⟩, hn⟩ ⟨Nat.le_trans hz.1 (Nat.le_add_right _ _), Nat.le_trans hz.2 (Nat.le_add_right _ _)⟩
  · simp only [List.map_cons, cv, e4] at kk
    rw [e2, e3]
    exact kk
  · rw [← wrl_push (G := G) (M := M) (S := S) (M' := M) (S' := (S.1, S.2.1 + 1, S.2.2 + N)) (e := .inl (G.2.2.1 11, ln (vi S.2.1), .inr (.inl (M.2 (vi S.2.1))))) rfl (by rw [enE_J hk]) (fun i _ => enE_congr (fun _ => rfl) (fun _ => rfl) (fun _ => rfl))]
    refine va_P.app (va_P.kept hR.1 (fun k x hx => ?_)) (fun k x hx => ?_)
    · obtain ⟨hk', rfl⟩ := wrl_at hx
      exact o1 _ (by simp only; omega)
    · have hz0 : k < 1 := (List.getElem?_eq_some_iff.mp hx).1
      rw [show k = 0 by omega] at hx
      cases hx
      show H1[G.1.size + S.2.1]? = some (vp_cell _ _)
      rw [e1, vp_cell_l, hN]
      congr 2
      funext j
      rw [hf.2.1 j]
      rfl
