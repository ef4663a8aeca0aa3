theorem enE_obj {G : Gm} {M : Mm} {S : Sg} {a ci : Nat} (hk : kd a = ci) (hc : ci < 10) : enE G M S a = .inr (ci, (List.range (NF ci)).map (fun j => cv G (fv M S ci a j))) := by
  subst hk
  exact if_pos hc
theorem enE_J {G : Gm} {M : Mm} {S : Sg} {a : Nat} (hk : kd a = 11) : enE G M S a = .inl (G.2.2.1 11, ln a, .inr (.inl (M.2 a))) := by
  unfold enE
  rw [hk]
  rfl
theorem enE_I {G : Gm} {M : Mm} {S : Sg} {a ci : Nat} (hk : kd a = ci) (h1 : ¬ ci < 10) (h2 : ci ≠ 11) : enE G M S a = .inl (G.2.2.1 ci, ln a, .inl (M.1 a)) := by
  unfold enE
  rw [hk, if_neg h1, if_neg h2]
theorem enE_congr {G : Gm} {M M' : Mm} {S S' : Sg} {k : Nat} (h1 : ∀ j, M'.1 k j = M.1 k j) (h2 : ∀ j, M'.2 k j = M.2 k j) (h3 : ∀ j, S'.1 k j = S.1 k j) : enE G M' S' k = enE G M S k := by
  have e1 : M'.1 k = M.1 k := funext h1
  have e2 : M'.2 k = M.2 k := funext h2
  have e3 : ∀ j, fv M' S' (kd k) k j = fv M S (kd k) k j := fun j => by simp only [fv, h1, h2, h3]
  simp only [enE, e1, e2, e3]
theorem up2_ne {α : Type} {f : Nat → Nat → α} {a j b i : Nat} {v : α} (h : b ≠ a) : up2 f a j v b i = f b i := if_neg (fun q => h q.1)
theorem map_set {n j : Nat} {f g : Nat → Value} {v : Value} (hj : j < n) (hv : g j = v) (ho : ∀ i, i ≠ j → g i = f i) : ((List.range n).map f).set j v = (List.range n).map g := by
  apply List.ext_getElem?
  intro i
  rw [List.getElem?_set]
  by_cases h : j = i
  · subst h
    simp [hj, hv]
  · rw [if_neg h]
    simp only [List.getElem?_map]
    by_cases hi : i < n
    · simp [hi, ho i (Ne.symm h)]
    · simp [hi]
theorem r_getf {G : Gm} {X : Cx} {Q : State → Prop} {own : Nat} {cc : ByteArray} {nL d pc : Nat} {L st : List Value} {M : Mm} {S : Sg} {idx ci j a : Nat} {v : Value} (hX : XK G X own cc nL d) (hd : decode cc pc = .ok (.getfield idx, 3)) (hF : FL own idx ci j) (hk : kd a = ci) (hc : ci < 10 ∧ j < NF ci) (hn : pl a < S.2.1) (hv : fv M S ci a j = v) (k : WR G X Q (pc + 3) L (v :: st) M S) : WR G X Q pc L (.ref a :: st) M S := by
  intro ls H locs hL hR hz
  obtain ⟨c1, c2, c3, c4, c5⟩ := cls_ok ci hc.1
  have hw := wrl_get (G := G) (M := M) (S := S) hn
  rw [enE_obj hk hc.1] at hw
  have had : ad G a = G.1.size + pl a := ad_lt (hR.lt hn)
  show W _ _ _ _ _ _ _ _ _ _ _ _ _ _ _ (F0 _ pc ls (.ref (ad G a) :: st.map (cv G)))
  rw [had]
  refine va_get hX.1 hX.2.1 hX.2.2.2.2.1 c1 hX.2.2.2.1 hX.2.2.2.2.2.1.1 hR.1 (pl a) hw c2 j hc.2 (hX.2.2.2.2.1 _ hF) (fun x hx => ?_) (v := cv G v) ?_ hd (k ls H locs hL hR hz)
  · rw [c5 j hc.2] at hx; exact hx
  · simp [hc.2, hv]
/-- what a field of a number type keeps -/
def okI (ty : FieldType) (x : Int32) : Prop := narrow ty (.int x) = .int x ∧ fits ty (.int x) = true ∧ ty ≠ .long ∧ (∀ n, ty ≠ .object n) ∧ ∀ t, ty ≠ .array t
theorem okI_int (x : Int32) : okI .int x := ⟨rfl, rfl, fun h => (by cases h), fun _ h => (by cases h), fun _ h => (by cases h)⟩
def b2i (b : Bool) : Int32 := if b then 1 else 0
theorem okI_b (b : Bool) : okI .boolean (b2i b) := ⟨by cases b <;> rfl, by cases b <;> rfl, fun h => (by cases h), fun _ h => (by cases h), fun _ h => (by cases h)⟩
theorem fv_putI {M : Mm} {S : Sg} {ci a j i : Nat} {x : Int32} (hi : i ≠ j) : fv (up2 M.1 a j x, M.2) S ci a i = fv M S ci a i := by
  have : up2 M.1 a j x a i = M.1 a i := if_neg (fun q => hi q.2)
  simp only [fv, this]
theorem fv_putI' {M : Mm} {S : Sg} {ci a j : Nat} {x : Int32} (h : okI (TyN ci j) x) : fv (up2 M.1 a j x, M.2) S ci a j = .int x := by
  have e : up2 M.1 a j x a j = x := if_pos ⟨rfl, rfl⟩
  unfold fv
  obtain ⟨-, -, h1, h2, h3⟩ := h
  cases ht : TyN ci j <;> simp_all
theorem r_putI {G : Gm} {X : Cx} {Q : State → Prop} {own : Nat} {cc : ByteArray} {nL d pc : Nat} {L st : List Value} {M : Mm} {S : Sg} {idx ci j a : Nat} {x : Int32} (hX : XK G X own cc nL d) (hd : decode cc pc = .ok (.putfield idx, 3)) (hF : FL own idx ci j) (hk : kd a = ci) (hc : ci < 10 ∧ j < NF ci ∧ (TN ci j).2.2.2 = false) (hn : pl a < S.2.1) (ho : okI (TyN ci j) x) (k : WR G X Q (pc + 3) L st (up2 M.1 a j x, M.2) S) : WR G X Q pc L (.int x :: .ref a :: st) M S := by
  intro ls H locs hL hR hz
  obtain ⟨c1, c2, c3, c4, c5⟩ := cls_ok ci hc.1
  have hw := wrl_get (G := G) (M := M) (S := S) hn
  rw [enE_obj hk hc.1] at hw
  have had : ad G a = G.1.size + pl a := ad_lt (hR.lt hn)
  show W _ _ _ _ _ _ _ _ _ _ _ _ _ _ _ (F0 _ pc ls (.int x :: .ref (ad G a) :: st.map (cv G)))
  rw [had]
  refine va_put hX.1 hX.2.1 hX.2.2.2.2.1 c1 (TyN ci) c3 c4 hX.2.2.2.1 hX.2.2.2.2.2.1.1 hR.1 wrl_D hR.2.1 (pl a) hw c2 j hc.2.1 (hX.2.2.2.2.1 _ hF) (fun y hy => ?_) hc.2.2 (c3 j hc.2.1) ho.1 ho.2.1 (by simp [hc.2.1]) hd (fun H1 locs1 hP hD hS => ?_)
  · rw [c5 j hc.2.1] at hy; exact hy
  · rw [wrl_set (G := G) (M := M) (S := S) (k := a) (M' := (up2 M.1 a j x, M.2)) (S' := S) rfl (e := _) (by
      rw [enE_obj hk hc.1, map_set hc.2.1 (g := fun i => cv G (fv (up2 M.1 a j x, M.2) S ci a i)) (by rw [fv_putI' ho]; rfl) (fun i hi => by rw [fv_putI hi])]) (fun i _ hi => enE_congr (fun _ => up2_ne hi) (fun _ => rfl) (fun _ => rfl))] at hP
    exact k ls H1 locs1 hL ⟨hP, hS, hR.2.2⟩ hz
theorem fv_putL {M : Mm} {S : Sg} {ci a j i : Nat} {x : Int64} (hi : i ≠ j) : fv (M.1, up2 M.2 a j x) S ci a i = fv M S ci a i := by
  have : up2 M.2 a j x a i = M.2 a i := if_neg (fun q => hi q.2)
  simp only [fv, this]
theorem fv_putL' {M : Mm} {S : Sg} {ci a j : Nat} {x : Int64} (h : TyN ci j = .long) : fv (M.1, up2 M.2 a j x) S ci a j = .long x := by
  have e : up2 M.2 a j x a j = x := if_pos ⟨rfl, rfl⟩
  unfold fv
  rw [h]
  simp only [e]
theorem r_putL {G : Gm} {X : Cx} {Q : State → Prop} {own : Nat} {cc : ByteArray} {nL d pc : Nat} {L st : List Value} {M : Mm} {S : Sg} {idx ci j a : Nat} {x : Int64} (hX : XK G X own cc nL d) (hd : decode cc pc = .ok (.putfield idx, 3)) (hF : FL own idx ci j) (hk : kd a = ci) (hc : ci < 10 ∧ j < NF ci ∧ (TN ci j).2.2.2 = false) (hn : pl a < S.2.1) (ho : TyN ci j = .long) (k : WR G X Q (pc + 3) L st (M.1, up2 M.2 a j x) S) : WR G X Q pc L (.long x :: .ref a :: st) M S := by
  intro ls H locs hL hR hz
  obtain ⟨c1, c2, c3, c4, c5⟩ := cls_ok ci hc.1
  have hw := wrl_get (G := G) (M := M) (S := S) hn
  rw [enE_obj hk hc.1] at hw
  have had : ad G a = G.1.size + pl a := ad_lt (hR.lt hn)
  show W _ _ _ _ _ _ _ _ _ _ _ _ _ _ _ (F0 _ pc ls (.long x :: .ref (ad G a) :: st.map (cv G)))
  rw [had]
  refine va_put hX.1 hX.2.1 hX.2.2.2.2.1 c1 (TyN ci) c3 c4 hX.2.2.2.1 hX.2.2.2.2.2.1.1 hR.1 wrl_D hR.2.1 (pl a) hw c2 j hc.2.1 (hX.2.2.2.2.1 _ hF) (fun y hy => ?_) hc.2.2 (c3 j hc.2.1) (by rw [ho]; rfl) (by rw [ho]; rfl) (by simp [hc.2.1]) hd (fun H1 locs1 hP hD hS => ?_)
  · rw [c5 j hc.2.1] at hy; exact hy
  · rw [wrl_set (G := G) (M := M) (S := S) (k := a) (M' := (M.1, up2 M.2 a j x)) (S' := S) rfl (e := _) (by
      rw [enE_obj hk hc.1, map_set hc.2.1 (g := fun i => cv G (fv (M.1, up2 M.2 a j x) S ci a i)) (by rw [fv_putL' ho]; rfl) (fun i hi => by rw [fv_putL hi])]) (fun i _ hi => enE_congr (fun _ => rfl) (fun _ => up2_ne hi) (fun _ => rfl))] at hP
    exact k ls H1 locs1 hL ⟨hP, hS, hR.2.2⟩ hz
/-! references: set in constructors alone -/
def isR (ty : FieldType) : Prop := (∃ n, ty = .object n) ∨ ∃ t, ty = .array t
theorem fv_putR {M : Mm} {S : Sg} {ci a j i b : Nat} (hi : i ≠ j) : fv M (up2 S.1 a j (some b), S.2) ci a i = fv M S ci a i := by
  have : up2 S.1 a j (some b) a i = S.1 a i := if_neg (fun q => hi q.2)
  simp only [fv, this]
theorem fv_putR' {M : Mm} {S : Sg} {ci a j b : Nat} (h : isR (TyN ci j)) : fv M (up2 S.1 a j (some b), S.2) ci a j = .ref b := by
  have e : up2 S.1 a j (some b) a j = some b := if_pos ⟨rfl, rfl⟩
  unfold fv
  rcases h with ⟨n, h⟩ | ⟨t, h⟩ <;> rw [h] <;> simp only [e]
theorem r_putR {G : Gm} {X : Cx} {Q : State → Prop} {own : Nat} {cc : ByteArray} {nL d pc : Nat} {L st : List Value} {M : Mm} {S : Sg} {rt : Option FieldType} {idx j a b : Nat} (hX : XK G X own cc nL d) (hT : XT X rt "<init>") (hd : decode cc pc = .ok (.putfield idx, 3)) (hF : FL own idx own j) (hk : kd a = own) (hc : own < 10 ∧ j < NF own ∧ (TN own j).2.2.2 = true) (hn : pl a < S.2.1) (ho : isR (TyN own j)) (k : WR G X Q (pc + 3) L st M (up2 S.1 a j (some b), S.2)) : WR G X Q pc L (.ref b :: .ref a :: st) M S := by
  intro ls H locs hL hR hz
  obtain ⟨c1, c2, c3, c4, c5⟩ := cls_ok own hc.1
  have hw := wrl_get (G := G) (M := M) (S := S) hn
  rw [enE_obj hk hc.1] at hw
  have had : ad G a = G.1.size + pl a := ad_lt (hR.lt hn)
  show W _ _ _ _ _ _ _ _ _ _ _ _ _ _ _ (F0 _ pc ls (.ref (ad G b) :: .ref (ad G a) :: st.map (cv G)))
  rw [had]
  refine va_putF hX.1 hX.2.1 hX.2.2.2.2.1 c1 (TyN own) c3 c4 hX.2.2.2.1 hX.2.2.2.2.2.1.1 hR.1 wrl_D hR.2.1 (pl a) hw c2 j hc.2.1 (hX.2.2.2.2.1 _ hF) (fun y hy => ?_) hc.2.2 hT.2.2 (c5 j hc.2.1) (c3 j hc.2.1) (by rcases ho with ⟨n, h⟩ | ⟨t, h⟩ <;> rw [h] <;> rfl) (by rcases ho with ⟨n, h⟩ | ⟨t, h⟩ <;> rw [h] <;> rfl) (by simp [hc.2.1]) hd (fun H1 locs1 hP hD hS => ?_)
  · rw [c5 j hc.2.1] at hy; exact hy
  · rw [wrl_set (G := G) (M := M) (S := S) (k := a) (M' := M) (S' := (up2 S.1 a j (some b), S.2)) rfl (e := _) (by
      rw [enE_obj hk hc.1, map_set hc.2.1 (g := fun i => cv G (fv M (up2 S.1 a j (some b), S.2) own a i)) (by rw [fv_putR' ho]; rfl) (fun i hi => by rw [fv_putR hi])]) (fun i _ hi => enE_congr (fun _ => rfl) (fun _ => rfl) (fun _ => up2_ne hi))] at hP
    exact k ls H1 locs1 hL ⟨hP, hS, hR.2.2⟩ hz
theorem r_iald {G : Gm} {X : Cx} {Q : State → Prop} {own : Nat} {cc : ByteArray} {nL d pc : Nat} {L st : List Value} {M : Mm} {S : Sg} {a : Nat} {i : Int32} (hX : XK G X own cc nL d) (hd : decode cc pc = .ok (.iaload, 1)) (hk : kd a = 10) (hn : pl a < S.2.1) (hi : vp_in i (ln a)) (k : WR G X Q (pc + 1) L (.int (M.1 a i.toNatClampNeg) :: st) M S) : WR G X Q pc L (.int i :: .ref a :: st) M S := by
  intro ls H locs hL hR hz
  have hw := wrl_get (G := G) (M := M) (S := S) hn
  rw [enE_I hk (by decide) (by decide)] at hw
  have had : ad G a = G.1.size + pl a := ad_lt (hR.lt hn)
  show W _ _ _ _ _ _ _ _ _ _ _ _ _ _ _ (F0 _ pc ls (.int i :: .ref (ad G a) :: st.map (cv G)))
  rw [had]
  exact va_iald hX.1 hX.2.1 hX.2.2.2.2.2.1.1 hR.1 (pl a) 0 hw rfl hi hd (k ls H locs hL hR hz)
theorem r_bald {G : Gm} {X : Cx} {Q : State → Prop} {own : Nat} {cc : ByteArray} {nL d pc : Nat} {L st : List Value} {M : Mm} {S : Sg} {a : Nat} {i : Int32} (hX : XK G X own cc nL d) (hd : decode cc pc = .ok (.baload, 1)) (hk : kd a = 12) (hn : pl a < S.2.1) (hi : vp_in i (ln a)) (k : WR G X Q (pc + 1) L (.int (M.1 a i.toNatClampNeg) :: st) M S) : WR G X Q pc L (.int i :: .ref a :: st) M S := by
  intro ls H locs hL hR hz
  have hw := wrl_get (G := G) (M := M) (S := S) hn
  rw [enE_I hk (by decide) (by decide)] at hw
  have had : ad G a = G.1.size + pl a := ad_lt (hR.lt hn)
  show W _ _ _ _ _ _ _ _ _ _ _ _ _ _ _ (F0 _ pc ls (.int i :: .ref (ad G a) :: st.map (cv G)))
  rw [had]
  exact va_bald hX.1 hX.2.1 hX.2.2.2.2.2.1.1 hR.1 (pl a) 2 hw rfl hi hd (k ls H locs hL hR hz)
theorem r_zald {G : Gm} {X : Cx} {Q : State → Prop} {own : Nat} {cc : ByteArray} {nL d pc : Nat} {L st : List Value} {M : Mm} {S : Sg} {a : Nat} {i : Int32} (hX : XK G X own cc nL d) (hd : decode cc pc = .ok (.baload, 1)) (hk : kd a = 13) (hn : pl a < S.2.1) (hi : vp_in i (ln a)) (k : WR G X Q (pc + 1) L (.int (M.1 a i.toNatClampNeg) :: st) M S) : WR G X Q pc L (.int i :: .ref a :: st) M S := by
  intro ls H locs hL hR hz
  have hw := wrl_get (G := G) (M := M) (S := S) hn
  rw [enE_I hk (by decide) (by decide)] at hw
  have had : ad G a = G.1.size + pl a := ad_lt (hR.lt hn)
  show W _ _ _ _ _ _ _ _ _ _ _ _ _ _ _ (F0 _ pc ls (.int i :: .ref (ad G a) :: st.map (cv G)))
  rw [had]
  exact va_zald hX.1 hX.2.1 hX.2.2.2.2.2.1.1 hR.1 (pl a) 3 hw rfl hi hd (k ls H locs hL hR hz)
theorem r_lald {G : Gm} {X : Cx} {Q : State → Prop} {own : Nat} {cc : ByteArray} {nL d pc : Nat} {L st : List Value} {M : Mm} {S : Sg} {a : Nat} {i : Int32} (hX : XK G X own cc nL d) (hd : decode cc pc = .ok (.laload, 1)) (hk : kd a = 11) (hn : pl a < S.2.1) (hi : vp_in i (ln a)) (k : WR G X Q (pc + 1) L (.long (M.2 a i.toNatClampNeg) :: st) M S) : WR G X Q pc L (.int i :: .ref a :: st) M S := by
  intro ls H locs hL hR hz
  have hw := wrl_get (G := G) (M := M) (S := S) hn
  rw [enE_J hk] at hw
  have had : ad G a = G.1.size + pl a := ad_lt (hR.lt hn)
  show W _ _ _ _ _ _ _ _ _ _ _ _ _ _ _ (F0 _ pc ls (.int i :: .ref (ad G a) :: st.map (cv G)))
  rw [had]
  exact va_lald hX.1 hX.2.1 hX.2.2.2.2.2.1.1 hR.1 (pl a) 1 hw rfl hi hd (k ls H locs hL hR hz)
theorem up2_row {α : Type} {f : Nat → Nat → α} {a j : Nat} {v : α} {g : Nat → α} (h : ∀ i, g i = if i = j then v else f a i) : g = up2 f a j v a := funext fun i => by rw [h i]; by_cases e : i = j <;> simp [up2, e]
theorem r_iast {G : Gm} {X : Cx} {Q : State → Prop} {own : Nat} {cc : ByteArray} {nL d pc : Nat} {L st : List Value} {M : Mm} {S : Sg} {a : Nat} {i x : Int32} (hX : XK G X own cc nL d) (hd : decode cc pc = .ok (.iastore, 1)) (hk : kd a = 10) (hn : pl a < S.2.1) (hi : vp_in i (ln a)) (k : WR G X Q (pc + 1) L st (up2 M.1 a i.toNatClampNeg x, M.2) S) : WR G X Q pc L (.int x :: .int i :: .ref a :: st) M S := by
  intro ls H locs hL hR hz
  have hw := wrl_get (G := G) (M := M) (S := S) hn
  rw [enE_I hk (by decide) (by decide)] at hw
  have had : ad G a = G.1.size + pl a := ad_lt (hR.lt hn)
  show W _ _ _ _ _ _ _ _ _ _ _ _ _ _ _ (F0 _ pc ls (.int x :: .int i :: .ref (ad G a) :: st.map (cv G)))
  rw [had]
  refine va_iast hX.1 hX.2.1 hX.2.2.2.2.2.1.1 hR.1 wrl_D hR.2.1 (pl a) 0 hw rfl hi hd (fun H1 locs1 hP hD hS => ?_)
  rw [wrl_set (G := G) (M := M) (S := S) (k := a) (M' := (up2 M.1 a i.toNatClampNeg x, M.2)) (S' := S) rfl (e := _) (by
      rw [enE_I hk (by decide) (by decide)]
      exact congrArg (fun g => Sum.inl (G.2.2.1 10, ln a, Sum.inl g)) (up2_row (fun _ => rfl))) (fun i _ hi => enE_congr (fun _ => up2_ne hi) (fun _ => rfl) (fun _ => rfl))] at hP
  exact k ls H1 locs1 hL ⟨hP, hS, hR.2.2⟩ hz
theorem r_bast {G : Gm} {X : Cx} {Q : State → Prop} {own : Nat} {cc : ByteArray} {nL d pc : Nat} {L st : List Value} {M : Mm} {S : Sg} {a : Nat} {i x : Int32} (hX : XK G X own cc nL d) (hd : decode cc pc = .ok (.bastore, 1)) (hk : kd a = 12) (hn : pl a < S.2.1) (hi : vp_in i (ln a)) (k : WR G X Q (pc + 1) L st (up2 M.1 a i.toNatClampNeg (vp_nar .byte x), M.2) S) : WR G X Q pc L (.int x :: .int i :: .ref a :: st) M S := by
  intro ls H locs hL hR hz
  have hw := wrl_get (G := G) (M := M) (S := S) hn
  rw [enE_I hk (by decide) (by decide)] at hw
  have had : ad G a = G.1.size + pl a := ad_lt (hR.lt hn)
  show W _ _ _ _ _ _ _ _ _ _ _ _ _ _ _ (F0 _ pc ls (.int x :: .int i :: .ref (ad G a) :: st.map (cv G)))
  rw [had]
  refine va_bast hX.1 hX.2.1 hX.2.2.2.2.2.1.1 hR.1 wrl_D hR.2.1 (pl a) 2 hw rfl hi hd (fun H1 locs1 hP hD hS => ?_)
  rw [wrl_set (G := G) (M := M) (S := S) (k := a) (M' := (up2 M.1 a i.toNatClampNeg (vp_nar .byte x), M.2)) (S' := S) rfl (e := _) (by
      rw [enE_I hk (by decide) (by decide)]
      exact congrArg (fun g => Sum.inl (G.2.2.1 12, ln a, Sum.inl g)) (up2_row (fun _ => rfl))) (fun i _ hi => enE_congr (fun _ => up2_ne hi) (fun _ => rfl) (fun _ => rfl))] at hP
  exact k ls H1 locs1 hL ⟨hP, hS, hR.2.2⟩ hz
theorem r_zast {G : Gm} {X : Cx} {Q : State → Prop} {own : Nat} {cc : ByteArray} {nL d pc : Nat} {L st : List Value} {M : Mm} {S : Sg} {a : Nat} {i x : Int32} (hX : XK G X own cc nL d) (hd : decode cc pc = .ok (.bastore, 1)) (hk : kd a = 13) (hn : pl a < S.2.1) (hi : vp_in i (ln a)) (k : WR G X Q (pc + 1) L st (up2 M.1 a i.toNatClampNeg (vp_nar .boolean x), M.2) S) : WR G X Q pc L (.int x :: .int i :: .ref a :: st) M S := by
  intro ls H locs hL hR hz
  have hw := wrl_get (G := G) (M := M) (S := S) hn
  rw [enE_I hk (by decide) (by decide)] at hw
  have had : ad G a = G.1.size + pl a := ad_lt (hR.lt hn)
  show W _ _ _ _ _ _ _ _ _ _ _ _ _ _ _ (F0 _ pc ls (.int x :: .int i :: .ref (ad G a) :: st.map (cv G)))
  rw [had]
  refine va_zast hX.1 hX.2.1 hX.2.2.2.2.2.1.1 hR.1 wrl_D hR.2.1 (pl a) 3 hw rfl hi hd (fun H1 locs1 hP hD hS => ?_)
  rw [wrl_set (G := G) (M := M) (S := S) (k := a) (M' := (up2 M.1 a i.toNatClampNeg (vp_nar .boolean x), M.2)) (S' := S) rfl (e := _) (by
      rw [enE_I hk (by decide) (by decide)]
      exact congrArg (fun g => Sum.inl (G.2.2.1 13, ln a, Sum.inl g)) (up2_row (fun _ => rfl))) (fun i _ hi => enE_congr (fun _ => up2_ne hi) (fun _ => rfl) (fun _ => rfl))] at hP
  exact k ls H1 locs1 hL ⟨hP, hS, hR.2.2⟩ hz
theorem r_last {G : Gm} {X : Cx} {Q : State → Prop} {own : Nat} {cc : ByteArray} {nL d pc : Nat} {L st : List Value} {M : Mm} {S : Sg} {a : Nat} {i : Int32} {x : Int64} (hX : XK G X own cc nL d) (hd : decode cc pc = .ok (.lastore, 1)) (hk : kd a = 11) (hn : pl a < S.2.1) (hi : vp_in i (ln a)) (k : WR G X Q (pc + 1) L st (M.1, up2 M.2 a i.toNatClampNeg x) S) : WR G X Q pc L (.long x :: .int i :: .ref a :: st) M S := by
  intro ls H locs hL hR hz
  have hw := wrl_get (G := G) (M := M) (S := S) hn
  rw [enE_J hk] at hw
  have had : ad G a = G.1.size + pl a := ad_lt (hR.lt hn)
  show W _ _ _ _ _ _ _ _ _ _ _ _ _ _ _ (F0 _ pc ls (.long x :: .int i :: .ref (ad G a) :: st.map (cv G)))
  rw [had]
  refine va_last hX.1 hX.2.1 hX.2.2.2.2.2.1.1 hR.1 wrl_D hR.2.1 (pl a) 1 hw rfl hi hd (fun H1 locs1 hP hD hS => ?_)
  rw [wrl_set (G := G) (M := M) (S := S) (k := a) (M' := (M.1, up2 M.2 a i.toNatClampNeg x)) (S' := S) rfl (e := _) (by
      rw [enE_J hk]
      exact congrArg (fun g => Sum.inl (G.2.2.1 11, ln a, Sum.inr (Sum.inl g))) (up2_row (fun _ => rfl))) (fun i _ hi => enE_congr (fun _ => rfl) (fun _ => up2_ne hi) (fun _ => rfl))] at hP
  exact k ls H1 locs1 hL ⟨hP, hS, hR.2.2⟩ hz
theorem r_alen {G : Gm} {X : Cx} {Q : State → Prop} {own : Nat} {cc : ByteArray} {nL d pc : Nat} {L st : List Value} {M : Mm} {S : Sg} {a ci : Nat} {v : Int32} (hX : XK G X own cc nL d) (hd : decode cc pc = .ok (.arraylength, 1)) (hk : kd a = ci) (hc : ci = 10 ∨ ci = 11 ∨ ci = 12 ∨ ci = 13) (hn : pl a < S.2.1) (hv : Int32.ofNat (ln a) = v) (k : WR G X Q (pc + 1) L (.int v :: st) M S) : WR G X Q pc L (.ref a :: st) M S := by
  intro ls H locs hL hR hz
  have hw := wrl_get (G := G) (M := M) (S := S) hn
  have had : ad G a = G.1.size + pl a := ad_lt (hR.lt hn)
  show W _ _ _ _ _ _ _ _ _ _ _ _ _ _ _ (F0 _ pc ls (.ref (ad G a) :: st.map (cv G)))
  rw [had]
  rcases hc with rfl | rfl | rfl | rfl
  · rw [enE_I hk (by decide) (by decide)] at hw
    exact va_alen hX.1 hX.2.1 hX.2.2.2.2.2.1.1 hR.1 (pl a) 0 hw rfl hv hd (k ls H locs hL hR hz)
  · rw [enE_J hk] at hw
    exact va_alen hX.1 hX.2.1 hX.2.2.2.2.2.1.1 hR.1 (pl a) 1 hw rfl hv hd (k ls H locs hL hR hz)
  · rw [enE_I hk (by decide) (by decide)] at hw
    exact va_alen hX.1 hX.2.1 hX.2.2.2.2.2.1.1 hR.1 (pl a) 2 hw rfl hv hd (k ls H locs hL hR hz)
  · rw [enE_I hk (by decide) (by decide)] at hw
    exact va_alen hX.1 hX.2.1 hX.2.2.2.2.2.1.1 hR.1 (pl a) 3 hw rfl hv hd (k ls H locs hL hR hz)
