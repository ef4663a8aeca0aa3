/-! words for the functions that the program's methods are -/
def inb (i : Int32) (n : Nat) : Bool := decide (0 ≤ i.toInt ∧ i.toInt < (n : Int))
def nz (y : Int32) : Bool := !(y == 0)
def irm (x y : Int32) : Int32 := x - x / y * y
def imx (x y : Int32) : Int32 := if x < y then y else x
def imn (x y : Int32) : Int32 := if y < x then y else x
abbrev tn (i : Int32) : Nat := i.toNatClampNeg
def grd {α : Type} (b : Bool) (x : Option α) : Option α := if b = true then x else none
def bnd {α β : Type} (x : Option α) (f : α → Option β) : Option β := match x with
  | some a => f a
  | none => none
def elS {α β γ : Type} (x : α ⊕ β) (f : α → γ) (g : β → γ) : γ := match x with
  | .inl a => f a
  | .inr b => g b
def loop {σ ρ : Type} (body : σ → Option (σ ⊕ ρ)) : Nat → σ → Option ρ
  | 0, _ => none
  | n + 1, s => match body s with
    | none => none
    | some (.inl s1) => loop body n s1
    | some (.inr x) => some x
theorem loop_ok {σ ρ : Type} {body : σ → Option (σ ⊕ ρ)} {P : σ → Prop} {E : ρ → Prop} (step : ∀ (s : σ) (o : σ ⊕ ρ), body s = some o → (∀ s1, o = .inl s1 → P s1) → (∀ x, o = .inr x → E x) → P s) : ∀ (n : Nat) (s : σ) (x : ρ), loop body n s = some x → E x → P s
  | 0, _, _, h, _ => by cases h
  | n + 1, s, x, h, hE => by
    unfold loop at h
    cases hb : body s with
    | none => rw [hb] at h; cases h
    | some o =>
      rw [hb] at h
      cases o with
      | inl s1 => exact step s _ hb (fun s2 e => by cases e; exact loop_ok step n s1 x h hE) (fun _ e => by cases e)
      | inr y => exact step s _ hb (fun _ e => by cases e) (fun z e => by cases e; cases h; exact hE)
theorem grd_s {α : Type} {b : Bool} {x : Option α} {r : α} (h : grd b x = some r) : b = true ∧ x = some r := by
  unfold grd at h
  by_cases hb : b = true
  · rw [if_pos hb] at h; exact ⟨hb, h⟩
  · rw [if_neg hb] at h; cases h
theorem bnd_s {α β : Type} {x : Option α} {f : α → Option β} {r : β} (h : bnd x f = some r) : ∃ a, x = some a ∧ f a = some r := by
  cases x with
  | none => cases h
  | some a => exact ⟨a, rfl, h⟩
theorem inb_at {i : Int32} {n a : Nat} (hl : ln a = n) (h : inb i n = true) : vp_in i (ln a) := by
  rw [hl]
  exact vp_in_iff.mpr (of_decide_eq_true h)
theorem nz_ne {y : Int32} (h : nz y = true) : ¬ y = 0 := by
  intro e
  subst e
  cases h
def fgt : List Value → List Value → Prop
  | [], [] => True
  | v :: t, w :: u => (v = vU ∨ v = w) ∧ fgt t u
  | _, _ => False
theorem fgt_len : ∀ {L' L : List Value}, fgt L' L → L'.length = L.length
  | [], [], _ => rfl
  | _ :: _, _ :: _, h => congrArg (· + 1) (fgt_len h.2)
  | [], _ :: _, h => h.elim
  | _ :: _, [], h => h.elim
theorem fgt_at : ∀ {L' L : List Value}, fgt L' L → ∀ (i : Nat) (v : Value), L'[i]? = some v → v = vU ∨ L[i]? = some v
  | [], [], _, i, v, h => by simp at h
  | w :: t, y :: u, h, 0, v, e => by
    simp at e
    subst e
    exact h.1.elim Or.inl (fun q => Or.inr (by simp [q]))
  | w :: t, y :: u, h, i + 1, v, e => by
    simp at e
    exact (fgt_at h.2 i v (by simpa using e)).elim Or.inl (fun q => Or.inr (by simpa using q))
  | [], _ :: _, h, _, _, _ => h.elim
  | _ :: _, [], h, _, _, _ => h.elim
theorem WR.fg {G : Gm} {X : Cx} {Q : State → Prop} {pc : Nat} {L L' st : List Value} {M : Mm} {S : Sg} (h : fgt L' L) (k : WR G X Q pc L' st M S) : WR G X Q pc L st M S := WR.forget (fgt_len h) (fgt_at h) k
theorem lg_cmp0 {x y : Int64} (h : lg_cmp x y = 0) : x = y := by
  unfold lg_cmp at h
  by_cases h1 : y < x
  · simp [h1] at h
  · by_cases h2 : x = y
    · exact h2
    · simp [h1, h2] at h
theorem lg_cmpr (y : Int64) : lg_cmp y y = 0 := by
  unfold lg_cmp
  simp
theorem r_putI' {G : Gm} {X : Cx} {Q : State → Prop} {own : Nat} {cc : ByteArray} {nL d pc : Nat} {L st : List Value} {A : Nat → Nat → Int32} {B : Nat → Nat → Int64} {S : Sg} {idx ci j a : Nat} {x : Int32} (hX : XK G X own cc nL d) (hd : decode cc pc = .ok (.putfield idx, 3)) (hF : FL own idx ci j) (hk : kd a = ci) (hc : ci < 10 ∧ j < NF ci ∧ (TN ci j).2.2.2 = false) (hn : pl a < S.2.1) (ho : okI (TyN ci j) x) (k : WR G X Q (pc + 3) L st (up2 A a j x, B) S) : WR G X Q pc L (.int x :: .ref a :: st) (A, B) S := r_putI (M := (A, B)) hX hd hF hk hc hn ho k
theorem r_putL' {G : Gm} {X : Cx} {Q : State → Prop} {own : Nat} {cc : ByteArray} {nL d pc : Nat} {L st : List Value} {A : Nat → Nat → Int32} {B : Nat → Nat → Int64} {S : Sg} {idx ci j a : Nat} {x : Int64} (hX : XK G X own cc nL d) (hd : decode cc pc = .ok (.putfield idx, 3)) (hF : FL own idx ci j) (hk : kd a = ci) (hc : ci < 10 ∧ j < NF ci ∧ (TN ci j).2.2.2 = false) (hn : pl a < S.2.1) (ho : TyN ci j = .long) (k : WR G X Q (pc + 3) L st (A, up2 B a j x) S) : WR G X Q pc L (.long x :: .ref a :: st) (A, B) S := r_putL (M := (A, B)) hX hd hF hk hc hn ho k
theorem r_iald' {G : Gm} {X : Cx} {Q : State → Prop} {own : Nat} {cc : ByteArray} {nL d pc : Nat} {L st : List Value} {A : Nat → Nat → Int32} {B : Nat → Nat → Int64} {S : Sg} {a : Nat} {i : Int32} (hX : XK G X own cc nL d) (hd : decode cc pc = .ok (.iaload, 1)) (hk : kd a = 10) (hn : pl a < S.2.1) (hi : vp_in i (ln a)) (k : WR G X Q (pc + 1) L (.int (A a i.toNatClampNeg) :: st) (A, B) S) : WR G X Q pc L (.int i :: .ref a :: st) (A, B) S := r_iald (M := (A, B)) hX hd hk hn hi k
theorem r_bald' {G : Gm} {X : Cx} {Q : State → Prop} {own : Nat} {cc : ByteArray} {nL d pc : Nat} {L st : List Value} {A : Nat → Nat → Int32} {B : Nat → Nat → Int64} {S : Sg} {a : Nat} {i : Int32} (hX : XK G X own cc nL d) (hd : decode cc pc = .ok (.baload, 1)) (hk : kd a = 12) (hn : pl a < S.2.1) (hi : vp_in i (ln a)) (k : WR G X Q (pc + 1) L (.int (A a i.toNatClampNeg) :: st) (A, B) S) : WR G X Q pc L (.int i :: .ref a :: st) (A, B) S := r_bald (M := (A, B)) hX hd hk hn hi k
theorem r_zald' {G : Gm} {X : Cx} {Q : State → Prop} {own : Nat} {cc : ByteArray} {nL d pc : Nat} {L st : List Value} {A : Nat → Nat → Int32} {B : Nat → Nat → Int64} {S : Sg} {a : Nat} {i : Int32} (hX : XK G X own cc nL d) (hd : decode cc pc = .ok (.baload, 1)) (hk : kd a = 13) (hn : pl a < S.2.1) (hi : vp_in i (ln a)) (k : WR G X Q (pc + 1) L (.int (A a i.toNatClampNeg) :: st) (A, B) S) : WR G X Q pc L (.int i :: .ref a :: st) (A, B) S := r_zald (M := (A, B)) hX hd hk hn hi k
theorem r_lald' {G : Gm} {X : Cx} {Q : State → Prop} {own : Nat} {cc : ByteArray} {nL d pc : Nat} {L st : List Value} {A : Nat → Nat → Int32} {B : Nat → Nat → Int64} {S : Sg} {a : Nat} {i : Int32} (hX : XK G X own cc nL d) (hd : decode cc pc = .ok (.laload, 1)) (hk : kd a = 11) (hn : pl a < S.2.1) (hi : vp_in i (ln a)) (k : WR G X Q (pc + 1) L (.long (B a i.toNatClampNeg) :: st) (A, B) S) : WR G X Q pc L (.int i :: .ref a :: st) (A, B) S := r_lald (M := (A, B)) hX hd hk hn hi k
theorem r_iast' {G : Gm} {X : Cx} {Q : State → Prop} {own : Nat} {cc : ByteArray} {nL d pc : Nat} {L st : List Value} {A : Nat → Nat → Int32} {B : Nat → Nat → Int64} {S : Sg} {a : Nat} {i x : Int32} (hX : XK G X own cc nL d) (hd : decode cc pc = .ok (.iastore, 1)) (hk : kd a = 10) (hn : pl a < S.2.1) (hi : vp_in i (ln a)) (k : WR G X Q (pc + 1) L st (up2 A a i.toNatClampNeg x, B) S) : WR G X Q pc L (.int x :: .int i :: .ref a :: st) (A, B) S := r_iast (M := (A, B)) hX hd hk hn hi k
theorem r_bast' {G : Gm} {X : Cx} {Q : State → Prop} {own : Nat} {cc : ByteArray} {nL d pc : Nat} {L st : List Value} {A : Nat → Nat → Int32} {B : Nat → Nat → Int64} {S : Sg} {a : Nat} {i x : Int32} (hX : XK G X own cc nL d) (hd : decode cc pc = .ok (.bastore, 1)) (hk : kd a = 12) (hn : pl a < S.2.1) (hi : vp_in i (ln a)) (k : WR G X Q (pc + 1) L st (up2 A a i.toNatClampNeg (vp_nar .byte x), B) S) : WR G X Q pc L (.int x :: .int i :: .ref a :: st) (A, B) S := r_bast (M := (A, B)) hX hd hk hn hi k
theorem r_zast' {G : Gm} {X : Cx} {Q : State → Prop} {own : Nat} {cc : ByteArray} {nL d pc : Nat} {L st : List Value} {A : Nat → Nat → Int32} {B : Nat → Nat → Int64} {S : Sg} {a : Nat} {i x : Int32} (hX : XK G X own cc nL d) (hd : decode cc pc = .ok (.bastore, 1)) (hk : kd a = 13) (hn : pl a < S.2.1) (hi : vp_in i (ln a)) (k : WR G X Q (pc + 1) L st (up2 A a i.toNatClampNeg (vp_nar .boolean x), B) S) : WR G X Q pc L (.int x :: .int i :: .ref a :: st) (A, B) S := r_zast (M := (A, B)) hX hd hk hn hi k
theorem r_last' {G : Gm} {X : Cx} {Q : State → Prop} {own : Nat} {cc : ByteArray} {nL d pc : Nat} {L st : List Value} {A : Nat → Nat → Int32} {B : Nat → Nat → Int64} {S : Sg} {a : Nat} {i : Int32} {x : Int64} (hX : XK G X own cc nL d) (hd : decode cc pc = .ok (.lastore, 1)) (hk : kd a = 11) (hn : pl a < S.2.1) (hi : vp_in i (ln a)) (k : WR G X Q (pc + 1) L st (A, up2 B a i.toNatClampNeg x) S) : WR G X Q pc L (.long x :: .int i :: .ref a :: st) (A, B) S := r_last (M := (A, B)) hX hd hk hn hi k
theorem r_copyi' {G : Gm} {X : Cx} {Q : State → Prop} {own : Nat} {cc : ByteArray} {nL d pc : Nat} {L st : List Value} {A : Nat → Nat → Int32} {B : Nat → Nat → Int64} {S : Sg} {idx a0 a : Nat} {sp dp n : Int32} (hX : XK G X own cc nL d) (hd : decode cc pc = .ok (.invokestatic idx, 3)) (hl : MLn own idx arraycopyName) (hLn : L.length = nL) (hw : (st.map fun v => v.category).sum ≤ 8) (hk0 : kd a0 = 10) (hn0 : pl a0 < S.2.1) (hk : kd a = 10) (hn : pl a < S.2.1) (h3 : ¬ sp < 0 ∧ ¬ dp < 0 ∧ ¬ n < 0) (h4 : sp.toNatClampNeg + n.toNatClampNeg ≤ ln a0) (h5 : dp.toNatClampNeg + n.toNatClampNeg ≤ ln a) (k : WR G X Q (pc + 3) L st (cpy2 A a0 a sp.toNatClampNeg dp.toNatClampNeg n.toNatClampNeg, B) S) : WR G X Q pc L (.int n :: .int dp :: .ref a :: .int sp :: .ref a0 :: st) (A, B) S := r_copyi (M := (A, B)) hX hd hl hLn hw hk0 hn0 hk hn h3 h4 h5 k
theorem r_copyl' {G : Gm} {X : Cx} {Q : State → Prop} {own : Nat} {cc : ByteArray} {nL d pc : Nat} {L st : List Value} {A : Nat → Nat → Int32} {B : Nat → Nat → Int64} {S : Sg} {idx a0 a : Nat} {sp dp n : Int32} (hX : XK G X own cc nL d) (hd : decode cc pc = .ok (.invokestatic idx, 3)) (hl : MLn own idx arraycopyName) (hLn : L.length = nL) (hw : (st.map fun v => v.category).sum ≤ 8) (hk0 : kd a0 = 11) (hn0 : pl a0 < S.2.1) (hk : kd a = 11) (hn : pl a < S.2.1) (h3 : ¬ sp < 0 ∧ ¬ dp < 0 ∧ ¬ n < 0) (h4 : sp.toNatClampNeg + n.toNatClampNeg ≤ ln a0) (h5 : dp.toNatClampNeg + n.toNatClampNeg ≤ ln a) (k : WR G X Q (pc + 3) L st (A, cpy2 B a0 a sp.toNatClampNeg dp.toNatClampNeg n.toNatClampNeg) S) : WR G X Q pc L (.int n :: .int dp :: .ref a :: .int sp :: .ref a0 :: st) (A, B) S := r_copyl (M := (A, B)) hX hd hl hLn hw hk0 hn0 hk hn h3 h4 h5 k
theorem r_ifb_eq {G : Gm} {X : Cx} {Q : State → Prop} {own : Nat} {cc : ByteArray} {nL d pc : Nat} {L st : List Value} {M : Mm} {S : Sg} {t : Bool} {off : Int} {tgt : Nat} (hX : XK G X own cc nL d) (hd : decode cc pc = .ok (.ifCond .eq off, 3)) (ht : (pc : Int) + off = (tgt : Int)) (kt : t = false → WR G X Q tgt L st M S) (kf : t = true → WR G X Q (pc + 3) L st M S) : WR G X Q pc L (.int (b2i t) :: st) M S :=
  r_if_eq hX hd ht (fun h => kt (by cases t; rfl; exact absurd h (by decide))) (fun h => kf (by cases t; exact absurd rfl h; rfl))
theorem r_ifb_ne {G : Gm} {X : Cx} {Q : State → Prop} {own : Nat} {cc : ByteArray} {nL d pc : Nat} {L st : List Value} {M : Mm} {S : Sg} {t : Bool} {off : Int} {tgt : Nat} (hX : XK G X own cc nL d) (hd : decode cc pc = .ok (.ifCond .ne off, 3)) (ht : (pc : Int) + off = (tgt : Int)) (kt : t = true → WR G X Q tgt L st M S) (kf : t = false → WR G X Q (pc + 3) L st M S) : WR G X Q pc L (.int (b2i t) :: st) M S :=
  r_if_ne hX hd ht (fun h => kt (by cases t; exact absurd rfl h; rfl)) (fun h => kf (by cases t; rfl; exact absurd h (by decide)))
theorem r_lcmp_eq {G : Gm} {X : Cx} {Q : State → Prop} {own : Nat} {cc : ByteArray} {nL d pc : Nat} {L st : List Value} {M : Mm} {S : Sg} {x y : Int64} {off : Int} {tgt : Nat} (hX : XK G X own cc nL d) (hd : decode cc pc = .ok (.lcmp, 1)) (hd2 : decode cc (pc + 1) = .ok (.ifCond .eq off, 3)) (ht : ((pc + 1 : Nat) : Int) + off = (tgt : Int)) (kt : x = y → WR G X Q tgt L st M S) (kf : ¬ x = y → WR G X Q (pc + 4) L st M S) : WR G X Q pc L (.long y :: .long x :: st) M S :=
  r_lcmp hX hd (r_if_eq hX hd2 ht (fun h => kt (lg_cmp0 h)) (fun h => kf (fun e => h (by rw [e]; exact lg_cmpr y))))
theorem r_lcmp_ne {G : Gm} {X : Cx} {Q : State → Prop} {own : Nat} {cc : ByteArray} {nL d pc : Nat} {L st : List Value} {M : Mm} {S : Sg} {x y : Int64} {off : Int} {tgt : Nat} (hX : XK G X own cc nL d) (hd : decode cc pc = .ok (.lcmp, 1)) (hd2 : decode cc (pc + 1) = .ok (.ifCond .ne off, 3)) (ht : ((pc + 1 : Nat) : Int) + off = (tgt : Int)) (kt : ¬ x = y → WR G X Q tgt L st M S) (kf : x = y → WR G X Q (pc + 4) L st M S) : WR G X Q pc L (.long y :: .long x :: st) M S :=
  r_lcmp hX hd (r_if_ne hX hd2 ht (fun h => kt (fun e => h (by rw [e]; exact lg_cmpr y))) (fun h => kf (lg_cmp0 h)))
theorem ne_ti {x c : Int32} {k : Int} (h : ¬ x = c) (hc : c.toInt = k) : x.toInt ≠ k := fun e => h (Int32.toInt_inj.mp (by rw [hc]; exact e))
theorem r_tabEq {G : Gm} {X : Cx} {Q : State → Prop} {own : Nat} {cc : ByteArray} {nL d pc : Nat} {L st : List Value} {M : Mm} {S : Sg} {x c : Int32} {dflt lo hi off : Int} {offs : Array Int} {len tgt : Nat} (hX : XK G X own cc nL d) (hd : decode cc pc = .ok (.tableswitch dflt lo hi offs, len)) (hc : x = c) (h : ¬ c.toInt < lo ∧ ¬ hi < c.toInt ∧ offs[(c.toInt - lo).toNat]? = some off) (ht : (pc : Int) + off = (tgt : Int)) (k : WR G X Q tgt L st M S) : WR G X Q pc L (.int x :: st) M S := by
  subst hc
  exact r_tabIn hX hd h.1 h.2.1 h.2.2 ht k
