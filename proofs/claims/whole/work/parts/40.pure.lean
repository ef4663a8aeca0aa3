/-! plain facts for reasoning about the functions -/
theorem grd_t {α : Type} {b : Bool} {x : Option α} (h : b = true) : grd b x = x := if_pos h
theorem bnd_e {α β : Type} {x : Option α} {a : α} {f : α → Option β} (h : x = some a) : bnd x f = f a := by rw [h]; rfl
theorem bnd_some {α β : Type} {a : α} {f : α → Option β} : bnd (some a) f = f a := rfl
theorem elS_l {α β γ : Type} {a : α} {f : α → γ} {g : β → γ} : elS (.inl a) f g = f a := rfl
theorem elS_r {α β γ : Type} {b : β} {f : α → γ} {g : β → γ} : elS (.inr b) f g = g b := rfl
theorem inb_t {a N : Nat} (h : a < N) (hN : N ≤ 2 ^ 31) : inb (nI a) N = true := by
  have h1 : (nI a).toInt = (a : Int) := nI_toInt (by omega)
  simp only [inb, h1, decide_eq_true_eq]
  omega
theorem tn_nI {a : Nat} (h : a < 2 ^ 31) : tn (nI a) = a := nI_clamp h
theorem nlit (k : Nat) : (OfNat.ofNat k : Int32) = nI k := rfl
theorem nI_inj {a b : Nat} (ha : a < 2 ^ 31) (hb : b < 2 ^ 31) : nI a = nI b ↔ a = b := nI_eq ha hb
theorem nI_m1 {a : Nat} (ha : a < 2 ^ 31) : ¬ nI a = -1 := by
  intro h
  have h1 := congrArg Int32.toInt h
  rw [nI_toInt ha] at h1
  have h2 : (-1 : Int32).toInt = -1 := by decide
  omega
theorem nI_nneg {a : Nat} (ha : a < 2 ^ 31) : ¬ nI a < (0 : Int32) := nI_pos ha
theorem loop_for {σ ρ : Type} {body : σ → Option (σ ⊕ ρ)} (st : Nat → σ) (N : Nat) (r : ρ) (hs : ∀ i, i < N → body (st i) = some (.inl (st (i + 1)))) (hN : body (st N) = some (.inr r)) : ∀ (k i n : Nat), i + k = N → k < n → loop body n (st i) = some r := by
  intro k
  induction k with
  | zero =>
    intro i n hi hn
    match n, hn with
    | n + 1, _ =>
      have e : i = N := by omega
      subst e
      simp only [loop, hN]
  | succ k ih =>
    intro i n hi hn
    match n, hn with
    | n + 1, hn =>
      simp only [loop, hs i (by omega)]
      exact ih (i + 1) n (by omega) (by omega)
theorem loop_zero {σ ρ : Type} {body : σ → Option (σ ⊕ ρ)} (st : Nat → σ) (N : Nat) (r : ρ) (hs : ∀ i, i < N → body (st i) = some (.inl (st (i + 1)))) (hN : body (st N) = some (.inr r)) {n : Nat} (hn : N < n) : loop body n (st 0) = some r := loop_for st N r hs hN N 0 n (by omega) hn
/-- the first from i on, of k -/
def fstP (P : Nat → Bool) : Nat → Nat → Option Nat
  | _, 0 => none
  | i, k + 1 => if P i = true then some i else fstP P (i + 1) k
theorem fstP_some {P : Nat → Bool} : ∀ {k i j : Nat}, fstP P i k = some j → i ≤ j ∧ j < i + k ∧ P j = true ∧ ∀ m, i ≤ m → m < j → P m = false
  | 0, _, _, h => by cases h
  | k + 1, i, j, h => by
    unfold fstP at h
    by_cases hp : P i = true
    · rw [if_pos hp] at h
      cases h
      exact ⟨Nat.le_refl _, by omega, hp, fun m h1 h2 => absurd h2 (by omega)⟩
    · rw [if_neg hp] at h
      obtain ⟨h1, h2, h3, h4⟩ := fstP_some h
      refine ⟨by omega, by omega, h3, fun m g1 g2 => ?_⟩
      by_cases e : m = i
      · subst e; simpa using hp
      · exact h4 m (by omega) g2
theorem fstP_none {P : Nat → Bool} : ∀ {k i : Nat}, fstP P i k = none ↔ ∀ m, i ≤ m → m < i + k → P m = false
  | 0, i => ⟨fun _ m h1 h2 => absurd h2 (by omega), fun _ => rfl⟩
  | k + 1, i => by
    unfold fstP
    by_cases hp : P i = true
    · rw [if_pos hp]
      exact ⟨fun h => (by cases h), fun h => (by rw [h i (Nat.le_refl _) (by omega)] at hp; cases hp)⟩
    · rw [if_neg hp, fstP_none]
      refine ⟨fun h m g1 g2 => ?_, fun h m g1 g2 => h m (by omega) (by omega)⟩
      by_cases e : m = i
      · subst e; simpa using hp
      · exact h m (by omega) (by omega)
theorem fstP_congr {P Q : Nat → Bool} : ∀ {k i : Nat}, (∀ m, i ≤ m → m < i + k → P m = Q m) → fstP P i k = fstP Q i k
  | 0, _, _ => rfl
  | k + 1, i, h => by
    unfold fstP
    rw [h i (Nat.le_refl _) (by omega), fstP_congr (fun m g1 g2 => h m (by omega) (by omega))]
/-- a loop that looks for the first -/
theorem loop_fst {σ ρ : Type} {body : σ → Option (σ ⊕ ρ)} (st : Nat → σ) (P : Nat → Bool) (N : Nat) (rn : ρ) (rs : Nat → ρ) (h1 : ∀ i, i < N → P i = false → body (st i) = some (.inl (st (i + 1)))) (h2 : ∀ i, i < N → P i = true → body (st i) = some (.inr (rs i))) (h3 : body (st N) = some (.inr rn)) : ∀ (k i n : Nat), i + k = N → k < n → loop body n (st i) = some (match fstP P i k with | some j => rs j | none => rn) := by
  intro k
  induction k with
  | zero =>
    intro i n hi hn
    match n, hn with
    | n + 1, _ =>
      have e : i = N := by omega
      subst e
      simp only [loop, h3, fstP]
  | succ k ih =>
    intro i n hi hn
    match n, hn with
    | n + 1, hn =>
      by_cases hp : P i = true
      · simp only [loop, h2 i (by omega) hp, fstP, if_pos hp]
      · simp only [loop, h1 i (by omega) (by simpa using hp), fstP, if_neg hp]
        exact ih (i + 1) n (by omega) (by omega)
/-! what a function leaves as it was -/
def Fr (P : Nat → Nat → Prop) (M M' : Mm) : Prop := ∀ c j, ¬ P c j → M'.1 c j = M.1 c j ∧ M'.2 c j = M.2 c j
theorem Fr.rf {P : Nat → Nat → Prop} {M : Mm} : Fr P M M := fun _ _ _ => ⟨rfl, rfl⟩
theorem Fr.tr {P : Nat → Nat → Prop} {M M1 M2 : Mm} (h1 : Fr P M M1) (h2 : Fr P M1 M2) : Fr P M M2 := fun c j h => ⟨(h2 c j h).1.trans (h1 c j h).1, (h2 c j h).2.trans (h1 c j h).2⟩
theorem Fr.mono {P Q : Nat → Nat → Prop} {M M' : Mm} (h : Fr P M M') (hq : ∀ c j, P c j → Q c j) : Fr Q M M' := fun c j hn => h c j (fun p => hn (hq c j p))
theorem Fr.I {P : Nat → Nat → Prop} {M : Mm} {A : Nat → Nat → Int32} {B : Nat → Nat → Int64} {a j : Nat} {x : Int32} (h : Fr P M (A, B)) (hp : P a j) : Fr P M (up2 A a j x, B) := fun c i hn => ⟨(if_neg (fun e => hn (by rw [e.1, e.2]; exact hp))).trans (h c i hn).1, (h c i hn).2⟩
theorem Fr.L {P : Nat → Nat → Prop} {M : Mm} {A : Nat → Nat → Int32} {B : Nat → Nat → Int64} {a j : Nat} {x : Int64} (h : Fr P M (A, B)) (hp : P a j) : Fr P M (A, up2 B a j x) := fun c i hn => ⟨(h c i hn).1, (if_neg (fun e => hn (by rw [e.1, e.2]; exact hp))).trans (h c i hn).2⟩
theorem Fr.cI {P : Nat → Nat → Prop} {M : Mm} {A : Nat → Nat → Int32} {B : Nat → Nat → Int64} {a a0 sp dp n : Nat} (h : Fr P M (A, B)) (hp : ∀ j, P a j) : Fr P M (cpy2 A a0 a sp dp n, B) := fun c i hn => ⟨(cpy2_ne (fun e => hn (by rw [e]; exact hp i))).trans (h c i hn).1, (h c i hn).2⟩
theorem Fr.cL {P : Nat → Nat → Prop} {M : Mm} {A : Nat → Nat → Int32} {B : Nat → Nat → Int64} {a a0 sp dp n : Nat} (h : Fr P M (A, B)) (hp : ∀ j, P a j) : Fr P M (A, cpy2 B a0 a sp dp n) := fun c i hn => ⟨(h c i hn).1, (cpy2_ne (fun e => hn (by rw [e]; exact hp i))).trans (h c i hn).2⟩
theorem Fr.eta {P : Nat → Nat → Prop} {M M' : Mm} (h : Fr P M M') : Fr P M (M'.1, M'.2) := h
theorem up2_at {α : Type} {f : Nat → Nat → α} {a j : Nat} {v : α} : up2 f a j v a j = v := if_pos ⟨rfl, rfl⟩
theorem up2_no {α : Type} {f : Nat → Nat → α} {a j b i : Nat} {v : α} (h : ¬ (b = a ∧ i = j)) : up2 f a j v b i = f b i := if_neg h
