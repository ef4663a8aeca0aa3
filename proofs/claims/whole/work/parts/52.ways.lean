/-! ways as lists: (length, many, nodes, links) -/
abbrev We : Type := Nat × Nat × Nat × Nat
def ahB (a b : We) : Bool := decide (a.1 < b.1 ∨ a.1 = b.1 ∧ (a.2.1 < b.2.1 ∨ a.2.1 = b.2.1 ∧ a.2.2.1 < b.2.2.1))
def ahC (a b : We) : Bool := decide (a.1 < b.1 ∨ a.1 = b.1 ∧ a.2.1 < b.2.1)
def insW (lt : We → We → Bool) (e : We) : List We → List We
  | [] => [e]
  | x :: L => if lt e x = true then e :: x :: L else x :: insW lt e L
def bubW (lt : We → We → Bool) (e : We) : List We → List We
  | [] => [e]
  | x :: R => if lt e x = true then bubW lt e R ++ [x] else (x :: R).reverse ++ [e]
def T4 (lt : We → We → Bool) (L : List We) (e : We) : List We := (insW lt e L).take 4
theorem insW_len (lt : We → We → Bool) (e : We) : ∀ L, (insW lt e L).length = L.length + 1
  | [] => rfl
  | x :: L => by
    unfold insW
    by_cases h : lt e x = true
    · rw [if_pos h]; rfl
    · rw [if_neg h, List.length_cons, insW_len lt e L]; rfl
theorem insW_mem {lt : We → We → Bool} {e y : We} : ∀ {L}, y ∈ insW lt e L ↔ y = e ∨ y ∈ L
  | [] => by unfold insW; simp
  | x :: L => by
    unfold insW
    by_cases h : lt e x = true
    · rw [if_pos h]; simp
    · rw [if_neg h, List.mem_cons, insW_mem, List.mem_cons]
      constructor
      · rintro (h | h | h)
        · exact .inr (.inl h)
        · exact .inl h
        · exact .inr (.inr h)
      · rintro (h | h | h)
        · exact .inr (.inl h)
        · exact .inl h
        · exact .inr (.inr h)
theorem insW_take {lt : We → We → Bool} {e : We} : ∀ (k : Nat) (L : List We), (insW lt e (L.take k)).take k = (insW lt e L).take k
  | 0, _ => by simp
  | k + 1, [] => by simp
  | k + 1, x :: L => by
    rw [List.take_succ_cons]
    unfold insW
    by_cases h : lt e x = true
    · rw [if_pos h, if_pos h]
      rw [List.take_succ_cons, List.take_succ_cons]
      congr 1
      cases k with
      | zero => simp
      | succ k => rw [List.take_succ_cons, List.take_succ_cons, List.take_take, Nat.min_eq_left (by omega)]
    · rw [if_neg h, if_neg h, List.take_succ_cons, List.take_succ_cons, insW_take k L]
theorem ah_irr (a : We) : ahB a a = false := by unfold ahB; exact decide_eq_false (by omega)
theorem ah_asym {a b : We} (h : ahB a b = true) : ahB b a = false := by
  unfold ahB at h ⊢
  rw [decide_eq_true_eq] at h
  exact decide_eq_false (by omega)
theorem ah_tr {a b c : We} (h : ahB a b = true) (h2 : ahB b c = true) : ahB a c = true := by
  unfold ahB at h h2 ⊢
  rw [decide_eq_true_eq] at h h2 ⊢
  omega
theorem ah_ntr {a b c : We} (h : ahB b a = false) (h2 : ahB c b = false) : ahB c a = false := by
  unfold ahB at h h2 ⊢
  rw [decide_eq_false_iff_not] at h h2 ⊢
  omega
theorem ins_comm {x y : We} (hk : ahB x y = true ∨ ahB y x = true ∨ x = y) : ∀ L, insW ahB x (insW ahB y L) = insW ahB y (insW ahB x L) := by
  rcases hk with h | h | h
  · have h' := ah_asym h
    intro L
    induction L with
    | nil => simp [insW, h, h']
    | cons z L ih =>
      by_cases h1 : ahB y z = true
      · have h2 := ah_tr h h1
        simp [insW, h1, h2, h, h']
      · by_cases h2 : ahB x z = true
        · simp [insW, h1, h2, h']
        · simp [insW, h1, h2, ih]
  · have h' := ah_asym h
    intro L
    induction L with
    | nil => simp [insW, h, h']
    | cons z L ih =>
      by_cases h1 : ahB x z = true
      · have h2 := ah_tr h h1
        simp [insW, h1, h2, h, h']
      · by_cases h2 : ahB y z = true
        · simp [insW, h1, h2, h']
        · simp [insW, h1, h2, ih]
  · intro L; rw [h]
theorem T4_comm {x y : We} (hk : ahB x y = true ∨ ahB y x = true ∨ x = y) (L : List We) : T4 ahB (T4 ahB L x) y = T4 ahB (T4 ahB L y) x := by
  unfold T4
  rw [insW_take, insW_take, ins_comm hk]
def sortedW (L : List We) : Prop := L.Pairwise (fun a b => ahB b a = false)
theorem ins_sorted {e : We} : ∀ {L}, sortedW L → sortedW (insW ahB e L)
  | [], _ => by unfold insW sortedW; simp
  | x :: L, h => by
    unfold sortedW at h ⊢
    rw [List.pairwise_cons] at h
    unfold insW
    by_cases q : ahB e x = true
    · rw [if_pos q, List.pairwise_cons, List.pairwise_cons]
      refine ⟨fun a ha => ?_, h⟩
      rcases List.mem_cons.mp ha with ha | ha
      · rw [ha]; exact ah_asym q
      · exact ah_ntr (ah_asym q) (h.1 a ha)
    · rw [if_neg q, List.pairwise_cons]
      refine ⟨fun a ha => ?_, ins_sorted h.2⟩
      rcases insW_mem.mp ha with ha | ha
      · rw [ha]; simpa using q
      · exact h.1 a ha
theorem T4_sorted {e : We} {L : List We} (h : sortedW L) : sortedW (T4 ahB L e) := (ins_sorted h).take
theorem T4_len {lt : We → We → Bool} {L : List We} {e : We} : (T4 lt L e).length ≤ 4 := by
  unfold T4
  rw [List.length_take]; omega
theorem T4_mem {lt : We → We → Bool} {L : List We} {e y : We} (h : y ∈ T4 lt L e) : y = e ∨ y ∈ L := insW_mem.mp (List.mem_of_mem_take h)
theorem ins_snoc_t {lt : We → We → Bool} {e x : We} (h : lt e x = true) : ∀ L, insW lt e (L ++ [x]) = insW lt e L ++ [x]
  | [] => by simp [insW, h]
  | z :: L => by
    rw [List.cons_append]
    unfold insW
    by_cases q : lt e z = true
    · rw [if_pos q, if_pos q]; rfl
    · rw [if_neg q, if_neg q, ins_snoc_t h L]; rfl
theorem ins_end {lt : We → We → Bool} {e : We} : ∀ L, (∀ z, z ∈ L → lt e z = false) → insW lt e L = L ++ [e]
  | [], _ => rfl
  | z :: L, h => by
    unfold insW
    rw [if_neg (by rw [h z (List.mem_cons_self ..)]; decide), ins_end L (fun y hy => h y (List.mem_cons_of_mem _ hy))]
    rfl
theorem bub_ins {lt : We → We → Bool} {e : We} (hl : ∀ x z, lt e x = false → lt x z = false → lt e z = false) : ∀ R : List We, R.Pairwise (fun a b => lt a b = false) → bubW lt e R = insW lt e R.reverse
  | [], _ => rfl
  | x :: R, h => by
    rw [List.pairwise_cons] at h
    unfold bubW
    rw [List.reverse_cons]
    by_cases q : lt e x = true
    · rw [if_pos q, bub_ins hl R h.2, ins_snoc_t q]
    · rw [if_neg q, ← List.reverse_cons, ins_end]
      intro z hz
      rw [List.mem_reverse, List.mem_cons] at hz
      rcases hz with hz | hz
      · rw [hz]; simpa using q
      · exact hl x z (by simpa using q) (h.1 z hz)
/-- what an enumeration of ways yields -/
def extW (len : Nat → Nat) (e : We) (p : Nat × Nat) : We := (e.1 + len p.2, e.2.1 + 1, 8 * e.2.2.1 + p.1, e.2.2.2 ||| 2 ^ p.2)
def pthW (ch : Nat → List (Nat × Nat)) (len : Nat → Nat) (goal : Nat) : Nat → Nat → Nat → We → List We
  | 0, v, _, e => if v = goal then [e] else []
  | k + 1, v, seen, e => if v = goal then [e] else (ch v).flatMap (fun p => if seen.testBit p.1 = true then [] else pthW ch len goal k p.1 (seen ||| 2 ^ p.1) (extW len e p))
theorem flatMap_perm {α β : Type} {f h : α → List β} : ∀ (L : List α), (∀ a, a ∈ L → (f a).Perm (h a)) → (L.flatMap f).Perm (L.flatMap h)
  | [], _ => by simp
  | a :: L, hp => by
    rw [List.flatMap_cons, List.flatMap_cons]
    exact (hp a (List.mem_cons_self ..)).append (flatMap_perm L (fun b hb => hp b (List.mem_cons_of_mem _ hb)))
theorem pth_perm {c1 c2 : Nat → List (Nat × Nat)} {len : Nat → Nat} {goal : Nat} (hc : ∀ v, v < 8 → (c1 v).Perm (c2 v)) (hb : ∀ v p, p ∈ c1 v → p.1 < 8) : ∀ k v seen e, v < 8 → (pthW c1 len goal k v seen e).Perm (pthW c2 len goal k v seen e)
  | 0, v, seen, e, _ => List.Perm.refl _
  | k + 1, v, seen, e, hv => by
    unfold pthW
    by_cases h : v = goal
    · rw [if_pos h, if_pos h]
    · rw [if_neg h, if_neg h]
      refine (flatMap_perm (c1 v) (fun p hp => ?_)).trans (List.Perm.flatMap_right _ (hc v hv))
      by_cases q : seen.testBit p.1 = true
      · rw [if_pos q, if_pos q]
      · rw [if_neg q, if_neg q]; exact pth_perm hc hb k _ _ _ (hb v p hp)
/-- links and length out of the nodes -/
def lkW (f : Nat → Nat → Nat) : Nat → Nat → Nat
  | 0, _ => 0
  | m + 1, nd => lkW f m (nd / 8) ||| 2 ^ f (nd / 8 % 8) (nd % 8)
def lnW (len : Nat → Nat) (f : Nat → Nat → Nat) : Nat → Nat → Nat
  | 0, _ => 0
  | m + 1, nd => lnW len f m (nd / 8) + len (f (nd / 8 % 8) (nd % 8))
def decW (len : Nat → Nat) (f : Nat → Nat → Nat) (v : Nat) (e : We) : Prop := e.2.2.1 % 8 = v ∧ e.2.2.2 = lkW f e.2.1 e.2.2.1 ∧ e.1 = lnW len f e.2.1 e.2.2.1
theorem ext_dec {len : Nat → Nat} {f : Nat → Nat → Nat} {v : Nat} {e : We} {p : Nat × Nat} (h : decW len f v e) (hp : p.2 = f v p.1) (hx : p.1 < 8) : decW len f p.1 (extW len e p) := by
  obtain ⟨h1, h2, h3⟩ := h
  have e1 : (8 * e.2.2.1 + p.1) / 8 = e.2.2.1 := by omega
  have e2 : (8 * e.2.2.1 + p.1) % 8 = p.1 := by omega
  refine ⟨e2, ?_, ?_⟩
  · show e.2.2.2 ||| 2 ^ p.2 = lkW f e.2.1 ((8 * e.2.2.1 + p.1) / 8) ||| 2 ^ f ((8 * e.2.2.1 + p.1) / 8 % 8) ((8 * e.2.2.1 + p.1) % 8)
    rw [e1, e2, h1, ← hp, h2]
  · show e.1 + len p.2 = lnW len f e.2.1 ((8 * e.2.2.1 + p.1) / 8) + len (f ((8 * e.2.2.1 + p.1) / 8 % 8) ((8 * e.2.2.1 + p.1) % 8))
    rw [e1, e2, h1, ← hp, h3]
theorem pth_dec {ch : Nat → List (Nat × Nat)} {len : Nat → Nat} {goal : Nat} {f : Nat → Nat → Nat} (hc : ∀ v p, p ∈ ch v → p.2 = f v p.1 ∧ p.1 < 8) : ∀ k v seen e, decW len f v e → ∀ y, y ∈ pthW ch len goal k v seen e → decW len f goal y
  | 0, v, seen, e, h, y, hy => by
    unfold pthW at hy
    by_cases q : v = goal
    · rw [if_pos q, List.mem_singleton] at hy; rw [hy, ← q]; exact h
    · rw [if_neg q] at hy; cases hy
  | k + 1, v, seen, e, h, y, hy => by
    unfold pthW at hy
    by_cases q : v = goal
    · rw [if_pos q, List.mem_singleton] at hy; rw [hy, ← q]; exact h
    · rw [if_neg q, List.mem_flatMap] at hy
      obtain ⟨p, hp, hy⟩ := hy
      by_cases q2 : seen.testBit p.1 = true
      · rw [if_pos q2] at hy; cases hy
      · rw [if_neg q2] at hy
        exact pth_dec hc k _ _ _ (ext_dec h (hc v p hp).1 (hc v p hp).2) y hy
theorem dec_key {len : Nat → Nat} {f : Nat → Nat → Nat} {v : Nat} {x y : We} (hx : decW len f v x) (hy : decW len f v y) : ahB x y = true ∨ ahB y x = true ∨ x = y := by
  by_cases h1 : ahB x y = true
  · exact .inl h1
  · by_cases h2 : ahB y x = true
    · exact .inr (.inl h2)
    · refine .inr (.inr ?_)
      unfold ahB at h1 h2
      rw [decide_eq_true_eq] at h1 h2
      have e1 : x.2.1 = y.2.1 := by omega
      have e2 : x.2.2.1 = y.2.2.1 := by omega
      have e3 : x.1 = y.1 := by rw [hx.2.2, hy.2.2, e1, e2]
      have e4 : x.2.2.2 = y.2.2.2 := by rw [hx.2.1, hy.2.1, e1, e2]
      obtain ⟨a, b, c, d⟩ := x
      obtain ⟨a', b', c', d'⟩ := y
      simp only at e1 e2 e3 e4
      rw [e1, e2, e3, e4]
theorem fold_perm {c1 c2 : Nat → List (Nat × Nat)} {len : Nat → Nat} {goal : Nat} {f : Nat → Nat → Nat} (hc : ∀ v, v < 8 → (c1 v).Perm (c2 v)) (hd : ∀ v p, p ∈ c1 v → p.2 = f v p.1 ∧ p.1 < 8) {k v seen : Nat} {e : We} (h : decW len f v e) (hv : v < 8) : (pthW c1 len goal k v seen e).foldl (T4 ahB) [] = (pthW c2 len goal k v seen e).foldl (T4 ahB) [] :=
  (pth_perm hc (fun v p hp => (hd v p hp).2) k v seen e hv).foldl_eq' (fun x hx y hy z => T4_comm (dec_key (pth_dec hd k v seen e h x hx) (pth_dec hd k v seen e h y hy)) z) []
