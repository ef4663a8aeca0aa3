/-! the model's file as numbers -/
def FR (M : Mm) (g : Nat → Nat) : Prop := (∀ k, k < 64 → M.1 95 k = nI (g k)) ∧ ∀ d, d < g 7 → (∀ w, w < 7 → M.1 95 (64 + 10 * d + w) = nI (g (64 + 10 * d + w))) ∧ M.1 95 (64 + 10 * d + 7) = nI (g (64 + 10 * d + 7)) - 1
/-- all numbers are small -/
def GB (g : Nat → Nat) : Prop := (∀ k, g k < 1048576) ∧ g 7 ≤ 300
theorem GB.lt {g : Nat → Nat} (h : GB g) (k : Nat) : g k < 2 ^ 31 := Nat.lt_trans (h.1 k) (by decide)
theorem nI_z {a : Nat} (h : a < 2 ^ 31) : nI a = (0 : Int32) ↔ a = 0 := nI_inj h (by decide)
theorem Fm_of_e {d w : Nat} {M : Mm} (h : 64 + 10 * d + w < 12256) : Fm_of (nI d) (nI w) M = some (M.1 95 (64 + 10 * d + w)) := by
  have e : (64 : Int32) + (10 : Int32) * nI d + nI w = nI (64 + 10 * d + w) := by
    show nI 64 + nI 10 * nI d + nI w = _
    rw [pk_mul, nI_add, nI_add]
  unfold Fm_of
  rw [e, inb_t h (by decide), grd_t rfl, tn_nI (by omega)]
theorem Fm_sets_e {d w : Nat} {x : Int32} {M : Mm} (h : 64 + 10 * d + w < 12256) : Fm_sets (nI d) (nI w) x M = some (up2 M.1 95 (64 + 10 * d + w) x, M.2) := by
  have e : (64 : Int32) + (10 : Int32) * nI d + nI w = nI (64 + 10 * d + w) := by
    show nI 64 + nI 10 * nI d + nI w = _
    rw [pk_mul, nI_add, nI_add]
  unfold Fm_sets
  rw [e, inb_t h (by decide), grd_t rfl, tn_nI (by omega)]
theorem Fm_in_e {a b c : Nat} {M : Mm} (ha : a < 2 ^ 31) (hb : b < 2 ^ 31) (hc : c < 2 ^ 31) : Fm_in (nI a) (nI b) (nI c) M = some (decide (b ≤ a ∧ a ≤ c)) := by
  unfold Fm_in
  by_cases h1 : a < b
  · rw [if_pos ((nI_ltI ha hb).mpr h1), decide_eq_false (by omega)]
  · rw [if_neg (fun q => h1 ((nI_ltI ha hb).mp q))]
    by_cases h2 : c < a
    · rw [if_pos ((nI_ltI hc ha).mpr h2), decide_eq_false (by omega)]
    · rw [if_neg (fun q => h2 ((nI_ltI hc ha).mp q)), decide_eq_true (by omega)]
section MB
variable {M : Mm} {g : Nat → Nat}
theorem fr0 (hF : FR M g) {k : Nat} (hk : k < 64) : M.1 95 k = nI (g k) := hF.1 k hk
theorem frd (hF : FR M g) {d w : Nat} (hd : d < g 7) (hw : w < 7) : M.1 95 (64 + 10 * d + w) = nI (g (64 + 10 * d + w)) := (hF.2 d hd).1 w hw
theorem tnl (k : Nat) (h : k < 2 ^ 31) : tn (OfNat.ofNat k : Int32) = k := tn_nI h
theorem inbl (k N : Nat) (h : k < N) (hN : N ≤ 2 ^ 31) : inb (OfNat.ofNat k : Int32) N = true := inb_t h hN
theorem Fm_ofd (hF : FR M g) (hG : GB g) {d : Nat} (hd : d < g 7) {w : Nat} (hw : w < 7) : Fm_of (nI d) (nI w) M = some (nI (g (64 + 10 * d + w))) := by
  have := hG.2
  rw [Fm_of_e (by omega), frd hF hd hw]
theorem Fm_isLit_e (hF : FR M g) (hG : GB g) {d : Nat} (hd : d < g 7) : Fm_isLit (nI d) M = some (decide (g (64 + 10 * d + 3) = 0)) := by
  unfold Fm_isLit
  rw [show (3 : Int32) = nI 3 from rfl, Fm_ofd hF hG hd (by decide), bnd_some]
  by_cases h : g (64 + 10 * d + 3) = 0
  · rw [h, decide_eq_true rfl]; rfl
  · rw [if_neg (fun q => h ((nI_z (hG.lt _)).mp q)), decide_eq_false h]
/-- a window keeps from a demand's slots as they are -/
def kfB (g : Nat → Nat) (d l s v : Nat) : Bool := decide (g (64 + 10 * d + 6) &&& l = 0 ∨ g (64 + 10 * d + 4) + g (64 + 10 * d + 5) + g 2 ≤ s ∨ s + v + g 2 ≤ g (64 + 10 * d + 4))
theorem and_lt {a b : Nat} (h : a < 2 ^ 31) : a &&& b < 2 ^ 31 := Nat.lt_of_le_of_lt Nat.and_le_left h
theorem Fm_keepsFrom_e (hF : FR M g) (hG : GB g) {d : Nat} (hd : d < g 7) {l s v : Nat} (hs : s < 2 ^ 20) (hv : v < 2 ^ 20) : Fm_keepsFrom (nI d) (nI l) (nI s) (nI v) M = some (kfB g d l s v) := by
  have b6 := hG.1 (64 + 10 * d + 6)
  have b4 := hG.1 (64 + 10 * d + 4)
  have b5 := hG.1 (64 + 10 * d + 5)
  have b2 := hG.1 2
  unfold Fm_keepsFrom kfB
  rw [show (6 : Int32) = nI 6 from rfl, show (4 : Int32) = nI 4 from rfl, show (5 : Int32) = nI 5 from rfl, Fm_ofd hF hG hd (w := 6) (by decide), bnd_some, fa_and]
  by_cases h1 : g (64 + 10 * d + 6) &&& l = 0
  · rw [if_pos (by rw [h1]; rfl), decide_eq_true (Or.inl h1)]; rfl
  · rw [if_neg (fun q => h1 ((nI_z (and_lt (hG.lt _))).mp q)), Fm_ofd hF hG hd (w := 4) (by decide), bnd_some, Fm_ofd hF hG hd (w := 5) (by decide), bnd_some, inbl 2 12256 (by decide) (by decide), grd_t rfl, tnl 2 (by decide), fr0 hF (by decide), nI_add, nI_add, bnd_some, grd_t rfl, nI_add, nI_add]
    by_cases h2 : g (64 + 10 * d + 4) + g (64 + 10 * d + 5) + g 2 ≤ s
    · rw [if_pos ((nI_leI (by omega) (by omega)).mpr h2), decide_eq_true (Or.inr (Or.inl h2))]; rfl
    · rw [if_neg (fun q => h2 ((nI_leI (by omega) (by omega)).mp q))]
      by_cases h3 : g (64 + 10 * d + 4) < s + v + g 2
      · rw [if_pos ((nI_ltI (by omega) (by omega)).mpr h3), decide_eq_false (by omega)]
      · rw [if_neg (fun q => h3 ((nI_ltI (by omega) (by omega)).mp q)), decide_eq_true (by omega)]; rfl
/-- the lowest lit demand, but for one, on whose account a window does not fit -/
def agP (g : Nat → Nat) (l s v : Nat) (but : Option Nat) (d : Nat) : Bool := decide (some d ≠ but) && decide (g (64 + 10 * d + 3) = 0) && !(kfB g d l s v)
def agS (g : Nat → Nat) (l s v : Nat) (but : Option Nat) : Option Nat := fstP (agP g l s v but) 0 (g 7)
def oI (x : Option Nat) : Int32 := match x with | some k => nI k | none => -1
theorem oI_eq {d : Nat} (hd : d < 2 ^ 31) {but : Option Nat} (hb : ∀ k, but = some k → k < 2 ^ 31) : nI d = oI but ↔ some d = but := by
  cases but with
  | none => exact ⟨fun h => absurd h (nI_m1 hd), fun h => by cases h⟩
  | some k => exact ⟨fun h => by rw [(nI_inj hd (hb k rfl)).mp h], fun h => by cases h; rfl⟩
theorem Fm_against_e (hF : FR M g) (hG : GB g) {l s v n : Nat} {but : Option Nat} (hb : ∀ k, but = some k → k < 2 ^ 31) (hs : s < 2 ^ 20) (hv : v < 2 ^ 20) (hn : 300 < n) : Fm_against n (nI l) (nI s) (nI v) (oI but) M = some (oI (agS g l s v but)) := by
  have h7 := hG.2
  have step : ∀ i, i < g 7 → Fm_against_b3 (nI l) (nI s) (nI v) (oI but) M (nI i) = if agP g l s v but i = true then some (.inr (.inr (nI i))) else some (.inl (nI (i + 1))) := by
    intro i hi
    unfold Fm_against_b3 Fm_against_j46 agP
    rw [inbl 7 12256 (by decide) (by decide), grd_t rfl, tnl 7 (by decide), fr0 hF (by decide), if_neg (nI_ge hi (hG.lt _))]
    by_cases h1 : some i = but
    · rw [if_pos ((oI_eq (by omega) hb).mpr h1)]
      simp [h1, nI_1]
    · rw [if_neg (fun q => h1 ((oI_eq (by omega) hb).mp q)), Fm_isLit_e hF hG hi, bnd_some]
      by_cases h2 : g (64 + 10 * i + 3) = 0
      · rw [decide_eq_true h2, if_pos rfl, Fm_keepsFrom_e hF hG hi hs hv, bnd_some]
        cases h3 : kfB g i l s v <;> simp [h1, h2, h3, nI_1]
      · rw [decide_eq_false h2]
        simp [h1, h2, nI_1]
  have hlp := loop_fst (body := fun s1 : Int32 => Fm_against_b3 (nI l) (nI s) (nI v) (oI but) M s1) nI (agP g l s v but) (g 7) (.inl ()) (fun i => .inr (nI i)) (fun i hi hp => by rw [step i hi, hp]; rfl) (fun i hi hp => by rw [step i hi, if_pos hp]) (by
    show Fm_against_b3 _ _ _ _ _ _ = _
    unfold Fm_against_b3
    rw [inbl 7 12256 (by decide) (by decide), grd_t rfl, tnl 7 (by decide), fr0 hF (by decide), if_pos (nI_le (Nat.le_refl _) (hG.lt _))]) (g 7) 0 n (by omega) (by omega)
  unfold Fm_against
  rw [show (0 : Int32) = nI 0 from rfl, hlp, bnd_some]
  show elS (match agS g l s v but with | some j => Sum.inr (nI j) | none => Sum.inl ()) _ _ = _
  cases agS g l s v but <;> rfl
def fitB (g : Nat → Nat) (l s v : Nat) (but : Option Nat) : Bool := decide (s + v ≤ g 1) && (agS g l s v but).isNone
theorem Fm_fits_e (hF : FR M g) (hG : GB g) {l s v n : Nat} {but : Option Nat} (hb : ∀ k, but = some k → k < 2 ^ 31) (hs : s < 2 ^ 20) (hv : v < 2 ^ 20) (hn : 300 < n) : Fm_fits n (nI l) (nI s) (nI v) (oI but) M = some (fitB g l s v but) := by
  have b1 := hG.1 1
  unfold Fm_fits fitB
  rw [if_neg (nI_nneg (by omega)), inbl 1 12256 (by decide) (by decide), grd_t rfl, tnl 1 (by decide), fr0 hF (by decide), nI_add]
  by_cases h : g 1 < s + v
  · rw [if_pos ((nI_ltI (by omega) (by omega)).mpr h), decide_eq_false (by omega)]; rfl
  · rw [if_neg (fun q => h ((nI_ltI (by omega) (by omega)).mp q)), decide_eq_true (by omega), Fm_against_e hF hG hb hs hv hn, bnd_some]
    cases hx : agS g l s v but with
    | none => rfl
    | some k =>
      have hk := (fstP_some hx).2.1
      have := hG.2
      rw [if_neg (show ¬ oI (some k) = -1 from nI_m1 (by omega))]
      rfl
end MB
