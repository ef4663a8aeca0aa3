/-! the world: what the class and the model hold between calls -/
abbrev Ab : Type := (Nat → Nat) × Option (Nat → Nat) × Nat × (Nat → Nat)
def KK (M : Mm) (k : Option (Nat → Nat)) : Prop := match k with | none => M.1 0 8 = nI 0 | some kg => M.1 0 8 = nI 1 ∧ SV M 36 kg
def KH (M : Mm) (k : Option (Nat → Nat)) (h : Nat → Int32) : Prop := match k with | none => M.1 94 2 = nI 0 | some kg => M.1 94 2 = nI 1 ∧ ∀ j, j < 3064 → h (3064 + j) = iv kg j
def KC (M : Mm) (A : Ab) : Prop := (SV M 18 A.1 ∧ CA M A.1) ∧ (M.1 1 1 = nI A.2.2.1 ∧ ∀ i, i < 240 → M.1 2 i = nI (A.2.2.2 i)) ∧ KK M A.2.1
def KM (M : Mm) (A : Ab) : Prop := (∃ h, FK M A.1 h ∧ KH M A.2.1 h) ∧ M.1 94 4 = nI A.2.2.1 ∧ ∀ i, i < 240 → M.1 97 i &&& nI 255 = nI (A.2.2.2 i)
def VA (A : Ab) : Prop := GV A.1 ∧ (∀ kg, A.2.1 = some kg → GV kg) ∧ A.2.2.1 ≤ 240 ∧ ∀ i, A.2.2.2 i < 256
def PC (c j : Nat) : Prop := (12 ≤ c ∧ c < 36) ∨ (54 ≤ c ∧ c < 94) ∨ c = 115
def PM (c j : Nat) : Prop := c = 95 ∨ (98 ≤ c ∧ c < 113) ∨ (c = 94 ∧ 13 ≤ j)
def TC {ρ : Type} (f : Mm → Option (ρ × Mm)) (M : Mm) (r : ρ) (g' : Nat → Nat) : Prop := ∃ M1, f M = some (r, M1) ∧ SV M1 18 g' ∧ CA M1 g' ∧ Fr PC M M1
def TM {ρ : Type} (f : Mm → Option (ρ × Mm)) (M : Mm) (h : Nat → Int32) (r : ρ) (g' : Nat → Nat) : Prop := ∃ M2 h', f M = some (r, M2) ∧ FK M2 g' h' ∧ (∀ j, j < 3064 → h' (3064 + j) = h (3064 + j)) ∧ Fr PM M M2
def T2 {ρ : Type} (fc fm : Mm → Option (ρ × Mm)) : Prop := ∀ g, GV g → ∃ r g', GV g' ∧ (∀ M, SV M 18 g → CA M g → TC fc M r g') ∧ ∀ M h, FK M g h → TM fm M h r g'
def OK2 {ρ : Type} (fc fm : Mm → Option (ρ × Mm)) : Prop := ∀ (A : Ab) (M : Mm), VA A → KC M A → KM M A → ∃ r M1 M2 A', fc M = some (r, M1) ∧ fm M1 = some (r, M2) ∧ VA A' ∧ KC M2 A' ∧ KM M2 A'
theorem KK.fr {P : Nat → Nat → Prop} {M M' : Mm} {k : Option (Nat → Nat)} (h : KK M k) (hf : Fr P M M') (np : ∀ c j, (c = 0 ∨ 36 ≤ c ∧ c < 54) → ¬ P c j) : KK M' k := by
  cases k with
  | none => exact (hf 0 8 (np _ _ (by omega))).1.trans h
  | some kg => exact ⟨(hf 0 8 (np _ _ (by omega))).1.trans h.1, h.2.fr hf (fun k j hk => np _ _ (by omega))⟩
theorem KH.fr {P : Nat → Nat → Prop} {M M' : Mm} {k : Option (Nat → Nat)} {h h' : Nat → Int32} (hk : KH M k h) (hf : Fr P M M') (np : ¬ P 94 2) (hh : ∀ j, j < 3064 → h' (3064 + j) = h (3064 + j)) : KH M' k h' := by
  cases k with
  | none => exact (hf 94 2 np).1.trans hk
  | some kg => exact ⟨(hf 94 2 np).1.trans hk.1, fun j hj => (hh j hj).trans (hk.2 j hj)⟩
theorem KC.fr {P : Nat → Nat → Prop} {M M' : Mm} {A : Ab} (h : KC M A) (hf : Fr P M M') (hp : ∀ c j, P c j → 94 ≤ c ∧ c ≠ 115) : KC M' A := by
  obtain ⟨⟨h1, h2⟩, ⟨h3, h4⟩, h5⟩ := h
  have np : ∀ c j, c < 94 ∨ c = 115 → ¬ P c j := fun c j hc q => by have := hp c j q; omega
  exact ⟨⟨h1.fr hf (fun k j hk => np _ _ (by omega)), h2.fr hf (fun j => ⟨np _ _ (by omega), np _ _ (by omega), np _ _ (by omega), np _ _ (by omega), np _ _ (by omega)⟩)⟩, ⟨(hf 1 1 (np _ _ (by omega))).1.trans h3, fun i hi => (hf 2 i (np _ _ (by omega))).1.trans (h4 i hi)⟩, h5.fr hf (fun c j hc => np _ _ (by omega))⟩
theorem KM.fr {P : Nat → Nat → Prop} {M M' : Mm} {A : Ab} (h : KM M A) (hf : Fr P M M') (hp : ∀ c j, P c j → c < 94 ∨ c = 115) : KM M' A := by
  obtain ⟨⟨h0, h1, h2⟩, h3, h4⟩ := h
  have np : ∀ c j, 94 ≤ c ∧ c ≠ 115 → ¬ P c j := fun c j hc q => by have := hp c j q; omega
  exact ⟨⟨h0, h1.fr hf (fun j => np _ _ (by omega)), h2.fr hf (np _ _ (by omega)) (fun _ _ => rfl)⟩, (hf 94 4 (np _ _ (by omega))).1.trans h3, fun i hi => by rw [(hf 97 i (np _ _ (by omega))).1]; exact h4 i hi⟩
theorem KC.st {M M' : Mm} {A : Ab} {g' : Nat → Nat} (h : KC M A) (hf : Fr PC M M') (hs : SV M' 18 g') (ha : CA M' g') : KC M' (g', A.2) := by
  obtain ⟨⟨h1, h2⟩, ⟨h3, h4⟩, h5⟩ := h
  exact ⟨⟨hs, ha⟩, ⟨(hf 1 1 (by unfold PC; omega)).1.trans h3, fun i hi => (hf 2 i (by unfold PC; omega)).1.trans (h4 i hi)⟩, h5.fr hf (fun c j hc => by unfold PC; omega)⟩
theorem OK2_of {ρ : Type} {fc fm : Mm → Option (ρ × Mm)} (h : T2 fc fm) : OK2 fc fm := by
  intro A M hv hc hm
  obtain ⟨r, g', v', t1, t2⟩ := h A.1 hv.1
  obtain ⟨M1, a1, a2, a3, a4⟩ := t1 M hc.1.1 hc.1.2
  obtain ⟨⟨h0, m1, m2⟩, m3, m4⟩ := hm.fr a4 (fun c j q => by unfold PC at q; omega)
  obtain ⟨M2, h', b1, b2, b3, b4⟩ := t2 M1 h0 m1
  refine ⟨r, M1, M2, (g', A.2), a1, b1, ⟨v', hv.2⟩, (hc.st a4 a2 a3).fr b4 (fun c j q => by unfold PM at q; omega), ⟨h', b2, m2.fr b4 (by unfold PM; omega) b3⟩, (b4 94 4 (by unfold PM; omega)).1.trans m3, fun i hi => ?_⟩
  rw [(b4 97 i (by unfold PM; omega)).1]
  exact m4 i hi
theorem TM.mk {ρ : Type} {f : Mm → Option (ρ × Mm)} {M M2 : Mm} {h : Nat → Int32} {r : ρ} {g' : Nat → Nat} {P : Nat → Nat → Prop} (e : f M = some (r, M2)) (hF : FK M2 g' h) (hf : Fr P M M2) (hp : ∀ c j, P c j → PM c j) : TM f M h r g' := ⟨M2, h, e, hF, fun _ _ => rfl, hf.mono hp⟩
theorem TM.id {ρ : Type} {f : Mm → Option (ρ × Mm)} {M : Mm} {h : Nat → Int32} {r : ρ} {g : Nat → Nat} (hF : FK M g h) (e : f M = some (r, M)) : TM f M h r g := ⟨M, h, e, hF, fun _ _ => rfl, Fr.rf⟩
theorem TC.id {ρ : Type} {f : Mm → Option (ρ × Mm)} {M : Mm} {r : ρ} {g : Nat → Nat} (hS : SV M 18 g) (hA : CA M g) (e : f M = some (r, M)) : TC f M r g := ⟨M, e, hS, hA, Fr.rf⟩
theorem TC.mk {ρ : Type} {f : Mm → Option (ρ × Mm)} {M M1 : Mm} {r : ρ} {g g' : Nat → Nat} {P : Nat → Nat → Prop} (hG : GV g) (hA : CA M g) (e : f M = some (r, M1)) (hS : SV M1 18 g') (hf : Fr P M M1) (hp : ∀ c j, P c j → PC c j ∧ (c < 14 ∨ 17 < c ∧ c ≠ 115)) (hc : ∀ k, k < 64 → k < 4 ∨ 7 < k → k ≠ 12 → g' k = g k) : TC f M r g' :=
  ⟨M1, e, hS, (hA.fr hf (fun j => ⟨fun q => by have := (hp _ _ q).2; omega, fun q => by have := (hp _ _ q).2; omega, fun q => by have := (hp _ _ q).2; omega, fun q => by have := (hp _ _ q).2; omega, fun q => by have := (hp _ _ q).2; omega⟩)).cong hG.1.2.1.1.2.2.2.2.2.1 hc, hf.mono (fun c j q => (hp c j q).1)⟩
theorem T2.id {ρ : Type} {fc fm : Mm → Option (ρ × Mm)} (h : ∀ g, GV g → ∃ r, (∀ M, SV M 18 g → CA M g → TC fc M r g) ∧ ∀ M h, FK M g h → TM fm M h r g) : T2 fc fm := fun g hg => by
  obtain ⟨r, a, b⟩ := h g hg
  exact ⟨r, g, hg, a, b⟩
/-! grids that differ in a few numbers -/
section
variable {g g' : Nat → Nat}
theorem OC_cong (h7 : g' 7 = g 7) (hd : ∀ d, d < g 7 → ∀ w, 3 ≤ w → w < 7 → g' (64 + 10 * d + w) = g (64 + 10 * d + w)) {l i : Nat} {but : Option Nat} : OC g' l but i ↔ OC g l but i := by
  unfold OC
  rw [h7]
  constructor
  · rintro ⟨d, h1, h2, h3⟩
    rw [hd d h1 3 (by omega) (by omega), hd d h1 4 (by omega) (by omega), hd d h1 5 (by omega) (by omega), hd d h1 6 (by omega) (by omega)] at h3
    exact ⟨d, h1, h2, h3⟩
  · rintro ⟨d, h1, h2, h3⟩
    refine ⟨d, h1, h2, ?_⟩
    rw [hd d h1 3 (by omega) (by omega), hd d h1 4 (by omega) (by omega), hd d h1 5 (by omega) (by omega), hd d h1 6 (by omega) (by omega)]
    exact h3
theorem GW_cong (hW : GW g) (hB : GB g') (h : ∀ k, k < 64 → k ≠ 4 → k ≠ 5 → k ≠ 6 → k ≠ 12 → g' k = g k) (h12 : g' 12 < 2 ^ g 3) (hd : ∀ d, d < g 7 → ∀ w, 3 ≤ w → w < 7 → g' (64 + 10 * d + w) = g (64 + 10 * d + w)) : GW g' := by
  obtain ⟨hG, ⟨n1, n2, n3, n4⟩, hU, hL, hO⟩ := hW
  have e0 : g' 0 = g 0 := h 0 (by omega) (by omega) (by omega) (by omega) (by omega)
  have e1 : g' 1 = g 1 := h 1 (by omega) (by omega) (by omega) (by omega) (by omega)
  have e2 : g' 2 = g 2 := h 2 (by omega) (by omega) (by omega) (by omega) (by omega)
  have e3 : g' 3 = g 3 := h 3 (by omega) (by omega) (by omega) (by omega) (by omega)
  have e7 : g' 7 = g 7 := h 7 (by omega) (by omega) (by omega) (by omega) (by omega)
  have eP : ∀ l, l < g 3 → g' (16 + l) = g (16 + l) := fun l hl => h _ (by omega) (by omega) (by omega) (by omega) (by omega)
  have eQ : ∀ l, l < g 3 → g' (30 + l) = g (30 + l) := fun l hl => h _ (by omega) (by omega) (by omega) (by omega) (by omega)
  have eL : ∀ l, l < g 3 → g' (44 + l) = g (44 + l) := fun l hl => h _ (by omega) (by omega) (by omega) (by omega) (by omega)
  refine ⟨hB, ⟨?_, ?_, ?_, ?_⟩, ?_, ?_, ?_⟩
  · rw [e0, e1, e2, e3]
    exact ⟨n1.1, n1.2.1, n1.2.2.1, n1.2.2.2.1, n1.2.2.2.2.1, n1.2.2.2.2.2.1, h12⟩
  · intro f hf
    rw [h (8 + f) (by omega) (by omega) (by omega) (by omega) (by omega)]
    exact n2 f hf
  · intro l hl
    rw [e3] at hl
    rw [eP l hl, eQ l hl, eL l hl, e0]
    exact n3 l hl
  · intro l m hl hm
    rw [e3] at hl hm
    rw [eP l hl, eQ l hl, eP m hm, eQ m hm]
    exact n4 l m hl hm
  · intro l m hl hm
    rw [e3] at hl hm
    rw [eP l hl, eQ l hl, eP m hm, eQ m hm]
    exact hU l m hl hm
  · intro d h1 h2
    rw [e7] at h1
    rw [hd d h1 3 (by omega) (by omega)] at h2
    rw [hd d h1 4 (by omega) (by omega), hd d h1 5 (by omega) (by omega), hd d h1 6 (by omega) (by omega), e1, e3]
    exact hL d h1 h2
  · intro d e h1 h2 h3 h4 h5 h6
    rw [e7] at h1 h2
    rw [hd d h1 3 (by omega) (by omega)] at h4
    rw [hd e h2 3 (by omega) (by omega)] at h5
    rw [hd d h1 6 (by omega) (by omega), hd e h2 6 (by omega) (by omega)] at h6
    rw [hd d h1 4 (by omega) (by omega), hd d h1 5 (by omega) (by omega), hd e h2 4 (by omega) (by omega), hd e h2 5 (by omega) (by omega), e2]
    exact hO d e h1 h2 h3 h4 h5 h6
theorem SV.cong {M M' : Mm} {s : Nat} {P : Nat → Nat → Prop} (h : SV M s g) (hf : Fr P M M') (hp : ∀ k j, k < 17 → P (s + k) j → (k = 0 ∧ 1 ≤ j ∧ j ≤ 3) ∨ k = 11) (h3 : g 3 ≤ 14) (lo : ∀ k, k < 64 → k ≠ 12 → k ≠ 5 → k ≠ 6 → g' k = g k) (h12 : M'.1 s 1 = nI (g' 12)) (h5 : M'.1 s 2 = nI (g' 5)) (h6 : M'.1 s 3 = nI (g' 6)) (hd : ∀ d, d < g 7 → ∀ w, w < 7 → g' (64 + 10 * d + w) = g (64 + 10 * d + w)) (hE : ∀ d, d < g 7 → M'.1 (s + 11) d = nI (g' (64 + 10 * d + 7)) - nI 1) : SV M' s g' := by
  obtain ⟨⟨c1, c2, c3, c4⟩, c5, c6, c7⟩ := h
  have e7 : g' 7 = g 7 := lo 7 (by omega) (by omega) (by omega) (by omega)
  have hc : CN M' (s + 1) g := c1.fr hf (fun k j hk q => by
    rw [Nat.add_assoc] at q
    rcases hp _ _ (by omega) q with w | w <;> omega)
  refine ⟨⟨hc.cong h3 (fun k h1 h2 h4 => lo k h1 h4 (by omega) (by omega)) ?_, h12, h5, h6⟩, ?_, ?_, ?_⟩
  · rw [lo 4 (by omega) (by omega) (by omega) (by omega)]
    exact hc.1 4 (by omega)
  · rw [e7, ← c5]
    exact (hf s 4 (fun q => by rcases hp 0 4 (by omega) q with w | w <;> omega)).1
  · intro d h1
    rw [e7] at h1
    obtain ⟨a1, a2, a3, a4, a5, a6⟩ := c6 d h1
    have fr : ∀ k, 7 ≤ k → k < 17 → k ≠ 11 → M'.1 (s + k) d = M.1 (s + k) d ∧ M'.2 (s + k) d = M.2 (s + k) d := fun k k1 k2 k3 => hf _ _ (fun q => by rcases hp k d k2 q with w | w <;> omega)
    refine ⟨?_, ?_, ?_, ?_, hE d h1, fun q => ?_⟩
    · rw [hd d h1 0 (by omega), (fr 7 (by omega) (by omega) (by omega)).1]; exact a1
    · rw [hd d h1 1 (by omega), (fr 8 (by omega) (by omega) (by omega)).1]; exact a2
    · rw [hd d h1 2 (by omega), (fr 9 (by omega) (by omega) (by omega)).1]; exact a3
    · rw [hd d h1 3 (by omega), (fr 10 (by omega) (by omega) (by omega)).1]; exact a4
    · rw [hd d h1 3 (by omega)] at q
      obtain ⟨x1, x2, x3, x4⟩ := a6 q
      refine ⟨?_, ?_, ?_, ?_⟩
      · rw [hd d h1 6 (by omega), (fr 12 (by omega) (by omega) (by omega)).1]; exact x1
      · rw [hd d h1 4 (by omega), (fr 13 (by omega) (by omega) (by omega)).1]; exact x2
      · rw [hd d h1 5 (by omega), (fr 14 (by omega) (by omega) (by omega)).1]; exact x3
      · rw [hd d h1 4 (by omega), hd d h1 5 (by omega), (fr 15 (by omega) (by omega) (by omega)).2]; exact x4
  · intro l hl i
    rw [lo 3 (by omega) (by omega) (by omega) (by omega)] at hl
    rw [OC_cong e7 (fun d h1 w _ w2 => hd d h1 w w2), ← c7 l hl i]
    unfold usN
    rw [(hf (s + 16) l (fun q => by rcases hp 16 l (by omega) q with w | w <;> omega)).2]
theorem DV_off {d st : Nat} (h : DV g) (h3 : st ≤ 3) (h0 : st = 0 ∨ st = 2 → g (64 + 10 * d + 3) = 0 ∨ g (64 + 10 * d + 3) = 2) : DV (offG g d st) := by
  obtain ⟨h1, h2⟩ := h
  refine ⟨?_, fun e he => ?_⟩
  · rw [off_lo (by omega), off_lo (by omega), off_lo (by omega)]; exact h1
  · rw [off_lo (by omega)] at he
    obtain ⟨a1, a2, a3, a4, a5, a6, a7, a8⟩ := h2 e he
    rw [off_6 (k := 0) (by omega) (by omega), off_6 (k := 1) (by omega) (by omega), off_6 (k := 2) (by omega) (by omega), off_6 (k := 7) (by omega) (by omega), off_lo (k := 0) (by omega), off_lo (k := 5) (by omega)]
    refine ⟨a1, a2, a3, a4, a5, ?_, a7, fun q => ?_⟩
    · by_cases c : e = d
      · subst c; rw [off_3]; exact h3
      · rw [off_ne c (by omega)]; exact a6
    · by_cases c : e = d
      · subst c; rw [off_3] at q; exact a8 (h0 q)
      · rw [off_ne c (by omega)] at q; exact a8 q
theorem DV_lit {d on f w : Nat} (h : DV g) (h0 : g (64 + 10 * d + 3) = 0 ∨ g (64 + 10 * d + 3) = 2 ∨ g (64 + 10 * d + 7) = 0) : DV (litG g d on f w) := by
  obtain ⟨h1, h2⟩ := h
  refine ⟨?_, fun e he => ?_⟩
  · rw [lit_lo (by omega), lit_lo (by omega), lit_lo (by omega)]; exact h1
  · rw [lit_lo (by omega)] at he
    obtain ⟨a1, a2, a3, a4, a5, a6, a7, a8⟩ := h2 e he
    by_cases c : e = d
    · subst c
      rw [lit_k (k := 0) (by omega), lit_k (k := 1) (by omega), lit_k (k := 2) (by omega), lit_k (k := 7) (by omega), lit_lo (k := 0) (by omega), lit_lo (k := 5) (by omega), lit_3]
      refine ⟨a1, a2, a3, a4, a5, by omega, a7, fun _ => ?_⟩
      rcases h0 with q | q | q
      · exact a8 (.inl q)
      · exact a8 (.inr q)
      · exact .inl q
    · rw [lit_ne (k := 0) c (by omega), lit_ne (k := 1) c (by omega), lit_ne (k := 2) c (by omega), lit_ne (k := 3) c (by omega), lit_ne (k := 7) c (by omega), lit_lo (k := 0) (by omega), lit_lo (k := 5) (by omega)]
      exact ⟨a1, a2, a3, a4, a5, a6, a7, a8⟩
theorem GV_off {d st : Nat} (h : GV g) (h1 : 0 < st) (h3 : st ≤ 3) (h0 : st = 2 → g (64 + 10 * d + 3) = 0 ∨ g (64 + 10 * d + 3) = 2) : GV (offG g d st) :=
  ⟨GW_off h.1 h1 (by omega), DV_off h.2.1 h3 (fun q => h0 (by omega)), by rw [off_lo (by omega)]; exact h.2.2⟩
theorem GV_lit {d on f w : Nat} (h : GV g) (hd : d < g 7) (h1 : 1 ≤ w) (h2 : 0 < on) (h3 : on < 2 ^ g 3) (hf : fitB g on f w (some d) = true) (h0 : g (64 + 10 * d + 3) = 0 ∨ g (64 + 10 * d + 3) = 2 ∨ g (64 + 10 * d + 7) = 0) : GV (litG g d on f w) :=
  ⟨GW_lit h.1 hd h1 h2 h3 hf, DV_lit h.2.1 h0, by rw [lit_lo (by omega)]; exact h.2.2⟩
end
section
variable {M : Mm} {g : Nat → Nat} {n s : Nat}
theorem SV_takeOff (hW : GW g) (h40 : g 7 ≤ 40) (h : SV M s g) {d st : Nat} (hd : d < g 7) (hst : 0 < st) (hst4 : st ≤ 4) (hn : 100 < n) : ∃ M', St_takeOff n s (nI d) (nI st) M = some M' ∧ SV M' s (offG g d st) ∧ Fr (fp_St_takeOff s) M M' := by
  obtain ⟨M', a1, a2, a3, a4, a5⟩ := St_takeOff_e hW h.1 h.2.2.1 h.2.2.2 hd h40 hst hst4 hn
  refine ⟨M', a1, ⟨a2, ?_, a3, a4⟩, a5⟩
  rw [off_lo (by omega), ← h.2.1]
  exact (a5 s 4 (by unfold fp_St_takeOff; omega)).1
theorem SV_put (hW : GW g) (h40 : g 7 ≤ 40) (h : SV M s g) {d on f w : Nat} (hd : d < g 7) (hnl : g (64 + 10 * d + 3) ≠ 0) (hon : on < 2 ^ g 3) (hfw : f + w ≤ 60) (hn : 100 < n) : ∃ M', St_put n s (nI d) (nI on) (nI f) (nI w) M = some M' ∧ SV M' s (litG g d on f w) ∧ Fr (fp_St_put s) M M' := by
  obtain ⟨M', a1, a2, a3, a4, a5⟩ := St_put_e hW h.1 h.2.2.1 h.2.2.2 hd h40 hnl hon hfw hn
  refine ⟨M', a1, ⟨a2, ?_, a3, a4⟩, a5⟩
  rw [lit_lo (by omega), ← h.2.1]
  exact (a5 s 4 (by unfold fp_St_put; omega)).1
theorem SV_move (hW : GW g) (h40 : g 7 ≤ 40) (h : SV M s g) {d on f w : Nat} (hd : d < g 7) (hon : on < 2 ^ g 3) (hfw : f + w ≤ 60) (hn : 100 < n) : ∃ M', St_move n s (nI d) (nI on) (nI f) (nI w) M = some M' ∧ SV M' s (litG g d on f w) ∧ Fr (fp_St_move s) M M' := by
  obtain ⟨M', a1, a2, a3, a4, a5⟩ := St_move_e hW h.1 h.2.2.1 h.2.2.2 hd h40 hon hfw hn
  refine ⟨M', a1, ⟨a2, ?_, a3, a4⟩, a5⟩
  rw [lit_lo (by omega), ← h.2.1]
  exact (a5 s 4 (by unfold fp_St_move; omega)).1
/-! the model's file copied -/
theorem Fm_copies_e {a b : Nat} (ha : a < 4) (hb : b < 4) (hab : a ≠ b) (hn : 4000 < n) : ∃ M', Fm_copies n (nI a) (nI b) M = some M' ∧ (∀ j, j < 3064 → M'.1 95 (3064 * b + j) = M.1 95 (3064 * a + j)) ∧ Fr (fun c j => c = 95 ∧ 3064 * b ≤ j ∧ j < 3064 * b + 3064) M M' := by
  have hlp : ∃ r, loop (fun s1 : Int32 × Mm => Fm_copies_b2 (nI a) (nI b) s1.1 s1.2) n (nI 0, M) = some r ∧ ((∀ j, j < 3064 → r.1 95 (3064 * b + j) = M.1 95 (3064 * a + j)) ∧ Fr (fun c j => c = 95 ∧ 3064 * b ≤ j ∧ j < 3064 * b + 3064) M r) := by
    refine loop_I0 (fun i (st : Int32 × Mm) => st.1 = nI i ∧ (∀ j, j < i → st.2.1 95 (3064 * b + j) = M.1 95 (3064 * a + j)) ∧ Fr (fun c j => c = 95 ∧ 3064 * b ≤ j ∧ j < 3064 * b + 3064) M st.2) _ 3064 ⟨rfl, fun j hj => by omega, Fr.rf⟩ (by omega) ?_ ?_
    · rintro i ⟨s1, M1⟩ hi ⟨e1, e2, e3⟩
      simp only at e1 e2 e3
      subst e1
      left
      refine ⟨(nI (i + 1), (up2 M1.1 95 (3064 * b + i) (M1.1 95 (3064 * a + i)), M1.2)), ?_, rfl, fun j hj => ?_, Fr.I e3 ⟨rfl, by omega, by omega⟩⟩
      · show Fm_copies_b2 (nI a) (nI b) (nI i) M1 = _
        unfold Fm_copies_b2
        simp (disch := omega) only [l_0, l_1, l_2, l_3, l_4, l_5, l_6, l_7, l_8, l_9, l_10, l_11, l_12, l_13, l_14, l_16, l_20, l_21, l_23, l_24, l_30, l_32, l_40, l_41, l_44, l_48, l_57, l_59, l_60, l_63, l_64, l_80, l_84, l_96, l_97, l_99, l_120, l_122, l_127, l_200, l_240, l_255, l_840, l_999, l_1000, l_1001, l_2400, l_3064, l_9999, l_10000, l_13849, l_16383, l_25173, l_65535, l_65536, l_99999, l_1000000000, neg_nI, pk_mul, nI_add, nI_subL, tn_nI, inb_t, grd_true, bnd_some, elS_l, elS_r, nI_ltI, nI_leI, nI_inj, fa_and, fa_or, m1_eq, eq_m1, m1_lt, m1_le, lt_m1, le_m1, m1_lt0, up2_at, up2_no, ite_true, ite_false, if_true, if_false, Bool.false_eq_true, reduceIte, reduceCtorEq, not_true_eq_false, not_false_eq_true, eq_self, decide_true, decide_false, le_tt, le_ff, lt_tt, lt_ff, eq_ff, and_true, true_and, and_false, false_and, or_true, true_or, or_false, false_or, ne_eq, decide_eq_true_eq, decide_eq_false_iff_not, Bool.not_true, Bool.not_false, Bool.and_true, Bool.true_and, Bool.and_false, Bool.false_and, gs_at, gs_no, oI_n, oI_s]
      · show up2 M1.1 95 (3064 * b + i) (M1.1 95 (3064 * a + i)) 95 (3064 * b + j) = _
        by_cases c : j = i
        · subst c
          rw [up2_at]
          exact (e3 95 (3064 * a + j) (by omega)).1
        · rw [up2_no (by omega)]
          exact e2 j (by omega)
    · rintro ⟨s1, M1⟩ ⟨e1, e2, e3⟩
      simp only at e1 e2 e3
      subst e1
      refine ⟨M1, ?_, e2, e3⟩
      show Fm_copies_b2 (nI a) (nI b) (nI 3064) M1 = _
      unfold Fm_copies_b2
      simp (disch := omega) only [l_0, l_1, l_2, l_3, l_4, l_5, l_6, l_7, l_8, l_9, l_10, l_11, l_12, l_13, l_14, l_16, l_20, l_21, l_23, l_24, l_30, l_32, l_40, l_41, l_44, l_48, l_57, l_59, l_60, l_63, l_64, l_80, l_84, l_96, l_97, l_99, l_120, l_122, l_127, l_200, l_240, l_255, l_840, l_999, l_1000, l_1001, l_2400, l_3064, l_9999, l_10000, l_13849, l_16383, l_25173, l_65535, l_65536, l_99999, l_1000000000, neg_nI, pk_mul, nI_add, nI_subL, tn_nI, inb_t, grd_true, bnd_some, elS_l, elS_r, nI_ltI, nI_leI, nI_inj, fa_and, fa_or, m1_eq, eq_m1, m1_lt, m1_le, lt_m1, le_m1, m1_lt0, up2_at, up2_no, ite_true, ite_false, if_true, if_false, Bool.false_eq_true, reduceIte, reduceCtorEq, not_true_eq_false, not_false_eq_true, eq_self, decide_true, decide_false, le_tt, le_ff, lt_tt, lt_ff, eq_ff, and_true, true_and, and_false, false_and, or_true, true_or, or_false, false_or, ne_eq, decide_eq_true_eq, decide_eq_false_iff_not, Bool.not_true, Bool.not_false, Bool.and_true, Bool.true_and, Bool.and_false, Bool.false_and, gs_at, gs_no, oI_n, oI_s]
  obtain ⟨r, h1, h2, h3⟩ := hlp
  refine ⟨r, ?_, h2, h3⟩
  unfold Fm_copies
  rw [l_0]
  exact bnd_e h1
/-- the file laid aside -/
theorem FK.out {h : Nat → Int32} (hF : FK M g h) {b : Nat} (hb0 : 0 < b) (hb : b < 4) (hn : 4000 < n) : ∃ M' h', Fm_copies n (nI 0) (nI b) M = some M' ∧ FK M' g h' ∧ (∀ j, j < 3064 → h' (3064 * b + j) = iv g j) ∧ (∀ j, 3064 ≤ j → j < 3064 * b ∨ 3064 * b + 3064 ≤ j → h' j = h j) ∧ Fr (fun c _ => c = 95) M M' := by
  obtain ⟨M', a1, a2, a3⟩ := Fm_copies_e (M := M) (n := n) (a := 0) (b := b) (by omega) hb (by omega) hn
  refine ⟨M', fun j => if 3064 * b ≤ j ∧ j < 3064 * b + 3064 then iv g (j - 3064 * b) else h j, a1, ⟨fun k hk => ?_, fun j h1 h2 => ?_⟩, fun j hj => ?_, fun j h1 h2 => if_neg (by omega), a3.mono (fun c j q => q.1)⟩
  · rw [(a3 95 k (by omega)).1]; exact hF.1 k hk
  · show M'.1 95 j = if 3064 * b ≤ j ∧ j < 3064 * b + 3064 then iv g (j - 3064 * b) else h j
    by_cases c : 3064 * b ≤ j ∧ j < 3064 * b + 3064
    · rw [if_pos c]
      have := a2 (j - 3064 * b) (by omega)
      rw [show 3064 * b + (j - 3064 * b) = j by omega, show 3064 * 0 + (j - 3064 * b) = j - 3064 * b by omega, hF.1 _ (by omega)] at this
      exact this
    · rw [if_neg c, (a3 95 j (by omega)).1]
      exact hF.2 j h1 h2
  · show (if _ then _ else _) = _
    rw [if_pos (by omega), show 3064 * b + j - 3064 * b = j by omega]
/-- the file as it was laid aside -/
theorem FK.back {h : Nat → Int32} (hF : FK M g h) {b : Nat} {g' : Nat → Nat} (hb0 : 0 < b) (hb : b < 4) (hg : ∀ j, j < 3064 → h (3064 * b + j) = iv g' j) (hn : 4000 < n) : ∃ M', Fm_copies n (nI b) (nI 0) M = some M' ∧ FK M' g' h ∧ Fr (fun c _ => c = 95) M M' := by
  obtain ⟨M', a1, a2, a3⟩ := Fm_copies_e (M := M) (n := n) (a := b) (b := 0) hb (by omega) (by omega) hn
  refine ⟨M', a1, ⟨fun k hk => ?_, fun j h1 h2 => ?_⟩, a3.mono (fun c j q => q.1)⟩
  · have := a2 k hk
    rw [show 3064 * 0 + k = k by omega, hF.2 _ (by omega) (by omega), hg k hk] at this
    exact this
  · rw [(a3 95 j (by omega)).1]
    exact hF.2 j h1 h2
end
