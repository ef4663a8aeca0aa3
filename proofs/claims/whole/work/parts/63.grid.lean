/-! grids as numbers: what is done to a demand; the file whole -/
def iv (g : Nat → Nat) (k : Nat) : Int32 := if 64 ≤ k ∧ (k - 64) % 10 = 7 then nI (g k) - nI 1 else nI (g k)
/-- the model's file: the grid, and what is kept behind -/
def FK (M : Mm) (g : Nat → Nat) (h : Nat → Int32) : Prop := (∀ k, k < 3064 → M.1 95 k = iv g k) ∧ ∀ j, 3064 ≤ j → j < 12256 → M.1 95 j = h j
theorem FK.FR {M : Mm} {g : Nat → Nat} {h : Nat → Int32} (hF : FK M g h) (hG : GB g) : FR M g := by
  have h7 := hG.2
  refine ⟨fun k hk => ?_, fun d hd => ⟨fun w hw => ?_, ?_⟩⟩
  · rw [hF.1 k (by omega)]
    unfold iv
    rw [if_neg (by omega)]
  · rw [hF.1 _ (by omega)]
    unfold iv
    rw [if_neg (by omega)]
  · rw [hF.1 _ (by omega)]
    unfold iv
    rw [if_pos (by omega)]
    rfl
theorem FK.fr {P : Nat → Nat → Prop} {M M' : Mm} {g : Nat → Nat} {h : Nat → Int32} (hF : FK M g h) (hf : Fr P M M') (hp : ∀ j, ¬ P 95 j) : FK M' g h :=
  ⟨fun k hk => ((hf 95 k (hp k)).1).trans (hF.1 k hk), fun j h1 h2 => ((hf 95 j (hp j)).1).trans (hF.2 j h1 h2)⟩
theorem FK.set {M : Mm} {g : Nat → Nat} {h : Nat → Int32} (hF : FK M g h) {k v : Nat} {x : Int32} (hk : k < 3064) (hx : x = iv (gs g k v) k) : FK (up2 M.1 95 k x, M.2) (gs g k v) h := by
  refine ⟨fun j hj => ?_, fun j h1 h2 => ?_⟩
  · show up2 M.1 95 k x 95 j = _
    by_cases e : j = k
    · rw [e, up2_at, hx]
    · rw [up2_no (fun q => e q.2), hF.1 j hj]
      unfold iv
      rw [gs_no e]
  · show up2 M.1 95 k x 95 j = _
    rw [up2_no (by omega)]
    exact hF.2 j h1 h2
theorem iv_lo {g : Nat → Nat} {k : Nat} (h : k < 64) : iv g k = nI (g k) := if_neg (by omega)
theorem iv_d {g : Nat → Nat} {d w : Nat} (h : w < 10) (h7 : w ≠ 7) : iv g (64 + 10 * d + w) = nI (g (64 + 10 * d + w)) := if_neg (by omega)
theorem iv_e {g : Nat → Nat} {d : Nat} : iv g (64 + 10 * d + 7) = nI (g (64 + 10 * d + 7)) - nI 1 := if_pos (by omega)
theorem FK.lo {M : Mm} {g : Nat → Nat} {h : Nat → Int32} (hF : FK M g h) {k : Nat} (hk : k < 64) : M.1 95 k = nI (g k) := by rw [hF.1 k (by omega), iv_lo hk]
theorem FK.of {M : Mm} {g : Nat → Nat} {h : Nat → Int32} (hF : FK M g h) {d w : Nat} (hd : d < 300) (hw : w < 10) (h7 : w ≠ 7) : Fm_of (nI d) (nI w) M = some (nI (g (64 + 10 * d + w))) := by
  rw [Fm_of_e (by omega), hF.1 _ (by omega), iv_d hw h7]
theorem FK.end_ {M : Mm} {g : Nat → Nat} {h : Nat → Int32} (hF : FK M g h) {d : Nat} (hd : d < 300) : Fm_of (nI d) (nI 7) M = some (nI (g (64 + 10 * d + 7)) - nI 1) := by
  rw [Fm_of_e (by omega), hF.1 _ (by omega), iv_e]
theorem FK.sets {M : Mm} {g : Nat → Nat} {h : Nat → Int32} (hF : FK M g h) {d w v : Nat} (hd : d < 300) (hw : w < 10) (h7 : w ≠ 7) : ∃ M', Fm_sets (nI d) (nI w) (nI v) M = some M' ∧ FK M' (gs g (64 + 10 * d + w) v) h ∧ Fr (fun c _ => c = 95) M M' := by
  refine ⟨_, Fm_sets_e (by omega), hF.set (by omega) ?_, Fr.I Fr.rf rfl⟩
  rw [iv_d hw h7, gs_at]
theorem FK.setE {M : Mm} {g : Nat → Nat} {h : Nat → Int32} (hF : FK M g h) {d v : Nat} {x : Int32} (hd : d < 300) (hx : x = nI v - nI 1) : ∃ M', Fm_sets (nI d) (nI 7) x M = some M' ∧ FK M' (gs g (64 + 10 * d + 7) v) h ∧ Fr (fun c _ => c = 95) M M' := by
  refine ⟨_, Fm_sets_e (by omega), hF.set (by omega) ?_, Fr.I Fr.rf rfl⟩
  rw [iv_e, gs_at, hx]
theorem end_e {v : Nat} (h : 0 < v) : nI v - nI 1 = nI (v - 1) := nI_subL (by omega)
/-! one demand -/
def litG (g : Nat → Nat) (d on f w : Nat) : Nat → Nat := gs (gs (gs (gs g (64 + 10 * d + 3) 0) (64 + 10 * d + 4) f) (64 + 10 * d + 5) w) (64 + 10 * d + 6) on
def offG (g : Nat → Nat) (d st : Nat) : Nat → Nat := gs g (64 + 10 * d + 3) st
section
variable {g : Nat → Nat} {d on f w st : Nat}
theorem lit_lo {k : Nat} (hk : k < 64) : litG g d on f w k = g k := by
  unfold litG
  rw [gs_no (by omega), gs_no (by omega), gs_no (by omega), gs_no (by omega)]
theorem lit_ne {e k : Nat} (he : e ≠ d) (hk : k < 10) : litG g d on f w (64 + 10 * e + k) = g (64 + 10 * e + k) := by
  unfold litG
  rw [gs_no (by omega), gs_no (by omega), gs_no (by omega), gs_no (by omega)]
theorem lit_3 : litG g d on f w (64 + 10 * d + 3) = 0 := by
  unfold litG
  rw [gs_no (by omega), gs_no (by omega), gs_no (by omega), gs_at]
theorem lit_4 : litG g d on f w (64 + 10 * d + 4) = f := by
  unfold litG
  rw [gs_no (by omega), gs_no (by omega), gs_at]
theorem lit_5 : litG g d on f w (64 + 10 * d + 5) = w := by
  unfold litG
  rw [gs_no (by omega), gs_at]
theorem lit_6 : litG g d on f w (64 + 10 * d + 6) = on := by
  unfold litG
  rw [gs_at]
theorem lit_k {k : Nat} (h : k < 3 ∨ 6 < k) : litG g d on f w (64 + 10 * d + k) = g (64 + 10 * d + k) := by
  unfold litG
  rw [gs_no (by omega), gs_no (by omega), gs_no (by omega), gs_no (by omega)]
theorem off_lo {k : Nat} (hk : k < 64) : offG g d st k = g k := gs_no (by omega)
theorem off_ne {e k : Nat} (he : e ≠ d) (hk : k < 10) : offG g d st (64 + 10 * e + k) = g (64 + 10 * e + k) := gs_no (by omega)
theorem off_3 : offG g d st (64 + 10 * d + 3) = st := gs_at
theorem off_k {k : Nat} (h : k ≠ 3) : offG g d st (64 + 10 * d + k) = g (64 + 10 * d + k) := gs_no (by omega)
theorem off_6 {e k : Nat} (h : k ≠ 3) (hk : k < 10) : offG g d st (64 + 10 * e + k) = g (64 + 10 * e + k) := gs_no (by omega)
theorem lit_off : litG (offG g d st) d on f w = litG g d on f w := by
  funext k
  unfold litG offG gs
  by_cases h : k = 64 + 10 * d + 3
  · simp only [h]
    rw [if_pos trivial]
    rfl
  · simp only [h, if_false]
/-- all that holds of a grid -/
def DV (g : Nat → Nat) : Prop := (g 5 ≤ 99999 ∧ g 6 ≤ 65535 ∧ g 4 ≤ 24) ∧ ∀ d, d < g 7 → g (64 + 10 * d + 0) < g 0 ∧ g (64 + 10 * d + 1) < g 0 ∧ g (64 + 10 * d + 0) ≠ g (64 + 10 * d + 1) ∧ 1 ≤ g (64 + 10 * d + 2) ∧ g (64 + 10 * d + 2) ≤ 64 ∧ g (64 + 10 * d + 3) ≤ 3 ∧ g (64 + 10 * d + 7) ≤ 200000 ∧ (g (64 + 10 * d + 3) = 0 ∨ g (64 + 10 * d + 3) = 2 → g (64 + 10 * d + 7) = 0 ∨ g 5 + 1 < g (64 + 10 * d + 7))
def GW (g : Nat → Nat) : Prop := GB g ∧ NV g ∧ NU g ∧ LV g ∧ NOV g
def GV (g : Nat → Nat) : Prop := GW g ∧ DV g ∧ g 7 ≤ 40
theorem NV_cong {g' : Nat → Nat} (h : ∀ k, k < 64 → g' k = g k) (hN : NV g) : NV g' := by
  obtain ⟨h1, h2, h3, h4⟩ := hN
  have e3 : g' 3 = g 3 := h 3 (by omega)
  refine ⟨?_, fun f hf => ?_, fun l hl => ?_, fun l m hl hm => ?_⟩
  · rw [h 0 (by omega), h 1 (by omega), h 2 (by omega), e3, h 12 (by omega)]; exact h1
  · rw [h (8 + f) (by omega)]; exact h2 f hf
  · rw [e3] at hl
    rw [h (16 + l) (by omega), h (30 + l) (by omega), h (44 + l) (by omega), h 0 (by omega)]; exact h3 l hl
  · rw [e3] at hl hm
    rw [h (16 + l) (by omega), h (30 + l) (by omega), h (16 + m) (by omega), h (30 + m) (by omega)]; exact h4 l m hl hm
theorem NU_cong {g' : Nat → Nat} (h : ∀ k, k < 64 → g' k = g k) (hN : NV g) (hU : NU g) : NU g' := by
  have b1 := hN.1
  have e3 : g' 3 = g 3 := h 3 (by omega)
  intro l m hl hm
  rw [e3] at hl hm
  rw [h (16 + l) (by omega), h (30 + l) (by omega), h (16 + m) (by omega), h (30 + m) (by omega)]
  exact hU l m hl hm
theorem GB_gs {k v : Nat} (hG : GB g) (hv : v < 1048576) (hk : k ≠ 7) : GB (gs g k v) := by
  refine ⟨fun j => ?_, ?_⟩
  · unfold gs
    by_cases e : j = k
    · rw [if_pos e]; exact hv
    · rw [if_neg e]; exact hG.1 j
  · rw [gs_no (fun q => hk q.symm)]; exact hG.2
theorem GW_lit (hW : GW g) (hd : d < g 7) (h1 : 1 ≤ w) (h2 : 0 < on) (h3 : on < 2 ^ g 3) (hf : fitB g on f w (some d) = true) : GW (litG g d on f w) := by
  obtain ⟨hG, hN, hU, hL, hO⟩ := hW
  have b1 := hN.1
  obtain ⟨q1, q2⟩ := fit_iff.mp hf
  have hon : on < 16384 := Nat.lt_of_lt_of_le h3 (show 2 ^ g 3 ≤ 2 ^ 14 from Nat.pow_le_pow_right (by decide) b1.2.2.2.2.2.1)
  have e7 : litG g d on f w 7 = g 7 := lit_lo (by omega)
  have e1 : litG g d on f w 1 = g 1 := lit_lo (by omega)
  have e2 : litG g d on f w 2 = g 2 := lit_lo (by omega)
  have e3 : litG g d on f w 3 = g 3 := lit_lo (by omega)
  refine ⟨GB_gs (GB_gs (GB_gs (GB_gs hG (by omega) (by omega)) (by omega) (by omega)) (by omega) (by omega)) (by omega) (by omega), NV_cong (fun k hk => lit_lo hk) hN, NU_cong (fun k hk => lit_lo hk) hN hU, ?_, ?_⟩
  · intro e he hl
    rw [e7] at he
    by_cases c : e = d
    · subst c
      rw [lit_4, lit_5, lit_6, e1, e3]
      exact ⟨h1, q1, h2, h3⟩
    · rw [lit_ne c (by omega)] at hl
      rw [lit_ne c (by omega), lit_ne c (by omega), lit_ne c (by omega), e1, e3]
      exact hL e he hl
  · intro a b ha hb hab la lb hs
    rw [e7] at ha hb
    rw [e2]
    by_cases c : a = d
    · subst c
      rw [lit_6, lit_ne (fun q => hab q.symm) (by omega)] at hs
      rw [lit_ne (fun q => hab q.symm) (by omega)] at lb
      rw [lit_4, lit_5, lit_ne (fun q => hab q.symm) (by omega), lit_ne (fun q => hab q.symm) (by omega)]
      rcases q2 b hb (fun q => hab (by cases q; rfl)) lb (by rw [Nat.and_comm]; exact hs) with w' | w'
      · right; omega
      · left; omega
    · by_cases c2 : b = d
      · subst c2
        rw [lit_6, lit_ne c (by omega)] at hs
        rw [lit_ne c (by omega)] at la
        rw [lit_4, lit_5, lit_ne c (by omega), lit_ne c (by omega)]
        rcases q2 a ha (fun q => hab (by cases q; rfl)) la hs with w' | w'
        · left; omega
        · right; omega
      · rw [lit_ne c (by omega), lit_ne c2 (by omega)] at hs
        rw [lit_ne c (by omega)] at la
        rw [lit_ne c2 (by omega)] at lb
        rw [lit_ne c (by omega), lit_ne c (by omega), lit_ne c2 (by omega), lit_ne c2 (by omega)]
        exact hO a b ha hb hab la lb hs
theorem GW_off (hW : GW g) (h1 : 0 < st) (h2 : st ≤ 4) : GW (offG g d st) := by
  obtain ⟨hG, hN, hU, hL, hO⟩ := hW
  have e7 : offG g d st 7 = g 7 := off_lo (by omega)
  have e1 : offG g d st 1 = g 1 := off_lo (by omega)
  have e2 : offG g d st 2 = g 2 := off_lo (by omega)
  have e3 : offG g d st 3 = g 3 := off_lo (by omega)
  have hl : ∀ e, offG g d st (64 + 10 * e + 3) = 0 → e ≠ d ∧ g (64 + 10 * e + 3) = 0 := fun e he => by
    by_cases c : e = d
    · subst c
      rw [off_3] at he
      omega
    · rw [off_ne c (by omega)] at he
      exact ⟨c, he⟩
  refine ⟨GB_gs hG (by omega) (by omega), NV_cong (fun k hk => off_lo hk) hN, NU_cong (fun k hk => off_lo hk) hN hU, ?_, ?_⟩
  · intro e he hle
    rw [e7] at he
    rw [off_6 (by omega) (by omega), off_6 (by omega) (by omega), off_6 (by omega) (by omega), e1, e3]
    exact hL e he (hl e hle).2
  · intro a b ha hb hab la lb hs
    rw [e7] at ha hb
    rw [off_6 (by omega) (by omega), off_6 (by omega) (by omega)] at hs
    rw [off_6 (by omega) (by omega), off_6 (by omega) (by omega), off_6 (by omega) (by omega), off_6 (by omega) (by omega), e2]
    exact hO a b ha hb hab (hl a la).2 (hl b lb).2 hs
theorem OC_lit {l i : Nat} (hd : d < g 7) (hn : g (64 + 10 * d + 3) ≠ 0) : OC (litG g d on f w) l none i ↔ (on &&& l ≠ 0 ∧ f ≤ i ∧ i < f + w) ∨ OC g l none i := by
  have e7 : litG g d on f w 7 = g 7 := lit_lo (by omega)
  constructor
  · rintro ⟨e, h1, h2, h3, h4, h5⟩
    rw [e7] at h1
    by_cases c : e = d
    · subst c
      rw [lit_6] at h4
      rw [lit_4, lit_5] at h5
      exact .inl ⟨h4, h5⟩
    · rw [lit_ne c (by omega)] at h3 h4
      rw [lit_ne c (by omega), lit_ne c (by omega)] at h5
      exact .inr ⟨e, h1, h2, h3, h4, h5⟩
  · rintro (⟨h1, h2⟩ | ⟨e, h1, h2, h3, h4, h5⟩)
    · exact ⟨d, by rw [e7]; exact hd, by simp, lit_3, by rw [lit_6]; exact h1, by rw [lit_4, lit_5]; exact h2⟩
    · have c : e ≠ d := fun q => hn (by rw [← q]; exact h3)
      exact ⟨e, by rw [e7]; exact h1, h2, by rw [lit_ne c (by omega)]; exact h3, by rw [lit_ne c (by omega)]; exact h4, by rw [lit_ne c (by omega), lit_ne c (by omega)]; exact h5⟩
theorem OC_off {l i : Nat} (h1 : 0 < st) : OC (offG g d st) l none i ↔ OC g l (some d) i := by
  have e7 : offG g d st 7 = g 7 := off_lo (by omega)
  constructor
  · rintro ⟨e, a1, a2, a3, a4, a5⟩
    rw [e7] at a1
    by_cases c : e = d
    · subst c
      rw [off_3] at a3
      omega
    · rw [off_ne c (by omega)] at a3 a4
      rw [off_ne c (by omega), off_ne c (by omega)] at a5
      exact ⟨e, a1, fun q => c (by cases q; rfl), a3, a4, a5⟩
  · rintro ⟨e, a1, a2, a3, a4, a5⟩
    have c : e ≠ d := fun q => a2 (by rw [q])
    exact ⟨e, by rw [e7]; exact a1, by simp, by rw [off_ne c (by omega)]; exact a3, by rw [off_ne c (by omega)]; exact a4, by rw [off_ne c (by omega), off_ne c (by omega)]; exact a5⟩
end
