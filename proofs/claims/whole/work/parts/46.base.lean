/-! written numbers, and what a long simp call rests on -/
theorem l_0 : (0 : Int32) = nI 0 := rfl
theorem l_1 : (1 : Int32) = nI 1 := rfl
theorem l_2 : (2 : Int32) = nI 2 := rfl
theorem l_3 : (3 : Int32) = nI 3 := rfl
theorem l_4 : (4 : Int32) = nI 4 := rfl
theorem l_5 : (5 : Int32) = nI 5 := rfl
theorem l_6 : (6 : Int32) = nI 6 := rfl
theorem l_7 : (7 : Int32) = nI 7 := rfl
theorem l_8 : (8 : Int32) = nI 8 := rfl
theorem l_9 : (9 : Int32) = nI 9 := rfl
theorem l_10 : (10 : Int32) = nI 10 := rfl
theorem l_11 : (11 : Int32) = nI 11 := rfl
theorem l_12 : (12 : Int32) = nI 12 := rfl
theorem l_13 : (13 : Int32) = nI 13 := rfl
theorem l_14 : (14 : Int32) = nI 14 := rfl
theorem l_16 : (16 : Int32) = nI 16 := rfl
theorem l_20 : (20 : Int32) = nI 20 := rfl
theorem l_21 : (21 : Int32) = nI 21 := rfl
theorem l_23 : (23 : Int32) = nI 23 := rfl
theorem l_24 : (24 : Int32) = nI 24 := rfl
theorem l_30 : (30 : Int32) = nI 30 := rfl
theorem l_32 : (32 : Int32) = nI 32 := rfl
theorem l_40 : (40 : Int32) = nI 40 := rfl
theorem l_41 : (41 : Int32) = nI 41 := rfl
theorem l_44 : (44 : Int32) = nI 44 := rfl
theorem l_48 : (48 : Int32) = nI 48 := rfl
theorem l_57 : (57 : Int32) = nI 57 := rfl
theorem l_59 : (59 : Int32) = nI 59 := rfl
theorem l_60 : (60 : Int32) = nI 60 := rfl
theorem l_63 : (63 : Int32) = nI 63 := rfl
theorem l_64 : (64 : Int32) = nI 64 := rfl
theorem l_80 : (80 : Int32) = nI 80 := rfl
theorem l_84 : (84 : Int32) = nI 84 := rfl
theorem l_96 : (96 : Int32) = nI 96 := rfl
theorem l_97 : (97 : Int32) = nI 97 := rfl
theorem l_99 : (99 : Int32) = nI 99 := rfl
theorem l_120 : (120 : Int32) = nI 120 := rfl
theorem l_122 : (122 : Int32) = nI 122 := rfl
theorem l_127 : (127 : Int32) = nI 127 := rfl
theorem l_200 : (200 : Int32) = nI 200 := rfl
theorem l_240 : (240 : Int32) = nI 240 := rfl
theorem l_255 : (255 : Int32) = nI 255 := rfl
theorem l_840 : (840 : Int32) = nI 840 := rfl
theorem l_999 : (999 : Int32) = nI 999 := rfl
theorem l_1000 : (1000 : Int32) = nI 1000 := rfl
theorem l_1001 : (1001 : Int32) = nI 1001 := rfl
theorem l_2400 : (2400 : Int32) = nI 2400 := rfl
theorem l_3064 : (3064 : Int32) = nI 3064 := rfl
theorem l_9999 : (9999 : Int32) = nI 9999 := rfl
theorem l_10000 : (10000 : Int32) = nI 10000 := rfl
theorem l_13849 : (13849 : Int32) = nI 13849 := rfl
theorem l_16383 : (16383 : Int32) = nI 16383 := rfl
theorem l_25173 : (25173 : Int32) = nI 25173 := rfl
theorem l_65535 : (65535 : Int32) = nI 65535 := rfl
theorem l_65536 : (65536 : Int32) = nI 65536 := rfl
theorem l_99999 : (99999 : Int32) = nI 99999 := rfl
theorem l_1000000000 : (1000000000 : Int32) = nI 1000000000 := rfl
/-- a number below 0 -/
def ng (k : Nat) : Int32 := -(nI k)
theorem neg_nI (k : Nat) : -(nI k) = ng k := rfl
theorem nI_subL {a b : Nat} (h : b ≤ a) : nI a - nI b = nI (a - b) := nI_subI h
theorem grd_true {α : Type} {x : Option α} : grd true x = x := rfl
theorem ng_toInt {k : Nat} (h : k < 2 ^ 31) : (ng k).toInt = -(k : Int) := by
  unfold ng
  rw [Int32.toInt_neg, nI_toInt h]
  rw [Int.bmod_eq_of_le] <;> omega
theorem m1_eq {k a : Nat} (hk : 0 < k) (hk2 : k < 2 ^ 31) (ha : a < 2 ^ 31) : (ng k = nI a) = False := by
  apply eq_false
  intro h
  have h1 := congrArg Int32.toInt h
  rw [nI_toInt ha, ng_toInt hk2] at h1
  omega
theorem eq_m1 {k a : Nat} (hk : 0 < k) (hk2 : k < 2 ^ 31) (ha : a < 2 ^ 31) : (nI a = ng k) = False := by
  apply eq_false
  intro h
  have h1 := congrArg Int32.toInt h
  rw [nI_toInt ha, ng_toInt hk2] at h1
  omega
theorem m1_lt {k a : Nat} (hk : 0 < k) (hk2 : k < 2 ^ 31) (ha : a < 2 ^ 31) : (ng k < nI a) = True := by
  apply eq_true
  rw [fa_lt, nI_toInt ha, ng_toInt hk2]
  omega
theorem m1_le {k a : Nat} (hk2 : k < 2 ^ 31) (ha : a < 2 ^ 31) : (ng k ≤ nI a) = True := by
  apply eq_true
  rw [fa_le, nI_toInt ha, ng_toInt hk2]
  omega
theorem lt_m1 {k a : Nat} (hk2 : k < 2 ^ 31) (ha : a < 2 ^ 31) : (nI a < ng k) = False := by
  apply eq_false
  rw [fa_lt, nI_toInt ha, ng_toInt hk2]
  omega
theorem le_m1 {k a : Nat} (hk : 0 < k) (hk2 : k < 2 ^ 31) (ha : a < 2 ^ 31) : (nI a ≤ ng k) = False := by
  apply eq_false
  rw [fa_le, nI_toInt ha, ng_toInt hk2]
  omega
theorem m1_lt0 {k a : Nat} (hk2 : k < 2 ^ 31) (ha : a < 2 ^ 31) : (ng k = ng a) = (k = a) := by
  apply propext
  constructor
  · intro h
    have h1 := congrArg Int32.toInt h
    rw [ng_toInt ha, ng_toInt hk2] at h1
    omega
  · intro h; rw [h]
theorem oI_n : oI none = ng 1 := rfl
theorem oI_s (k : Nat) : oI (some k) = nI k := rfl
theorem inb_f {a N : Nat} (h : N ≤ a) (hN : a < 2 ^ 31) : inb (nI a) N = false := by
  have h1 : (nI a).toInt = (a : Int) := nI_toInt (by omega)
  simp only [inb, h1]
  exact decide_eq_false (by omega)
theorem le_tt {a b : Nat} (h : a ≤ b) : (a ≤ b) = True := eq_true h
theorem le_ff {a b : Nat} (h : b < a) : (a ≤ b) = False := eq_false (Nat.not_le.mpr h)
theorem lt_tt {a b : Nat} (h : a < b) : (a < b) = True := eq_true h
theorem lt_ff {a b : Nat} (h : b ≤ a) : (a < b) = False := eq_false (Nat.not_lt.mpr h)
theorem eq_ff {a b : Nat} (h : a ≠ b) : (a = b) = False := eq_false h
/-- a function of numbers, set at a place -/
def gs (g : Nat → Nat) (k v : Nat) : Nat → Nat := fun j => if j = k then v else g j
theorem gs_at {g : Nat → Nat} {k v : Nat} : gs g k v k = v := if_pos rfl
theorem gs_no {g : Nat → Nat} {k v j : Nat} (h : j ≠ k) : gs g k v j = g j := if_neg h
