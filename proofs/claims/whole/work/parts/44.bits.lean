/-! bits of longs and ints in the functions -/
theorem lushr_e {n k : Nat} (hn : n < 2 ^ 64) (hk : k < 64) : lushr (lN n) (nI k) = lN (n / 2 ^ k) := wb_shr hn hk
theorem lshl_e (n : Nat) {k : Nat} (hk : k < 64) : lshl (lN n) (nI k) = lN (n * 2 ^ k) := wb_shl n hk
def pcN (m : Nat) : Nat := fb_ct (fun i => m.testBit i) 64
theorem pcN_le (m : Nat) : pcN m ≤ 64 := fb_ct_le _ 64
def tl1 (x : Int64) : Int64 := x - (lushr x (1 : Int32) &&& (6148914691236517205 : Int64))
def tl2 (x : Int64) : Int64 := (x &&& (3689348814741910323 : Int64)) + (lushr x (2 : Int32) &&& (3689348814741910323 : Int64))
def tl3 (x : Int64) : Int64 := (x + lushr x (4 : Int32)) &&& (1085102592571150095 : Int64)
def tl4 (x : Int64) : Int64 := x + lushr x (8 : Int32)
def tl5 (x : Int64) : Int64 := x + lushr x (16 : Int32)
def tl6 (x : Int64) : Int64 := x + lushr x (32 : Int32)
theorem tl1_e {m : Nat} (hm : m < 2 ^ 64) : tl1 (lN m) = lN (cb1 8 m) := by
  unfold tl1 cb1
  rw [show (1 : Int32) = nI 1 from rfl, lushr_e hm (by decide), show (6148914691236517205 : Int64) = lN (mk1 85 8) from rfl, wb_and (by omega) (by decide)]
  exact lN_sub (Nat.le_trans Nat.and_le_left (by omega))
theorem tl2_e {m : Nat} (hm : m < 2 ^ 64) : tl2 (lN m) = lN (cb2 8 m) := by
  unfold tl2 cb2
  rw [show (2 : Int32) = nI 2 from rfl, lushr_e hm (by decide), show (3689348814741910323 : Int64) = lN (mk1 51 8) from rfl, wb_and hm (by decide), wb_and (by omega) (by decide), lN_add]
theorem tl3_e {m : Nat} (hm : m < 2 ^ 63) : tl3 (lN m) = lN (cb3 8 m) := by
  unfold tl3 cb3
  rw [show (4 : Int32) = nI 4 from rfl, lushr_e (by omega) (by decide), show (1085102592571150095 : Int64) = lN (mk1 15 8) from rfl, lN_add, wb_and (by omega) (by decide)]
theorem tl4_e {m : Nat} (hm : m < 2 ^ 64) : tl4 (lN m) = lN (m + m / 256) := by
  unfold tl4
  rw [show (8 : Int32) = nI 8 from rfl, lushr_e hm (by decide), lN_add]
theorem tl5_e {m : Nat} (hm : m < 2 ^ 64) : tl5 (lN m) = lN (m + m / 65536) := by
  unfold tl5
  rw [show (16 : Int32) = nI 16 from rfl, lushr_e hm (by decide), lN_add]
theorem tl6_e {m : Nat} (hm : m < 2 ^ 64) : tl6 (lN m) = lN (m + m / 4294967296) := by
  unfold tl6
  rw [show (32 : Int32) = nI 32 from rfl, lushr_e hm (by decide), lN_add]
theorem Jl_bitCount_e {m : Nat} {M : Mm} (hm : m < 2 ^ 64) : Jl_bitCount (lN m) M = some (nI (pcN m)) := by
  have h1 : cb1 8 m < 2 ^ 64 := Nat.lt_of_le_of_lt (Nat.sub_le _ _) hm
  have h2 : cb2 8 (cb1 8 m) < 2 ^ 63 := by
    have a1 : cb1 8 m &&& mk1 51 8 ≤ mk1 51 8 := Nat.and_le_right
    have a2 : cb1 8 m / 4 &&& mk1 51 8 ≤ mk1 51 8 := Nat.and_le_right
    have a3 : mk1 51 8 = 3689348814741910323 := by decide
    unfold cb2
    omega
  have h3 : bsum 8 m < 2 ^ 60 := by
    rw [← cb_all 8 m hm]
    have a1 : cb2 8 (cb1 8 m) + cb2 8 (cb1 8 m) / 16 &&& mk1 15 8 ≤ mk1 15 8 := Nat.and_le_right
    have a3 : mk1 15 8 = 1085102592571150095 := by decide
    unfold cb3
    omega
  show some ((tl6 (tl5 (tl4 (tl3 (tl2 (tl1 (lN m))))))).toInt32 &&& (127 : Int32)) = _
  rw [tl1_e hm, tl2_e h1, tl3_e h2, cb_all 8 m hm, tl4_e (by omega), tl5_e (by omega), tl6_e (by omega), lN_i, show (127 : Int32) = nI (2 ^ 7 - 1) from rfl, fa_mask]
  exact congrArg (fun k => some (nI k)) (sum8 m)
def pcI (m : Nat) : Nat := fb_ct (fun i => m.testBit i) 32
def ti1 (x : Int32) : Int32 := x - (ushr x (1 : Int32) &&& (1431655765 : Int32))
def ti2 (x : Int32) : Int32 := (x &&& (858993459 : Int32)) + (ushr x (2 : Int32) &&& (858993459 : Int32))
def ti3 (x : Int32) : Int32 := (x + ushr x (4 : Int32)) &&& (252645135 : Int32)
def ti4 (x : Int32) : Int32 := x + ushr x (8 : Int32)
def ti5 (x : Int32) : Int32 := x + ushr x (16 : Int32)
theorem ushr_e {n k : Nat} (hn : n < 2 ^ 32) (hk : k < 32) : ushr (nI n) (nI k) = nI (n / 2 ^ k) := pk_ushrN hn (nI k) k (s_u k hk)
theorem nI_subI {a b : Nat} (h : b ≤ a) : nI a - nI b = nI (a - b) := pk_sub h
theorem ti1_e {m : Nat} (hm : m < 2 ^ 32) : ti1 (nI m) = nI (cb1 4 m) := by
  unfold ti1 cb1
  rw [show (1 : Int32) = nI 1 from rfl, ushr_e hm (by decide), show (1431655765 : Int32) = nI (mk1 85 4) from rfl, fa_and]
  exact nI_subI (Nat.le_trans Nat.and_le_left (by omega))
theorem ti2_e {m : Nat} (hm : m < 2 ^ 32) : ti2 (nI m) = nI (cb2 4 m) := by
  unfold ti2 cb2
  rw [show (2 : Int32) = nI 2 from rfl, ushr_e hm (by decide), show (858993459 : Int32) = nI (mk1 51 4) from rfl, fa_and, fa_and, nI_add]
theorem ti3_e {m : Nat} (hm : m < 2 ^ 32) : ti3 (nI m) = nI (cb3 4 m) := by
  unfold ti3 cb3
  rw [show (4 : Int32) = nI 4 from rfl, ushr_e hm (by decide), show (252645135 : Int32) = nI (mk1 15 4) from rfl, nI_add, fa_and]
theorem ti4_e {m : Nat} (hm : m < 2 ^ 32) : ti4 (nI m) = nI (m + m / 256) := by
  unfold ti4
  rw [show (8 : Int32) = nI 8 from rfl, ushr_e hm (by decide), nI_add]
theorem ti5_e {m : Nat} (hm : m < 2 ^ 32) : ti5 (nI m) = nI (m + m / 65536) := by
  unfold ti5
  rw [show (16 : Int32) = nI 16 from rfl, ushr_e hm (by decide), nI_add]
theorem sq8 {c0 c1 c2 c3 : Nat} (h0 : c0 ≤ 8) (h1 : c1 ≤ 8) (h2 : c2 ≤ 8) (h3 : c3 ≤ 8) : (let a := c0 + 256 * (c1 + 256 * (c2 + 256 * (c3 + 256 * 0))); let b := a + a / 256; let c := b + b / 65536; c % 64) = c0 + (c1 + (c2 + (c3 + 0))) := by
  show (c0 + 256 * (c1 + 256 * (c2 + 256 * (c3 + 256 * 0))) + (c0 + 256 * (c1 + 256 * (c2 + 256 * (c3 + 256 * 0)))) / 256 + (c0 + 256 * (c1 + 256 * (c2 + 256 * (c3 + 256 * 0))) + (c0 + 256 * (c1 + 256 * (c2 + 256 * (c3 + 256 * 0)))) / 256) / 65536) % 64 = _
  rw [dv (Nat.lt_of_le_of_lt h0 (by decide)), show c0 + 256 * (c1 + 256 * (c2 + 256 * (c3 + 256 * 0))) + (c1 + 256 * (c2 + 256 * (c3 + 256 * 0))) = (c0 + c1) + 256 * ((c1 + c2) + 256 * ((c2 + c3) + 256 * c3)) by omega, show ((c0 + c1) + 256 * ((c1 + c2) + 256 * ((c2 + c3) + 256 * c3))) / 65536 = (c2 + c3) + 256 * c3 by rw [show (65536 : Nat) = 256 * 256 from rfl, ← Nat.div_div_eq_div_mul, dv (by omega), dv (by omega)]]
  omega
theorem sum4 (m : Nat) : (let a := bsum 4 m; let b := a + a / 256; let c := b + b / 65536; c % 64) = fb_ct (fun i => m.testBit i) 32 := by
  have e : fb_ct (fun i => m.testBit i) 32 = fb_ct (fun i => m.testBit i) (8 + (8 + (8 + (8 + 0)))) := rfl
  rw [e, ct_bytes, ct_bytes, ct_bytes, ct_bytes]
  simp only [bsum]
  have z : ∀ p : Nat → Bool, fb_ct p 0 = 0 := fun _ => rfl
  rw [z]
  exact sq8 (fb8 _) (fb8 _) (fb8 _) (fb8 _)
theorem Ji_bitCount_e {m : Nat} {M : Mm} (hm : m < 2 ^ 32) : Ji_bitCount (nI m) M = some (nI (pcI m)) := by
  have h1 : cb1 4 m < 2 ^ 32 := Nat.lt_of_le_of_lt (Nat.sub_le _ _) hm
  have h2 : cb2 4 (cb1 4 m) < 2 ^ 31 := by
    have a1 : cb1 4 m &&& mk1 51 4 ≤ mk1 51 4 := Nat.and_le_right
    have a2 : cb1 4 m / 4 &&& mk1 51 4 ≤ mk1 51 4 := Nat.and_le_right
    have a3 : mk1 51 4 = 858993459 := by decide
    unfold cb2
    omega
  have h3 : bsum 4 m < 2 ^ 28 := by
    rw [← cb_all 4 m hm]
    have a1 : cb2 4 (cb1 4 m) + cb2 4 (cb1 4 m) / 16 &&& mk1 15 4 ≤ mk1 15 4 := Nat.and_le_right
    have a3 : mk1 15 4 = 252645135 := by decide
    unfold cb3
    omega
  show some (ti5 (ti4 (ti3 (ti2 (ti1 (nI m))))) &&& (63 : Int32)) = _
  rw [ti1_e hm, ti2_e h1, ti3_e (by omega), cb_all 4 m hm, ti4_e (by omega), ti5_e (by omega), show (63 : Int32) = nI (2 ^ 6 - 1) from rfl, fa_mask]
  exact congrArg (fun k => some (nI k)) (sum4 m)
