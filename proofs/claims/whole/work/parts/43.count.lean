/-! how many bits: the JDK's bitCount -/
def mk1 : Nat → Nat → Nat
  | _, 0 => 0
  | c, n + 1 => c + 256 * mk1 c n
theorem and_sp {x c y : Nat} (hc : c < 256) : x &&& (c + 256 * y) = (x % 256 &&& c) + 256 * (x / 256 &&& y) := by
  have h1 : (x &&& (c + 256 * y)) % 2 ^ 8 = x % 2 ^ 8 &&& (c + 256 * y) % 2 ^ 8 := Nat.and_mod_two_pow
  have h2 : (x &&& (c + 256 * y)) / 2 ^ 8 = x / 2 ^ 8 &&& (c + 256 * y) / 2 ^ 8 := Nat.and_div_two_pow
  have e1 : (c + 256 * y) % 2 ^ 8 = c := by omega
  have e2 : (c + 256 * y) / 2 ^ 8 = y := by omega
  rw [e1] at h1
  rw [e2] at h2
  have := Nat.div_add_mod (x &&& (c + 256 * y)) 256
  rw [← this]
  rw [show (256 : Nat) = 2 ^ 8 from rfl, h1, h2]
  omega
def cb1 (n m : Nat) : Nat := m - (m / 2 &&& mk1 85 n)
def cb2 (n m : Nat) : Nat := (m &&& mk1 51 n) + (m / 4 &&& mk1 51 n)
def cb3 (n m : Nat) : Nat := (m + m / 16) &&& mk1 15 n
def by1 (b : Nat) : Nat := b - (b / 2 &&& 85)
def by2 (b : Nat) : Nat := (b &&& 51) + (b / 4 &&& 51)
def by3 (b : Nat) : Nat := (b + b / 16) &&& 15
theorem by_all : ∀ b, b < 256 → (by1 b < 256 ∧ by2 (by1 b) % 16 ≤ 4 ∧ by2 (by1 b) / 16 ≤ 4 ∧ by3 (by2 (by1 b)) = fb_ct (fun i => b.testBit i) 8) := by decide +kernel
theorem by_a : ∀ x, x < 128 → ∀ y, y < 2 → (x + 128 * y) &&& 85 = x &&& 85 := by decide +kernel
theorem by_b : ∀ x, x < 64 → ∀ y, y < 4 → (x + 64 * y) &&& 51 = x &&& 51 := by decide +kernel
theorem by_c : ∀ x, x < 256 → x &&& 15 = x % 16 := by decide +kernel
theorem cb1_s {n b r : Nat} (hb : b < 256) : cb1 (n + 1) (b + 256 * r) = by1 b + 256 * cb1 n r := by
  unfold cb1 by1
  rw [show mk1 85 (n + 1) = 85 + 256 * mk1 85 n from rfl, and_sp (by decide)]
  have e1 : (b + 256 * r) / 2 % 256 = b / 2 + 128 * (r % 2) := by omega
  have e2 : (b + 256 * r) / 2 / 256 = r / 2 := by omega
  rw [e1, e2, by_a _ (by omega) _ (by omega)]
  have h1 : b / 2 &&& 85 ≤ b / 2 := Nat.and_le_left
  have h2 : r / 2 &&& mk1 85 n ≤ r / 2 := Nat.and_le_left
  omega
theorem cb2_s {n b r : Nat} (hb : b < 256) : cb2 (n + 1) (b + 256 * r) = by2 b + 256 * cb2 n r := by
  unfold cb2 by2
  rw [show mk1 51 (n + 1) = 51 + 256 * mk1 51 n from rfl, and_sp (by decide), and_sp (by decide)]
  have e1 : (b + 256 * r) / 4 % 256 = b / 4 + 64 * (r % 4) := by omega
  have e2 : (b + 256 * r) / 4 / 256 = r / 4 := by omega
  have e3 : (b + 256 * r) % 256 = b := by omega
  have e4 : (b + 256 * r) / 256 = r := by omega
  rw [e1, e2, e3, e4, by_b _ (by omega) _ (by omega)]
  omega
theorem cb3_s {n b r : Nat} (hb : b % 16 ≤ 4 ∧ b / 16 ≤ 4) (hr : r % 16 ≤ 4) : cb3 (n + 1) (b + 256 * r) = by3 b + 256 * cb3 n r := by
  unfold cb3 by3
  rw [show mk1 15 (n + 1) = 15 + 256 * mk1 15 n from rfl, and_sp (by decide)]
  have e1 : (b + 256 * r + (b + 256 * r) / 16) % 256 = b + b / 16 + 16 * (r % 16) := by omega
  have e2 : (b + 256 * r + (b + 256 * r) / 16) / 256 = r + r / 16 := by omega
  rw [e1, e2, by_c _ (by omega), by_c _ (by omega)]
  have e3 : (b + b / 16 + 16 * (r % 16)) % 16 = (b + b / 16) % 16 := by omega
  rw [e3]
/-- the counts of the bytes, in their places -/
def bsum : Nat → Nat → Nat
  | 0, _ => 0
  | n + 1, m => fb_ct (fun i => (m % 256).testBit i) 8 + 256 * bsum n (m / 256)
theorem cb2_lo {n m : Nat} (hm : m < 256 ^ n) : cb2 n (cb1 n m) % 16 ≤ 4 := by
  cases n with
  | zero => simp [cb2, mk1]
  | succ n =>
    have e : m = m % 256 + 256 * (m / 256) := by omega
    have hb : m % 256 < 256 := Nat.mod_lt _ (by decide)
    obtain ⟨h1, h2, h3, h4⟩ := by_all (m % 256) hb
    rw [e, cb1_s hb, cb2_s h1]
    omega
theorem cb_all : ∀ (n m : Nat), m < 256 ^ n → cb3 n (cb2 n (cb1 n m)) = bsum n m
  | 0, m, h => by simp [cb3, mk1, bsum]
  | n + 1, m, h => by
    have e : m = m % 256 + 256 * (m / 256) := by omega
    have hb : m % 256 < 256 := Nat.mod_lt _ (by decide)
    have hr : m / 256 < 256 ^ n := by
      rw [Nat.pow_succ] at h
      exact Nat.div_lt_of_lt_mul (by omega)
    obtain ⟨h1, h2, h3, h4⟩ := by_all (m % 256) hb
    have step : cb3 (n + 1) (cb2 (n + 1) (cb1 (n + 1) (m % 256 + 256 * (m / 256)))) = by3 (by2 (by1 (m % 256))) + 256 * bsum n (m / 256) := by
      rw [cb1_s hb, cb2_s h1, cb3_s ⟨h2, h3⟩ (cb2_lo hr), cb_all n (m / 256) hr]
    rw [← e] at step
    rw [step, h4]
    rfl
theorem tb_hi {m i : Nat} : m.testBit (8 + i) = (m / 256).testBit i := by
  rw [show (256 : Nat) = 2 ^ 8 from rfl, Nat.testBit_div_two_pow, Nat.add_comm]
theorem tb_lo {m i : Nat} (h : i < 8) : m.testBit i = (m % 256).testBit i := by
  rw [show (256 : Nat) = 2 ^ 8 from rfl, Nat.testBit_mod_two_pow]
  simp [h]
theorem ct_bytes (m k : Nat) : fb_ct (fun i => m.testBit i) (8 + k) = fb_ct (fun i => (m % 256).testBit i) 8 + fb_ct (fun i => (m / 256).testBit i) k := by
  rw [fb_ct_split]
  rw [fb_ct_cong (p := fun i => m.testBit i) (q := fun i => (m % 256).testBit i) (fun i hi => tb_lo hi), fb_ct_cong (p := fun i => m.testBit (8 + i)) (q := fun i => (m / 256).testBit i) (fun i _ => tb_hi)]
theorem fb8 (m : Nat) : fb_ct (fun i => m.testBit i) 8 ≤ 8 := fb_ct_le _ 8
theorem dv {x y : Nat} (h : x < 256) : (x + 256 * y) / 256 = y := by omega
theorem sq1 {c0 c1 c2 c3 c4 c5 c6 c7 : Nat} (h0 : c0 ≤ 8) (h1 : c1 ≤ 8) (h2 : c2 ≤ 8) (h3 : c3 ≤ 8) (h4 : c4 ≤ 8) (h5 : c5 ≤ 8) (h6 : c6 ≤ 8) (h7 : c7 ≤ 8) : (c0 + 256 * (c1 + 256 * (c2 + 256 * (c3 + 256 * (c4 + 256 * (c5 + 256 * (c6 + 256 * (c7 + 256 * 0)))))))) / 256 = c1 + 256 * (c2 + 256 * (c3 + 256 * (c4 + 256 * (c5 + 256 * (c6 + 256 * (c7 + 256 * 0)))))) := dv (Nat.lt_of_le_of_lt h0 (by decide))
theorem sq2 {c0 c1 c2 c3 c4 c5 c6 c7 : Nat} : (c0 + 256 * (c1 + 256 * (c2 + 256 * (c3 + 256 * (c4 + 256 * (c5 + 256 * (c6 + 256 * (c7 + 256 * 0)))))))) + (c1 + 256 * (c2 + 256 * (c3 + 256 * (c4 + 256 * (c5 + 256 * (c6 + 256 * (c7 + 256 * 0))))))) = (c0 + c1) + 256 * ((c1 + c2) + 256 * ((c2 + c3) + 256 * ((c3 + c4) + 256 * ((c4 + c5) + 256 * ((c5 + c6) + 256 * ((c6 + c7) + 256 * c7)))))) := by omega
theorem sq3 {c0 c1 c2 c3 c4 c5 c6 c7 : Nat} (h0 : c0 ≤ 8) (h1 : c1 ≤ 8) (h2 : c2 ≤ 8) (h3 : c3 ≤ 8) (h4 : c4 ≤ 8) (h5 : c5 ≤ 8) (h6 : c6 ≤ 8) (h7 : c7 ≤ 8) : ((c0 + c1) + 256 * ((c1 + c2) + 256 * ((c2 + c3) + 256 * ((c3 + c4) + 256 * ((c4 + c5) + 256 * ((c5 + c6) + 256 * ((c6 + c7) + 256 * c7))))))) / 65536 = (c2 + c3) + 256 * ((c3 + c4) + 256 * ((c4 + c5) + 256 * ((c5 + c6) + 256 * ((c6 + c7) + 256 * c7)))) := by
  rw [show (65536 : Nat) = 256 * 256 from rfl, ← Nat.div_div_eq_div_mul, dv (Nat.lt_of_le_of_lt (Nat.add_le_add h0 h1) (by decide)), dv (Nat.lt_of_le_of_lt (Nat.add_le_add h1 h2) (by decide))]
theorem sq4 {c0 c1 c2 c3 c4 c5 c6 c7 : Nat} : ((c0 + c1) + 256 * ((c1 + c2) + 256 * ((c2 + c3) + 256 * ((c3 + c4) + 256 * ((c4 + c5) + 256 * ((c5 + c6) + 256 * ((c6 + c7) + 256 * c7))))))) + ((c2 + c3) + 256 * ((c3 + c4) + 256 * ((c4 + c5) + 256 * ((c5 + c6) + 256 * ((c6 + c7) + 256 * c7))))) = (c0 + c1 + c2 + c3) + 256 * ((c1 + c2 + c3 + c4) + 256 * ((c2 + c3 + c4 + c5) + 256 * ((c3 + c4 + c5 + c6) + 256 * ((c4 + c5 + c6 + c7) + 256 * ((c5 + c6 + c7) + 256 * ((c6 + c7) + 256 * c7)))))) := by omega
theorem sq5 {c0 c1 c2 c3 c4 c5 c6 c7 : Nat} (h0 : c0 ≤ 8) (h1 : c1 ≤ 8) (h2 : c2 ≤ 8) (h3 : c3 ≤ 8) (h4 : c4 ≤ 8) (h5 : c5 ≤ 8) (h6 : c6 ≤ 8) (h7 : c7 ≤ 8) : ((c0 + c1 + c2 + c3) + 256 * ((c1 + c2 + c3 + c4) + 256 * ((c2 + c3 + c4 + c5) + 256 * ((c3 + c4 + c5 + c6) + 256 * ((c4 + c5 + c6 + c7) + 256 * ((c5 + c6 + c7) + 256 * ((c6 + c7) + 256 * c7))))))) / 4294967296 = (c4 + c5 + c6 + c7) + 256 * ((c5 + c6 + c7) + 256 * ((c6 + c7) + 256 * c7)) := by
  rw [show (4294967296 : Nat) = 256 * 256 * 256 * 256 from rfl, ← Nat.div_div_eq_div_mul, ← Nat.div_div_eq_div_mul, ← Nat.div_div_eq_div_mul, dv (by omega), dv (by omega), dv (by omega), dv (by omega)]
theorem sq6 {x y a b : Nat} (h : x + y < 128) : (x + 256 * a + (y + 256 * b)) % 128 = x + y := by omega
theorem sq7 {c0 c1 c2 c3 c4 c5 c6 c7 : Nat} (h0 : c0 ≤ 8) (h1 : c1 ≤ 8) (h2 : c2 ≤ 8) (h3 : c3 ≤ 8) (h4 : c4 ≤ 8) (h5 : c5 ≤ 8) (h6 : c6 ≤ 8) (h7 : c7 ≤ 8) : (let a := c0 + 256 * (c1 + 256 * (c2 + 256 * (c3 + 256 * (c4 + 256 * (c5 + 256 * (c6 + 256 * (c7 + 256 * 0))))))); let b := a + a / 256; let c := b + b / 65536; let d := c + c / 4294967296; d % 128) = c0 + (c1 + (c2 + (c3 + (c4 + (c5 + (c6 + (c7 + 0))))))) := by
  show ((c0 + 256 * (c1 + 256 * (c2 + 256 * (c3 + 256 * (c4 + 256 * (c5 + 256 * (c6 + 256 * (c7 + 256 * 0)))))))) + (c0 + 256 * (c1 + 256 * (c2 + 256 * (c3 + 256 * (c4 + 256 * (c5 + 256 * (c6 + 256 * (c7 + 256 * 0)))))))) / 256 + ((c0 + 256 * (c1 + 256 * (c2 + 256 * (c3 + 256 * (c4 + 256 * (c5 + 256 * (c6 + 256 * (c7 + 256 * 0)))))))) + (c0 + 256 * (c1 + 256 * (c2 + 256 * (c3 + 256 * (c4 + 256 * (c5 + 256 * (c6 + 256 * (c7 + 256 * 0)))))))) / 256) / 65536 + ((c0 + 256 * (c1 + 256 * (c2 + 256 * (c3 + 256 * (c4 + 256 * (c5 + 256 * (c6 + 256 * (c7 + 256 * 0)))))))) + (c0 + 256 * (c1 + 256 * (c2 + 256 * (c3 + 256 * (c4 + 256 * (c5 + 256 * (c6 + 256 * (c7 + 256 * 0)))))))) / 256 + ((c0 + 256 * (c1 + 256 * (c2 + 256 * (c3 + 256 * (c4 + 256 * (c5 + 256 * (c6 + 256 * (c7 + 256 * 0)))))))) + (c0 + 256 * (c1 + 256 * (c2 + 256 * (c3 + 256 * (c4 + 256 * (c5 + 256 * (c6 + 256 * (c7 + 256 * 0)))))))) / 256) / 65536) / 4294967296) % 128 = _
  rw [sq1 h0 h1 h2 h3 h4 h5 h6 h7, sq2, sq3 h0 h1 h2 h3 h4 h5 h6 h7, sq4, sq5 h0 h1 h2 h3 h4 h5 h6 h7, sq6 (by omega)]
  omega
theorem sum8 (m : Nat) : (let a := bsum 8 m; let b := a + a / 256; let c := b + b / 65536; let d := c + c / 4294967296; d % 128) = fb_ct (fun i => m.testBit i) 64 := by
  have e : fb_ct (fun i => m.testBit i) 64 = fb_ct (fun i => m.testBit i) (8 + (8 + (8 + (8 + (8 + (8 + (8 + (8 + 0)))))))) := rfl
  rw [e, ct_bytes, ct_bytes, ct_bytes, ct_bytes, ct_bytes, ct_bytes, ct_bytes, ct_bytes]
  simp only [bsum]
  have z : ∀ p : Nat → Bool, fb_ct p 0 = 0 := fun _ => rfl
  rw [z]
  have h0 := fb8 (m % 256)
  have h1 := fb8 (m / 256 % 256)
  have h2 := fb8 (m / 256 / 256 % 256)
  have h3 := fb8 (m / 256 / 256 / 256 % 256)
  have h4 := fb8 (m / 256 / 256 / 256 / 256 % 256)
  have h5 := fb8 (m / 256 / 256 / 256 / 256 / 256 % 256)
  have h6 := fb8 (m / 256 / 256 / 256 / 256 / 256 / 256 % 256)
  have h7 := fb8 (m / 256 / 256 / 256 / 256 / 256 / 256 / 256 % 256)
  exact sq7 h0 h1 h2 h3 h4 h5 h6 h7
