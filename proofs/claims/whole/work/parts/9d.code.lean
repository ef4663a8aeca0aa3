/-! words by their code -/
theorem cd_inj {b b' : Nat → Nat} {p p' : Nat} : ∀ k k', k ≤ 8 → k' ≤ 8 → (∀ i, i < k → ltr (b (p + i)) = true) → (∀ i, i < k' → ltr (b' (p' + i)) = true) → cdF b p k = cdF b' p' k' → k = k' ∧ ∀ i, i < k → b (p + i) = b' (p' + i)
  | 0, 0, _, _, _, _, _ => ⟨rfl, fun i hi => by omega⟩
  | 0, k' + 1, _, h8, _, hl, h => by
    have h2 := of_decide_eq_true (hl k' (by omega))
    rw [cd_s, if_pos (by omega)] at h
    have h0 : cdF b p 0 = 0 := rfl
    rw [h0] at h
    omega
  | k + 1, 0, h8, _, hl, _, h => by
    have h2 := of_decide_eq_true (hl k (by omega))
    rw [cd_s, if_pos (by omega)] at h
    have h0 : cdF b' p' 0 = 0 := rfl
    rw [h0] at h
    omega
  | k + 1, k' + 1, h8, h8', hl, hl', h => by
    have h2 := of_decide_eq_true (hl k (by omega))
    have h2' := of_decide_eq_true (hl' k' (by omega))
    rw [cd_s, cd_s, if_pos (by omega), if_pos (by omega)] at h
    have hq : b (p + k) = b' (p' + k') ∧ cdF b p k = cdF b' p' k' := by omega
    obtain ⟨r1, r2⟩ := cd_inj k k' (by omega) (by omega) (fun i hi => hl i (by omega)) (fun i hi => hl' i (by omega)) hq.2
    refine ⟨by omega, fun i hi => ?_⟩
    by_cases c : i = k
    · rw [c, hq.1, r1]
    · exact r2 i (by omega)
theorem cd_cong {b b' : Nat → Nat} {p p' : Nat} : ∀ k, (∀ i, i < k → b (p + i) = b' (p' + i)) → cdF b p k = cdF b' p' k
  | 0, _ => rfl
  | k + 1, h => by
    rw [cd_s, cd_s, cd_cong k (fun i hi => h i (by omega)), h k (by omega)]
theorem cd_lt {b : Nat → Nat} {p : Nat} : ∀ k, k ≤ 8 → (∀ i, i < k → ltr (b (p + i)) = true) → cdF b p k < 32 ^ k
  | 0, _, _ => by show 0 < 1; omega
  | k + 1, h8, hl => by
    have ih := cd_lt k (by omega) (fun i hi => hl i (by omega))
    have h2 := of_decide_eq_true (hl k (by omega))
    rw [cd_s, if_pos (by omega), Nat.pow_succ]
    omega
