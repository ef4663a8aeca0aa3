theorem mono_Fm_tries_0  : ∀ c j, fp_Fm_comes c j → fp_Fm_tries c j := fun c j => (fun e => Or.inr (Or.inr (Or.inr (Or.inr (Or.inr (Or.inr (Or.inr (Or.inr (Or.inr (Or.inr (Or.inr (Or.inr (Or.inl e)))))))))))))
theorem mono_Fm_tries_1  : ∀ c j, fp_Fm_copies c j → fp_Fm_tries c j := fun c j => (fun e => Or.inr (Or.inr (Or.inr (Or.inr (Or.inr (Or.inr (Or.inr (Or.inr (Or.inr (Or.inr (Or.inr (Or.inr (Or.inl e)))))))))))))
theorem mono_Fm_tries_2  : ∀ c j, fp_Fm_drawn c j → fp_Fm_tries c j := fun c j => (fun e => Or.inr (Or.inr (Or.inr (Or.inr (Or.inr (Or.inr (Or.inr (Or.inr (Or.inr (Or.inr (Or.inr (Or.inr (Or.inl e)))))))))))))
theorem mono_Fm_tries_3  : ∀ c j, fp_Fm_ends c j → fp_Fm_tries c j := fun c j => (fun e => Or.inr (Or.inr (Or.inr (Or.inr (Or.inr (Or.inr (Or.inr (Or.inr (Or.inr (Or.inr (Or.inr (Or.inr (Or.inl e)))))))))))))
theorem mono_Fm_tries_4  : ∀ c j, fp_Fm_findsFor c j → fp_Fm_tries c j := fun c j => (fun h => h.elim (fun e => Or.inl e) (fun h => h.elim (fun e => Or.inr (Or.inl e)) (fun h => h.elim (fun e => Or.inr (Or.inr (Or.inl e))) (fun h => h.elim (fun e => Or.inr (Or.inr (Or.inr (Or.inl e)))) (fun h => h.elim (fun e => Or.inr (Or.inr (Or.inr (Or.inr (Or.inl e))))) (fun h => h.elim (fun e => Or.inr (Or.inr (Or.inr (Or.inr (Or.inr (Or.inl e)))))) (fun h => h.elim (fun e => Or.inr (Or.inr (Or.inr (Or.inr (Or.inr (Or.inr (Or.inl e))))))) (fun h => h.elim (fun e => Or.inr (Or.inr (Or.inr (Or.inr (Or.inr (Or.inr (Or.inr (Or.inl e)))))))) (fun h => h.elim (fun e => Or.inr (Or.inr (Or.inr (Or.inr (Or.inr (Or.inr (Or.inr (Or.inr (Or.inr (Or.inr (Or.inr (Or.inr (Or.inr (Or.inl e)))))))))))))) (fun e => Or.inr (Or.inr (Or.inr (Or.inr (Or.inr (Or.inr (Or.inr (Or.inr (Or.inr (Or.inr (Or.inr (Or.inr (Or.inr (Or.inr (e))))))))))))))))))))))))
theorem mono_Fm_tries_5  : ∀ c j, fp_Fm_sets c j → fp_Fm_tries c j := fun c j => (fun e => Or.inr (Or.inr (Or.inr (Or.inr (Or.inr (Or.inr (Or.inr (Or.inr (Or.inr (Or.inr (Or.inr (Or.inr (Or.inl e)))))))))))))
theorem fr_Fm_tries_j179 {n : Nat} {v4 : Int32} {M : Mm} {oo : (Int32 × Mm) ⊕ (Mm)} (h : Fm_tries_j179 n v4 M = some oo) : Fr (fp_Fm_tries) M (elS oo (fun s1 => s1.2) (fun x1 => x1)) := by
  unfold Fm_tries_j179 at h
  obtain ⟨z28, _, h⟩ := bnd_s h
  obtain ⟨z30, _, h⟩ := bnd_s h
  obtain rfl := Option.some.inj h
  try dsimp only [elS]
  repeat' (with_reducible first | exact Fr.rf | refine Fr.I ?_ (by simp [fp_Fm_tries]) | refine Fr.L ?_ (by simp [fp_Fm_tries]) | refine Fr.cI ?_ (by intro j; simp [fp_Fm_tries]) | refine Fr.cL ?_ (by intro j; simp [fp_Fm_tries]) | (refine Fr.tr ?_ (Fr.mono (fr_Fm_comes (by with_reducible assumption)) mono_Fm_tries_0); try dsimp only) | (refine Fr.tr ?_ (Fr.mono (fr_Fm_copies (by with_reducible assumption)) mono_Fm_tries_1); try dsimp only) | (refine Fr.tr ?_ (Fr.mono (fr_Fm_drawn (by with_reducible assumption)) mono_Fm_tries_2); try dsimp only) | (refine Fr.tr ?_ (Fr.mono (fr_Fm_ends (by with_reducible assumption)) mono_Fm_tries_3); try dsimp only) | (refine Fr.tr ?_ (Fr.mono (fr_Fm_findsFor (by with_reducible assumption)) mono_Fm_tries_4); try dsimp only) | (refine Fr.tr ?_ (Fr.mono (fr_Fm_sets (by with_reducible assumption)) mono_Fm_tries_5); try dsimp only))
theorem fr_Fm_tries_j163 {n : Nat} {v4 : Int32} {v8 : Int32} {v10 : Int32} {M : Mm} {oo : (Int32 × Mm) ⊕ (Mm)} (h : Fm_tries_j163 n v4 v8 v10 M = some oo) : Fr (fp_Fm_tries) M (elS oo (fun s1 => s1.2) (fun x1 => x1)) := by
  unfold Fm_tries_j163 at h
  by_cases g0 : v10 = (0 : Int32)
  · have h := (if_pos g0).symm.trans h
    refine Fr.tr ?_ (fr_Fm_tries_j179 h)
    try dsimp only [elS]
    repeat' (with_reducible first | exact Fr.rf | refine Fr.I ?_ (by simp [fp_Fm_tries]) | refine Fr.L ?_ (by simp [fp_Fm_tries]) | refine Fr.cI ?_ (by intro j; simp [fp_Fm_tries]) | refine Fr.cL ?_ (by intro j; simp [fp_Fm_tries]) | (refine Fr.tr ?_ (Fr.mono (fr_Fm_comes (by with_reducible assumption)) mono_Fm_tries_0); try dsimp only) | (refine Fr.tr ?_ (Fr.mono (fr_Fm_copies (by with_reducible assumption)) mono_Fm_tries_1); try dsimp only) | (refine Fr.tr ?_ (Fr.mono (fr_Fm_drawn (by with_reducible assumption)) mono_Fm_tries_2); try dsimp only) | (refine Fr.tr ?_ (Fr.mono (fr_Fm_ends (by with_reducible assumption)) mono_Fm_tries_3); try dsimp only) | (refine Fr.tr ?_ (Fr.mono (fr_Fm_findsFor (by with_reducible assumption)) mono_Fm_tries_4); try dsimp only) | (refine Fr.tr ?_ (Fr.mono (fr_Fm_sets (by with_reducible assumption)) mono_Fm_tries_5); try dsimp only))
  · have h := (if_neg g0).symm.trans h
    refine Fr.tr ?_ (fr_Fm_tries_j179 h)
    try dsimp only [elS]
    repeat' (with_reducible first | exact Fr.rf | refine Fr.I ?_ (by simp [fp_Fm_tries]) | refine Fr.L ?_ (by simp [fp_Fm_tries]) | refine Fr.cI ?_ (by intro j; simp [fp_Fm_tries]) | refine Fr.cL ?_ (by intro j; simp [fp_Fm_tries]) | (refine Fr.tr ?_ (Fr.mono (fr_Fm_comes (by with_reducible assumption)) mono_Fm_tries_0); try dsimp only) | (refine Fr.tr ?_ (Fr.mono (fr_Fm_copies (by with_reducible assumption)) mono_Fm_tries_1); try dsimp only) | (refine Fr.tr ?_ (Fr.mono (fr_Fm_drawn (by with_reducible assumption)) mono_Fm_tries_2); try dsimp only) | (refine Fr.tr ?_ (Fr.mono (fr_Fm_ends (by with_reducible assumption)) mono_Fm_tries_3); try dsimp only) | (refine Fr.tr ?_ (Fr.mono (fr_Fm_findsFor (by with_reducible assumption)) mono_Fm_tries_4); try dsimp only) | (refine Fr.tr ?_ (Fr.mono (fr_Fm_sets (by with_reducible assumption)) mono_Fm_tries_5); try dsimp only))
theorem fr_Fm_tries_j145 {n : Nat} {v4 : Int32} {v8 : Int32} {v10 : Int32} {w0 : Int32} {w1 : Int32} {w2 : Int32} {M : Mm} {oo : (Int32 × Mm) ⊕ (Mm)} (h : Fm_tries_j145 n v4 v8 v10 w0 w1 w2 M = some oo) : Fr (fp_Fm_tries) M (elS oo (fun s1 => s1.2) (fun x1 => x1)) := by
  unfold Fm_tries_j145 at h
  obtain ⟨z24, _, h⟩ := bnd_s h
  by_cases g0 : v10 = (0 : Int32)
  · have h := (if_pos g0).symm.trans h
    refine Fr.tr ?_ (fr_Fm_tries_j163 h)
    try dsimp only [elS]
    repeat' (with_reducible first | exact Fr.rf | refine Fr.I ?_ (by simp [fp_Fm_tries]) | refine Fr.L ?_ (by simp [fp_Fm_tries]) | refine Fr.cI ?_ (by intro j; simp [fp_Fm_tries]) | refine Fr.cL ?_ (by intro j; simp [fp_Fm_tries]) | (refine Fr.tr ?_ (Fr.mono (fr_Fm_comes (by with_reducible assumption)) mono_Fm_tries_0); try dsimp only) | (refine Fr.tr ?_ (Fr.mono (fr_Fm_copies (by with_reducible assumption)) mono_Fm_tries_1); try dsimp only) | (refine Fr.tr ?_ (Fr.mono (fr_Fm_drawn (by with_reducible assumption)) mono_Fm_tries_2); try dsimp only) | (refine Fr.tr ?_ (Fr.mono (fr_Fm_ends (by with_reducible assumption)) mono_Fm_tries_3); try dsimp only) | (refine Fr.tr ?_ (Fr.mono (fr_Fm_findsFor (by with_reducible assumption)) mono_Fm_tries_4); try dsimp only) | (refine Fr.tr ?_ (Fr.mono (fr_Fm_sets (by with_reducible assumption)) mono_Fm_tries_5); try dsimp only))
  · have h := (if_neg g0).symm.trans h
    refine Fr.tr ?_ (fr_Fm_tries_j163 h)
    try dsimp only [elS]
    repeat' (with_reducible first | exact Fr.rf | refine Fr.I ?_ (by simp [fp_Fm_tries]) | refine Fr.L ?_ (by simp [fp_Fm_tries]) | refine Fr.cI ?_ (by intro j; simp [fp_Fm_tries]) | refine Fr.cL ?_ (by intro j; simp [fp_Fm_tries]) | (refine Fr.tr ?_ (Fr.mono (fr_Fm_comes (by with_reducible assumption)) mono_Fm_tries_0); try dsimp only) | (refine Fr.tr ?_ (Fr.mono (fr_Fm_copies (by with_reducible assumption)) mono_Fm_tries_1); try dsimp only) | (refine Fr.tr ?_ (Fr.mono (fr_Fm_drawn (by with_reducible assumption)) mono_Fm_tries_2); try dsimp only) | (refine Fr.tr ?_ (Fr.mono (fr_Fm_ends (by with_reducible assumption)) mono_Fm_tries_3); try dsimp only) | (refine Fr.tr ?_ (Fr.mono (fr_Fm_findsFor (by with_reducible assumption)) mono_Fm_tries_4); try dsimp only) | (refine Fr.tr ?_ (Fr.mono (fr_Fm_sets (by with_reducible assumption)) mono_Fm_tries_5); try dsimp only))
theorem fr_Fm_tries_b32 {n : Nat} {c1 : Int32} {c2 : Int32} {c3 : Int32} {v4 : Int32} {M : Mm} {oo : (Int32 × Mm) ⊕ (Mm)} (h : Fm_tries_b32 n c1 c2 c3 v4 M = some oo) : Fr (fp_Fm_tries) M (elS oo (fun s1 => s1.2) (fun x1 => x1)) := by
  unfold Fm_tries_b32 at h
  by_cases g0 : c1 ≤ v4
  · have h := (if_pos g0).symm.trans h
    obtain rfl := Option.some.inj h
    try dsimp only [elS]
    repeat' (with_reducible first | exact Fr.rf | refine Fr.I ?_ (by simp [fp_Fm_tries]) | refine Fr.L ?_ (by simp [fp_Fm_tries]) | refine Fr.cI ?_ (by intro j; simp [fp_Fm_tries]) | refine Fr.cL ?_ (by intro j; simp [fp_Fm_tries]) | (refine Fr.tr ?_ (Fr.mono (fr_Fm_comes (by with_reducible assumption)) mono_Fm_tries_0); try dsimp only) | (refine Fr.tr ?_ (Fr.mono (fr_Fm_copies (by with_reducible assumption)) mono_Fm_tries_1); try dsimp only) | (refine Fr.tr ?_ (Fr.mono (fr_Fm_drawn (by with_reducible assumption)) mono_Fm_tries_2); try dsimp only) | (refine Fr.tr ?_ (Fr.mono (fr_Fm_ends (by with_reducible assumption)) mono_Fm_tries_3); try dsimp only) | (refine Fr.tr ?_ (Fr.mono (fr_Fm_findsFor (by with_reducible assumption)) mono_Fm_tries_4); try dsimp only) | (refine Fr.tr ?_ (Fr.mono (fr_Fm_sets (by with_reducible assumption)) mono_Fm_tries_5); try dsimp only))
  · have h := (if_neg g0).symm.trans h
    obtain ⟨z5, _, h⟩ := bnd_s h
    obtain ⟨_, h⟩ := grd_s h
    obtain ⟨z8, _, h⟩ := bnd_s h
    obtain ⟨_, h⟩ := grd_s h
    obtain ⟨z11, _, h⟩ := bnd_s h
    obtain ⟨_, h⟩ := grd_s h
    obtain ⟨_, h⟩ := grd_s h
    obtain ⟨z15, _, h⟩ := bnd_s h
    obtain ⟨z17, _, h⟩ := bnd_s h
    obtain ⟨z19, _, h⟩ := bnd_s h
    obtain ⟨z21, _, h⟩ := bnd_s h
    by_cases g0 : z19.1 = true
    · have h := (if_pos g0).symm.trans h
      refine Fr.tr ?_ (fr_Fm_tries_j145 h)
      try dsimp only [elS]
      repeat' (with_reducible first | exact Fr.rf | refine Fr.I ?_ (by simp [fp_Fm_tries]) | refine Fr.L ?_ (by simp [fp_Fm_tries]) | refine Fr.cI ?_ (by intro j; simp [fp_Fm_tries]) | refine Fr.cL ?_ (by intro j; simp [fp_Fm_tries]) | (refine Fr.tr ?_ (Fr.mono (fr_Fm_comes (by with_reducible assumption)) mono_Fm_tries_0); try dsimp only) | (refine Fr.tr ?_ (Fr.mono (fr_Fm_copies (by with_reducible assumption)) mono_Fm_tries_1); try dsimp only) | (refine Fr.tr ?_ (Fr.mono (fr_Fm_drawn (by with_reducible assumption)) mono_Fm_tries_2); try dsimp only) | (refine Fr.tr ?_ (Fr.mono (fr_Fm_ends (by with_reducible assumption)) mono_Fm_tries_3); try dsimp only) | (refine Fr.tr ?_ (Fr.mono (fr_Fm_findsFor (by with_reducible assumption)) mono_Fm_tries_4); try dsimp only) | (refine Fr.tr ?_ (Fr.mono (fr_Fm_sets (by with_reducible assumption)) mono_Fm_tries_5); try dsimp only))
    · have h := (if_neg g0).symm.trans h
      refine Fr.tr ?_ (fr_Fm_tries_j145 h)
      try dsimp only [elS]
      repeat' (with_reducible first | exact Fr.rf | refine Fr.I ?_ (by simp [fp_Fm_tries]) | refine Fr.L ?_ (by simp [fp_Fm_tries]) | refine Fr.cI ?_ (by intro j; simp [fp_Fm_tries]) | refine Fr.cL ?_ (by intro j; simp [fp_Fm_tries]) | (refine Fr.tr ?_ (Fr.mono (fr_Fm_comes (by with_reducible assumption)) mono_Fm_tries_0); try dsimp only) | (refine Fr.tr ?_ (Fr.mono (fr_Fm_copies (by with_reducible assumption)) mono_Fm_tries_1); try dsimp only) | (refine Fr.tr ?_ (Fr.mono (fr_Fm_drawn (by with_reducible assumption)) mono_Fm_tries_2); try dsimp only) | (refine Fr.tr ?_ (Fr.mono (fr_Fm_ends (by with_reducible assumption)) mono_Fm_tries_3); try dsimp only) | (refine Fr.tr ?_ (Fr.mono (fr_Fm_findsFor (by with_reducible assumption)) mono_Fm_tries_4); try dsimp only) | (refine Fr.tr ?_ (Fr.mono (fr_Fm_sets (by with_reducible assumption)) mono_Fm_tries_5); try dsimp only))
theorem frl_Fm_tries_b32 {n : Nat} {c1 : Int32} {c2 : Int32} {c3 : Int32}  {n1 : Nat} {s0 : Int32 × Mm} {y1 : Mm} (h : loop (fun s1 : Int32 × Mm => Fm_tries_b32 n c1 c2 c3 s1.1 s1.2) n1 s0 = some y1) : Fr (fp_Fm_tries) s0.2 y1 :=
  loop_inv (P := fun s2 : Int32 × Mm => Fr (fp_Fm_tries) s0.2 s2.2) (E := fun y1 : Mm => Fr (fp_Fm_tries) s0.2 y1) (fun s2 s3 hP hb => hP.tr (fr_Fm_tries_b32 hb)) (fun s2 x2 hP hb => hP.tr (fr_Fm_tries_b32 hb)) n1 s0 y1 h Fr.rf
theorem fr_Fm_tries {n : Nat} {v1 : Int32} {v2 : Int32} {v3 : Int32} {M : Mm} {oo : Mm} (h : Fm_tries n v1 v2 v3 M = some oo) : Fr (fp_Fm_tries) M oo := by
  unfold Fm_tries at h
  obtain ⟨z1, _, h⟩ := bnd_s h
  obtain ⟨_, h⟩ := grd_s h
  obtain ⟨y32, _, h⟩ := bnd_s h
  obtain ⟨z33, _, h⟩ := bnd_s h
  obtain ⟨z35, _, h⟩ := bnd_s h
  obtain rfl := Option.some.inj h
  try dsimp only [elS]
  repeat' (with_reducible first | exact Fr.rf | refine Fr.I ?_ (by simp [fp_Fm_tries]) | refine Fr.L ?_ (by simp [fp_Fm_tries]) | refine Fr.cI ?_ (by intro j; simp [fp_Fm_tries]) | refine Fr.cL ?_ (by intro j; simp [fp_Fm_tries]) | (refine Fr.tr ?_ (Fr.mono (fr_Fm_comes (by with_reducible assumption)) mono_Fm_tries_0); try dsimp only) | (refine Fr.tr ?_ (Fr.mono (fr_Fm_copies (by with_reducible assumption)) mono_Fm_tries_1); try dsimp only) | (refine Fr.tr ?_ (Fr.mono (fr_Fm_drawn (by with_reducible assumption)) mono_Fm_tries_2); try dsimp only) | (refine Fr.tr ?_ (Fr.mono (fr_Fm_ends (by with_reducible assumption)) mono_Fm_tries_3); try dsimp only) | (refine Fr.tr ?_ (Fr.mono (fr_Fm_findsFor (by with_reducible assumption)) mono_Fm_tries_4); try dsimp only) | (refine Fr.tr ?_ (Fr.mono (fr_Fm_sets (by with_reducible assumption)) mono_Fm_tries_5); try dsimp only) | (refine Fr.tr ?_ (frl_Fm_tries_b32 (by with_reducible assumption)); try dsimp only))
theorem mono_Fm_trial_0  : ∀ c j, fp_Fm_tries c j → fp_Fm_trial c j := fun c j => (fun h => h.elim (fun e => Or.inl e) (fun h => h.elim (fun e => Or.inr (Or.inl e)) (fun h => h.elim (fun e => Or.inr (Or.inr (Or.inl e))) (fun h => h.elim (fun e => Or.inr (Or.inr (Or.inr (Or.inl e)))) (fun h => h.elim (fun e => Or.inr (Or.inr (Or.inr (Or.inr (Or.inl e))))) (fun h => h.elim (fun e => Or.inr (Or.inr (Or.inr (Or.inr (Or.inr (Or.inl e)))))) (fun h => h.elim (fun e => Or.inr (Or.inr (Or.inr (Or.inr (Or.inr (Or.inr (Or.inl e))))))) (fun h => h.elim (fun e => Or.inr (Or.inr (Or.inr (Or.inr (Or.inr (Or.inr (Or.inr (Or.inl e)))))))) (fun h => h.elim (fun e => Or.inr (Or.inr (Or.inr (Or.inr (Or.inr (Or.inr (Or.inr (Or.inr (Or.inl e))))))))) (fun h => h.elim (fun e => Or.inr (Or.inr (Or.inr (Or.inr (Or.inr (Or.inr (Or.inr (Or.inr (Or.inr (Or.inl e)))))))))) (fun h => h.elim (fun e => Or.inr (Or.inr (Or.inr (Or.inr (Or.inr (Or.inr (Or.inr (Or.inr (Or.inr (Or.inr (Or.inl e))))))))))) (fun h => h.elim (fun e => Or.inr (Or.inr (Or.inr (Or.inr (Or.inr (Or.inr (Or.inr (Or.inr (Or.inr (Or.inr (Or.inr (Or.inl e)))))))))))) (fun h => h.elim (fun e => Or.inr (Or.inr (Or.inr (Or.inr (Or.inr (Or.inr (Or.inr (Or.inr (Or.inr (Or.inr (Or.inr (Or.inr (Or.inl e))))))))))))) (fun h => h.elim (fun e => Or.inr (Or.inr (Or.inr (Or.inr (Or.inr (Or.inr (Or.inr (Or.inr (Or.inr (Or.inr (Or.inr (Or.inr (Or.inr (Or.inl e)))))))))))))) (fun e => Or.inr (Or.inr (Or.inr (Or.inr (Or.inr (Or.inr (Or.inr (Or.inr (Or.inr (Or.inr (Or.inr (Or.inr (Or.inr (Or.inr (e)))))))))))))))))))))))))))))
theorem fr_Fm_trial {n : Nat} {v1 : Int32} {v2 : Int32} {v3 : Int32} {v4 : Int32} {M : Mm} {oo : Int32 × Mm} (h : Fm_trial n v1 v2 v3 v4 M = some oo) : Fr (fp_Fm_trial) M oo.2 := by
  unfold Fm_trial at h
  obtain ⟨z1, _, h⟩ := bnd_s h
  by_cases g0 : z1 = true
  · have h := (if_pos g0).symm.trans h
    obtain ⟨z4, _, h⟩ := bnd_s h
    by_cases g0 : z4 = true
    · have h := (if_pos g0).symm.trans h
      obtain ⟨z7, _, h⟩ := bnd_s h
      by_cases g0 : z7 = true
      · have h := (if_pos g0).symm.trans h
        obtain ⟨z10, _, h⟩ := bnd_s h
        by_cases g0 : v4 = (0 : Int32)
        · have h := (if_pos g0).symm.trans h
          obtain rfl := Option.some.inj h
          try dsimp only [elS]
          repeat' (with_reducible first | exact Fr.rf | refine Fr.I ?_ (by simp [fp_Fm_trial]) | refine Fr.L ?_ (by simp [fp_Fm_trial]) | refine Fr.cI ?_ (by intro j; simp [fp_Fm_trial]) | refine Fr.cL ?_ (by intro j; simp [fp_Fm_trial]) | (refine Fr.tr ?_ (Fr.mono (fr_Fm_tries (by with_reducible assumption)) mono_Fm_trial_0); try dsimp only))
        · have h := (if_neg g0).symm.trans h
          by_cases g0 : v4 = (1 : Int32)
          · have h := (if_pos g0).symm.trans h
            obtain rfl := Option.some.inj h
            try dsimp only [elS]
            repeat' (with_reducible first | exact Fr.rf | refine Fr.I ?_ (by simp [fp_Fm_trial]) | refine Fr.L ?_ (by simp [fp_Fm_trial]) | refine Fr.cI ?_ (by intro j; simp [fp_Fm_trial]) | refine Fr.cL ?_ (by intro j; simp [fp_Fm_trial]) | (refine Fr.tr ?_ (Fr.mono (fr_Fm_tries (by with_reducible assumption)) mono_Fm_trial_0); try dsimp only))
          · have h := (if_neg g0).symm.trans h
            by_cases g0 : v4 = (2 : Int32)
            · have h := (if_pos g0).symm.trans h
              obtain rfl := Option.some.inj h
              try dsimp only [elS]
              repeat' (with_reducible first | exact Fr.rf | refine Fr.I ?_ (by simp [fp_Fm_trial]) | refine Fr.L ?_ (by simp [fp_Fm_trial]) | refine Fr.cI ?_ (by intro j; simp [fp_Fm_trial]) | refine Fr.cL ?_ (by intro j; simp [fp_Fm_trial]) | (refine Fr.tr ?_ (Fr.mono (fr_Fm_tries (by with_reducible assumption)) mono_Fm_trial_0); try dsimp only))
            · have h := (if_neg g0).symm.trans h
              obtain rfl := Option.some.inj h
              try dsimp only [elS]
              repeat' (with_reducible first | exact Fr.rf | refine Fr.I ?_ (by simp [fp_Fm_trial]) | refine Fr.L ?_ (by simp [fp_Fm_trial]) | refine Fr.cI ?_ (by intro j; simp [fp_Fm_trial]) | refine Fr.cL ?_ (by intro j; simp [fp_Fm_trial]) | (refine Fr.tr ?_ (Fr.mono (fr_Fm_tries (by with_reducible assumption)) mono_Fm_trial_0); try dsimp only))
      · have h := (if_neg g0).symm.trans h
        obtain rfl := Option.some.inj h
        try dsimp only [elS]
        repeat' (with_reducible first | exact Fr.rf | refine Fr.I ?_ (by simp [fp_Fm_trial]) | refine Fr.L ?_ (by simp [fp_Fm_trial]) | refine Fr.cI ?_ (by intro j; simp [fp_Fm_trial]) | refine Fr.cL ?_ (by intro j; simp [fp_Fm_trial]) | (refine Fr.tr ?_ (Fr.mono (fr_Fm_tries (by with_reducible assumption)) mono_Fm_trial_0); try dsimp only))
    · have h := (if_neg g0).symm.trans h
      obtain rfl := Option.some.inj h
      try dsimp only [elS]
      repeat' (with_reducible first | exact Fr.rf | refine Fr.I ?_ (by simp [fp_Fm_trial]) | refine Fr.L ?_ (by simp [fp_Fm_trial]) | refine Fr.cI ?_ (by intro j; simp [fp_Fm_trial]) | refine Fr.cL ?_ (by intro j; simp [fp_Fm_trial]) | (refine Fr.tr ?_ (Fr.mono (fr_Fm_tries (by with_reducible assumption)) mono_Fm_trial_0); try dsimp only))
  · have h := (if_neg g0).symm.trans h
    obtain rfl := Option.some.inj h
    try dsimp only [elS]
    repeat' (with_reducible first | exact Fr.rf | refine Fr.I ?_ (by simp [fp_Fm_trial]) | refine Fr.L ?_ (by simp [fp_Fm_trial]) | refine Fr.cI ?_ (by intro j; simp [fp_Fm_trial]) | refine Fr.cL ?_ (by intro j; simp [fp_Fm_trial]) | (refine Fr.tr ?_ (Fr.mono (fr_Fm_tries (by with_reducible assumption)) mono_Fm_trial_0); try dsimp only))
theorem mono_Fm_bestRule_0  : ∀ c j, fp_Fm_tries c j → fp_Fm_bestRule c j := fun c j => (fun h => h.elim (fun e => Or.inl e) (fun h => h.elim (fun e => Or.inr (Or.inl e)) (fun h => h.elim (fun e => Or.inr (Or.inr (Or.inl e))) (fun h => h.elim (fun e => Or.inr (Or.inr (Or.inr (Or.inl e)))) (fun h => h.elim (fun e => Or.inr (Or.inr (Or.inr (Or.inr (Or.inl e))))) (fun h => h.elim (fun e => Or.inr (Or.inr (Or.inr (Or.inr (Or.inr (Or.inl e)))))) (fun h => h.elim (fun e => Or.inr (Or.inr (Or.inr (Or.inr (Or.inr (Or.inr (Or.inl e))))))) (fun h => h.elim (fun e => Or.inr (Or.inr (Or.inr (Or.inr (Or.inr (Or.inr (Or.inr (Or.inl e)))))))) (fun h => h.elim (fun e => Or.inr (Or.inr (Or.inr (Or.inr (Or.inr (Or.inr (Or.inr (Or.inr (Or.inl e))))))))) (fun h => h.elim (fun e => Or.inr (Or.inr (Or.inr (Or.inr (Or.inr (Or.inr (Or.inr (Or.inr (Or.inr (Or.inl e)))))))))) (fun h => h.elim (fun e => Or.inr (Or.inr (Or.inr (Or.inr (Or.inr (Or.inr (Or.inr (Or.inr (Or.inr (Or.inr (Or.inl e))))))))))) (fun h => h.elim (fun e => Or.inr (Or.inr (Or.inr (Or.inr (Or.inr (Or.inr (Or.inr (Or.inr (Or.inr (Or.inr (Or.inr (Or.inl e)))))))))))) (fun h => h.elim (fun e => Or.inr (Or.inr (Or.inr (Or.inr (Or.inr (Or.inr (Or.inr (Or.inr (Or.inr (Or.inr (Or.inr (Or.inr (Or.inl e))))))))))))) (fun h => h.elim (fun e => Or.inr (Or.inr (Or.inr (Or.inr (Or.inr (Or.inr (Or.inr (Or.inr (Or.inr (Or.inr (Or.inr (Or.inr (Or.inr (Or.inl e)))))))))))))) (fun e => Or.inr (Or.inr (Or.inr (Or.inr (Or.inr (Or.inr (Or.inr (Or.inr (Or.inr (Or.inr (Or.inr (Or.inr (Or.inr (Or.inr (e)))))))))))))))))))))))))))))
theorem fr_Fm_bestRule_j46 {v3 : Int32} {v4 : Int32} {v5 : Int32} {M : Mm} {oo : (Int32 × Int32 × Int32 × Mm) ⊕ (Int32 × Mm)} (h : Fm_bestRule_j46 v3 v4 v5 M = some oo) : Fr (fp_Fm_bestRule) M (elS oo (fun s1 => s1.2.2.2) (fun x1 => x1.2)) := by
  unfold Fm_bestRule_j46 at h
  obtain ⟨z8, _, h⟩ := bnd_s h
  obtain rfl := Option.some.inj h
  try dsimp only [elS]
  repeat' (with_reducible first | exact Fr.rf | refine Fr.I ?_ (by simp [fp_Fm_bestRule]) | refine Fr.L ?_ (by simp [fp_Fm_bestRule]) | refine Fr.cI ?_ (by intro j; simp [fp_Fm_bestRule]) | refine Fr.cL ?_ (by intro j; simp [fp_Fm_bestRule]) | (refine Fr.tr ?_ (Fr.mono (fr_Fm_tries (by with_reducible assumption)) mono_Fm_bestRule_0); try dsimp only))
theorem fr_Fm_bestRule_b20 {n : Nat} {c1 : Int32} {c2 : Int32} {v3 : Int32} {v4 : Int32} {v5 : Int32} {M : Mm} {oo : (Int32 × Int32 × Int32 × Mm) ⊕ (Int32 × Mm)} (h : Fm_bestRule_b20 n c1 c2 v3 v4 v5 M = some oo) : Fr (fp_Fm_bestRule) M (elS oo (fun s1 => s1.2.2.2) (fun x1 => x1.2)) := by
  unfold Fm_bestRule_b20 at h
  by_cases g0 : (4 : Int32) ≤ v5
  · have h := (if_pos g0).symm.trans h
    obtain rfl := Option.some.inj h
    try dsimp only [elS]
    repeat' (with_reducible first | exact Fr.rf | refine Fr.I ?_ (by simp [fp_Fm_bestRule]) | refine Fr.L ?_ (by simp [fp_Fm_bestRule]) | refine Fr.cI ?_ (by intro j; simp [fp_Fm_bestRule]) | refine Fr.cL ?_ (by intro j; simp [fp_Fm_bestRule]) | (refine Fr.tr ?_ (Fr.mono (fr_Fm_tries (by with_reducible assumption)) mono_Fm_bestRule_0); try dsimp only))
  · have h := (if_neg g0).symm.trans h
    obtain ⟨z5, _, h⟩ := bnd_s h
    by_cases g0 : v4 ≤ (z5.1 94 36)
    · have h := (if_pos g0).symm.trans h
      refine Fr.tr ?_ (fr_Fm_bestRule_j46 h)
      try dsimp only [elS]
      repeat' (with_reducible first | exact Fr.rf | refine Fr.I ?_ (by simp [fp_Fm_bestRule]) | refine Fr.L ?_ (by simp [fp_Fm_bestRule]) | refine Fr.cI ?_ (by intro j; simp [fp_Fm_bestRule]) | refine Fr.cL ?_ (by intro j; simp [fp_Fm_bestRule]) | (refine Fr.tr ?_ (Fr.mono (fr_Fm_tries (by with_reducible assumption)) mono_Fm_bestRule_0); try dsimp only))
    · have h := (if_neg g0).symm.trans h
      refine Fr.tr ?_ (fr_Fm_bestRule_j46 h)
      try dsimp only [elS]
      repeat' (with_reducible first | exact Fr.rf | refine Fr.I ?_ (by simp [fp_Fm_bestRule]) | refine Fr.L ?_ (by simp [fp_Fm_bestRule]) | refine Fr.cI ?_ (by intro j; simp [fp_Fm_bestRule]) | refine Fr.cL ?_ (by intro j; simp [fp_Fm_bestRule]) | (refine Fr.tr ?_ (Fr.mono (fr_Fm_tries (by with_reducible assumption)) mono_Fm_bestRule_0); try dsimp only))
theorem frl_Fm_bestRule_b20 {n : Nat} {c1 : Int32} {c2 : Int32}  {n1 : Nat} {s0 : Int32 × Int32 × Int32 × Mm} {y1 : Int32 × Mm} (h : loop (fun s1 : Int32 × Int32 × Int32 × Mm => Fm_bestRule_b20 n c1 c2 s1.1 s1.2.1 s1.2.2.1 s1.2.2.2) n1 s0 = some y1) : Fr (fp_Fm_bestRule) s0.2.2.2 y1.2 :=
  loop_inv (P := fun s2 : Int32 × Int32 × Int32 × Mm => Fr (fp_Fm_bestRule) s0.2.2.2 s2.2.2.2) (E := fun y1 : Int32 × Mm => Fr (fp_Fm_bestRule) s0.2.2.2 y1.2) (fun s2 s3 hP hb => hP.tr (fr_Fm_bestRule_b20 hb)) (fun s2 x2 hP hb => hP.tr (fr_Fm_bestRule_b20 hb)) n1 s0 y1 h Fr.rf
theorem fr_Fm_bestRule {n : Nat} {v1 : Int32} {v2 : Int32} {M : Mm} {oo : Int32 × Mm} (h : Fm_bestRule n v1 v2 M = some oo) : Fr (fp_Fm_bestRule) M oo.2 := by
  unfold Fm_bestRule at h
  obtain ⟨z1, _, h⟩ := bnd_s h
  by_cases g0 : z1 = true
  · have h := (if_pos g0).symm.trans h
    obtain ⟨y10, _, h⟩ := bnd_s h
    obtain rfl := Option.some.inj h
    try dsimp only [elS]
    repeat' (with_reducible first | exact Fr.rf | refine Fr.I ?_ (by simp [fp_Fm_bestRule]) | refine Fr.L ?_ (by simp [fp_Fm_bestRule]) | refine Fr.cI ?_ (by intro j; simp [fp_Fm_bestRule]) | refine Fr.cL ?_ (by intro j; simp [fp_Fm_bestRule]) | (refine Fr.tr ?_ (Fr.mono (fr_Fm_tries (by with_reducible assumption)) mono_Fm_bestRule_0); try dsimp only) | (refine Fr.tr ?_ (frl_Fm_bestRule_b20 (by with_reducible assumption)); try dsimp only))
  · have h := (if_neg g0).symm.trans h
    obtain rfl := Option.some.inj h
    try dsimp only [elS]
    repeat' (with_reducible first | exact Fr.rf | refine Fr.I ?_ (by simp [fp_Fm_bestRule]) | refine Fr.L ?_ (by simp [fp_Fm_bestRule]) | refine Fr.cI ?_ (by intro j; simp [fp_Fm_bestRule]) | refine Fr.cL ?_ (by intro j; simp [fp_Fm_bestRule]) | (refine Fr.tr ?_ (Fr.mono (fr_Fm_tries (by with_reducible assumption)) mono_Fm_bestRule_0); try dsimp only) | (refine Fr.tr ?_ (frl_Fm_bestRule_b20 (by with_reducible assumption)); try dsimp only))
theorem mono_Fm_partOf_0  : ∀ c j, fp_Fm_finds c j → fp_Fm_partOf c j := fun c j => (fun h => h.elim (fun e => Or.inl e) (fun h => h.elim (fun e => Or.inr (Or.inl e)) (fun e => Or.inr (Or.inr (e)))))
theorem fr_Fm_partOf_b2 {n : Nat} {c2 : Int32} {v3 : Int32} {M : Mm} {oo : (Int32 × Mm) ⊕ ((Mm) ⊕ (Int32 × Mm))} (h : Fm_partOf_b2 n c2 v3 M = some oo) : Fr (fp_Fm_partOf) M (elS oo (fun s1 => s1.2) (fun y1 => elS y1 (fun x1 => x1) (fun z1 => z1.2))) := by
  unfold Fm_partOf_b2 at h
  by_cases g0 : v3 ≤ (0 : Int32)
  · have h := (if_pos g0).symm.trans h
    obtain rfl := Option.some.inj h
    try dsimp only [elS]
    repeat' (with_reducible first | exact Fr.rf | refine Fr.I ?_ (by simp [fp_Fm_partOf]) | refine Fr.L ?_ (by simp [fp_Fm_partOf]) | refine Fr.cI ?_ (by intro j; simp [fp_Fm_partOf]) | refine Fr.cL ?_ (by intro j; simp [fp_Fm_partOf]) | (refine Fr.tr ?_ (Fr.mono (fr_Fm_finds (by with_reducible assumption)) mono_Fm_partOf_0); try dsimp only))
  · have h := (if_neg g0).symm.trans h
    obtain ⟨z2, _, h⟩ := bnd_s h
    by_cases g0 : z2.1 = true
    · have h := (if_pos g0).symm.trans h
      obtain rfl := Option.some.inj h
      try dsimp only [elS]
      repeat' (with_reducible first | exact Fr.rf | refine Fr.I ?_ (by simp [fp_Fm_partOf]) | refine Fr.L ?_ (by simp [fp_Fm_partOf]) | refine Fr.cI ?_ (by intro j; simp [fp_Fm_partOf]) | refine Fr.cL ?_ (by intro j; simp [fp_Fm_partOf]) | (refine Fr.tr ?_ (Fr.mono (fr_Fm_finds (by with_reducible assumption)) mono_Fm_partOf_0); try dsimp only))
    · have h := (if_neg g0).symm.trans h
      obtain rfl := Option.some.inj h
      try dsimp only [elS]
      repeat' (with_reducible first | exact Fr.rf | refine Fr.I ?_ (by simp [fp_Fm_partOf]) | refine Fr.L ?_ (by simp [fp_Fm_partOf]) | refine Fr.cI ?_ (by intro j; simp [fp_Fm_partOf]) | refine Fr.cL ?_ (by intro j; simp [fp_Fm_partOf]) | (refine Fr.tr ?_ (Fr.mono (fr_Fm_finds (by with_reducible assumption)) mono_Fm_partOf_0); try dsimp only))
theorem frl_Fm_partOf_b2 {n : Nat} {c2 : Int32}  {n1 : Nat} {s0 : Int32 × Mm} {y1 : (Mm) ⊕ (Int32 × Mm)} (h : loop (fun s1 : Int32 × Mm => Fm_partOf_b2 n c2 s1.1 s1.2) n1 s0 = some y1) : Fr (fp_Fm_partOf) s0.2 (elS y1 (fun x1 => x1) (fun z1 => z1.2)) :=
  loop_inv (P := fun s2 : Int32 × Mm => Fr (fp_Fm_partOf) s0.2 s2.2) (E := fun y1 : (Mm) ⊕ (Int32 × Mm) => Fr (fp_Fm_partOf) s0.2 (elS y1 (fun x1 => x1) (fun z1 => z1.2))) (fun s2 s3 hP hb => hP.tr (fr_Fm_partOf_b2 hb)) (fun s2 x2 hP hb => hP.tr (fr_Fm_partOf_b2 hb)) n1 s0 y1 h Fr.rf
theorem fr_Fm_partOf {n : Nat} {v1 : Int32} {v2 : Int32} {M : Mm} {oo : Int32 × Mm} (h : Fm_partOf n v1 v2 M = some oo) : Fr (fp_Fm_partOf) M oo.2 := by
  unfold Fm_partOf at h
  obtain ⟨y5, _, h⟩ := bnd_s h
  cases y5 with
  | inl x6 =>
    obtain rfl := Option.some.inj h
    try dsimp only [elS]
    repeat' (with_reducible first | exact Fr.rf | refine Fr.I ?_ (by simp [fp_Fm_partOf]) | refine Fr.L ?_ (by simp [fp_Fm_partOf]) | refine Fr.cI ?_ (by intro j; simp [fp_Fm_partOf]) | refine Fr.cL ?_ (by intro j; simp [fp_Fm_partOf]) | (refine Fr.tr ?_ (Fr.mono (fr_Fm_finds (by with_reducible assumption)) mono_Fm_partOf_0); try dsimp only) | (refine Fr.tr ?_ (frl_Fm_partOf_b2 (by with_reducible assumption)); try dsimp only))
  | inr e7 =>
    obtain rfl := Option.some.inj h
    try dsimp only [elS]
    repeat' (with_reducible first | exact Fr.rf | refine Fr.I ?_ (by simp [fp_Fm_partOf]) | refine Fr.L ?_ (by simp [fp_Fm_partOf]) | refine Fr.cI ?_ (by intro j; simp [fp_Fm_partOf]) | refine Fr.cL ?_ (by intro j; simp [fp_Fm_partOf]) | (refine Fr.tr ?_ (Fr.mono (fr_Fm_finds (by with_reducible assumption)) mono_Fm_partOf_0); try dsimp only) | (refine Fr.tr ?_ (frl_Fm_partOf_b2 (by with_reducible assumption)); try dsimp only))
theorem mono_Fm_parts_0  : ∀ c j, fp_Fm_comes c j → fp_Fm_parts c j := fun c j => (fun e => Or.inr (Or.inr (Or.inr (Or.inr (Or.inr (Or.inr (Or.inr (Or.inr (Or.inl e)))))))))
theorem mono_Fm_parts_1  : ∀ c j, fp_Fm_copies c j → fp_Fm_parts c j := fun c j => (fun e => Or.inr (Or.inr (Or.inr (Or.inr (Or.inr (Or.inr (Or.inr (Or.inr (Or.inl e)))))))))
theorem mono_Fm_parts_2  : ∀ c j, fp_Fm_findsWays c j → fp_Fm_parts c j := fun c j => (fun h => h.elim (fun e => Or.inl e) (fun h => h.elim (fun e => Or.inr (Or.inl e)) (fun h => h.elim (fun e => Or.inr (Or.inr (Or.inl e))) (fun h => h.elim (fun e => Or.inr (Or.inr (Or.inr (Or.inl e)))) (fun h => h.elim (fun e => Or.inr (Or.inr (Or.inr (Or.inr (Or.inl e))))) (fun h => h.elim (fun e => Or.inr (Or.inr (Or.inr (Or.inr (Or.inr (Or.inr (Or.inr (Or.inr (Or.inr (Or.inl e)))))))))) (fun e => Or.inr (Or.inr (Or.inr (Or.inr (Or.inr (Or.inr (Or.inr (Or.inr (Or.inr (Or.inr (e)))))))))))))))))
theorem mono_Fm_parts_3  : ∀ c j, fp_Fm_partOf c j → fp_Fm_parts c j := fun c j => (fun h => h.elim (fun e => Or.inr (Or.inr (Or.inr (Or.inr (Or.inr (Or.inl e)))))) (fun h => h.elim (fun e => Or.inr (Or.inr (Or.inr (Or.inr (Or.inr (Or.inr (Or.inl e))))))) (fun e => Or.inr (Or.inr (Or.inr (Or.inr (Or.inr (Or.inr (Or.inr (Or.inl e))))))))))
theorem fr_Fm_parts_b42 {n : Nat} {c1 : Int32} {c2 : Int32} {c4 : Int32} {v5 : Int32} {v6 : Int32} {v7 : Int32} {M : Mm} {oo : (Int32 × Int32 × Int32 × Mm) ⊕ (Int32 × Int32 × Mm)} (h : Fm_parts_b42 n c1 c2 c4 v5 v6 v7 M = some oo) : Fr (fp_Fm_parts) M (elS oo (fun s1 => s1.2.2.2) (fun x1 => x1.2.2)) := by
  unfold Fm_parts_b42 at h
  by_cases g0 : (20 : Int32) ≤ v6
  · have h := (if_pos g0).symm.trans h
    obtain rfl := Option.some.inj h
    try dsimp only [elS]
    repeat' (with_reducible first | exact Fr.rf | refine Fr.I ?_ (by simp [fp_Fm_parts]) | refine Fr.L ?_ (by simp [fp_Fm_parts]) | refine Fr.cI ?_ (by intro j; simp [fp_Fm_parts]) | refine Fr.cL ?_ (by intro j; simp [fp_Fm_parts]) | (refine Fr.tr ?_ (Fr.mono (fr_Fm_comes (by with_reducible assumption)) mono_Fm_parts_0); try dsimp only) | (refine Fr.tr ?_ (Fr.mono (fr_Fm_copies (by with_reducible assumption)) mono_Fm_parts_1); try dsimp only) | (refine Fr.tr ?_ (Fr.mono (fr_Fm_findsWays (by with_reducible assumption)) mono_Fm_parts_2); try dsimp only) | (refine Fr.tr ?_ (Fr.mono (fr_Fm_partOf (by with_reducible assumption)) mono_Fm_parts_3); try dsimp only))
  · have h := (if_neg g0).symm.trans h
    by_cases g0 : v7 ≤ (0 : Int32)
    · have h := (if_pos g0).symm.trans h
      obtain rfl := Option.some.inj h
      try dsimp only [elS]
      repeat' (with_reducible first | exact Fr.rf | refine Fr.I ?_ (by simp [fp_Fm_parts]) | refine Fr.L ?_ (by simp [fp_Fm_parts]) | refine Fr.cI ?_ (by intro j; simp [fp_Fm_parts]) | refine Fr.cL ?_ (by intro j; simp [fp_Fm_parts]) | (refine Fr.tr ?_ (Fr.mono (fr_Fm_comes (by with_reducible assumption)) mono_Fm_parts_0); try dsimp only) | (refine Fr.tr ?_ (Fr.mono (fr_Fm_copies (by with_reducible assumption)) mono_Fm_parts_1); try dsimp only) | (refine Fr.tr ?_ (Fr.mono (fr_Fm_findsWays (by with_reducible assumption)) mono_Fm_parts_2); try dsimp only) | (refine Fr.tr ?_ (Fr.mono (fr_Fm_partOf (by with_reducible assumption)) mono_Fm_parts_3); try dsimp only))
    · have h := (if_neg g0).symm.trans h
      obtain ⟨z12, _, h⟩ := bnd_s h
      obtain ⟨z14, _, h⟩ := bnd_s h
      obtain rfl := Option.some.inj h
      try dsimp only [elS]
      repeat' (with_reducible first | exact Fr.rf | refine Fr.I ?_ (by simp [fp_Fm_parts]) | refine Fr.L ?_ (by simp [fp_Fm_parts]) | refine Fr.cI ?_ (by intro j; simp [fp_Fm_parts]) | refine Fr.cL ?_ (by intro j; simp [fp_Fm_parts]) | (refine Fr.tr ?_ (Fr.mono (fr_Fm_comes (by with_reducible assumption)) mono_Fm_parts_0); try dsimp only) | (refine Fr.tr ?_ (Fr.mono (fr_Fm_copies (by with_reducible assumption)) mono_Fm_parts_1); try dsimp only) | (refine Fr.tr ?_ (Fr.mono (fr_Fm_findsWays (by with_reducible assumption)) mono_Fm_parts_2); try dsimp only) | (refine Fr.tr ?_ (Fr.mono (fr_Fm_partOf (by with_reducible assumption)) mono_Fm_parts_3); try dsimp only))
theorem frl_Fm_parts_b42 {n : Nat} {c1 : Int32} {c2 : Int32} {c4 : Int32}  {n1 : Nat} {s0 : Int32 × Int32 × Int32 × Mm} {y1 : Int32 × Int32 × Mm} (h : loop (fun s1 : Int32 × Int32 × Int32 × Mm => Fm_parts_b42 n c1 c2 c4 s1.1 s1.2.1 s1.2.2.1 s1.2.2.2) n1 s0 = some y1) : Fr (fp_Fm_parts) s0.2.2.2 y1.2.2 :=
  loop_inv (P := fun s2 : Int32 × Int32 × Int32 × Mm => Fr (fp_Fm_parts) s0.2.2.2 s2.2.2.2) (E := fun y1 : Int32 × Int32 × Mm => Fr (fp_Fm_parts) s0.2.2.2 y1.2.2) (fun s2 s3 hP hb => hP.tr (fr_Fm_parts_b42 hb)) (fun s2 x2 hP hb => hP.tr (fr_Fm_parts_b42 hb)) n1 s0 y1 h Fr.rf
theorem fr_Fm_parts_j91 {n : Nat} {v5 : Int32} {v6 : Int32} {M : Mm} {oo : Int32 × Mm} (h : Fm_parts_j91 n v5 v6 M = some oo) : Fr (fp_Fm_parts) M oo.2 := by
  unfold Fm_parts_j91 at h
  obtain ⟨z17, _, h⟩ := bnd_s h
  by_cases g0 : v5 ≤ (0 : Int32)
  · have h := (if_pos g0).symm.trans h
    obtain rfl := Option.some.inj h
    try dsimp only [elS]
    repeat' (with_reducible first | exact Fr.rf | refine Fr.I ?_ (by simp [fp_Fm_parts]) | refine Fr.L ?_ (by simp [fp_Fm_parts]) | refine Fr.cI ?_ (by intro j; simp [fp_Fm_parts]) | refine Fr.cL ?_ (by intro j; simp [fp_Fm_parts]) | (refine Fr.tr ?_ (Fr.mono (fr_Fm_comes (by with_reducible assumption)) mono_Fm_parts_0); try dsimp only) | (refine Fr.tr ?_ (Fr.mono (fr_Fm_copies (by with_reducible assumption)) mono_Fm_parts_1); try dsimp only) | (refine Fr.tr ?_ (Fr.mono (fr_Fm_findsWays (by with_reducible assumption)) mono_Fm_parts_2); try dsimp only) | (refine Fr.tr ?_ (Fr.mono (fr_Fm_partOf (by with_reducible assumption)) mono_Fm_parts_3); try dsimp only) | (refine Fr.tr ?_ (frl_Fm_parts_b42 (by with_reducible assumption)); try dsimp only))
  · have h := (if_neg g0).symm.trans h
    obtain rfl := Option.some.inj h
    try dsimp only [elS]
    repeat' (with_reducible first | exact Fr.rf | refine Fr.I ?_ (by simp [fp_Fm_parts]) | refine Fr.L ?_ (by simp [fp_Fm_parts]) | refine Fr.cI ?_ (by intro j; simp [fp_Fm_parts]) | refine Fr.cL ?_ (by intro j; simp [fp_Fm_parts]) | (refine Fr.tr ?_ (Fr.mono (fr_Fm_comes (by with_reducible assumption)) mono_Fm_parts_0); try dsimp only) | (refine Fr.tr ?_ (Fr.mono (fr_Fm_copies (by with_reducible assumption)) mono_Fm_parts_1); try dsimp only) | (refine Fr.tr ?_ (Fr.mono (fr_Fm_findsWays (by with_reducible assumption)) mono_Fm_parts_2); try dsimp only) | (refine Fr.tr ?_ (Fr.mono (fr_Fm_partOf (by with_reducible assumption)) mono_Fm_parts_3); try dsimp only) | (refine Fr.tr ?_ (frl_Fm_parts_b42 (by with_reducible assumption)); try dsimp only))
theorem fr_Fm_parts {n : Nat} {v1 : Int32} {v2 : Int32} {v3 : Int32} {v4 : Int32} {M : Mm} {oo : Int32 × Mm} (h : Fm_parts n v1 v2 v3 v4 M = some oo) : Fr (fp_Fm_parts) M oo.2 := by
  unfold Fm_parts at h
  obtain ⟨z1, _, h⟩ := bnd_s h
  by_cases g0 : z1 = true
  · have h := (if_pos g0).symm.trans h
    obtain ⟨z4, _, h⟩ := bnd_s h
    obtain ⟨z6, _, h⟩ := bnd_s h
    obtain ⟨z8, _, h⟩ := bnd_s h
    obtain ⟨y16, _, h⟩ := bnd_s h
    refine Fr.tr ?_ (fr_Fm_parts_j91 h)
    try dsimp only [elS]
    repeat' (with_reducible first | exact Fr.rf | refine Fr.I ?_ (by simp [fp_Fm_parts]) | refine Fr.L ?_ (by simp [fp_Fm_parts]) | refine Fr.cI ?_ (by intro j; simp [fp_Fm_parts]) | refine Fr.cL ?_ (by intro j; simp [fp_Fm_parts]) | (refine Fr.tr ?_ (Fr.mono (fr_Fm_comes (by with_reducible assumption)) mono_Fm_parts_0); try dsimp only) | (refine Fr.tr ?_ (Fr.mono (fr_Fm_copies (by with_reducible assumption)) mono_Fm_parts_1); try dsimp only) | (refine Fr.tr ?_ (Fr.mono (fr_Fm_findsWays (by with_reducible assumption)) mono_Fm_parts_2); try dsimp only) | (refine Fr.tr ?_ (Fr.mono (fr_Fm_partOf (by with_reducible assumption)) mono_Fm_parts_3); try dsimp only) | (refine Fr.tr ?_ (frl_Fm_parts_b42 (by with_reducible assumption)); try dsimp only))
  · have h := (if_neg g0).symm.trans h
    obtain rfl := Option.some.inj h
    try dsimp only [elS]
    repeat' (with_reducible first | exact Fr.rf | refine Fr.I ?_ (by simp [fp_Fm_parts]) | refine Fr.L ?_ (by simp [fp_Fm_parts]) | refine Fr.cI ?_ (by intro j; simp [fp_Fm_parts]) | refine Fr.cL ?_ (by intro j; simp [fp_Fm_parts]) | (refine Fr.tr ?_ (Fr.mono (fr_Fm_comes (by with_reducible assumption)) mono_Fm_parts_0); try dsimp only) | (refine Fr.tr ?_ (Fr.mono (fr_Fm_copies (by with_reducible assumption)) mono_Fm_parts_1); try dsimp only) | (refine Fr.tr ?_ (Fr.mono (fr_Fm_findsWays (by with_reducible assumption)) mono_Fm_parts_2); try dsimp only) | (refine Fr.tr ?_ (Fr.mono (fr_Fm_partOf (by with_reducible assumption)) mono_Fm_parts_3); try dsimp only) | (refine Fr.tr ?_ (frl_Fm_parts_b42 (by with_reducible assumption)); try dsimp only))
theorem mono_Fm_more_0  : ∀ c j, fp_Fm_comes c j → fp_Fm_more c j := fun c j => (fun e => Or.inr (Or.inr (Or.inr (Or.inr (Or.inr (Or.inr (Or.inr (Or.inr (Or.inl e)))))))))
theorem mono_Fm_more_1  : ∀ c j, fp_Fm_copies c j → fp_Fm_more c j := fun c j => (fun e => Or.inr (Or.inr (Or.inr (Or.inr (Or.inr (Or.inr (Or.inr (Or.inr (Or.inl e)))))))))
theorem mono_Fm_more_2  : ∀ c j, fp_Fm_finds c j → fp_Fm_more c j := fun c j => (fun h => h.elim (fun e => Or.inr (Or.inr (Or.inr (Or.inr (Or.inr (Or.inl e)))))) (fun h => h.elim (fun e => Or.inr (Or.inr (Or.inr (Or.inr (Or.inr (Or.inr (Or.inl e))))))) (fun e => Or.inr (Or.inr (Or.inr (Or.inr (Or.inr (Or.inr (Or.inr (Or.inl e))))))))))
theorem mono_Fm_more_3  : ∀ c j, fp_Fm_findsWays c j → fp_Fm_more c j := fun c j => (fun h => h.elim (fun e => Or.inl e) (fun h => h.elim (fun e => Or.inr (Or.inl e)) (fun h => h.elim (fun e => Or.inr (Or.inr (Or.inl e))) (fun h => h.elim (fun e => Or.inr (Or.inr (Or.inr (Or.inl e)))) (fun h => h.elim (fun e => Or.inr (Or.inr (Or.inr (Or.inr (Or.inl e))))) (fun h => h.elim (fun e => Or.inr (Or.inr (Or.inr (Or.inr (Or.inr (Or.inr (Or.inr (Or.inr (Or.inr (Or.inl e)))))))))) (fun e => Or.inr (Or.inr (Or.inr (Or.inr (Or.inr (Or.inr (Or.inr (Or.inr (Or.inr (Or.inr (e)))))))))))))))))
theorem fr_Fm_more_b29 {n : Nat} {c1 : Int32} {c2 : Int32} {c3 : Int32} {c4 : Int32} {v5 : Int32} {M : Mm} {oo : (Int32 × Mm) ⊕ (Int32 × Mm)} (h : Fm_more_b29 n c1 c2 c3 c4 v5 M = some oo) : Fr (fp_Fm_more) M (elS oo (fun s1 => s1.2) (fun x1 => x1.2)) := by
  unfold Fm_more_b29 at h
  obtain ⟨z8, _, h⟩ := bnd_s h
  by_cases g0 : z8.1 = true
  · have h := (if_pos g0).symm.trans h
    obtain ⟨z11, _, h⟩ := bnd_s h
    obtain rfl := Option.some.inj h
    try dsimp only [elS]
    repeat' (with_reducible first | exact Fr.rf | refine Fr.I ?_ (by simp [fp_Fm_more]) | refine Fr.L ?_ (by simp [fp_Fm_more]) | refine Fr.cI ?_ (by intro j; simp [fp_Fm_more]) | refine Fr.cL ?_ (by intro j; simp [fp_Fm_more]) | (refine Fr.tr ?_ (Fr.mono (fr_Fm_comes (by with_reducible assumption)) mono_Fm_more_0); try dsimp only) | (refine Fr.tr ?_ (Fr.mono (fr_Fm_copies (by with_reducible assumption)) mono_Fm_more_1); try dsimp only) | (refine Fr.tr ?_ (Fr.mono (fr_Fm_finds (by with_reducible assumption)) mono_Fm_more_2); try dsimp only) | (refine Fr.tr ?_ (Fr.mono (fr_Fm_findsWays (by with_reducible assumption)) mono_Fm_more_3); try dsimp only))
  · have h := (if_neg g0).symm.trans h
    obtain rfl := Option.some.inj h
    try dsimp only [elS]
    repeat' (with_reducible first | exact Fr.rf | refine Fr.I ?_ (by simp [fp_Fm_more]) | refine Fr.L ?_ (by simp [fp_Fm_more]) | refine Fr.cI ?_ (by intro j; simp [fp_Fm_more]) | refine Fr.cL ?_ (by intro j; simp [fp_Fm_more]) | (refine Fr.tr ?_ (Fr.mono (fr_Fm_comes (by with_reducible assumption)) mono_Fm_more_0); try dsimp only) | (refine Fr.tr ?_ (Fr.mono (fr_Fm_copies (by with_reducible assumption)) mono_Fm_more_1); try dsimp only) | (refine Fr.tr ?_ (Fr.mono (fr_Fm_finds (by with_reducible assumption)) mono_Fm_more_2); try dsimp only) | (refine Fr.tr ?_ (Fr.mono (fr_Fm_findsWays (by with_reducible assumption)) mono_Fm_more_3); try dsimp only))
theorem frl_Fm_more_b29 {n : Nat} {c1 : Int32} {c2 : Int32} {c3 : Int32} {c4 : Int32}  {n1 : Nat} {s0 : Int32 × Mm} {y1 : Int32 × Mm} (h : loop (fun s1 : Int32 × Mm => Fm_more_b29 n c1 c2 c3 c4 s1.1 s1.2) n1 s0 = some y1) : Fr (fp_Fm_more) s0.2 y1.2 :=
  loop_inv (P := fun s2 : Int32 × Mm => Fr (fp_Fm_more) s0.2 s2.2) (E := fun y1 : Int32 × Mm => Fr (fp_Fm_more) s0.2 y1.2) (fun s2 s3 hP hb => hP.tr (fr_Fm_more_b29 hb)) (fun s2 x2 hP hb => hP.tr (fr_Fm_more_b29 hb)) n1 s0 y1 h Fr.rf
theorem fr_Fm_more {n : Nat} {v1 : Int32} {v2 : Int32} {v3 : Int32} {v4 : Int32} {M : Mm} {oo : Int32 × Mm} (h : Fm_more n v1 v2 v3 v4 M = some oo) : Fr (fp_Fm_more) M oo.2 := by
  unfold Fm_more at h
  obtain ⟨z1, _, h⟩ := bnd_s h
  by_cases g0 : z1 = true
  · have h := (if_pos g0).symm.trans h
    obtain ⟨z4, _, h⟩ := bnd_s h
    obtain ⟨z6, _, h⟩ := bnd_s h
    obtain ⟨y13, _, h⟩ := bnd_s h
    obtain ⟨z14, _, h⟩ := bnd_s h
    obtain rfl := Option.some.inj h
    try dsimp only [elS]
    repeat' (with_reducible first | exact Fr.rf | refine Fr.I ?_ (by simp [fp_Fm_more]) | refine Fr.L ?_ (by simp [fp_Fm_more]) | refine Fr.cI ?_ (by intro j; simp [fp_Fm_more]) | refine Fr.cL ?_ (by intro j; simp [fp_Fm_more]) | (refine Fr.tr ?_ (Fr.mono (fr_Fm_comes (by with_reducible assumption)) mono_Fm_more_0); try dsimp only) | (refine Fr.tr ?_ (Fr.mono (fr_Fm_copies (by with_reducible assumption)) mono_Fm_more_1); try dsimp only) | (refine Fr.tr ?_ (Fr.mono (fr_Fm_finds (by with_reducible assumption)) mono_Fm_more_2); try dsimp only) | (refine Fr.tr ?_ (Fr.mono (fr_Fm_findsWays (by with_reducible assumption)) mono_Fm_more_3); try dsimp only) | (refine Fr.tr ?_ (frl_Fm_more_b29 (by with_reducible assumption)); try dsimp only))
  · have h := (if_neg g0).symm.trans h
    obtain rfl := Option.some.inj h
    try dsimp only [elS]
    repeat' (with_reducible first | exact Fr.rf | refine Fr.I ?_ (by simp [fp_Fm_more]) | refine Fr.L ?_ (by simp [fp_Fm_more]) | refine Fr.cI ?_ (by intro j; simp [fp_Fm_more]) | refine Fr.cL ?_ (by intro j; simp [fp_Fm_more]) | (refine Fr.tr ?_ (Fr.mono (fr_Fm_comes (by with_reducible assumption)) mono_Fm_more_0); try dsimp only) | (refine Fr.tr ?_ (Fr.mono (fr_Fm_copies (by with_reducible assumption)) mono_Fm_more_1); try dsimp only) | (refine Fr.tr ?_ (Fr.mono (fr_Fm_finds (by with_reducible assumption)) mono_Fm_more_2); try dsimp only) | (refine Fr.tr ?_ (Fr.mono (fr_Fm_findsWays (by with_reducible assumption)) mono_Fm_more_3); try dsimp only) | (refine Fr.tr ?_ (frl_Fm_more_b29 (by with_reducible assumption)); try dsimp only))
theorem mono_Fm_ifCut_0  : ∀ c j, fp_Fm_copies c j → fp_Fm_ifCut c j := fun c j => (fun e => Or.inr (Or.inr (Or.inr (Or.inr (Or.inr (Or.inr (Or.inr (Or.inr (Or.inl e)))))))))
theorem mono_Fm_ifCut_1  : ∀ c j, fp_Fm_cuts c j → fp_Fm_ifCut c j := fun c j => (fun e => Or.inr (Or.inr (Or.inr (Or.inr (Or.inr (Or.inr (Or.inr (Or.inr (Or.inl e)))))))))
theorem mono_Fm_ifCut_2  : ∀ c j, fp_Fm_relights c j → fp_Fm_ifCut c j := fun c j => (fun h => h.elim (fun e => Or.inl e) (fun h => h.elim (fun e => Or.inr (Or.inl e)) (fun h => h.elim (fun e => Or.inr (Or.inr (Or.inl e))) (fun h => h.elim (fun e => Or.inr (Or.inr (Or.inr (Or.inl e)))) (fun h => h.elim (fun e => Or.inr (Or.inr (Or.inr (Or.inr (Or.inl e))))) (fun h => h.elim (fun e => Or.inr (Or.inr (Or.inr (Or.inr (Or.inr (Or.inl e)))))) (fun h => h.elim (fun e => Or.inr (Or.inr (Or.inr (Or.inr (Or.inr (Or.inr (Or.inl e))))))) (fun h => h.elim (fun e => Or.inr (Or.inr (Or.inr (Or.inr (Or.inr (Or.inr (Or.inr (Or.inl e)))))))) (fun h => h.elim (fun e => Or.inr (Or.inr (Or.inr (Or.inr (Or.inr (Or.inr (Or.inr (Or.inr (Or.inl e))))))))) (fun h => h.elim (fun e => Or.inr (Or.inr (Or.inr (Or.inr (Or.inr (Or.inr (Or.inr (Or.inr (Or.inr (Or.inl e)))))))))) (fun e => Or.inr (Or.inr (Or.inr (Or.inr (Or.inr (Or.inr (Or.inr (Or.inr (Or.inr (Or.inr (e)))))))))))))))))))))
theorem fr_Fm_ifCut {n : Nat} {v1 : Int32} {v2 : Int32} {v3 : Int32} {M : Mm} {oo : Int32 × Mm} (h : Fm_ifCut n v1 v2 v3 M = some oo) : Fr (fp_Fm_ifCut) M oo.2 := by
  unfold Fm_ifCut at h
  obtain ⟨z1, _, h⟩ := bnd_s h
  by_cases g0 : z1 = true
  · have h := (if_pos g0).symm.trans h
    obtain ⟨z4, _, h⟩ := bnd_s h
    by_cases g0 : z4 = true
    · have h := (if_pos g0).symm.trans h
      obtain ⟨z7, _, h⟩ := bnd_s h
      by_cases g0 : z7 = true
      · have h := (if_pos g0).symm.trans h
        obtain ⟨z10, _, h⟩ := bnd_s h
        by_cases g0 : z10 = true
        · have h := (if_pos g0).symm.trans h
          obtain ⟨z13, _, h⟩ := bnd_s h
          obtain ⟨z15, _, h⟩ := bnd_s h
          obtain ⟨z17, _, h⟩ := bnd_s h
          obtain ⟨z19, _, h⟩ := bnd_s h
          obtain ⟨z21, _, h⟩ := bnd_s h
          by_cases g0 : v3 = (0 : Int32)
          · have h := (if_pos g0).symm.trans h
            obtain rfl := Option.some.inj h
            try dsimp only [elS]
            repeat' (with_reducible first | exact Fr.rf | refine Fr.I ?_ (by simp [fp_Fm_ifCut]) | refine Fr.L ?_ (by simp [fp_Fm_ifCut]) | refine Fr.cI ?_ (by intro j; simp [fp_Fm_ifCut]) | refine Fr.cL ?_ (by intro j; simp [fp_Fm_ifCut]) | (refine Fr.tr ?_ (Fr.mono (fr_Fm_copies (by with_reducible assumption)) mono_Fm_ifCut_0); try dsimp only) | (refine Fr.tr ?_ (Fr.mono (fr_Fm_cuts (by with_reducible assumption)) mono_Fm_ifCut_1); try dsimp only) | (refine Fr.tr ?_ (Fr.mono (fr_Fm_relights (by with_reducible assumption)) mono_Fm_ifCut_2); try dsimp only))
          · have h := (if_neg g0).symm.trans h
            by_cases g0 : v3 = (1 : Int32)
            · have h := (if_pos g0).symm.trans h
              obtain rfl := Option.some.inj h
              try dsimp only [elS]
              repeat' (with_reducible first | exact Fr.rf | refine Fr.I ?_ (by simp [fp_Fm_ifCut]) | refine Fr.L ?_ (by simp [fp_Fm_ifCut]) | refine Fr.cI ?_ (by intro j; simp [fp_Fm_ifCut]) | refine Fr.cL ?_ (by intro j; simp [fp_Fm_ifCut]) | (refine Fr.tr ?_ (Fr.mono (fr_Fm_copies (by with_reducible assumption)) mono_Fm_ifCut_0); try dsimp only) | (refine Fr.tr ?_ (Fr.mono (fr_Fm_cuts (by with_reducible assumption)) mono_Fm_ifCut_1); try dsimp only) | (refine Fr.tr ?_ (Fr.mono (fr_Fm_relights (by with_reducible assumption)) mono_Fm_ifCut_2); try dsimp only))
            · have h := (if_neg g0).symm.trans h
              obtain rfl := Option.some.inj h
              try dsimp only [elS]
              repeat' (with_reducible first | exact Fr.rf | refine Fr.I ?_ (by simp [fp_Fm_ifCut]) | refine Fr.L ?_ (by simp [fp_Fm_ifCut]) | refine Fr.cI ?_ (by intro j; simp [fp_Fm_ifCut]) | refine Fr.cL ?_ (by intro j; simp [fp_Fm_ifCut]) | (refine Fr.tr ?_ (Fr.mono (fr_Fm_copies (by with_reducible assumption)) mono_Fm_ifCut_0); try dsimp only) | (refine Fr.tr ?_ (Fr.mono (fr_Fm_cuts (by with_reducible assumption)) mono_Fm_ifCut_1); try dsimp only) | (refine Fr.tr ?_ (Fr.mono (fr_Fm_relights (by with_reducible assumption)) mono_Fm_ifCut_2); try dsimp only))
        · have h := (if_neg g0).symm.trans h
          obtain rfl := Option.some.inj h
          try dsimp only [elS]
          repeat' (with_reducible first | exact Fr.rf | refine Fr.I ?_ (by simp [fp_Fm_ifCut]) | refine Fr.L ?_ (by simp [fp_Fm_ifCut]) | refine Fr.cI ?_ (by intro j; simp [fp_Fm_ifCut]) | refine Fr.cL ?_ (by intro j; simp [fp_Fm_ifCut]) | (refine Fr.tr ?_ (Fr.mono (fr_Fm_copies (by with_reducible assumption)) mono_Fm_ifCut_0); try dsimp only) | (refine Fr.tr ?_ (Fr.mono (fr_Fm_cuts (by with_reducible assumption)) mono_Fm_ifCut_1); try dsimp only) | (refine Fr.tr ?_ (Fr.mono (fr_Fm_relights (by with_reducible assumption)) mono_Fm_ifCut_2); try dsimp only))
      · have h := (if_neg g0).symm.trans h
        obtain rfl := Option.some.inj h
        try dsimp only [elS]
        repeat' (with_reducible first | exact Fr.rf | refine Fr.I ?_ (by simp [fp_Fm_ifCut]) | refine Fr.L ?_ (by simp [fp_Fm_ifCut]) | refine Fr.cI ?_ (by intro j; simp [fp_Fm_ifCut]) | refine Fr.cL ?_ (by intro j; simp [fp_Fm_ifCut]) | (refine Fr.tr ?_ (Fr.mono (fr_Fm_copies (by with_reducible assumption)) mono_Fm_ifCut_0); try dsimp only) | (refine Fr.tr ?_ (Fr.mono (fr_Fm_cuts (by with_reducible assumption)) mono_Fm_ifCut_1); try dsimp only) | (refine Fr.tr ?_ (Fr.mono (fr_Fm_relights (by with_reducible assumption)) mono_Fm_ifCut_2); try dsimp only))
    · have h := (if_neg g0).symm.trans h
      obtain rfl := Option.some.inj h
      try dsimp only [elS]
      repeat' (with_reducible first | exact Fr.rf | refine Fr.I ?_ (by simp [fp_Fm_ifCut]) | refine Fr.L ?_ (by simp [fp_Fm_ifCut]) | refine Fr.cI ?_ (by intro j; simp [fp_Fm_ifCut]) | refine Fr.cL ?_ (by intro j; simp [fp_Fm_ifCut]) | (refine Fr.tr ?_ (Fr.mono (fr_Fm_copies (by with_reducible assumption)) mono_Fm_ifCut_0); try dsimp only) | (refine Fr.tr ?_ (Fr.mono (fr_Fm_cuts (by with_reducible assumption)) mono_Fm_ifCut_1); try dsimp only) | (refine Fr.tr ?_ (Fr.mono (fr_Fm_relights (by with_reducible assumption)) mono_Fm_ifCut_2); try dsimp only))
  · have h := (if_neg g0).symm.trans h
    obtain rfl := Option.some.inj h
    try dsimp only [elS]
    repeat' (with_reducible first | exact Fr.rf | refine Fr.I ?_ (by simp [fp_Fm_ifCut]) | refine Fr.L ?_ (by simp [fp_Fm_ifCut]) | refine Fr.cI ?_ (by intro j; simp [fp_Fm_ifCut]) | refine Fr.cL ?_ (by intro j; simp [fp_Fm_ifCut]) | (refine Fr.tr ?_ (Fr.mono (fr_Fm_copies (by with_reducible assumption)) mono_Fm_ifCut_0); try dsimp only) | (refine Fr.tr ?_ (Fr.mono (fr_Fm_cuts (by with_reducible assumption)) mono_Fm_ifCut_1); try dsimp only) | (refine Fr.tr ?_ (Fr.mono (fr_Fm_relights (by with_reducible assumption)) mono_Fm_ifCut_2); try dsimp only))
theorem mono_Fm_readsStep_0  : ∀ c j, fp_Fm_readsNumber c j → fp_Fm_readsStep c j := fun c j => (fun h => h.elim (fun e => Or.inr (Or.inr (Or.inl e))) (fun h => h.elim (fun e => Or.inr (Or.inr (Or.inr (Or.inl e)))) (fun h => h.elim (fun e => Or.inr (Or.inr (Or.inr (Or.inr (Or.inl e))))) (fun e => Or.inr (Or.inr (Or.inr (Or.inr (Or.inr (Or.inl e)))))))))
theorem mono_Fm_readsStep_1  : ∀ c j, fp_Fm_readsWord c j → fp_Fm_readsStep c j := fun c j => (fun h => h.elim (fun e => Or.inr (Or.inr (Or.inl e))) (fun h => h.elim (fun e => Or.inr (Or.inr (Or.inr (Or.inr (Or.inr (Or.inr (Or.inl e))))))) (fun e => Or.inr (Or.inr (Or.inr (Or.inr (Or.inr (Or.inr (Or.inr (Or.inr (e)))))))))))
theorem mono_Fm_readsStep_2  : ∀ c j, fp_Fm_wrongAt c j → fp_Fm_readsStep c j := fun c j => (fun e => Or.inr (Or.inr (Or.inr (Or.inl e))))
theorem fr_Fm_readsStep_j85 {n : Nat} {v2 : Int32} {w0 : Int32} {w1 : Int32} {M : Mm} {oo : (Int32 × Mm) ⊕ ((Mm) ⊕ (Bool × Mm))} (h : Fm_readsStep_j85 n v2 w0 w1 M = some oo) : Fr (fp_Fm_readsStep) M (elS oo (fun s1 => s1.2) (fun y1 => elS y1 (fun x1 => x1) (fun z1 => z1.2))) := by
  unfold Fm_readsStep_j85 at h
  obtain ⟨z12, _, h⟩ := bnd_s h
  by_cases g0 : z12.1 = true
  · have h := (if_pos g0).symm.trans h
    obtain ⟨_, h⟩ := grd_s h
    obtain rfl := Option.some.inj h
    try dsimp only [elS]
    repeat' (with_reducible first | exact Fr.rf | refine Fr.I ?_ (by simp [fp_Fm_readsStep]) | refine Fr.L ?_ (by simp [fp_Fm_readsStep]) | refine Fr.cI ?_ (by intro j; simp [fp_Fm_readsStep]) | refine Fr.cL ?_ (by intro j; simp [fp_Fm_readsStep]) | (refine Fr.tr ?_ (Fr.mono (fr_Fm_readsNumber (by with_reducible assumption)) mono_Fm_readsStep_0); try dsimp only) | (refine Fr.tr ?_ (Fr.mono (fr_Fm_readsWord (by with_reducible assumption)) mono_Fm_readsStep_1); try dsimp only) | (refine Fr.tr ?_ (Fr.mono (fr_Fm_wrongAt (by with_reducible assumption)) mono_Fm_readsStep_2); try dsimp only))
  · have h := (if_neg g0).symm.trans h
    obtain rfl := Option.some.inj h
    try dsimp only [elS]
    repeat' (with_reducible first | exact Fr.rf | refine Fr.I ?_ (by simp [fp_Fm_readsStep]) | refine Fr.L ?_ (by simp [fp_Fm_readsStep]) | refine Fr.cI ?_ (by intro j; simp [fp_Fm_readsStep]) | refine Fr.cL ?_ (by intro j; simp [fp_Fm_readsStep]) | (refine Fr.tr ?_ (Fr.mono (fr_Fm_readsNumber (by with_reducible assumption)) mono_Fm_readsStep_0); try dsimp only) | (refine Fr.tr ?_ (Fr.mono (fr_Fm_readsWord (by with_reducible assumption)) mono_Fm_readsStep_1); try dsimp only) | (refine Fr.tr ?_ (Fr.mono (fr_Fm_wrongAt (by with_reducible assumption)) mono_Fm_readsStep_2); try dsimp only))
theorem fr_Fm_readsStep_b61 {n : Nat} {c1 : Int32} {v2 : Int32} {M : Mm} {oo : (Int32 × Mm) ⊕ ((Mm) ⊕ (Bool × Mm))} (h : Fm_readsStep_b61 n c1 v2 M = some oo) : Fr (fp_Fm_readsStep) M (elS oo (fun s1 => s1.2) (fun y1 => elS y1 (fun x1 => x1) (fun z1 => z1.2))) := by
  unfold Fm_readsStep_b61 at h
  by_cases g0 : c1 ≤ v2
  · have h := (if_pos g0).symm.trans h
    obtain rfl := Option.some.inj h
    try dsimp only [elS]
    repeat' (with_reducible first | exact Fr.rf | refine Fr.I ?_ (by simp [fp_Fm_readsStep]) | refine Fr.L ?_ (by simp [fp_Fm_readsStep]) | refine Fr.cI ?_ (by intro j; simp [fp_Fm_readsStep]) | refine Fr.cL ?_ (by intro j; simp [fp_Fm_readsStep]) | (refine Fr.tr ?_ (Fr.mono (fr_Fm_readsNumber (by with_reducible assumption)) mono_Fm_readsStep_0); try dsimp only) | (refine Fr.tr ?_ (Fr.mono (fr_Fm_readsWord (by with_reducible assumption)) mono_Fm_readsStep_1); try dsimp only) | (refine Fr.tr ?_ (Fr.mono (fr_Fm_wrongAt (by with_reducible assumption)) mono_Fm_readsStep_2); try dsimp only))
  · have h := (if_neg g0).symm.trans h
    obtain ⟨z9, _, h⟩ := bnd_s h
    by_cases g0 : z9 = true
    · have h := (if_pos g0).symm.trans h
      refine Fr.tr ?_ (fr_Fm_readsStep_j85 h)
      try dsimp only [elS]
      repeat' (with_reducible first | exact Fr.rf | refine Fr.I ?_ (by simp [fp_Fm_readsStep]) | refine Fr.L ?_ (by simp [fp_Fm_readsStep]) | refine Fr.cI ?_ (by intro j; simp [fp_Fm_readsStep]) | refine Fr.cL ?_ (by intro j; simp [fp_Fm_readsStep]) | (refine Fr.tr ?_ (Fr.mono (fr_Fm_readsNumber (by with_reducible assumption)) mono_Fm_readsStep_0); try dsimp only) | (refine Fr.tr ?_ (Fr.mono (fr_Fm_readsWord (by with_reducible assumption)) mono_Fm_readsStep_1); try dsimp only) | (refine Fr.tr ?_ (Fr.mono (fr_Fm_wrongAt (by with_reducible assumption)) mono_Fm_readsStep_2); try dsimp only))
    · have h := (if_neg g0).symm.trans h
      refine Fr.tr ?_ (fr_Fm_readsStep_j85 h)
      try dsimp only [elS]
      repeat' (with_reducible first | exact Fr.rf | refine Fr.I ?_ (by simp [fp_Fm_readsStep]) | refine Fr.L ?_ (by simp [fp_Fm_readsStep]) | refine Fr.cI ?_ (by intro j; simp [fp_Fm_readsStep]) | refine Fr.cL ?_ (by intro j; simp [fp_Fm_readsStep]) | (refine Fr.tr ?_ (Fr.mono (fr_Fm_readsNumber (by with_reducible assumption)) mono_Fm_readsStep_0); try dsimp only) | (refine Fr.tr ?_ (Fr.mono (fr_Fm_readsWord (by with_reducible assumption)) mono_Fm_readsStep_1); try dsimp only) | (refine Fr.tr ?_ (Fr.mono (fr_Fm_wrongAt (by with_reducible assumption)) mono_Fm_readsStep_2); try dsimp only))
theorem frl_Fm_readsStep_b61 {n : Nat} {c1 : Int32}  {n1 : Nat} {s0 : Int32 × Mm} {y1 : (Mm) ⊕ (Bool × Mm)} (h : loop (fun s1 : Int32 × Mm => Fm_readsStep_b61 n c1 s1.1 s1.2) n1 s0 = some y1) : Fr (fp_Fm_readsStep) s0.2 (elS y1 (fun x1 => x1) (fun z1 => z1.2)) :=
  loop_inv (P := fun s2 : Int32 × Mm => Fr (fp_Fm_readsStep) s0.2 s2.2) (E := fun y1 : (Mm) ⊕ (Bool × Mm) => Fr (fp_Fm_readsStep) s0.2 (elS y1 (fun x1 => x1) (fun z1 => z1.2))) (fun s2 s3 hP hb => hP.tr (fr_Fm_readsStep_b61 hb)) (fun s2 x2 hP hb => hP.tr (fr_Fm_readsStep_b61 hb)) n1 s0 y1 h Fr.rf
theorem fr_Fm_readsStep {n : Nat} {M : Mm} {oo : Bool × Mm} (h : Fm_readsStep n M = some oo) : Fr (fp_Fm_readsStep) M oo.2 := by
  unfold Fm_readsStep at h
  by_cases g0 : (M.1 94 11) = (24 : Int32)
  · have h := (if_pos g0).symm.trans h
    obtain ⟨z21, _, h⟩ := bnd_s h
    obtain rfl := Option.some.inj h
    try dsimp only [elS]
    repeat' (with_reducible first | exact Fr.rf | refine Fr.I ?_ (by simp [fp_Fm_readsStep]) | refine Fr.L ?_ (by simp [fp_Fm_readsStep]) | refine Fr.cI ?_ (by intro j; simp [fp_Fm_readsStep]) | refine Fr.cL ?_ (by intro j; simp [fp_Fm_readsStep]) | (refine Fr.tr ?_ (Fr.mono (fr_Fm_readsNumber (by with_reducible assumption)) mono_Fm_readsStep_0); try dsimp only) | (refine Fr.tr ?_ (Fr.mono (fr_Fm_readsWord (by with_reducible assumption)) mono_Fm_readsStep_1); try dsimp only) | (refine Fr.tr ?_ (Fr.mono (fr_Fm_wrongAt (by with_reducible assumption)) mono_Fm_readsStep_2); try dsimp only) | (refine Fr.tr ?_ (frl_Fm_readsStep_b61 (by with_reducible assumption)); try dsimp only))
  · have h := (if_neg g0).symm.trans h
    obtain ⟨z2, _, h⟩ := bnd_s h
    obtain ⟨z4, _, h⟩ := bnd_s h
    by_cases g0 : z4 = (-1 : Int32)
    · have h := (if_pos g0).symm.trans h
      obtain ⟨z19, _, h⟩ := bnd_s h
      obtain rfl := Option.some.inj h
      try dsimp only [elS]
      repeat' (with_reducible first | exact Fr.rf | refine Fr.I ?_ (by simp [fp_Fm_readsStep]) | refine Fr.L ?_ (by simp [fp_Fm_readsStep]) | refine Fr.cI ?_ (by intro j; simp [fp_Fm_readsStep]) | refine Fr.cL ?_ (by intro j; simp [fp_Fm_readsStep]) | (refine Fr.tr ?_ (Fr.mono (fr_Fm_readsNumber (by with_reducible assumption)) mono_Fm_readsStep_0); try dsimp only) | (refine Fr.tr ?_ (Fr.mono (fr_Fm_readsWord (by with_reducible assumption)) mono_Fm_readsStep_1); try dsimp only) | (refine Fr.tr ?_ (Fr.mono (fr_Fm_wrongAt (by with_reducible assumption)) mono_Fm_readsStep_2); try dsimp only) | (refine Fr.tr ?_ (frl_Fm_readsStep_b61 (by with_reducible assumption)); try dsimp only))
    · have h := (if_neg g0).symm.trans h
      obtain ⟨_, h⟩ := grd_s h
      obtain ⟨y16, _, h⟩ := bnd_s h
      cases y16 with
      | inl x17 =>
        obtain rfl := Option.some.inj h
        try dsimp only [elS]
        repeat' (with_reducible first | exact Fr.rf | refine Fr.I ?_ (by simp [fp_Fm_readsStep]) | refine Fr.L ?_ (by simp [fp_Fm_readsStep]) | refine Fr.cI ?_ (by intro j; simp [fp_Fm_readsStep]) | refine Fr.cL ?_ (by intro j; simp [fp_Fm_readsStep]) | (refine Fr.tr ?_ (Fr.mono (fr_Fm_readsNumber (by with_reducible assumption)) mono_Fm_readsStep_0); try dsimp only) | (refine Fr.tr ?_ (Fr.mono (fr_Fm_readsWord (by with_reducible assumption)) mono_Fm_readsStep_1); try dsimp only) | (refine Fr.tr ?_ (Fr.mono (fr_Fm_wrongAt (by with_reducible assumption)) mono_Fm_readsStep_2); try dsimp only) | (refine Fr.tr ?_ (frl_Fm_readsStep_b61 (by with_reducible assumption)); try dsimp only))
      | inr e18 =>
        obtain rfl := Option.some.inj h
        try dsimp only [elS]
        repeat' (with_reducible first | exact Fr.rf | refine Fr.I ?_ (by simp [fp_Fm_readsStep]) | refine Fr.L ?_ (by simp [fp_Fm_readsStep]) | refine Fr.cI ?_ (by intro j; simp [fp_Fm_readsStep]) | refine Fr.cL ?_ (by intro j; simp [fp_Fm_readsStep]) | (refine Fr.tr ?_ (Fr.mono (fr_Fm_readsNumber (by with_reducible assumption)) mono_Fm_readsStep_0); try dsimp only) | (refine Fr.tr ?_ (Fr.mono (fr_Fm_readsWord (by with_reducible assumption)) mono_Fm_readsStep_1); try dsimp only) | (refine Fr.tr ?_ (Fr.mono (fr_Fm_wrongAt (by with_reducible assumption)) mono_Fm_readsStep_2); try dsimp only) | (refine Fr.tr ?_ (frl_Fm_readsStep_b61 (by with_reducible assumption)); try dsimp only))
theorem mono_Fm_does_0  : ∀ c j, fp_Fm_ask c j → fp_Fm_does c j := fun c j => (fun h => h.elim (fun e => Or.inl e) (fun h => h.elim (fun e => Or.inr (Or.inl e)) (fun h => h.elim (fun e => Or.inr (Or.inr (Or.inl e))) (fun h => h.elim (fun e => Or.inr (Or.inr (Or.inr (Or.inl e)))) (fun h => h.elim (fun e => Or.inr (Or.inr (Or.inr (Or.inr (Or.inr (Or.inr (Or.inr (Or.inr (Or.inr (Or.inr (Or.inr (Or.inr (Or.inl e))))))))))))) (fun h => h.elim (fun e => Or.inr (Or.inr (Or.inr (Or.inr (Or.inr (Or.inr (Or.inr (Or.inr (Or.inr (Or.inr (Or.inr (Or.inr (Or.inr (Or.inl e)))))))))))))) (fun h => h.elim (fun e => Or.inr (Or.inr (Or.inr (Or.inr (Or.inr (Or.inr (Or.inr (Or.inr (Or.inr (Or.inr (Or.inr (Or.inr (Or.inr (Or.inr (Or.inl e))))))))))))))) (fun h => h.elim (fun e => Or.inr (Or.inr (Or.inr (Or.inr (Or.inr (Or.inr (Or.inr (Or.inr (Or.inr (Or.inr (Or.inr (Or.inr (Or.inr (Or.inr (Or.inr (Or.inl e)))))))))))))))) (fun h => h.elim (fun e => Or.inr (Or.inr (Or.inr (Or.inr (Or.inr (Or.inr (Or.inr (Or.inr (Or.inr (Or.inr (Or.inr (Or.inr (Or.inr (Or.inr (Or.inr (Or.inr (Or.inr (Or.inr (Or.inr (Or.inr (Or.inl e))))))))))))))))))))) (fun h => h.elim (fun e => Or.inr (Or.inr (Or.inr (Or.inr (Or.inr (Or.inr (Or.inr (Or.inr (Or.inr (Or.inr (Or.inr (Or.inr (Or.inr (Or.inr (Or.inr (Or.inr (Or.inr (Or.inr (Or.inr (Or.inr (Or.inr (Or.inl e)))))))))))))))))))))) (fun e => Or.inr (Or.inr (Or.inr (Or.inr (Or.inr (Or.inr (Or.inr (Or.inr (Or.inr (Or.inr (Or.inr (Or.inr (Or.inr (Or.inr (Or.inr (Or.inr (Or.inr (Or.inr (Or.inr (Or.inr (Or.inr (Or.inr (e)))))))))))))))))))))))))))))))))
theorem mono_Fm_does_1  : ∀ c j, fp_Fm_cut c j → fp_Fm_does c j := fun c j => (fun e => Or.inr (Or.inr (Or.inr (Or.inr (Or.inr (Or.inr (Or.inr (Or.inr (Or.inr (Or.inr (Or.inr (Or.inr (Or.inr (Or.inr (Or.inr (Or.inr (Or.inr (Or.inr (Or.inr (Or.inr (Or.inl e)))))))))))))))))))))
theorem mono_Fm_does_2  : ∀ c j, fp_Fm_drop c j → fp_Fm_does c j := fun c j => (fun e => Or.inr (Or.inr (Or.inr (Or.inr (Or.inr (Or.inr (Or.inr (Or.inr (Or.inr (Or.inr (Or.inr (Or.inr (Or.inr (Or.inr (Or.inr (Or.inr (Or.inr (Or.inr (Or.inr (Or.inr (Or.inl e)))))))))))))))))))))
theorem mono_Fm_does_3  : ∀ c j, fp_Fm_jump c j → fp_Fm_does c j := fun c j => (fun e => Or.inr (Or.inr (Or.inr (Or.inr (Or.inr (Or.inr (Or.inr (Or.inr (Or.inr (Or.inr (Or.inr (Or.inr (Or.inr (Or.inr (Or.inr (Or.inr (Or.inr (Or.inr (Or.inr (Or.inr (Or.inl e)))))))))))))))))))))
theorem mono_Fm_does_4  : ∀ c j, fp_Fm_lasts c j → fp_Fm_does c j := fun c j => (fun e => Or.inr (Or.inr (Or.inr (Or.inr (Or.inr (Or.inr (Or.inr (Or.inr (Or.inr (Or.inr (Or.inr (Or.inr (Or.inr (Or.inr (Or.inr (Or.inr (Or.inr (Or.inr (Or.inr (Or.inr (Or.inl e)))))))))))))))))))))
theorem mono_Fm_does_5  : ∀ c j, fp_Fm_mend c j → fp_Fm_does c j := fun c j => (fun e => Or.inr (Or.inr (Or.inr (Or.inr (Or.inr (Or.inr (Or.inr (Or.inr (Or.inr (Or.inr (Or.inr (Or.inr (Or.inr (Or.inr (Or.inr (Or.inr (Or.inr (Or.inr (Or.inr (Or.inr (Or.inl e)))))))))))))))))))))
theorem mono_Fm_does_6  : ∀ c j, fp_Fm_plan c j → fp_Fm_does c j := fun c j => (fun h => h.elim (fun e => Or.inl e) (fun h => h.elim (fun e => Or.inr (Or.inl e)) (fun h => h.elim (fun e => Or.inr (Or.inr (Or.inl e))) (fun h => h.elim (fun e => Or.inr (Or.inr (Or.inr (Or.inl e)))) (fun h => h.elim (fun e => Or.inr (Or.inr (Or.inr (Or.inr (Or.inr (Or.inl e)))))) (fun h => h.elim (fun e => Or.inr (Or.inr (Or.inr (Or.inr (Or.inr (Or.inr (Or.inl e))))))) (fun h => h.elim (fun e => Or.inr (Or.inr (Or.inr (Or.inr (Or.inr (Or.inr (Or.inr (Or.inl e)))))))) (fun h => h.elim (fun e => Or.inr (Or.inr (Or.inr (Or.inr (Or.inr (Or.inr (Or.inr (Or.inr (Or.inl e))))))))) (fun h => h.elim (fun e => Or.inr (Or.inr (Or.inr (Or.inr (Or.inr (Or.inr (Or.inr (Or.inr (Or.inr (Or.inl e)))))))))) (fun h => h.elim (fun e => Or.inr (Or.inr (Or.inr (Or.inr (Or.inr (Or.inr (Or.inr (Or.inr (Or.inr (Or.inr (Or.inl e))))))))))) (fun h => h.elim (fun e => Or.inr (Or.inr (Or.inr (Or.inr (Or.inr (Or.inr (Or.inr (Or.inr (Or.inr (Or.inr (Or.inr (Or.inl e)))))))))))) (fun h => h.elim (fun e => Or.inr (Or.inr (Or.inr (Or.inr (Or.inr (Or.inr (Or.inr (Or.inr (Or.inr (Or.inr (Or.inr (Or.inr (Or.inl e))))))))))))) (fun h => h.elim (fun e => Or.inr (Or.inr (Or.inr (Or.inr (Or.inr (Or.inr (Or.inr (Or.inr (Or.inr (Or.inr (Or.inr (Or.inr (Or.inr (Or.inl e)))))))))))))) (fun h => h.elim (fun e => Or.inr (Or.inr (Or.inr (Or.inr (Or.inr (Or.inr (Or.inr (Or.inr (Or.inr (Or.inr (Or.inr (Or.inr (Or.inr (Or.inr (Or.inl e))))))))))))))) (fun h => h.elim (fun e => Or.inr (Or.inr (Or.inr (Or.inr (Or.inr (Or.inr (Or.inr (Or.inr (Or.inr (Or.inr (Or.inr (Or.inr (Or.inr (Or.inr (Or.inr (Or.inl e)))))))))))))))) (fun h => h.elim (fun e => Or.inr (Or.inr (Or.inr (Or.inr (Or.inr (Or.inr (Or.inr (Or.inr (Or.inr (Or.inr (Or.inr (Or.inr (Or.inr (Or.inr (Or.inr (Or.inr (Or.inl e))))))))))))))))) (fun h => h.elim (fun e => Or.inr (Or.inr (Or.inr (Or.inr (Or.inr (Or.inr (Or.inr (Or.inr (Or.inr (Or.inr (Or.inr (Or.inr (Or.inr (Or.inr (Or.inr (Or.inr (Or.inr (Or.inl e)))))))))))))))))) (fun h => h.elim (fun e => Or.inr (Or.inr (Or.inr (Or.inr (Or.inr (Or.inr (Or.inr (Or.inr (Or.inr (Or.inr (Or.inr (Or.inr (Or.inr (Or.inr (Or.inr (Or.inr (Or.inr (Or.inr (Or.inl e))))))))))))))))))) (fun h => h.elim (fun e => Or.inr (Or.inr (Or.inr (Or.inr (Or.inr (Or.inr (Or.inr (Or.inr (Or.inr (Or.inr (Or.inr (Or.inr (Or.inr (Or.inr (Or.inr (Or.inr (Or.inr (Or.inr (Or.inr (Or.inl e)))))))))))))))))))) (fun h => h.elim (fun e => Or.inr (Or.inr (Or.inr (Or.inr (Or.inr (Or.inr (Or.inr (Or.inr (Or.inr (Or.inr (Or.inr (Or.inr (Or.inr (Or.inr (Or.inr (Or.inr (Or.inr (Or.inr (Or.inr (Or.inr (Or.inl e))))))))))))))))))))) (fun h => h.elim (fun e => Or.inr (Or.inr (Or.inr (Or.inr (Or.inr (Or.inr (Or.inr (Or.inr (Or.inr (Or.inr (Or.inr (Or.inr (Or.inr (Or.inr (Or.inr (Or.inr (Or.inr (Or.inr (Or.inr (Or.inr (Or.inr (Or.inl e)))))))))))))))))))))) (fun e => Or.inr (Or.inr (Or.inr (Or.inr (Or.inr (Or.inr (Or.inr (Or.inr (Or.inr (Or.inr (Or.inr (Or.inr (Or.inr (Or.inr (Or.inr (Or.inr (Or.inr (Or.inr (Or.inr (Or.inr (Or.inr (Or.inr (e))))))))))))))))))))))))))))))))))))))))))))
theorem mono_Fm_does_7  : ∀ c j, fp_Fm_relight c j → fp_Fm_does c j := fun c j => (fun h => h.elim (fun e => Or.inl e) (fun h => h.elim (fun e => Or.inr (Or.inl e)) (fun h => h.elim (fun e => Or.inr (Or.inr (Or.inl e))) (fun h => h.elim (fun e => Or.inr (Or.inr (Or.inr (Or.inl e)))) (fun h => h.elim (fun e => Or.inr (Or.inr (Or.inr (Or.inr (Or.inr (Or.inr (Or.inr (Or.inr (Or.inr (Or.inr (Or.inr (Or.inr (Or.inl e))))))))))))) (fun h => h.elim (fun e => Or.inr (Or.inr (Or.inr (Or.inr (Or.inr (Or.inr (Or.inr (Or.inr (Or.inr (Or.inr (Or.inr (Or.inr (Or.inr (Or.inl e)))))))))))))) (fun h => h.elim (fun e => Or.inr (Or.inr (Or.inr (Or.inr (Or.inr (Or.inr (Or.inr (Or.inr (Or.inr (Or.inr (Or.inr (Or.inr (Or.inr (Or.inr (Or.inl e))))))))))))))) (fun h => h.elim (fun e => Or.inr (Or.inr (Or.inr (Or.inr (Or.inr (Or.inr (Or.inr (Or.inr (Or.inr (Or.inr (Or.inr (Or.inr (Or.inr (Or.inr (Or.inr (Or.inl e)))))))))))))))) (fun h => h.elim (fun e => Or.inr (Or.inr (Or.inr (Or.inr (Or.inr (Or.inr (Or.inr (Or.inr (Or.inr (Or.inr (Or.inr (Or.inr (Or.inr (Or.inr (Or.inr (Or.inr (Or.inr (Or.inr (Or.inr (Or.inr (Or.inl e))))))))))))))))))))) (fun h => h.elim (fun e => Or.inr (Or.inr (Or.inr (Or.inr (Or.inr (Or.inr (Or.inr (Or.inr (Or.inr (Or.inr (Or.inr (Or.inr (Or.inr (Or.inr (Or.inr (Or.inr (Or.inr (Or.inr (Or.inr (Or.inr (Or.inr (Or.inl e)))))))))))))))))))))) (fun e => Or.inr (Or.inr (Or.inr (Or.inr (Or.inr (Or.inr (Or.inr (Or.inr (Or.inr (Or.inr (Or.inr (Or.inr (Or.inr (Or.inr (Or.inr (Or.inr (Or.inr (Or.inr (Or.inr (Or.inr (Or.inr (Or.inr (e)))))))))))))))))))))))))))))))))
theorem mono_Fm_does_8  : ∀ c j, fp_Fm_slide c j → fp_Fm_does c j := fun c j => (fun e => Or.inr (Or.inr (Or.inr (Or.inr (Or.inr (Or.inr (Or.inr (Or.inr (Or.inr (Or.inr (Or.inr (Or.inr (Or.inr (Or.inr (Or.inr (Or.inr (Or.inr (Or.inr (Or.inr (Or.inr (Or.inl e)))))))))))))))))))))
theorem mono_Fm_does_9  : ∀ c j, fp_Fm_sweep c j → fp_Fm_does c j := fun c j => (fun h => h.elim (fun e => Or.inr (Or.inr (Or.inr (Or.inr (Or.inl e))))) (fun e => Or.inr (Or.inr (Or.inr (Or.inr (Or.inr (Or.inr (Or.inr (Or.inr (Or.inr (Or.inr (Or.inr (Or.inr (Or.inr (Or.inr (Or.inr (Or.inr (Or.inr (Or.inr (Or.inr (Or.inr (Or.inl e))))))))))))))))))))))
theorem mono_Fm_does_10  : ∀ c j, fp_Fm_ticks c j → fp_Fm_does c j := fun c j => (fun e => Or.inr (Or.inr (Or.inr (Or.inr (Or.inr (Or.inr (Or.inr (Or.inr (Or.inr (Or.inr (Or.inr (Or.inr (Or.inr (Or.inr (Or.inr (Or.inr (Or.inr (Or.inr (Or.inr (Or.inr (Or.inl e)))))))))))))))))))))
theorem fr_Fm_does_j79 {M : Mm} {oo : Bool × Mm} (h : Fm_does_j79 M = some oo) : Fr (fp_Fm_does) M oo.2 := by
  unfold Fm_does_j79 at h
  obtain rfl := Option.some.inj h
  try dsimp only [elS]
  repeat' (with_reducible first | exact Fr.rf | refine Fr.I ?_ (by simp [fp_Fm_does]) | refine Fr.L ?_ (by simp [fp_Fm_does]) | refine Fr.cI ?_ (by intro j; simp [fp_Fm_does]) | refine Fr.cL ?_ (by intro j; simp [fp_Fm_does]) | (refine Fr.tr ?_ (Fr.mono (fr_Fm_ask (by with_reducible assumption)) mono_Fm_does_0); try dsimp only) | (refine Fr.tr ?_ (Fr.mono (fr_Fm_cut (by with_reducible assumption)) mono_Fm_does_1); try dsimp only) | (refine Fr.tr ?_ (Fr.mono (fr_Fm_drop (by with_reducible assumption)) mono_Fm_does_2); try dsimp only) | (refine Fr.tr ?_ (Fr.mono (fr_Fm_jump (by with_reducible assumption)) mono_Fm_does_3); try dsimp only) | (refine Fr.tr ?_ (Fr.mono (fr_Fm_lasts (by with_reducible assumption)) mono_Fm_does_4); try dsimp only) | (refine Fr.tr ?_ (Fr.mono (fr_Fm_mend (by with_reducible assumption)) mono_Fm_does_5); try dsimp only) | (refine Fr.tr ?_ (Fr.mono (fr_Fm_plan (by with_reducible assumption)) mono_Fm_does_6); try dsimp only) | (refine Fr.tr ?_ (Fr.mono (fr_Fm_relight (by with_reducible assumption)) mono_Fm_does_7); try dsimp only) | (refine Fr.tr ?_ (Fr.mono (fr_Fm_slide (by with_reducible assumption)) mono_Fm_does_8); try dsimp only) | (refine Fr.tr ?_ (Fr.mono (fr_Fm_sweep (by with_reducible assumption)) mono_Fm_does_9); try dsimp only) | (refine Fr.tr ?_ (Fr.mono (fr_Fm_ticks (by with_reducible assumption)) mono_Fm_does_10); try dsimp only))
theorem fr_Fm_does {n : Nat} {v1 : Int32} {M : Mm} {oo : Bool × Mm} (h : Fm_does n v1 M = some oo) : Fr (fp_Fm_does) M oo.2 := by
  unfold Fm_does at h
  obtain ⟨_, h⟩ := grd_s h
  obtain ⟨_, h⟩ := grd_s h
  obtain ⟨_, h⟩ := grd_s h
  by_cases g0 : (M.2 113 (tn v1)) = (1643 : Int64)
  · have h := (if_pos g0).symm.trans h
    obtain ⟨_, h⟩ := grd_s h
    obtain ⟨_, h⟩ := grd_s h
    obtain ⟨z44, _, h⟩ := bnd_s h
    by_cases g0 : (0 : Int32) ≤ z44.1
    · have h := (if_pos g0).symm.trans h
      refine Fr.tr ?_ (fr_Fm_does_j79 h)
      try dsimp only [elS]
      repeat' (with_reducible first | exact Fr.rf | refine Fr.I ?_ (by simp [fp_Fm_does]) | refine Fr.L ?_ (by simp [fp_Fm_does]) | refine Fr.cI ?_ (by intro j; simp [fp_Fm_does]) | refine Fr.cL ?_ (by intro j; simp [fp_Fm_does]) | (refine Fr.tr ?_ (Fr.mono (fr_Fm_ask (by with_reducible assumption)) mono_Fm_does_0); try dsimp only) | (refine Fr.tr ?_ (Fr.mono (fr_Fm_cut (by with_reducible assumption)) mono_Fm_does_1); try dsimp only) | (refine Fr.tr ?_ (Fr.mono (fr_Fm_drop (by with_reducible assumption)) mono_Fm_does_2); try dsimp only) | (refine Fr.tr ?_ (Fr.mono (fr_Fm_jump (by with_reducible assumption)) mono_Fm_does_3); try dsimp only) | (refine Fr.tr ?_ (Fr.mono (fr_Fm_lasts (by with_reducible assumption)) mono_Fm_does_4); try dsimp only) | (refine Fr.tr ?_ (Fr.mono (fr_Fm_mend (by with_reducible assumption)) mono_Fm_does_5); try dsimp only) | (refine Fr.tr ?_ (Fr.mono (fr_Fm_plan (by with_reducible assumption)) mono_Fm_does_6); try dsimp only) | (refine Fr.tr ?_ (Fr.mono (fr_Fm_relight (by with_reducible assumption)) mono_Fm_does_7); try dsimp only) | (refine Fr.tr ?_ (Fr.mono (fr_Fm_slide (by with_reducible assumption)) mono_Fm_does_8); try dsimp only) | (refine Fr.tr ?_ (Fr.mono (fr_Fm_sweep (by with_reducible assumption)) mono_Fm_does_9); try dsimp only) | (refine Fr.tr ?_ (Fr.mono (fr_Fm_ticks (by with_reducible assumption)) mono_Fm_does_10); try dsimp only))
    · have h := (if_neg g0).symm.trans h
      by_cases g0 : z44.1 = (-2 : Int32)
      · have h := (if_pos g0).symm.trans h
        refine Fr.tr ?_ (fr_Fm_does_j79 h)
        try dsimp only [elS]
        repeat' (with_reducible first | exact Fr.rf | refine Fr.I ?_ (by simp [fp_Fm_does]) | refine Fr.L ?_ (by simp [fp_Fm_does]) | refine Fr.cI ?_ (by intro j; simp [fp_Fm_does]) | refine Fr.cL ?_ (by intro j; simp [fp_Fm_does]) | (refine Fr.tr ?_ (Fr.mono (fr_Fm_ask (by with_reducible assumption)) mono_Fm_does_0); try dsimp only) | (refine Fr.tr ?_ (Fr.mono (fr_Fm_cut (by with_reducible assumption)) mono_Fm_does_1); try dsimp only) | (refine Fr.tr ?_ (Fr.mono (fr_Fm_drop (by with_reducible assumption)) mono_Fm_does_2); try dsimp only) | (refine Fr.tr ?_ (Fr.mono (fr_Fm_jump (by with_reducible assumption)) mono_Fm_does_3); try dsimp only) | (refine Fr.tr ?_ (Fr.mono (fr_Fm_lasts (by with_reducible assumption)) mono_Fm_does_4); try dsimp only) | (refine Fr.tr ?_ (Fr.mono (fr_Fm_mend (by with_reducible assumption)) mono_Fm_does_5); try dsimp only) | (refine Fr.tr ?_ (Fr.mono (fr_Fm_plan (by with_reducible assumption)) mono_Fm_does_6); try dsimp only) | (refine Fr.tr ?_ (Fr.mono (fr_Fm_relight (by with_reducible assumption)) mono_Fm_does_7); try dsimp only) | (refine Fr.tr ?_ (Fr.mono (fr_Fm_slide (by with_reducible assumption)) mono_Fm_does_8); try dsimp only) | (refine Fr.tr ?_ (Fr.mono (fr_Fm_sweep (by with_reducible assumption)) mono_Fm_does_9); try dsimp only) | (refine Fr.tr ?_ (Fr.mono (fr_Fm_ticks (by with_reducible assumption)) mono_Fm_does_10); try dsimp only))
      · have h := (if_neg g0).symm.trans h
        obtain rfl := Option.some.inj h
        try dsimp only [elS]
        repeat' (with_reducible first | exact Fr.rf | refine Fr.I ?_ (by simp [fp_Fm_does]) | refine Fr.L ?_ (by simp [fp_Fm_does]) | refine Fr.cI ?_ (by intro j; simp [fp_Fm_does]) | refine Fr.cL ?_ (by intro j; simp [fp_Fm_does]) | (refine Fr.tr ?_ (Fr.mono (fr_Fm_ask (by with_reducible assumption)) mono_Fm_does_0); try dsimp only) | (refine Fr.tr ?_ (Fr.mono (fr_Fm_cut (by with_reducible assumption)) mono_Fm_does_1); try dsimp only) | (refine Fr.tr ?_ (Fr.mono (fr_Fm_drop (by with_reducible assumption)) mono_Fm_does_2); try dsimp only) | (refine Fr.tr ?_ (Fr.mono (fr_Fm_jump (by with_reducible assumption)) mono_Fm_does_3); try dsimp only) | (refine Fr.tr ?_ (Fr.mono (fr_Fm_lasts (by with_reducible assumption)) mono_Fm_does_4); try dsimp only) | (refine Fr.tr ?_ (Fr.mono (fr_Fm_mend (by with_reducible assumption)) mono_Fm_does_5); try dsimp only) | (refine Fr.tr ?_ (Fr.mono (fr_Fm_plan (by with_reducible assumption)) mono_Fm_does_6); try dsimp only) | (refine Fr.tr ?_ (Fr.mono (fr_Fm_relight (by with_reducible assumption)) mono_Fm_does_7); try dsimp only) | (refine Fr.tr ?_ (Fr.mono (fr_Fm_slide (by with_reducible assumption)) mono_Fm_does_8); try dsimp only) | (refine Fr.tr ?_ (Fr.mono (fr_Fm_sweep (by with_reducible assumption)) mono_Fm_does_9); try dsimp only) | (refine Fr.tr ?_ (Fr.mono (fr_Fm_ticks (by with_reducible assumption)) mono_Fm_does_10); try dsimp only))
  · have h := (if_neg g0).symm.trans h
    by_cases g0 : (M.2 113 (tn v1)) = (150000 : Int64)
    · have h := (if_pos g0).symm.trans h
      obtain ⟨z40, _, h⟩ := bnd_s h
      obtain rfl := Option.some.inj h
      try dsimp only [elS]
      repeat' (with_reducible first | exact Fr.rf | refine Fr.I ?_ (by simp [fp_Fm_does]) | refine Fr.L ?_ (by simp [fp_Fm_does]) | refine Fr.cI ?_ (by intro j; simp [fp_Fm_does]) | refine Fr.cL ?_ (by intro j; simp [fp_Fm_does]) | (refine Fr.tr ?_ (Fr.mono (fr_Fm_ask (by with_reducible assumption)) mono_Fm_does_0); try dsimp only) | (refine Fr.tr ?_ (Fr.mono (fr_Fm_cut (by with_reducible assumption)) mono_Fm_does_1); try dsimp only) | (refine Fr.tr ?_ (Fr.mono (fr_Fm_drop (by with_reducible assumption)) mono_Fm_does_2); try dsimp only) | (refine Fr.tr ?_ (Fr.mono (fr_Fm_jump (by with_reducible assumption)) mono_Fm_does_3); try dsimp only) | (refine Fr.tr ?_ (Fr.mono (fr_Fm_lasts (by with_reducible assumption)) mono_Fm_does_4); try dsimp only) | (refine Fr.tr ?_ (Fr.mono (fr_Fm_mend (by with_reducible assumption)) mono_Fm_does_5); try dsimp only) | (refine Fr.tr ?_ (Fr.mono (fr_Fm_plan (by with_reducible assumption)) mono_Fm_does_6); try dsimp only) | (refine Fr.tr ?_ (Fr.mono (fr_Fm_relight (by with_reducible assumption)) mono_Fm_does_7); try dsimp only) | (refine Fr.tr ?_ (Fr.mono (fr_Fm_slide (by with_reducible assumption)) mono_Fm_does_8); try dsimp only) | (refine Fr.tr ?_ (Fr.mono (fr_Fm_sweep (by with_reducible assumption)) mono_Fm_does_9); try dsimp only) | (refine Fr.tr ?_ (Fr.mono (fr_Fm_ticks (by with_reducible assumption)) mono_Fm_does_10); try dsimp only))
    · have h := (if_neg g0).symm.trans h
      by_cases g0 : (M.2 113 (tn v1)) = (20325509 : Int64)
      · have h := (if_pos g0).symm.trans h
        obtain ⟨z37, _, h⟩ := bnd_s h
        by_cases g0 : z37.1 < (0 : Int32)
        · have h := (if_pos g0).symm.trans h
          obtain rfl := Option.some.inj h
          try dsimp only [elS]
          repeat' (with_reducible first | exact Fr.rf | refine Fr.I ?_ (by simp [fp_Fm_does]) | refine Fr.L ?_ (by simp [fp_Fm_does]) | refine Fr.cI ?_ (by intro j; simp [fp_Fm_does]) | refine Fr.cL ?_ (by intro j; simp [fp_Fm_does]) | (refine Fr.tr ?_ (Fr.mono (fr_Fm_ask (by with_reducible assumption)) mono_Fm_does_0); try dsimp only) | (refine Fr.tr ?_ (Fr.mono (fr_Fm_cut (by with_reducible assumption)) mono_Fm_does_1); try dsimp only) | (refine Fr.tr ?_ (Fr.mono (fr_Fm_drop (by with_reducible assumption)) mono_Fm_does_2); try dsimp only) | (refine Fr.tr ?_ (Fr.mono (fr_Fm_jump (by with_reducible assumption)) mono_Fm_does_3); try dsimp only) | (refine Fr.tr ?_ (Fr.mono (fr_Fm_lasts (by with_reducible assumption)) mono_Fm_does_4); try dsimp only) | (refine Fr.tr ?_ (Fr.mono (fr_Fm_mend (by with_reducible assumption)) mono_Fm_does_5); try dsimp only) | (refine Fr.tr ?_ (Fr.mono (fr_Fm_plan (by with_reducible assumption)) mono_Fm_does_6); try dsimp only) | (refine Fr.tr ?_ (Fr.mono (fr_Fm_relight (by with_reducible assumption)) mono_Fm_does_7); try dsimp only) | (refine Fr.tr ?_ (Fr.mono (fr_Fm_slide (by with_reducible assumption)) mono_Fm_does_8); try dsimp only) | (refine Fr.tr ?_ (Fr.mono (fr_Fm_sweep (by with_reducible assumption)) mono_Fm_does_9); try dsimp only) | (refine Fr.tr ?_ (Fr.mono (fr_Fm_ticks (by with_reducible assumption)) mono_Fm_does_10); try dsimp only))
        · have h := (if_neg g0).symm.trans h
          obtain rfl := Option.some.inj h
          try dsimp only [elS]
          repeat' (with_reducible first | exact Fr.rf | refine Fr.I ?_ (by simp [fp_Fm_does]) | refine Fr.L ?_ (by simp [fp_Fm_does]) | refine Fr.cI ?_ (by intro j; simp [fp_Fm_does]) | refine Fr.cL ?_ (by intro j; simp [fp_Fm_does]) | (refine Fr.tr ?_ (Fr.mono (fr_Fm_ask (by with_reducible assumption)) mono_Fm_does_0); try dsimp only) | (refine Fr.tr ?_ (Fr.mono (fr_Fm_cut (by with_reducible assumption)) mono_Fm_does_1); try dsimp only) | (refine Fr.tr ?_ (Fr.mono (fr_Fm_drop (by with_reducible assumption)) mono_Fm_does_2); try dsimp only) | (refine Fr.tr ?_ (Fr.mono (fr_Fm_jump (by with_reducible assumption)) mono_Fm_does_3); try dsimp only) | (refine Fr.tr ?_ (Fr.mono (fr_Fm_lasts (by with_reducible assumption)) mono_Fm_does_4); try dsimp only) | (refine Fr.tr ?_ (Fr.mono (fr_Fm_mend (by with_reducible assumption)) mono_Fm_does_5); try dsimp only) | (refine Fr.tr ?_ (Fr.mono (fr_Fm_plan (by with_reducible assumption)) mono_Fm_does_6); try dsimp only) | (refine Fr.tr ?_ (Fr.mono (fr_Fm_relight (by with_reducible assumption)) mono_Fm_does_7); try dsimp only) | (refine Fr.tr ?_ (Fr.mono (fr_Fm_slide (by with_reducible assumption)) mono_Fm_does_8); try dsimp only) | (refine Fr.tr ?_ (Fr.mono (fr_Fm_sweep (by with_reducible assumption)) mono_Fm_does_9); try dsimp only) | (refine Fr.tr ?_ (Fr.mono (fr_Fm_ticks (by with_reducible assumption)) mono_Fm_does_10); try dsimp only))
      · have h := (if_neg g0).symm.trans h
        by_cases g0 : (M.2 113 (tn v1)) = (20681904 : Int64)
        · have h := (if_pos g0).symm.trans h
          obtain ⟨z34, _, h⟩ := bnd_s h
          by_cases g0 : z34.1 < (0 : Int32)
          · have h := (if_pos g0).symm.trans h
            obtain rfl := Option.some.inj h
            try dsimp only [elS]
            repeat' (with_reducible first | exact Fr.rf | refine Fr.I ?_ (by simp [fp_Fm_does]) | refine Fr.L ?_ (by simp [fp_Fm_does]) | refine Fr.cI ?_ (by intro j; simp [fp_Fm_does]) | refine Fr.cL ?_ (by intro j; simp [fp_Fm_does]) | (refine Fr.tr ?_ (Fr.mono (fr_Fm_ask (by with_reducible assumption)) mono_Fm_does_0); try dsimp only) | (refine Fr.tr ?_ (Fr.mono (fr_Fm_cut (by with_reducible assumption)) mono_Fm_does_1); try dsimp only) | (refine Fr.tr ?_ (Fr.mono (fr_Fm_drop (by with_reducible assumption)) mono_Fm_does_2); try dsimp only) | (refine Fr.tr ?_ (Fr.mono (fr_Fm_jump (by with_reducible assumption)) mono_Fm_does_3); try dsimp only) | (refine Fr.tr ?_ (Fr.mono (fr_Fm_lasts (by with_reducible assumption)) mono_Fm_does_4); try dsimp only) | (refine Fr.tr ?_ (Fr.mono (fr_Fm_mend (by with_reducible assumption)) mono_Fm_does_5); try dsimp only) | (refine Fr.tr ?_ (Fr.mono (fr_Fm_plan (by with_reducible assumption)) mono_Fm_does_6); try dsimp only) | (refine Fr.tr ?_ (Fr.mono (fr_Fm_relight (by with_reducible assumption)) mono_Fm_does_7); try dsimp only) | (refine Fr.tr ?_ (Fr.mono (fr_Fm_slide (by with_reducible assumption)) mono_Fm_does_8); try dsimp only) | (refine Fr.tr ?_ (Fr.mono (fr_Fm_sweep (by with_reducible assumption)) mono_Fm_does_9); try dsimp only) | (refine Fr.tr ?_ (Fr.mono (fr_Fm_ticks (by with_reducible assumption)) mono_Fm_does_10); try dsimp only))
          · have h := (if_neg g0).symm.trans h
            obtain rfl := Option.some.inj h
            try dsimp only [elS]
            repeat' (with_reducible first | exact Fr.rf | refine Fr.I ?_ (by simp [fp_Fm_does]) | refine Fr.L ?_ (by simp [fp_Fm_does]) | refine Fr.cI ?_ (by intro j; simp [fp_Fm_does]) | refine Fr.cL ?_ (by intro j; simp [fp_Fm_does]) | (refine Fr.tr ?_ (Fr.mono (fr_Fm_ask (by with_reducible assumption)) mono_Fm_does_0); try dsimp only) | (refine Fr.tr ?_ (Fr.mono (fr_Fm_cut (by with_reducible assumption)) mono_Fm_does_1); try dsimp only) | (refine Fr.tr ?_ (Fr.mono (fr_Fm_drop (by with_reducible assumption)) mono_Fm_does_2); try dsimp only) | (refine Fr.tr ?_ (Fr.mono (fr_Fm_jump (by with_reducible assumption)) mono_Fm_does_3); try dsimp only) | (refine Fr.tr ?_ (Fr.mono (fr_Fm_lasts (by with_reducible assumption)) mono_Fm_does_4); try dsimp only) | (refine Fr.tr ?_ (Fr.mono (fr_Fm_mend (by with_reducible assumption)) mono_Fm_does_5); try dsimp only) | (refine Fr.tr ?_ (Fr.mono (fr_Fm_plan (by with_reducible assumption)) mono_Fm_does_6); try dsimp only) | (refine Fr.tr ?_ (Fr.mono (fr_Fm_relight (by with_reducible assumption)) mono_Fm_does_7); try dsimp only) | (refine Fr.tr ?_ (Fr.mono (fr_Fm_slide (by with_reducible assumption)) mono_Fm_does_8); try dsimp only) | (refine Fr.tr ?_ (Fr.mono (fr_Fm_sweep (by with_reducible assumption)) mono_Fm_does_9); try dsimp only) | (refine Fr.tr ?_ (Fr.mono (fr_Fm_ticks (by with_reducible assumption)) mono_Fm_does_10); try dsimp only))
        · have h := (if_neg g0).symm.trans h
          by_cases g0 : (M.2 113 (tn v1)) = (349616 : Int64)
          · have h := (if_pos g0).symm.trans h
            obtain ⟨z31, _, h⟩ := bnd_s h
            by_cases g0 : z31.1 ≤ (-1000 : Int32)
            · have h := (if_pos g0).symm.trans h
              obtain rfl := Option.some.inj h
              try dsimp only [elS]
              repeat' (with_reducible first | exact Fr.rf | refine Fr.I ?_ (by simp [fp_Fm_does]) | refine Fr.L ?_ (by simp [fp_Fm_does]) | refine Fr.cI ?_ (by intro j; simp [fp_Fm_does]) | refine Fr.cL ?_ (by intro j; simp [fp_Fm_does]) | (refine Fr.tr ?_ (Fr.mono (fr_Fm_ask (by with_reducible assumption)) mono_Fm_does_0); try dsimp only) | (refine Fr.tr ?_ (Fr.mono (fr_Fm_cut (by with_reducible assumption)) mono_Fm_does_1); try dsimp only) | (refine Fr.tr ?_ (Fr.mono (fr_Fm_drop (by with_reducible assumption)) mono_Fm_does_2); try dsimp only) | (refine Fr.tr ?_ (Fr.mono (fr_Fm_jump (by with_reducible assumption)) mono_Fm_does_3); try dsimp only) | (refine Fr.tr ?_ (Fr.mono (fr_Fm_lasts (by with_reducible assumption)) mono_Fm_does_4); try dsimp only) | (refine Fr.tr ?_ (Fr.mono (fr_Fm_mend (by with_reducible assumption)) mono_Fm_does_5); try dsimp only) | (refine Fr.tr ?_ (Fr.mono (fr_Fm_plan (by with_reducible assumption)) mono_Fm_does_6); try dsimp only) | (refine Fr.tr ?_ (Fr.mono (fr_Fm_relight (by with_reducible assumption)) mono_Fm_does_7); try dsimp only) | (refine Fr.tr ?_ (Fr.mono (fr_Fm_slide (by with_reducible assumption)) mono_Fm_does_8); try dsimp only) | (refine Fr.tr ?_ (Fr.mono (fr_Fm_sweep (by with_reducible assumption)) mono_Fm_does_9); try dsimp only) | (refine Fr.tr ?_ (Fr.mono (fr_Fm_ticks (by with_reducible assumption)) mono_Fm_does_10); try dsimp only))
            · have h := (if_neg g0).symm.trans h
              obtain rfl := Option.some.inj h
              try dsimp only [elS]
              repeat' (with_reducible first | exact Fr.rf | refine Fr.I ?_ (by simp [fp_Fm_does]) | refine Fr.L ?_ (by simp [fp_Fm_does]) | refine Fr.cI ?_ (by intro j; simp [fp_Fm_does]) | refine Fr.cL ?_ (by intro j; simp [fp_Fm_does]) | (refine Fr.tr ?_ (Fr.mono (fr_Fm_ask (by with_reducible assumption)) mono_Fm_does_0); try dsimp only) | (refine Fr.tr ?_ (Fr.mono (fr_Fm_cut (by with_reducible assumption)) mono_Fm_does_1); try dsimp only) | (refine Fr.tr ?_ (Fr.mono (fr_Fm_drop (by with_reducible assumption)) mono_Fm_does_2); try dsimp only) | (refine Fr.tr ?_ (Fr.mono (fr_Fm_jump (by with_reducible assumption)) mono_Fm_does_3); try dsimp only) | (refine Fr.tr ?_ (Fr.mono (fr_Fm_lasts (by with_reducible assumption)) mono_Fm_does_4); try dsimp only) | (refine Fr.tr ?_ (Fr.mono (fr_Fm_mend (by with_reducible assumption)) mono_Fm_does_5); try dsimp only) | (refine Fr.tr ?_ (Fr.mono (fr_Fm_plan (by with_reducible assumption)) mono_Fm_does_6); try dsimp only) | (refine Fr.tr ?_ (Fr.mono (fr_Fm_relight (by with_reducible assumption)) mono_Fm_does_7); try dsimp only) | (refine Fr.tr ?_ (Fr.mono (fr_Fm_slide (by with_reducible assumption)) mono_Fm_does_8); try dsimp only) | (refine Fr.tr ?_ (Fr.mono (fr_Fm_sweep (by with_reducible assumption)) mono_Fm_does_9); try dsimp only) | (refine Fr.tr ?_ (Fr.mono (fr_Fm_ticks (by with_reducible assumption)) mono_Fm_does_10); try dsimp only))
          · have h := (if_neg g0).symm.trans h
            by_cases g0 : (M.2 113 (tn v1)) = (3764 : Int64)
            · have h := (if_pos g0).symm.trans h
              obtain ⟨z28, _, h⟩ := bnd_s h
              by_cases g0 : z28.1 < (0 : Int32)
              · have h := (if_pos g0).symm.trans h
                obtain rfl := Option.some.inj h
                try dsimp only [elS]
                repeat' (with_reducible first | exact Fr.rf | refine Fr.I ?_ (by simp [fp_Fm_does]) | refine Fr.L ?_ (by simp [fp_Fm_does]) | refine Fr.cI ?_ (by intro j; simp [fp_Fm_does]) | refine Fr.cL ?_ (by intro j; simp [fp_Fm_does]) | (refine Fr.tr ?_ (Fr.mono (fr_Fm_ask (by with_reducible assumption)) mono_Fm_does_0); try dsimp only) | (refine Fr.tr ?_ (Fr.mono (fr_Fm_cut (by with_reducible assumption)) mono_Fm_does_1); try dsimp only) | (refine Fr.tr ?_ (Fr.mono (fr_Fm_drop (by with_reducible assumption)) mono_Fm_does_2); try dsimp only) | (refine Fr.tr ?_ (Fr.mono (fr_Fm_jump (by with_reducible assumption)) mono_Fm_does_3); try dsimp only) | (refine Fr.tr ?_ (Fr.mono (fr_Fm_lasts (by with_reducible assumption)) mono_Fm_does_4); try dsimp only) | (refine Fr.tr ?_ (Fr.mono (fr_Fm_mend (by with_reducible assumption)) mono_Fm_does_5); try dsimp only) | (refine Fr.tr ?_ (Fr.mono (fr_Fm_plan (by with_reducible assumption)) mono_Fm_does_6); try dsimp only) | (refine Fr.tr ?_ (Fr.mono (fr_Fm_relight (by with_reducible assumption)) mono_Fm_does_7); try dsimp only) | (refine Fr.tr ?_ (Fr.mono (fr_Fm_slide (by with_reducible assumption)) mono_Fm_does_8); try dsimp only) | (refine Fr.tr ?_ (Fr.mono (fr_Fm_sweep (by with_reducible assumption)) mono_Fm_does_9); try dsimp only) | (refine Fr.tr ?_ (Fr.mono (fr_Fm_ticks (by with_reducible assumption)) mono_Fm_does_10); try dsimp only))
              · have h := (if_neg g0).symm.trans h
                obtain rfl := Option.some.inj h
                try dsimp only [elS]
                repeat' (with_reducible first | exact Fr.rf | refine Fr.I ?_ (by simp [fp_Fm_does]) | refine Fr.L ?_ (by simp [fp_Fm_does]) | refine Fr.cI ?_ (by intro j; simp [fp_Fm_does]) | refine Fr.cL ?_ (by intro j; simp [fp_Fm_does]) | (refine Fr.tr ?_ (Fr.mono (fr_Fm_ask (by with_reducible assumption)) mono_Fm_does_0); try dsimp only) | (refine Fr.tr ?_ (Fr.mono (fr_Fm_cut (by with_reducible assumption)) mono_Fm_does_1); try dsimp only) | (refine Fr.tr ?_ (Fr.mono (fr_Fm_drop (by with_reducible assumption)) mono_Fm_does_2); try dsimp only) | (refine Fr.tr ?_ (Fr.mono (fr_Fm_jump (by with_reducible assumption)) mono_Fm_does_3); try dsimp only) | (refine Fr.tr ?_ (Fr.mono (fr_Fm_lasts (by with_reducible assumption)) mono_Fm_does_4); try dsimp only) | (refine Fr.tr ?_ (Fr.mono (fr_Fm_mend (by with_reducible assumption)) mono_Fm_does_5); try dsimp only) | (refine Fr.tr ?_ (Fr.mono (fr_Fm_plan (by with_reducible assumption)) mono_Fm_does_6); try dsimp only) | (refine Fr.tr ?_ (Fr.mono (fr_Fm_relight (by with_reducible assumption)) mono_Fm_does_7); try dsimp only) | (refine Fr.tr ?_ (Fr.mono (fr_Fm_slide (by with_reducible assumption)) mono_Fm_does_8); try dsimp only) | (refine Fr.tr ?_ (Fr.mono (fr_Fm_sweep (by with_reducible assumption)) mono_Fm_does_9); try dsimp only) | (refine Fr.tr ?_ (Fr.mono (fr_Fm_ticks (by with_reducible assumption)) mono_Fm_does_10); try dsimp only))
            · have h := (if_neg g0).symm.trans h
              by_cases g0 : (M.2 113 (tn v1)) = (431556 : Int64)
              · have h := (if_pos g0).symm.trans h
                obtain ⟨z26, _, h⟩ := bnd_s h
                obtain rfl := Option.some.inj h
                try dsimp only [elS]
                repeat' (with_reducible first | exact Fr.rf | refine Fr.I ?_ (by simp [fp_Fm_does]) | refine Fr.L ?_ (by simp [fp_Fm_does]) | refine Fr.cI ?_ (by intro j; simp [fp_Fm_does]) | refine Fr.cL ?_ (by intro j; simp [fp_Fm_does]) | (refine Fr.tr ?_ (Fr.mono (fr_Fm_ask (by with_reducible assumption)) mono_Fm_does_0); try dsimp only) | (refine Fr.tr ?_ (Fr.mono (fr_Fm_cut (by with_reducible assumption)) mono_Fm_does_1); try dsimp only) | (refine Fr.tr ?_ (Fr.mono (fr_Fm_drop (by with_reducible assumption)) mono_Fm_does_2); try dsimp only) | (refine Fr.tr ?_ (Fr.mono (fr_Fm_jump (by with_reducible assumption)) mono_Fm_does_3); try dsimp only) | (refine Fr.tr ?_ (Fr.mono (fr_Fm_lasts (by with_reducible assumption)) mono_Fm_does_4); try dsimp only) | (refine Fr.tr ?_ (Fr.mono (fr_Fm_mend (by with_reducible assumption)) mono_Fm_does_5); try dsimp only) | (refine Fr.tr ?_ (Fr.mono (fr_Fm_plan (by with_reducible assumption)) mono_Fm_does_6); try dsimp only) | (refine Fr.tr ?_ (Fr.mono (fr_Fm_relight (by with_reducible assumption)) mono_Fm_does_7); try dsimp only) | (refine Fr.tr ?_ (Fr.mono (fr_Fm_slide (by with_reducible assumption)) mono_Fm_does_8); try dsimp only) | (refine Fr.tr ?_ (Fr.mono (fr_Fm_sweep (by with_reducible assumption)) mono_Fm_does_9); try dsimp only) | (refine Fr.tr ?_ (Fr.mono (fr_Fm_ticks (by with_reducible assumption)) mono_Fm_does_10); try dsimp only))
              · have h := (if_neg g0).symm.trans h
                by_cases g0 : (M.2 113 (tn v1)) = (19508010260 : Int64)
                · have h := (if_pos g0).symm.trans h
                  obtain ⟨z23, _, h⟩ := bnd_s h
                  by_cases g0 : z23.1 < (0 : Int32)
                  · have h := (if_pos g0).symm.trans h
                    obtain rfl := Option.some.inj h
                    try dsimp only [elS]
                    repeat' (with_reducible first | exact Fr.rf | refine Fr.I ?_ (by simp [fp_Fm_does]) | refine Fr.L ?_ (by simp [fp_Fm_does]) | refine Fr.cI ?_ (by intro j; simp [fp_Fm_does]) | refine Fr.cL ?_ (by intro j; simp [fp_Fm_does]) | (refine Fr.tr ?_ (Fr.mono (fr_Fm_ask (by with_reducible assumption)) mono_Fm_does_0); try dsimp only) | (refine Fr.tr ?_ (Fr.mono (fr_Fm_cut (by with_reducible assumption)) mono_Fm_does_1); try dsimp only) | (refine Fr.tr ?_ (Fr.mono (fr_Fm_drop (by with_reducible assumption)) mono_Fm_does_2); try dsimp only) | (refine Fr.tr ?_ (Fr.mono (fr_Fm_jump (by with_reducible assumption)) mono_Fm_does_3); try dsimp only) | (refine Fr.tr ?_ (Fr.mono (fr_Fm_lasts (by with_reducible assumption)) mono_Fm_does_4); try dsimp only) | (refine Fr.tr ?_ (Fr.mono (fr_Fm_mend (by with_reducible assumption)) mono_Fm_does_5); try dsimp only) | (refine Fr.tr ?_ (Fr.mono (fr_Fm_plan (by with_reducible assumption)) mono_Fm_does_6); try dsimp only) | (refine Fr.tr ?_ (Fr.mono (fr_Fm_relight (by with_reducible assumption)) mono_Fm_does_7); try dsimp only) | (refine Fr.tr ?_ (Fr.mono (fr_Fm_slide (by with_reducible assumption)) mono_Fm_does_8); try dsimp only) | (refine Fr.tr ?_ (Fr.mono (fr_Fm_sweep (by with_reducible assumption)) mono_Fm_does_9); try dsimp only) | (refine Fr.tr ?_ (Fr.mono (fr_Fm_ticks (by with_reducible assumption)) mono_Fm_does_10); try dsimp only))
                  · have h := (if_neg g0).symm.trans h
                    obtain rfl := Option.some.inj h
                    try dsimp only [elS]
                    repeat' (with_reducible first | exact Fr.rf | refine Fr.I ?_ (by simp [fp_Fm_does]) | refine Fr.L ?_ (by simp [fp_Fm_does]) | refine Fr.cI ?_ (by intro j; simp [fp_Fm_does]) | refine Fr.cL ?_ (by intro j; simp [fp_Fm_does]) | (refine Fr.tr ?_ (Fr.mono (fr_Fm_ask (by with_reducible assumption)) mono_Fm_does_0); try dsimp only) | (refine Fr.tr ?_ (Fr.mono (fr_Fm_cut (by with_reducible assumption)) mono_Fm_does_1); try dsimp only) | (refine Fr.tr ?_ (Fr.mono (fr_Fm_drop (by with_reducible assumption)) mono_Fm_does_2); try dsimp only) | (refine Fr.tr ?_ (Fr.mono (fr_Fm_jump (by with_reducible assumption)) mono_Fm_does_3); try dsimp only) | (refine Fr.tr ?_ (Fr.mono (fr_Fm_lasts (by with_reducible assumption)) mono_Fm_does_4); try dsimp only) | (refine Fr.tr ?_ (Fr.mono (fr_Fm_mend (by with_reducible assumption)) mono_Fm_does_5); try dsimp only) | (refine Fr.tr ?_ (Fr.mono (fr_Fm_plan (by with_reducible assumption)) mono_Fm_does_6); try dsimp only) | (refine Fr.tr ?_ (Fr.mono (fr_Fm_relight (by with_reducible assumption)) mono_Fm_does_7); try dsimp only) | (refine Fr.tr ?_ (Fr.mono (fr_Fm_slide (by with_reducible assumption)) mono_Fm_does_8); try dsimp only) | (refine Fr.tr ?_ (Fr.mono (fr_Fm_sweep (by with_reducible assumption)) mono_Fm_does_9); try dsimp only) | (refine Fr.tr ?_ (Fr.mono (fr_Fm_ticks (by with_reducible assumption)) mono_Fm_does_10); try dsimp only))
                · have h := (if_neg g0).symm.trans h
                  by_cases g0 : (M.2 113 (tn v1)) = (536622 : Int64)
                  · have h := (if_pos g0).symm.trans h
                    obtain ⟨z20, _, h⟩ := bnd_s h
                    by_cases g0 : z20.1 < (0 : Int32)
                    · have h := (if_pos g0).symm.trans h
                      obtain rfl := Option.some.inj h
                      try dsimp only [elS]
                      repeat' (with_reducible first | exact Fr.rf | refine Fr.I ?_ (by simp [fp_Fm_does]) | refine Fr.L ?_ (by simp [fp_Fm_does]) | refine Fr.cI ?_ (by intro j; simp [fp_Fm_does]) | refine Fr.cL ?_ (by intro j; simp [fp_Fm_does]) | (refine Fr.tr ?_ (Fr.mono (fr_Fm_ask (by with_reducible assumption)) mono_Fm_does_0); try dsimp only) | (refine Fr.tr ?_ (Fr.mono (fr_Fm_cut (by with_reducible assumption)) mono_Fm_does_1); try dsimp only) | (refine Fr.tr ?_ (Fr.mono (fr_Fm_drop (by with_reducible assumption)) mono_Fm_does_2); try dsimp only) | (refine Fr.tr ?_ (Fr.mono (fr_Fm_jump (by with_reducible assumption)) mono_Fm_does_3); try dsimp only) | (refine Fr.tr ?_ (Fr.mono (fr_Fm_lasts (by with_reducible assumption)) mono_Fm_does_4); try dsimp only) | (refine Fr.tr ?_ (Fr.mono (fr_Fm_mend (by with_reducible assumption)) mono_Fm_does_5); try dsimp only) | (refine Fr.tr ?_ (Fr.mono (fr_Fm_plan (by with_reducible assumption)) mono_Fm_does_6); try dsimp only) | (refine Fr.tr ?_ (Fr.mono (fr_Fm_relight (by with_reducible assumption)) mono_Fm_does_7); try dsimp only) | (refine Fr.tr ?_ (Fr.mono (fr_Fm_slide (by with_reducible assumption)) mono_Fm_does_8); try dsimp only) | (refine Fr.tr ?_ (Fr.mono (fr_Fm_sweep (by with_reducible assumption)) mono_Fm_does_9); try dsimp only) | (refine Fr.tr ?_ (Fr.mono (fr_Fm_ticks (by with_reducible assumption)) mono_Fm_does_10); try dsimp only))
                    · have h := (if_neg g0).symm.trans h
                      obtain rfl := Option.some.inj h
                      try dsimp only [elS]
                      repeat' (with_reducible first | exact Fr.rf | refine Fr.I ?_ (by simp [fp_Fm_does]) | refine Fr.L ?_ (by simp [fp_Fm_does]) | refine Fr.cI ?_ (by intro j; simp [fp_Fm_does]) | refine Fr.cL ?_ (by intro j; simp [fp_Fm_does]) | (refine Fr.tr ?_ (Fr.mono (fr_Fm_ask (by with_reducible assumption)) mono_Fm_does_0); try dsimp only) | (refine Fr.tr ?_ (Fr.mono (fr_Fm_cut (by with_reducible assumption)) mono_Fm_does_1); try dsimp only) | (refine Fr.tr ?_ (Fr.mono (fr_Fm_drop (by with_reducible assumption)) mono_Fm_does_2); try dsimp only) | (refine Fr.tr ?_ (Fr.mono (fr_Fm_jump (by with_reducible assumption)) mono_Fm_does_3); try dsimp only) | (refine Fr.tr ?_ (Fr.mono (fr_Fm_lasts (by with_reducible assumption)) mono_Fm_does_4); try dsimp only) | (refine Fr.tr ?_ (Fr.mono (fr_Fm_mend (by with_reducible assumption)) mono_Fm_does_5); try dsimp only) | (refine Fr.tr ?_ (Fr.mono (fr_Fm_plan (by with_reducible assumption)) mono_Fm_does_6); try dsimp only) | (refine Fr.tr ?_ (Fr.mono (fr_Fm_relight (by with_reducible assumption)) mono_Fm_does_7); try dsimp only) | (refine Fr.tr ?_ (Fr.mono (fr_Fm_slide (by with_reducible assumption)) mono_Fm_does_8); try dsimp only) | (refine Fr.tr ?_ (Fr.mono (fr_Fm_sweep (by with_reducible assumption)) mono_Fm_does_9); try dsimp only) | (refine Fr.tr ?_ (Fr.mono (fr_Fm_ticks (by with_reducible assumption)) mono_Fm_does_10); try dsimp only))
                  · have h := (if_neg g0).symm.trans h
                    by_cases g0 : (M.2 113 (tn v1)) = (12635795 : Int64)
                    · have h := (if_pos g0).symm.trans h
                      obtain ⟨z17, _, h⟩ := bnd_s h
                      by_cases g0 : z17.1 < (0 : Int32)
                      · have h := (if_pos g0).symm.trans h
                        obtain rfl := Option.some.inj h
                        try dsimp only [elS]
                        repeat' (with_reducible first | exact Fr.rf | refine Fr.I ?_ (by simp [fp_Fm_does]) | refine Fr.L ?_ (by simp [fp_Fm_does]) | refine Fr.cI ?_ (by intro j; simp [fp_Fm_does]) | refine Fr.cL ?_ (by intro j; simp [fp_Fm_does]) | (refine Fr.tr ?_ (Fr.mono (fr_Fm_ask (by with_reducible assumption)) mono_Fm_does_0); try dsimp only) | (refine Fr.tr ?_ (Fr.mono (fr_Fm_cut (by with_reducible assumption)) mono_Fm_does_1); try dsimp only) | (refine Fr.tr ?_ (Fr.mono (fr_Fm_drop (by with_reducible assumption)) mono_Fm_does_2); try dsimp only) | (refine Fr.tr ?_ (Fr.mono (fr_Fm_jump (by with_reducible assumption)) mono_Fm_does_3); try dsimp only) | (refine Fr.tr ?_ (Fr.mono (fr_Fm_lasts (by with_reducible assumption)) mono_Fm_does_4); try dsimp only) | (refine Fr.tr ?_ (Fr.mono (fr_Fm_mend (by with_reducible assumption)) mono_Fm_does_5); try dsimp only) | (refine Fr.tr ?_ (Fr.mono (fr_Fm_plan (by with_reducible assumption)) mono_Fm_does_6); try dsimp only) | (refine Fr.tr ?_ (Fr.mono (fr_Fm_relight (by with_reducible assumption)) mono_Fm_does_7); try dsimp only) | (refine Fr.tr ?_ (Fr.mono (fr_Fm_slide (by with_reducible assumption)) mono_Fm_does_8); try dsimp only) | (refine Fr.tr ?_ (Fr.mono (fr_Fm_sweep (by with_reducible assumption)) mono_Fm_does_9); try dsimp only) | (refine Fr.tr ?_ (Fr.mono (fr_Fm_ticks (by with_reducible assumption)) mono_Fm_does_10); try dsimp only))
                      · have h := (if_neg g0).symm.trans h
                        obtain rfl := Option.some.inj h
                        try dsimp only [elS]
                        repeat' (with_reducible first | exact Fr.rf | refine Fr.I ?_ (by simp [fp_Fm_does]) | refine Fr.L ?_ (by simp [fp_Fm_does]) | refine Fr.cI ?_ (by intro j; simp [fp_Fm_does]) | refine Fr.cL ?_ (by intro j; simp [fp_Fm_does]) | (refine Fr.tr ?_ (Fr.mono (fr_Fm_ask (by with_reducible assumption)) mono_Fm_does_0); try dsimp only) | (refine Fr.tr ?_ (Fr.mono (fr_Fm_cut (by with_reducible assumption)) mono_Fm_does_1); try dsimp only) | (refine Fr.tr ?_ (Fr.mono (fr_Fm_drop (by with_reducible assumption)) mono_Fm_does_2); try dsimp only) | (refine Fr.tr ?_ (Fr.mono (fr_Fm_jump (by with_reducible assumption)) mono_Fm_does_3); try dsimp only) | (refine Fr.tr ?_ (Fr.mono (fr_Fm_lasts (by with_reducible assumption)) mono_Fm_does_4); try dsimp only) | (refine Fr.tr ?_ (Fr.mono (fr_Fm_mend (by with_reducible assumption)) mono_Fm_does_5); try dsimp only) | (refine Fr.tr ?_ (Fr.mono (fr_Fm_plan (by with_reducible assumption)) mono_Fm_does_6); try dsimp only) | (refine Fr.tr ?_ (Fr.mono (fr_Fm_relight (by with_reducible assumption)) mono_Fm_does_7); try dsimp only) | (refine Fr.tr ?_ (Fr.mono (fr_Fm_slide (by with_reducible assumption)) mono_Fm_does_8); try dsimp only) | (refine Fr.tr ?_ (Fr.mono (fr_Fm_sweep (by with_reducible assumption)) mono_Fm_does_9); try dsimp only) | (refine Fr.tr ?_ (Fr.mono (fr_Fm_ticks (by with_reducible assumption)) mono_Fm_does_10); try dsimp only))
                    · have h := (if_neg g0).symm.trans h
                      obtain ⟨z14, _, h⟩ := bnd_s h
                      by_cases g0 : z14.1 < (0 : Int32)
                      · have h := (if_pos g0).symm.trans h
                        obtain rfl := Option.some.inj h
                        try dsimp only [elS]
                        repeat' (with_reducible first | exact Fr.rf | refine Fr.I ?_ (by simp [fp_Fm_does]) | refine Fr.L ?_ (by simp [fp_Fm_does]) | refine Fr.cI ?_ (by intro j; simp [fp_Fm_does]) | refine Fr.cL ?_ (by intro j; simp [fp_Fm_does]) | (refine Fr.tr ?_ (Fr.mono (fr_Fm_ask (by with_reducible assumption)) mono_Fm_does_0); try dsimp only) | (refine Fr.tr ?_ (Fr.mono (fr_Fm_cut (by with_reducible assumption)) mono_Fm_does_1); try dsimp only) | (refine Fr.tr ?_ (Fr.mono (fr_Fm_drop (by with_reducible assumption)) mono_Fm_does_2); try dsimp only) | (refine Fr.tr ?_ (Fr.mono (fr_Fm_jump (by with_reducible assumption)) mono_Fm_does_3); try dsimp only) | (refine Fr.tr ?_ (Fr.mono (fr_Fm_lasts (by with_reducible assumption)) mono_Fm_does_4); try dsimp only) | (refine Fr.tr ?_ (Fr.mono (fr_Fm_mend (by with_reducible assumption)) mono_Fm_does_5); try dsimp only) | (refine Fr.tr ?_ (Fr.mono (fr_Fm_plan (by with_reducible assumption)) mono_Fm_does_6); try dsimp only) | (refine Fr.tr ?_ (Fr.mono (fr_Fm_relight (by with_reducible assumption)) mono_Fm_does_7); try dsimp only) | (refine Fr.tr ?_ (Fr.mono (fr_Fm_slide (by with_reducible assumption)) mono_Fm_does_8); try dsimp only) | (refine Fr.tr ?_ (Fr.mono (fr_Fm_sweep (by with_reducible assumption)) mono_Fm_does_9); try dsimp only) | (refine Fr.tr ?_ (Fr.mono (fr_Fm_ticks (by with_reducible assumption)) mono_Fm_does_10); try dsimp only))
                      · have h := (if_neg g0).symm.trans h
                        obtain rfl := Option.some.inj h
                        try dsimp only [elS]
                        repeat' (with_reducible first | exact Fr.rf | refine Fr.I ?_ (by simp [fp_Fm_does]) | refine Fr.L ?_ (by simp [fp_Fm_does]) | refine Fr.cI ?_ (by intro j; simp [fp_Fm_does]) | refine Fr.cL ?_ (by intro j; simp [fp_Fm_does]) | (refine Fr.tr ?_ (Fr.mono (fr_Fm_ask (by with_reducible assumption)) mono_Fm_does_0); try dsimp only) | (refine Fr.tr ?_ (Fr.mono (fr_Fm_cut (by with_reducible assumption)) mono_Fm_does_1); try dsimp only) | (refine Fr.tr ?_ (Fr.mono (fr_Fm_drop (by with_reducible assumption)) mono_Fm_does_2); try dsimp only) | (refine Fr.tr ?_ (Fr.mono (fr_Fm_jump (by with_reducible assumption)) mono_Fm_does_3); try dsimp only) | (refine Fr.tr ?_ (Fr.mono (fr_Fm_lasts (by with_reducible assumption)) mono_Fm_does_4); try dsimp only) | (refine Fr.tr ?_ (Fr.mono (fr_Fm_mend (by with_reducible assumption)) mono_Fm_does_5); try dsimp only) | (refine Fr.tr ?_ (Fr.mono (fr_Fm_plan (by with_reducible assumption)) mono_Fm_does_6); try dsimp only) | (refine Fr.tr ?_ (Fr.mono (fr_Fm_relight (by with_reducible assumption)) mono_Fm_does_7); try dsimp only) | (refine Fr.tr ?_ (Fr.mono (fr_Fm_slide (by with_reducible assumption)) mono_Fm_does_8); try dsimp only) | (refine Fr.tr ?_ (Fr.mono (fr_Fm_sweep (by with_reducible assumption)) mono_Fm_does_9); try dsimp only) | (refine Fr.tr ?_ (Fr.mono (fr_Fm_ticks (by with_reducible assumption)) mono_Fm_does_10); try dsimp only))
theorem mono_Fm_works_0  : ∀ c j, fp_Fm_beginsText c j → fp_Fm_works c j := fun c j => (fun h => h.elim (fun e => Or.inr (Or.inr (Or.inr (Or.inr (Or.inr (Or.inr (Or.inr (Or.inr (Or.inr (Or.inr (Or.inr (Or.inr (Or.inr (Or.inr (Or.inl e))))))))))))))) (fun h => h.elim (fun e => Or.inr (Or.inr (Or.inr (Or.inr (Or.inr (Or.inr (Or.inr (Or.inr (Or.inr (Or.inr (Or.inr (Or.inr (Or.inr (Or.inr (Or.inr (Or.inl e)))))))))))))))) (fun h => h.elim (fun e => Or.inr (Or.inr (Or.inr (Or.inr (Or.inr (Or.inr (Or.inr (Or.inr (Or.inr (Or.inr (Or.inr (Or.inr (Or.inr (Or.inr (Or.inr (Or.inr (Or.inl e))))))))))))))))) (fun e => Or.inr (Or.inr (Or.inr (Or.inr (Or.inr (Or.inr (Or.inr (Or.inr (Or.inr (Or.inr (Or.inr (Or.inr (Or.inr (Or.inr (Or.inr (Or.inr (Or.inr (Or.inr (Or.inr (Or.inr (Or.inr (Or.inl e)))))))))))))))))))))))))
theorem mono_Fm_works_1  : ∀ c j, fp_Fm_does c j → fp_Fm_works c j := fun c j => (fun h => h.elim (fun e => Or.inl e) (fun h => h.elim (fun e => Or.inr (Or.inl e)) (fun h => h.elim (fun e => Or.inr (Or.inr (Or.inl e))) (fun h => h.elim (fun e => Or.inr (Or.inr (Or.inr (Or.inl e)))) (fun h => h.elim (fun e => Or.inr (Or.inr (Or.inr (Or.inr (Or.inl e))))) (fun h => h.elim (fun e => Or.inr (Or.inr (Or.inr (Or.inr (Or.inr (Or.inl e)))))) (fun h => h.elim (fun e => Or.inr (Or.inr (Or.inr (Or.inr (Or.inr (Or.inr (Or.inl e))))))) (fun h => h.elim (fun e => Or.inr (Or.inr (Or.inr (Or.inr (Or.inr (Or.inr (Or.inr (Or.inl e)))))))) (fun h => h.elim (fun e => Or.inr (Or.inr (Or.inr (Or.inr (Or.inr (Or.inr (Or.inr (Or.inr (Or.inl e))))))))) (fun h => h.elim (fun e => Or.inr (Or.inr (Or.inr (Or.inr (Or.inr (Or.inr (Or.inr (Or.inr (Or.inr (Or.inl e)))))))))) (fun h => h.elim (fun e => Or.inr (Or.inr (Or.inr (Or.inr (Or.inr (Or.inr (Or.inr (Or.inr (Or.inr (Or.inr (Or.inl e))))))))))) (fun h => h.elim (fun e => Or.inr (Or.inr (Or.inr (Or.inr (Or.inr (Or.inr (Or.inr (Or.inr (Or.inr (Or.inr (Or.inr (Or.inl e)))))))))))) (fun h => h.elim (fun e => Or.inr (Or.inr (Or.inr (Or.inr (Or.inr (Or.inr (Or.inr (Or.inr (Or.inr (Or.inr (Or.inr (Or.inr (Or.inr (Or.inr (Or.inr (Or.inr (Or.inr (Or.inr (Or.inr (Or.inr (Or.inr (Or.inr (Or.inr (Or.inl e)))))))))))))))))))))))) (fun h => h.elim (fun e => Or.inr (Or.inr (Or.inr (Or.inr (Or.inr (Or.inr (Or.inr (Or.inr (Or.inr (Or.inr (Or.inr (Or.inr (Or.inr (Or.inr (Or.inr (Or.inr (Or.inr (Or.inr (Or.inr (Or.inr (Or.inr (Or.inr (Or.inr (Or.inr (Or.inl e))))))))))))))))))))))))) (fun h => h.elim (fun e => Or.inr (Or.inr (Or.inr (Or.inr (Or.inr (Or.inr (Or.inr (Or.inr (Or.inr (Or.inr (Or.inr (Or.inr (Or.inr (Or.inr (Or.inr (Or.inr (Or.inr (Or.inr (Or.inr (Or.inr (Or.inr (Or.inr (Or.inr (Or.inr (Or.inr (Or.inl e)))))))))))))))))))))))))) (fun h => h.elim (fun e => Or.inr (Or.inr (Or.inr (Or.inr (Or.inr (Or.inr (Or.inr (Or.inr (Or.inr (Or.inr (Or.inr (Or.inr (Or.inr (Or.inr (Or.inr (Or.inr (Or.inr (Or.inr (Or.inr (Or.inr (Or.inr (Or.inr (Or.inr (Or.inr (Or.inr (Or.inr (Or.inl e))))))))))))))))))))))))))) (fun h => h.elim (fun e => Or.inr (Or.inr (Or.inr (Or.inr (Or.inr (Or.inr (Or.inr (Or.inr (Or.inr (Or.inr (Or.inr (Or.inr (Or.inr (Or.inr (Or.inr (Or.inr (Or.inr (Or.inr (Or.inr (Or.inr (Or.inr (Or.inr (Or.inr (Or.inr (Or.inr (Or.inr (Or.inr (Or.inl e)))))))))))))))))))))))))))) (fun h => h.elim (fun e => Or.inr (Or.inr (Or.inr (Or.inr (Or.inr (Or.inr (Or.inr (Or.inr (Or.inr (Or.inr (Or.inr (Or.inr (Or.inr (Or.inr (Or.inr (Or.inr (Or.inr (Or.inr (Or.inr (Or.inr (Or.inr (Or.inr (Or.inr (Or.inr (Or.inr (Or.inr (Or.inr (Or.inr (Or.inl e))))))))))))))))))))))))))))) (fun h => h.elim (fun e => Or.inr (Or.inr (Or.inr (Or.inr (Or.inr (Or.inr (Or.inr (Or.inr (Or.inr (Or.inr (Or.inr (Or.inr (Or.inr (Or.inr (Or.inr (Or.inr (Or.inr (Or.inr (Or.inr (Or.inr (Or.inr (Or.inr (Or.inr (Or.inr (Or.inr (Or.inr (Or.inr (Or.inr (Or.inr (Or.inl e)))))))))))))))))))))))))))))) (fun h => h.elim (fun e => Or.inr (Or.inr (Or.inr (Or.inr (Or.inr (Or.inr (Or.inr (Or.inr (Or.inr (Or.inr (Or.inr (Or.inr (Or.inr (Or.inr (Or.inr (Or.inr (Or.inr (Or.inr (Or.inr (Or.inr (Or.inr (Or.inr (Or.inr (Or.inr (Or.inr (Or.inr (Or.inr (Or.inr (Or.inr (Or.inr (Or.inl e))))))))))))))))))))))))))))))) (fun h => h.elim (fun e => Or.inr (Or.inr (Or.inr (Or.inr (Or.inr (Or.inr (Or.inr (Or.inr (Or.inr (Or.inr (Or.inr (Or.inr (Or.inr (Or.inr (Or.inr (Or.inr (Or.inr (Or.inr (Or.inr (Or.inr (Or.inr (Or.inr (Or.inr (Or.inr (Or.inr (Or.inr (Or.inr (Or.inr (Or.inr (Or.inr (Or.inr (Or.inl e)))))))))))))))))))))))))))))))) (fun h => h.elim (fun e => Or.inr (Or.inr (Or.inr (Or.inr (Or.inr (Or.inr (Or.inr (Or.inr (Or.inr (Or.inr (Or.inr (Or.inr (Or.inr (Or.inr (Or.inr (Or.inr (Or.inr (Or.inr (Or.inr (Or.inr (Or.inr (Or.inr (Or.inr (Or.inr (Or.inr (Or.inr (Or.inr (Or.inr (Or.inr (Or.inr (Or.inr (Or.inr (Or.inl e))))))))))))))))))))))))))))))))) (fun e => Or.inr (Or.inr (Or.inr (Or.inr (Or.inr (Or.inr (Or.inr (Or.inr (Or.inr (Or.inr (Or.inr (Or.inr (Or.inr (Or.inr (Or.inr (Or.inr (Or.inr (Or.inr (Or.inr (Or.inr (Or.inr (Or.inr (Or.inr (Or.inr (Or.inr (Or.inr (Or.inr (Or.inr (Or.inr (Or.inr (Or.inr (Or.inr (Or.inr (e))))))))))))))))))))))))))))))))))))))))))))))))))))))))
theorem mono_Fm_works_2  : ∀ c j, fp_Fm_readsStep c j → fp_Fm_works c j := fun c j => (fun h => h.elim (fun e => Or.inr (Or.inr (Or.inr (Or.inr (Or.inr (Or.inr (Or.inr (Or.inr (Or.inr (Or.inr (Or.inr (Or.inr (Or.inl e))))))))))))) (fun h => h.elim (fun e => Or.inr (Or.inr (Or.inr (Or.inr (Or.inr (Or.inr (Or.inr (Or.inr (Or.inr (Or.inr (Or.inr (Or.inr (Or.inr (Or.inl e)))))))))))))) (fun h => h.elim (fun e => Or.inr (Or.inr (Or.inr (Or.inr (Or.inr (Or.inr (Or.inr (Or.inr (Or.inr (Or.inr (Or.inr (Or.inr (Or.inr (Or.inr (Or.inr (Or.inl e)))))))))))))))) (fun h => h.elim (fun e => Or.inr (Or.inr (Or.inr (Or.inr (Or.inr (Or.inr (Or.inr (Or.inr (Or.inr (Or.inr (Or.inr (Or.inr (Or.inr (Or.inr (Or.inr (Or.inr (Or.inr (Or.inl e)))))))))))))))))) (fun h => h.elim (fun e => Or.inr (Or.inr (Or.inr (Or.inr (Or.inr (Or.inr (Or.inr (Or.inr (Or.inr (Or.inr (Or.inr (Or.inr (Or.inr (Or.inr (Or.inr (Or.inr (Or.inr (Or.inr (Or.inl e))))))))))))))))))) (fun h => h.elim (fun e => Or.inr (Or.inr (Or.inr (Or.inr (Or.inr (Or.inr (Or.inr (Or.inr (Or.inr (Or.inr (Or.inr (Or.inr (Or.inr (Or.inr (Or.inr (Or.inr (Or.inr (Or.inr (Or.inr (Or.inl e)))))))))))))))))))) (fun h => h.elim (fun e => Or.inr (Or.inr (Or.inr (Or.inr (Or.inr (Or.inr (Or.inr (Or.inr (Or.inr (Or.inr (Or.inr (Or.inr (Or.inr (Or.inr (Or.inr (Or.inr (Or.inr (Or.inr (Or.inr (Or.inr (Or.inl e))))))))))))))))))))) (fun h => h.elim (fun e => Or.inr (Or.inr (Or.inr (Or.inr (Or.inr (Or.inr (Or.inr (Or.inr (Or.inr (Or.inr (Or.inr (Or.inr (Or.inr (Or.inr (Or.inr (Or.inr (Or.inr (Or.inr (Or.inr (Or.inr (Or.inr (Or.inl e)))))))))))))))))))))) (fun e => Or.inr (Or.inr (Or.inr (Or.inr (Or.inr (Or.inr (Or.inr (Or.inr (Or.inr (Or.inr (Or.inr (Or.inr (Or.inr (Or.inr (Or.inr (Or.inr (Or.inr (Or.inr (Or.inr (Or.inr (Or.inr (Or.inr (Or.inl e)))))))))))))))))))))))))))))))
theorem mono_Fm_works_3  : ∀ c j, fp_Fm_takesSign c j → fp_Fm_works c j := fun c j => (fun h => h.elim (fun e => Or.inr (Or.inr (Or.inr (Or.inr (Or.inr (Or.inr (Or.inr (Or.inr (Or.inr (Or.inr (Or.inr (Or.inr (Or.inr (Or.inr (Or.inr (Or.inl e)))))))))))))))) (fun e => Or.inr (Or.inr (Or.inr (Or.inr (Or.inr (Or.inr (Or.inr (Or.inr (Or.inr (Or.inr (Or.inr (Or.inr (Or.inr (Or.inr (Or.inr (Or.inr (Or.inr (Or.inl e)))))))))))))))))))
theorem fr_Fm_works_j51 {w0 : Int32} {M : Mm} {oo : (Int32 × Mm) ⊕ (Int32 × Mm)} (h : Fm_works_j51 w0 M = some oo) : Fr (fp_Fm_works) M (elS oo (fun s1 => s1.2) (fun x1 => x1.2)) := by
  unfold Fm_works_j51 at h
  obtain rfl := Option.some.inj h
  try dsimp only [elS]
  repeat' (with_reducible first | exact Fr.rf | refine Fr.I ?_ (by simp [fp_Fm_works]) | refine Fr.L ?_ (by simp [fp_Fm_works]) | refine Fr.cI ?_ (by intro j; simp [fp_Fm_works]) | refine Fr.cL ?_ (by intro j; simp [fp_Fm_works]) | (refine Fr.tr ?_ (Fr.mono (fr_Fm_beginsText (by with_reducible assumption)) mono_Fm_works_0); try dsimp only) | (refine Fr.tr ?_ (Fr.mono (fr_Fm_does (by with_reducible assumption)) mono_Fm_works_1); try dsimp only) | (refine Fr.tr ?_ (Fr.mono (fr_Fm_readsStep (by with_reducible assumption)) mono_Fm_works_2); try dsimp only) | (refine Fr.tr ?_ (Fr.mono (fr_Fm_takesSign (by with_reducible assumption)) mono_Fm_works_3); try dsimp only))
theorem fr_Fm_works_j50 {M : Mm} {oo : (Int32 × Mm) ⊕ (Int32 × Mm)} (h : Fm_works_j50 M = some oo) : Fr (fp_Fm_works) M (elS oo (fun s1 => s1.2) (fun x1 => x1.2)) := by
  unfold Fm_works_j50 at h
  refine Fr.tr ?_ (fr_Fm_works_j51 h)
  try dsimp only [elS]
  repeat' (with_reducible first | exact Fr.rf | refine Fr.I ?_ (by simp [fp_Fm_works]) | refine Fr.L ?_ (by simp [fp_Fm_works]) | refine Fr.cI ?_ (by intro j; simp [fp_Fm_works]) | refine Fr.cL ?_ (by intro j; simp [fp_Fm_works]) | (refine Fr.tr ?_ (Fr.mono (fr_Fm_beginsText (by with_reducible assumption)) mono_Fm_works_0); try dsimp only) | (refine Fr.tr ?_ (Fr.mono (fr_Fm_does (by with_reducible assumption)) mono_Fm_works_1); try dsimp only) | (refine Fr.tr ?_ (Fr.mono (fr_Fm_readsStep (by with_reducible assumption)) mono_Fm_works_2); try dsimp only) | (refine Fr.tr ?_ (Fr.mono (fr_Fm_takesSign (by with_reducible assumption)) mono_Fm_works_3); try dsimp only))
theorem fr_Fm_works_b15 {n : Nat} {v2 : Int32} {M : Mm} {oo : (Int32 × Mm) ⊕ (Int32 × Mm)} (h : Fm_works_b15 n v2 M = some oo) : Fr (fp_Fm_works) M (elS oo (fun s1 => s1.2) (fun x1 => x1.2)) := by
  unfold Fm_works_b15 at h
  by_cases g0 : v2 = (0 : Int32)
  · have h := (if_pos g0).symm.trans h
    obtain rfl := Option.some.inj h
    try dsimp only [elS]
    repeat' (with_reducible first | exact Fr.rf | refine Fr.I ?_ (by simp [fp_Fm_works]) | refine Fr.L ?_ (by simp [fp_Fm_works]) | refine Fr.cI ?_ (by intro j; simp [fp_Fm_works]) | refine Fr.cL ?_ (by intro j; simp [fp_Fm_works]) | (refine Fr.tr ?_ (Fr.mono (fr_Fm_beginsText (by with_reducible assumption)) mono_Fm_works_0); try dsimp only) | (refine Fr.tr ?_ (Fr.mono (fr_Fm_does (by with_reducible assumption)) mono_Fm_works_1); try dsimp only) | (refine Fr.tr ?_ (Fr.mono (fr_Fm_readsStep (by with_reducible assumption)) mono_Fm_works_2); try dsimp only) | (refine Fr.tr ?_ (Fr.mono (fr_Fm_takesSign (by with_reducible assumption)) mono_Fm_works_3); try dsimp only))
  · have h := (if_neg g0).symm.trans h
    by_cases g0 : (M.1 94 6) ≤ (M.1 94 5)
    · have h := (if_pos g0).symm.trans h
      obtain rfl := Option.some.inj h
      try dsimp only [elS]
      repeat' (with_reducible first | exact Fr.rf | refine Fr.I ?_ (by simp [fp_Fm_works]) | refine Fr.L ?_ (by simp [fp_Fm_works]) | refine Fr.cI ?_ (by intro j; simp [fp_Fm_works]) | refine Fr.cL ?_ (by intro j; simp [fp_Fm_works]) | (refine Fr.tr ?_ (Fr.mono (fr_Fm_beginsText (by with_reducible assumption)) mono_Fm_works_0); try dsimp only) | (refine Fr.tr ?_ (Fr.mono (fr_Fm_does (by with_reducible assumption)) mono_Fm_works_1); try dsimp only) | (refine Fr.tr ?_ (Fr.mono (fr_Fm_readsStep (by with_reducible assumption)) mono_Fm_works_2); try dsimp only) | (refine Fr.tr ?_ (Fr.mono (fr_Fm_takesSign (by with_reducible assumption)) mono_Fm_works_3); try dsimp only))
    · have h := (if_neg g0).symm.trans h
      obtain ⟨z8, _, h⟩ := bnd_s h
      by_cases g0 : z8.1 = true
      · have h := (if_pos g0).symm.trans h
        obtain ⟨z11, _, h⟩ := bnd_s h
        by_cases g0 : z11.1 = true
        · have h := (if_pos g0).symm.trans h
          refine Fr.tr ?_ (fr_Fm_works_j51 h)
          try dsimp only [elS]
          repeat' (with_reducible first | exact Fr.rf | refine Fr.I ?_ (by simp [fp_Fm_works]) | refine Fr.L ?_ (by simp [fp_Fm_works]) | refine Fr.cI ?_ (by intro j; simp [fp_Fm_works]) | refine Fr.cL ?_ (by intro j; simp [fp_Fm_works]) | (refine Fr.tr ?_ (Fr.mono (fr_Fm_beginsText (by with_reducible assumption)) mono_Fm_works_0); try dsimp only) | (refine Fr.tr ?_ (Fr.mono (fr_Fm_does (by with_reducible assumption)) mono_Fm_works_1); try dsimp only) | (refine Fr.tr ?_ (Fr.mono (fr_Fm_readsStep (by with_reducible assumption)) mono_Fm_works_2); try dsimp only) | (refine Fr.tr ?_ (Fr.mono (fr_Fm_takesSign (by with_reducible assumption)) mono_Fm_works_3); try dsimp only))
        · have h := (if_neg g0).symm.trans h
          refine Fr.tr ?_ (fr_Fm_works_j50 h)
          try dsimp only [elS]
          repeat' (with_reducible first | exact Fr.rf | refine Fr.I ?_ (by simp [fp_Fm_works]) | refine Fr.L ?_ (by simp [fp_Fm_works]) | refine Fr.cI ?_ (by intro j; simp [fp_Fm_works]) | refine Fr.cL ?_ (by intro j; simp [fp_Fm_works]) | (refine Fr.tr ?_ (Fr.mono (fr_Fm_beginsText (by with_reducible assumption)) mono_Fm_works_0); try dsimp only) | (refine Fr.tr ?_ (Fr.mono (fr_Fm_does (by with_reducible assumption)) mono_Fm_works_1); try dsimp only) | (refine Fr.tr ?_ (Fr.mono (fr_Fm_readsStep (by with_reducible assumption)) mono_Fm_works_2); try dsimp only) | (refine Fr.tr ?_ (Fr.mono (fr_Fm_takesSign (by with_reducible assumption)) mono_Fm_works_3); try dsimp only))
      · have h := (if_neg g0).symm.trans h
        refine Fr.tr ?_ (fr_Fm_works_j50 h)
        try dsimp only [elS]
        repeat' (with_reducible first | exact Fr.rf | refine Fr.I ?_ (by simp [fp_Fm_works]) | refine Fr.L ?_ (by simp [fp_Fm_works]) | refine Fr.cI ?_ (by intro j; simp [fp_Fm_works]) | refine Fr.cL ?_ (by intro j; simp [fp_Fm_works]) | (refine Fr.tr ?_ (Fr.mono (fr_Fm_beginsText (by with_reducible assumption)) mono_Fm_works_0); try dsimp only) | (refine Fr.tr ?_ (Fr.mono (fr_Fm_does (by with_reducible assumption)) mono_Fm_works_1); try dsimp only) | (refine Fr.tr ?_ (Fr.mono (fr_Fm_readsStep (by with_reducible assumption)) mono_Fm_works_2); try dsimp only) | (refine Fr.tr ?_ (Fr.mono (fr_Fm_takesSign (by with_reducible assumption)) mono_Fm_works_3); try dsimp only))
theorem frl_Fm_works_b15 {n : Nat}  {n1 : Nat} {s0 : Int32 × Mm} {y1 : Int32 × Mm} (h : loop (fun s1 : Int32 × Mm => Fm_works_b15 n s1.1 s1.2) n1 s0 = some y1) : Fr (fp_Fm_works) s0.2 y1.2 :=
  loop_inv (P := fun s2 : Int32 × Mm => Fr (fp_Fm_works) s0.2 s2.2) (E := fun y1 : Int32 × Mm => Fr (fp_Fm_works) s0.2 y1.2) (fun s2 s3 hP hb => hP.tr (fr_Fm_works_b15 hb)) (fun s2 x2 hP hb => hP.tr (fr_Fm_works_b15 hb)) n1 s0 y1 h Fr.rf
theorem fr_Fm_works_b66 {n : Nat} {v3 : Int32} {M : Mm} {oo : (Int32 × Mm) ⊕ (Int32 × Mm)} (h : Fm_works_b66 n v3 M = some oo) : Fr (fp_Fm_works) M (elS oo (fun s1 => s1.2) (fun x1 => x1.2)) := by
  unfold Fm_works_b66 at h
  by_cases g0 : (M.1 94 11) ≤ v3
  · have h := (if_pos g0).symm.trans h
    obtain rfl := Option.some.inj h
    try dsimp only [elS]
    repeat' (with_reducible first | exact Fr.rf | refine Fr.I ?_ (by simp [fp_Fm_works]) | refine Fr.L ?_ (by simp [fp_Fm_works]) | refine Fr.cI ?_ (by intro j; simp [fp_Fm_works]) | refine Fr.cL ?_ (by intro j; simp [fp_Fm_works]) | (refine Fr.tr ?_ (Fr.mono (fr_Fm_beginsText (by with_reducible assumption)) mono_Fm_works_0); try dsimp only) | (refine Fr.tr ?_ (Fr.mono (fr_Fm_does (by with_reducible assumption)) mono_Fm_works_1); try dsimp only) | (refine Fr.tr ?_ (Fr.mono (fr_Fm_readsStep (by with_reducible assumption)) mono_Fm_works_2); try dsimp only) | (refine Fr.tr ?_ (Fr.mono (fr_Fm_takesSign (by with_reducible assumption)) mono_Fm_works_3); try dsimp only) | (refine Fr.tr ?_ (frl_Fm_works_b15 (by with_reducible assumption)); try dsimp only))
  · have h := (if_neg g0).symm.trans h
    obtain ⟨z17, _, h⟩ := bnd_s h
    by_cases g0 : z17.1 = true
    · have h := (if_pos g0).symm.trans h
      obtain rfl := Option.some.inj h
      try dsimp only [elS]
      repeat' (with_reducible first | exact Fr.rf | refine Fr.I ?_ (by simp [fp_Fm_works]) | refine Fr.L ?_ (by simp [fp_Fm_works]) | refine Fr.cI ?_ (by intro j; simp [fp_Fm_works]) | refine Fr.cL ?_ (by intro j; simp [fp_Fm_works]) | (refine Fr.tr ?_ (Fr.mono (fr_Fm_beginsText (by with_reducible assumption)) mono_Fm_works_0); try dsimp only) | (refine Fr.tr ?_ (Fr.mono (fr_Fm_does (by with_reducible assumption)) mono_Fm_works_1); try dsimp only) | (refine Fr.tr ?_ (Fr.mono (fr_Fm_readsStep (by with_reducible assumption)) mono_Fm_works_2); try dsimp only) | (refine Fr.tr ?_ (Fr.mono (fr_Fm_takesSign (by with_reducible assumption)) mono_Fm_works_3); try dsimp only) | (refine Fr.tr ?_ (frl_Fm_works_b15 (by with_reducible assumption)); try dsimp only))
    · have h := (if_neg g0).symm.trans h
      obtain rfl := Option.some.inj h
      try dsimp only [elS]
      repeat' (with_reducible first | exact Fr.rf | refine Fr.I ?_ (by simp [fp_Fm_works]) | refine Fr.L ?_ (by simp [fp_Fm_works]) | refine Fr.cI ?_ (by intro j; simp [fp_Fm_works]) | refine Fr.cL ?_ (by intro j; simp [fp_Fm_works]) | (refine Fr.tr ?_ (Fr.mono (fr_Fm_beginsText (by with_reducible assumption)) mono_Fm_works_0); try dsimp only) | (refine Fr.tr ?_ (Fr.mono (fr_Fm_does (by with_reducible assumption)) mono_Fm_works_1); try dsimp only) | (refine Fr.tr ?_ (Fr.mono (fr_Fm_readsStep (by with_reducible assumption)) mono_Fm_works_2); try dsimp only) | (refine Fr.tr ?_ (Fr.mono (fr_Fm_takesSign (by with_reducible assumption)) mono_Fm_works_3); try dsimp only) | (refine Fr.tr ?_ (frl_Fm_works_b15 (by with_reducible assumption)); try dsimp only))
theorem frl_Fm_works_b66 {n : Nat}  {n1 : Nat} {s0 : Int32 × Mm} {y1 : Int32 × Mm} (h : loop (fun s1 : Int32 × Mm => Fm_works_b66 n s1.1 s1.2) n1 s0 = some y1) : Fr (fp_Fm_works) s0.2 y1.2 :=
  loop_inv (P := fun s2 : Int32 × Mm => Fr (fp_Fm_works) s0.2 s2.2) (E := fun y1 : Int32 × Mm => Fr (fp_Fm_works) s0.2 y1.2) (fun s2 s3 hP hb => hP.tr (fr_Fm_works_b66 hb)) (fun s2 x2 hP hb => hP.tr (fr_Fm_works_b66 hb)) n1 s0 y1 h Fr.rf
theorem fr_Fm_works_j55 {n : Nat} {v2 : Int32} {M : Mm} {oo : Int32 × Mm} (h : Fm_works_j55 n v2 M = some oo) : Fr (fp_Fm_works) M oo.2 := by
  unfold Fm_works_j55 at h
  by_cases g0 : v2 = (0 : Int32)
  · have h := (if_pos g0).symm.trans h
    obtain rfl := Option.some.inj h
    try dsimp only [elS]
    repeat' (with_reducible first | exact Fr.rf | refine Fr.I ?_ (by simp [fp_Fm_works]) | refine Fr.L ?_ (by simp [fp_Fm_works]) | refine Fr.cI ?_ (by intro j; simp [fp_Fm_works]) | refine Fr.cL ?_ (by intro j; simp [fp_Fm_works]) | (refine Fr.tr ?_ (Fr.mono (fr_Fm_beginsText (by with_reducible assumption)) mono_Fm_works_0); try dsimp only) | (refine Fr.tr ?_ (Fr.mono (fr_Fm_does (by with_reducible assumption)) mono_Fm_works_1); try dsimp only) | (refine Fr.tr ?_ (Fr.mono (fr_Fm_readsStep (by with_reducible assumption)) mono_Fm_works_2); try dsimp only) | (refine Fr.tr ?_ (Fr.mono (fr_Fm_takesSign (by with_reducible assumption)) mono_Fm_works_3); try dsimp only) | (refine Fr.tr ?_ (frl_Fm_works_b15 (by with_reducible assumption)); try dsimp only) | (refine Fr.tr ?_ (frl_Fm_works_b66 (by with_reducible assumption)); try dsimp only))
  · have h := (if_neg g0).symm.trans h
    obtain ⟨y20, _, h⟩ := bnd_s h
    obtain rfl := Option.some.inj h
    try dsimp only [elS]
    repeat' (with_reducible first | exact Fr.rf | refine Fr.I ?_ (by simp [fp_Fm_works]) | refine Fr.L ?_ (by simp [fp_Fm_works]) | refine Fr.cI ?_ (by intro j; simp [fp_Fm_works]) | refine Fr.cL ?_ (by intro j; simp [fp_Fm_works]) | (refine Fr.tr ?_ (Fr.mono (fr_Fm_beginsText (by with_reducible assumption)) mono_Fm_works_0); try dsimp only) | (refine Fr.tr ?_ (Fr.mono (fr_Fm_does (by with_reducible assumption)) mono_Fm_works_1); try dsimp only) | (refine Fr.tr ?_ (Fr.mono (fr_Fm_readsStep (by with_reducible assumption)) mono_Fm_works_2); try dsimp only) | (refine Fr.tr ?_ (Fr.mono (fr_Fm_takesSign (by with_reducible assumption)) mono_Fm_works_3); try dsimp only) | (refine Fr.tr ?_ (frl_Fm_works_b15 (by with_reducible assumption)); try dsimp only) | (refine Fr.tr ?_ (frl_Fm_works_b66 (by with_reducible assumption)); try dsimp only))
theorem fr_Fm_works {n : Nat} {v1 : Int32} {M : Mm} {oo : Int32 × Mm} (h : Fm_works n v1 M = some oo) : Fr (fp_Fm_works) M oo.2 := by
  unfold Fm_works at h
  obtain ⟨z1, _, h⟩ := bnd_s h
  by_cases g0 : z1.1 = true
  · have h := (if_pos g0).symm.trans h
    obtain ⟨z4, _, h⟩ := bnd_s h
    obtain ⟨y14, _, h⟩ := bnd_s h
    refine Fr.tr ?_ (fr_Fm_works_j55 h)
    try dsimp only [elS]
    repeat' (with_reducible first | exact Fr.rf | refine Fr.I ?_ (by simp [fp_Fm_works]) | refine Fr.L ?_ (by simp [fp_Fm_works]) | refine Fr.cI ?_ (by intro j; simp [fp_Fm_works]) | refine Fr.cL ?_ (by intro j; simp [fp_Fm_works]) | (refine Fr.tr ?_ (Fr.mono (fr_Fm_beginsText (by with_reducible assumption)) mono_Fm_works_0); try dsimp only) | (refine Fr.tr ?_ (Fr.mono (fr_Fm_does (by with_reducible assumption)) mono_Fm_works_1); try dsimp only) | (refine Fr.tr ?_ (Fr.mono (fr_Fm_readsStep (by with_reducible assumption)) mono_Fm_works_2); try dsimp only) | (refine Fr.tr ?_ (Fr.mono (fr_Fm_takesSign (by with_reducible assumption)) mono_Fm_works_3); try dsimp only) | (refine Fr.tr ?_ (frl_Fm_works_b15 (by with_reducible assumption)); try dsimp only) | (refine Fr.tr ?_ (frl_Fm_works_b66 (by with_reducible assumption)); try dsimp only))
  · have h := (if_neg g0).symm.trans h
    obtain rfl := Option.some.inj h
    try dsimp only [elS]
    repeat' (with_reducible first | exact Fr.rf | refine Fr.I ?_ (by simp [fp_Fm_works]) | refine Fr.L ?_ (by simp [fp_Fm_works]) | refine Fr.cI ?_ (by intro j; simp [fp_Fm_works]) | refine Fr.cL ?_ (by intro j; simp [fp_Fm_works]) | (refine Fr.tr ?_ (Fr.mono (fr_Fm_beginsText (by with_reducible assumption)) mono_Fm_works_0); try dsimp only) | (refine Fr.tr ?_ (Fr.mono (fr_Fm_does (by with_reducible assumption)) mono_Fm_works_1); try dsimp only) | (refine Fr.tr ?_ (Fr.mono (fr_Fm_readsStep (by with_reducible assumption)) mono_Fm_works_2); try dsimp only) | (refine Fr.tr ?_ (Fr.mono (fr_Fm_takesSign (by with_reducible assumption)) mono_Fm_works_3); try dsimp only) | (refine Fr.tr ?_ (frl_Fm_works_b15 (by with_reducible assumption)); try dsimp only) | (refine Fr.tr ?_ (frl_Fm_works_b66 (by with_reducible assumption)); try dsimp only))
theorem fr_Fm_findsRows_j96 {v3 : Int32} {v4 : Int32} {M : Mm} {oo : (Int32 × Int32 × Mm) ⊕ (Mm)} (h : Fm_findsRows_j96 v3 v4 M = some oo) : Fr (fp_Fm_findsRows) M (elS oo (fun s1 => s1.2.2) (fun x1 => x1)) := by
  unfold Fm_findsRows_j96 at h
  obtain rfl := Option.some.inj h
  try dsimp only [elS]
  repeat' (with_reducible first | exact Fr.rf | refine Fr.I ?_ (by simp [fp_Fm_findsRows]) | refine Fr.L ?_ (by simp [fp_Fm_findsRows]) | refine Fr.cI ?_ (by intro j; simp [fp_Fm_findsRows]) | refine Fr.cL ?_ (by intro j; simp [fp_Fm_findsRows]))
theorem fr_Fm_findsRows_j76 {c2 : Int32} {v3 : Int32} {v4 : Int32} {M : Mm} {oo : (Int32 × Int32 × Mm) ⊕ (Mm)} (h : Fm_findsRows_j76 c2 v3 v4 M = some oo) : Fr (fp_Fm_findsRows) M (elS oo (fun s1 => s1.2.2) (fun x1 => x1)) := by
  unfold Fm_findsRows_j76 at h
  obtain ⟨z9, _, h⟩ := bnd_s h
  refine Fr.tr ?_ (fr_Fm_findsRows_j96 h)
  try dsimp only [elS]
  repeat' (with_reducible first | exact Fr.rf | refine Fr.I ?_ (by simp [fp_Fm_findsRows]) | refine Fr.L ?_ (by simp [fp_Fm_findsRows]) | refine Fr.cI ?_ (by intro j; simp [fp_Fm_findsRows]) | refine Fr.cL ?_ (by intro j; simp [fp_Fm_findsRows]))
theorem fr_Fm_findsRows_b20 {n : Nat} {c1 : Int32} {c2 : Int32} {v3 : Int32} {v4 : Int32} {M : Mm} {oo : (Int32 × Int32 × Mm) ⊕ (Mm)} (h : Fm_findsRows_b20 n c1 c2 v3 v4 M = some oo) : Fr (fp_Fm_findsRows) M (elS oo (fun s1 => s1.2.2) (fun x1 => x1)) := by
  unfold Fm_findsRows_b20 at h
  obtain ⟨_, h⟩ := grd_s h
  by_cases g0 : (M.1 95 (tn (1 : Int32))) < v4
  · have h := (if_pos g0).symm.trans h
    obtain rfl := Option.some.inj h
    try dsimp only [elS]
    repeat' (with_reducible first | exact Fr.rf | refine Fr.I ?_ (by simp [fp_Fm_findsRows]) | refine Fr.L ?_ (by simp [fp_Fm_findsRows]) | refine Fr.cI ?_ (by intro j; simp [fp_Fm_findsRows]) | refine Fr.cL ?_ (by intro j; simp [fp_Fm_findsRows]))
  · have h := (if_neg g0).symm.trans h
    obtain ⟨z3, _, h⟩ := bnd_s h
    by_cases g0 : z3 = true
    · have h := (if_pos g0).symm.trans h
      refine Fr.tr ?_ (fr_Fm_findsRows_j96 h)
      try dsimp only [elS]
      repeat' (with_reducible first | exact Fr.rf | refine Fr.I ?_ (by simp [fp_Fm_findsRows]) | refine Fr.L ?_ (by simp [fp_Fm_findsRows]) | refine Fr.cI ?_ (by intro j; simp [fp_Fm_findsRows]) | refine Fr.cL ?_ (by intro j; simp [fp_Fm_findsRows]))
    · have h := (if_neg g0).symm.trans h
      obtain ⟨z6, _, h⟩ := bnd_s h
      by_cases g0 : v3 ≤ (0 : Int32)
      · have h := (if_pos g0).symm.trans h
        refine Fr.tr ?_ (fr_Fm_findsRows_j76 h)
        try dsimp only [elS]
        repeat' (with_reducible first | exact Fr.rf | refine Fr.I ?_ (by simp [fp_Fm_findsRows]) | refine Fr.L ?_ (by simp [fp_Fm_findsRows]) | refine Fr.cI ?_ (by intro j; simp [fp_Fm_findsRows]) | refine Fr.cL ?_ (by intro j; simp [fp_Fm_findsRows]))
      · have h := (if_neg g0).symm.trans h
        refine Fr.tr ?_ (fr_Fm_findsRows_j76 h)
        try dsimp only [elS]
        repeat' (with_reducible first | exact Fr.rf | refine Fr.I ?_ (by simp [fp_Fm_findsRows]) | refine Fr.L ?_ (by simp [fp_Fm_findsRows]) | refine Fr.cI ?_ (by intro j; simp [fp_Fm_findsRows]) | refine Fr.cL ?_ (by intro j; simp [fp_Fm_findsRows]))
theorem frl_Fm_findsRows_b20 {n : Nat} {c1 : Int32} {c2 : Int32}  {n1 : Nat} {s0 : Int32 × Int32 × Mm} {y1 : Mm} (h : loop (fun s1 : Int32 × Int32 × Mm => Fm_findsRows_b20 n c1 c2 s1.1 s1.2.1 s1.2.2) n1 s0 = some y1) : Fr (fp_Fm_findsRows) s0.2.2 y1 :=
  loop_inv (P := fun s2 : Int32 × Int32 × Mm => Fr (fp_Fm_findsRows) s0.2.2 s2.2.2) (E := fun y1 : Mm => Fr (fp_Fm_findsRows) s0.2.2 y1) (fun s2 s3 hP hb => hP.tr (fr_Fm_findsRows_b20 hb)) (fun s2 x2 hP hb => hP.tr (fr_Fm_findsRows_b20 hb)) n1 s0 y1 h Fr.rf
theorem fr_Fm_findsRows {n : Nat} {v1 : Int32} {v2 : Int32} {M : Mm} {oo : Mm} (h : Fm_findsRows n v1 v2 M = some oo) : Fr (fp_Fm_findsRows) M oo := by
  unfold Fm_findsRows at h
  obtain ⟨y11, _, h⟩ := bnd_s h
  obtain rfl := Option.some.inj h
  try dsimp only [elS]
  repeat' (with_reducible first | exact Fr.rf | refine Fr.I ?_ (by simp [fp_Fm_findsRows]) | refine Fr.L ?_ (by simp [fp_Fm_findsRows]) | refine Fr.cI ?_ (by intro j; simp [fp_Fm_findsRows]) | refine Fr.cL ?_ (by intro j; simp [fp_Fm_findsRows]) | (refine Fr.tr ?_ (frl_Fm_findsRows_b20 (by with_reducible assumption)); try dsimp only))
theorem mono_Fm_linkIs_0  : ∀ c j, fp_Fm_findsRows c j → fp_Fm_linkIs c j := fun c j => (fun h => h.elim (fun e => Or.inl e) (fun h => h.elim (fun e => Or.inr (Or.inl e)) (fun e => Or.inr (Or.inr (e)))))
theorem fr_Fm_linkIs_j31 {n : Nat} {v1 : Int32} {v2 : Int32} {M : Mm} {oo : Int32 × Mm} (h : Fm_linkIs_j31 n v1 v2 M = some oo) : Fr (fp_Fm_linkIs) M oo.2 := by
  unfold Fm_linkIs_j31 at h
  obtain ⟨z7, _, h⟩ := bnd_s h
  obtain ⟨z9, _, h⟩ := bnd_s h
  by_cases g0 : v2 ≤ (20 : Int32)
  · have h := (if_pos g0).symm.trans h
    by_cases g0 : v2 = (0 : Int32)
    · have h := (if_pos g0).symm.trans h
      obtain ⟨_, h⟩ := grd_s h
      obtain rfl := Option.some.inj h
      try dsimp only [elS]
      repeat' (with_reducible first | exact Fr.rf | refine Fr.I ?_ (by simp [fp_Fm_linkIs]) | refine Fr.L ?_ (by simp [fp_Fm_linkIs]) | refine Fr.cI ?_ (by intro j; simp [fp_Fm_linkIs]) | refine Fr.cL ?_ (by intro j; simp [fp_Fm_linkIs]) | (refine Fr.tr ?_ (Fr.mono (fr_Fm_findsRows (by with_reducible assumption)) mono_Fm_linkIs_0); try dsimp only))
    · have h := (if_neg g0).symm.trans h
      by_cases g0 : v2 = (1 : Int32)
      · have h := (if_pos g0).symm.trans h
        obtain ⟨_, h⟩ := grd_s h
        obtain rfl := Option.some.inj h
        try dsimp only [elS]
        repeat' (with_reducible first | exact Fr.rf | refine Fr.I ?_ (by simp [fp_Fm_linkIs]) | refine Fr.L ?_ (by simp [fp_Fm_linkIs]) | refine Fr.cI ?_ (by intro j; simp [fp_Fm_linkIs]) | refine Fr.cL ?_ (by intro j; simp [fp_Fm_linkIs]) | (refine Fr.tr ?_ (Fr.mono (fr_Fm_findsRows (by with_reducible assumption)) mono_Fm_linkIs_0); try dsimp only))
      · have h := (if_neg g0).symm.trans h
        by_cases g0 : v2 = (2 : Int32)
        · have h := (if_pos g0).symm.trans h
          obtain ⟨_, h⟩ := grd_s h
          obtain rfl := Option.some.inj h
          try dsimp only [elS]
          repeat' (with_reducible first | exact Fr.rf | refine Fr.I ?_ (by simp [fp_Fm_linkIs]) | refine Fr.L ?_ (by simp [fp_Fm_linkIs]) | refine Fr.cI ?_ (by intro j; simp [fp_Fm_linkIs]) | refine Fr.cL ?_ (by intro j; simp [fp_Fm_linkIs]) | (refine Fr.tr ?_ (Fr.mono (fr_Fm_findsRows (by with_reducible assumption)) mono_Fm_linkIs_0); try dsimp only))
        · have h := (if_neg g0).symm.trans h
          by_cases g0 : v2 = (3 : Int32)
          · have h := (if_pos g0).symm.trans h
            obtain ⟨z19, _, h⟩ := bnd_s h
            by_cases g0 : z19 = true
            · have h := (if_pos g0).symm.trans h
              obtain rfl := Option.some.inj h
              try dsimp only [elS]
              repeat' (with_reducible first | exact Fr.rf | refine Fr.I ?_ (by simp [fp_Fm_linkIs]) | refine Fr.L ?_ (by simp [fp_Fm_linkIs]) | refine Fr.cI ?_ (by intro j; simp [fp_Fm_linkIs]) | refine Fr.cL ?_ (by intro j; simp [fp_Fm_linkIs]) | (refine Fr.tr ?_ (Fr.mono (fr_Fm_findsRows (by with_reducible assumption)) mono_Fm_linkIs_0); try dsimp only))
            · have h := (if_neg g0).symm.trans h
              obtain rfl := Option.some.inj h
              try dsimp only [elS]
              repeat' (with_reducible first | exact Fr.rf | refine Fr.I ?_ (by simp [fp_Fm_linkIs]) | refine Fr.L ?_ (by simp [fp_Fm_linkIs]) | refine Fr.cI ?_ (by intro j; simp [fp_Fm_linkIs]) | refine Fr.cL ?_ (by intro j; simp [fp_Fm_linkIs]) | (refine Fr.tr ?_ (Fr.mono (fr_Fm_findsRows (by with_reducible assumption)) mono_Fm_linkIs_0); try dsimp only))
          · have h := (if_neg g0).symm.trans h
            by_cases g0 : v2 = (4 : Int32)
            · have h := (if_pos g0).symm.trans h
              obtain ⟨z23, _, h⟩ := bnd_s h
              obtain rfl := Option.some.inj h
              try dsimp only [elS]
              repeat' (with_reducible first | exact Fr.rf | refine Fr.I ?_ (by simp [fp_Fm_linkIs]) | refine Fr.L ?_ (by simp [fp_Fm_linkIs]) | refine Fr.cI ?_ (by intro j; simp [fp_Fm_linkIs]) | refine Fr.cL ?_ (by intro j; simp [fp_Fm_linkIs]) | (refine Fr.tr ?_ (Fr.mono (fr_Fm_findsRows (by with_reducible assumption)) mono_Fm_linkIs_0); try dsimp only))
            · have h := (if_neg g0).symm.trans h
              by_cases g0 : v2 = (5 : Int32)
              · have h := (if_pos g0).symm.trans h
                obtain ⟨z26, _, h⟩ := bnd_s h
                by_cases g0 : z26 = (-1 : Int32)
                · have h := (if_pos g0).symm.trans h
                  obtain rfl := Option.some.inj h
                  try dsimp only [elS]
                  repeat' (with_reducible first | exact Fr.rf | refine Fr.I ?_ (by simp [fp_Fm_linkIs]) | refine Fr.L ?_ (by simp [fp_Fm_linkIs]) | refine Fr.cI ?_ (by intro j; simp [fp_Fm_linkIs]) | refine Fr.cL ?_ (by intro j; simp [fp_Fm_linkIs]) | (refine Fr.tr ?_ (Fr.mono (fr_Fm_findsRows (by with_reducible assumption)) mono_Fm_linkIs_0); try dsimp only))
                · have h := (if_neg g0).symm.trans h
                  obtain ⟨z29, _, h⟩ := bnd_s h
                  obtain rfl := Option.some.inj h
                  try dsimp only [elS]
                  repeat' (with_reducible first | exact Fr.rf | refine Fr.I ?_ (by simp [fp_Fm_linkIs]) | refine Fr.L ?_ (by simp [fp_Fm_linkIs]) | refine Fr.cI ?_ (by intro j; simp [fp_Fm_linkIs]) | refine Fr.cL ?_ (by intro j; simp [fp_Fm_linkIs]) | (refine Fr.tr ?_ (Fr.mono (fr_Fm_findsRows (by with_reducible assumption)) mono_Fm_linkIs_0); try dsimp only))
              · have h := (if_neg g0).symm.trans h
                by_cases g0 : v2 = (6 : Int32)
                · have h := (if_pos g0).symm.trans h
                  obtain rfl := Option.some.inj h
                  try dsimp only [elS]
                  repeat' (with_reducible first | exact Fr.rf | refine Fr.I ?_ (by simp [fp_Fm_linkIs]) | refine Fr.L ?_ (by simp [fp_Fm_linkIs]) | refine Fr.cI ?_ (by intro j; simp [fp_Fm_linkIs]) | refine Fr.cL ?_ (by intro j; simp [fp_Fm_linkIs]) | (refine Fr.tr ?_ (Fr.mono (fr_Fm_findsRows (by with_reducible assumption)) mono_Fm_linkIs_0); try dsimp only))
                · have h := (if_neg g0).symm.trans h
                  by_cases g0 : v2 = (7 : Int32)
                  · have h := (if_pos g0).symm.trans h
                    obtain rfl := Option.some.inj h
                    try dsimp only [elS]
                    repeat' (with_reducible first | exact Fr.rf | refine Fr.I ?_ (by simp [fp_Fm_linkIs]) | refine Fr.L ?_ (by simp [fp_Fm_linkIs]) | refine Fr.cI ?_ (by intro j; simp [fp_Fm_linkIs]) | refine Fr.cL ?_ (by intro j; simp [fp_Fm_linkIs]) | (refine Fr.tr ?_ (Fr.mono (fr_Fm_findsRows (by with_reducible assumption)) mono_Fm_linkIs_0); try dsimp only))
                  · have h := (if_neg g0).symm.trans h
                    by_cases g0 : v2 = (8 : Int32)
                    · have h := (if_pos g0).symm.trans h
                      obtain ⟨z34, _, h⟩ := bnd_s h
                      obtain rfl := Option.some.inj h
                      try dsimp only [elS]
                      repeat' (with_reducible first | exact Fr.rf | refine Fr.I ?_ (by simp [fp_Fm_linkIs]) | refine Fr.L ?_ (by simp [fp_Fm_linkIs]) | refine Fr.cI ?_ (by intro j; simp [fp_Fm_linkIs]) | refine Fr.cL ?_ (by intro j; simp [fp_Fm_linkIs]) | (refine Fr.tr ?_ (Fr.mono (fr_Fm_findsRows (by with_reducible assumption)) mono_Fm_linkIs_0); try dsimp only))
                    · have h := (if_neg g0).symm.trans h
                      obtain ⟨z36, _, h⟩ := bnd_s h
                      obtain rfl := Option.some.inj h
                      try dsimp only [elS]
                      repeat' (with_reducible first | exact Fr.rf | refine Fr.I ?_ (by simp [fp_Fm_linkIs]) | refine Fr.L ?_ (by simp [fp_Fm_linkIs]) | refine Fr.cI ?_ (by intro j; simp [fp_Fm_linkIs]) | refine Fr.cL ?_ (by intro j; simp [fp_Fm_linkIs]) | (refine Fr.tr ?_ (Fr.mono (fr_Fm_findsRows (by with_reducible assumption)) mono_Fm_linkIs_0); try dsimp only))
  · have h := (if_neg g0).symm.trans h
    obtain rfl := Option.some.inj h
    try dsimp only [elS]
    repeat' (with_reducible first | exact Fr.rf | refine Fr.I ?_ (by simp [fp_Fm_linkIs]) | refine Fr.L ?_ (by simp [fp_Fm_linkIs]) | refine Fr.cI ?_ (by intro j; simp [fp_Fm_linkIs]) | refine Fr.cL ?_ (by intro j; simp [fp_Fm_linkIs]) | (refine Fr.tr ?_ (Fr.mono (fr_Fm_findsRows (by with_reducible assumption)) mono_Fm_linkIs_0); try dsimp only))
theorem fr_Fm_linkIs {n : Nat} {v1 : Int32} {v2 : Int32} {M : Mm} {oo : Int32 × Mm} (h : Fm_linkIs n v1 v2 M = some oo) : Fr (fp_Fm_linkIs) M oo.2 := by
  unfold Fm_linkIs at h
  obtain ⟨z1, _, h⟩ := bnd_s h
  by_cases g0 : z1 = true
  · have h := (if_pos g0).symm.trans h
    obtain ⟨z4, _, h⟩ := bnd_s h
    by_cases g0 : z4 = true
    · have h := (if_pos g0).symm.trans h
      refine Fr.tr ?_ (fr_Fm_linkIs_j31 h)
      try dsimp only [elS]
      repeat' (with_reducible first | exact Fr.rf | refine Fr.I ?_ (by simp [fp_Fm_linkIs]) | refine Fr.L ?_ (by simp [fp_Fm_linkIs]) | refine Fr.cI ?_ (by intro j; simp [fp_Fm_linkIs]) | refine Fr.cL ?_ (by intro j; simp [fp_Fm_linkIs]) | (refine Fr.tr ?_ (Fr.mono (fr_Fm_findsRows (by with_reducible assumption)) mono_Fm_linkIs_0); try dsimp only))
    · have h := (if_neg g0).symm.trans h
      obtain ⟨z38, _, h⟩ := bnd_s h
      by_cases g0 : z38 = true
      · have h := (if_pos g0).symm.trans h
        refine Fr.tr ?_ (fr_Fm_linkIs_j31 h)
        try dsimp only [elS]
        repeat' (with_reducible first | exact Fr.rf | refine Fr.I ?_ (by simp [fp_Fm_linkIs]) | refine Fr.L ?_ (by simp [fp_Fm_linkIs]) | refine Fr.cI ?_ (by intro j; simp [fp_Fm_linkIs]) | refine Fr.cL ?_ (by intro j; simp [fp_Fm_linkIs]) | (refine Fr.tr ?_ (Fr.mono (fr_Fm_findsRows (by with_reducible assumption)) mono_Fm_linkIs_0); try dsimp only))
      · have h := (if_neg g0).symm.trans h
        obtain rfl := Option.some.inj h
        try dsimp only [elS]
        repeat' (with_reducible first | exact Fr.rf | refine Fr.I ?_ (by simp [fp_Fm_linkIs]) | refine Fr.L ?_ (by simp [fp_Fm_linkIs]) | refine Fr.cI ?_ (by intro j; simp [fp_Fm_linkIs]) | refine Fr.cL ?_ (by intro j; simp [fp_Fm_linkIs]) | (refine Fr.tr ?_ (Fr.mono (fr_Fm_findsRows (by with_reducible assumption)) mono_Fm_linkIs_0); try dsimp only))
  · have h := (if_neg g0).symm.trans h
    obtain rfl := Option.some.inj h
    try dsimp only [elS]
    repeat' (with_reducible first | exact Fr.rf | refine Fr.I ?_ (by simp [fp_Fm_linkIs]) | refine Fr.L ?_ (by simp [fp_Fm_linkIs]) | refine Fr.cI ?_ (by intro j; simp [fp_Fm_linkIs]) | refine Fr.cL ?_ (by intro j; simp [fp_Fm_linkIs]) | (refine Fr.tr ?_ (Fr.mono (fr_Fm_findsRows (by with_reducible assumption)) mono_Fm_linkIs_0); try dsimp only))
