theorem mono_Fm_plans_0  : ∀ c j, fp_Fm_sets c j → fp_Fm_plans c j := fun c j => (fun e => Or.inr (Or.inr (Or.inr (e))))
theorem fr_Fm_plans_b5 {n : Nat} {v1 : Int32} {M : Mm} {oo : (Int32 × Mm) ⊕ (Mm)} (h : Fm_plans_b5 n v1 M = some oo) : Fr (fp_Fm_plans) M (elS oo (fun s1 => s1.2) (fun x1 => x1)) := by
  unfold Fm_plans_b5 at h
  by_cases g0 : v1 = (-1 : Int32)
  · have h := (if_pos g0).symm.trans h
    obtain rfl := Option.some.inj h
    try dsimp only [elS]
    repeat' (with_reducible first | exact Fr.rf | refine Fr.I ?_ (by simp [fp_Fm_plans]) | refine Fr.L ?_ (by simp [fp_Fm_plans]) | refine Fr.cI ?_ (by intro j; simp [fp_Fm_plans]) | refine Fr.cL ?_ (by intro j; simp [fp_Fm_plans]) | (refine Fr.tr ?_ (Fr.mono (fr_Fm_sets (by with_reducible assumption)) mono_Fm_plans_0); try dsimp only))
  · have h := (if_neg g0).symm.trans h
    obtain ⟨_, h⟩ := grd_s h
    obtain ⟨z5, _, h⟩ := bnd_s h
    obtain ⟨_, h⟩ := grd_s h
    obtain ⟨z8, _, h⟩ := bnd_s h
    obtain ⟨_, h⟩ := grd_s h
    obtain ⟨z11, _, h⟩ := bnd_s h
    obtain ⟨_, h⟩ := grd_s h
    obtain ⟨_, h⟩ := grd_s h
    obtain ⟨z15, _, h⟩ := bnd_s h
    obtain rfl := Option.some.inj h
    try dsimp only [elS]
    repeat' (with_reducible first | exact Fr.rf | refine Fr.I ?_ (by simp [fp_Fm_plans]) | refine Fr.L ?_ (by simp [fp_Fm_plans]) | refine Fr.cI ?_ (by intro j; simp [fp_Fm_plans]) | refine Fr.cL ?_ (by intro j; simp [fp_Fm_plans]) | (refine Fr.tr ?_ (Fr.mono (fr_Fm_sets (by with_reducible assumption)) mono_Fm_plans_0); try dsimp only))
theorem frl_Fm_plans_b5 {n : Nat}  {n1 : Nat} {s0 : Int32 × Mm} {y1 : Mm} (h : loop (fun s1 : Int32 × Mm => Fm_plans_b5 n s1.1 s1.2) n1 s0 = some y1) : Fr (fp_Fm_plans) s0.2 y1 :=
  loop_inv (P := fun s2 : Int32 × Mm => Fr (fp_Fm_plans) s0.2 s2.2) (E := fun y1 : Mm => Fr (fp_Fm_plans) s0.2 y1) (fun s2 s3 hP hb => hP.tr (fr_Fm_plans_b5 hb)) (fun s2 x2 hP hb => hP.tr (fr_Fm_plans_b5 hb)) n1 s0 y1 h Fr.rf
theorem fr_Fm_plans {n : Nat} {M : Mm} {oo : Mm} (h : Fm_plans n M = some oo) : Fr (fp_Fm_plans) M oo := by
  unfold Fm_plans at h
  obtain ⟨z1, _, h⟩ := bnd_s h
  obtain ⟨y17, _, h⟩ := bnd_s h
  obtain rfl := Option.some.inj h
  try dsimp only [elS]
  repeat' (with_reducible first | exact Fr.rf | refine Fr.I ?_ (by simp [fp_Fm_plans]) | refine Fr.L ?_ (by simp [fp_Fm_plans]) | refine Fr.cI ?_ (by intro j; simp [fp_Fm_plans]) | refine Fr.cL ?_ (by intro j; simp [fp_Fm_plans]) | (refine Fr.tr ?_ (Fr.mono (fr_Fm_sets (by with_reducible assumption)) mono_Fm_plans_0); try dsimp only) | (refine Fr.tr ?_ (frl_Fm_plans_b5 (by with_reducible assumption)); try dsimp only))
theorem mono_Fm_plan_0  : ∀ c j, fp_Fm_aims c j → fp_Fm_plan c j := fun c j => (fun h => h.elim (fun e => Or.inl e) (fun h => h.elim (fun e => Or.inr (Or.inl e)) (fun h => h.elim (fun e => Or.inr (Or.inr (Or.inl e))) (fun h => h.elim (fun e => Or.inr (Or.inr (Or.inr (Or.inl e)))) (fun h => h.elim (fun e => Or.inr (Or.inr (Or.inr (Or.inr (Or.inl e))))) (fun h => h.elim (fun e => Or.inr (Or.inr (Or.inr (Or.inr (Or.inr (Or.inl e)))))) (fun h => h.elim (fun e => Or.inr (Or.inr (Or.inr (Or.inr (Or.inr (Or.inr (Or.inl e))))))) (fun h => h.elim (fun e => Or.inr (Or.inr (Or.inr (Or.inr (Or.inr (Or.inr (Or.inr (Or.inr (Or.inl e))))))))) (fun h => h.elim (fun e => Or.inr (Or.inr (Or.inr (Or.inr (Or.inr (Or.inr (Or.inr (Or.inr (Or.inr (Or.inl e)))))))))) (fun h => h.elim (fun e => Or.inr (Or.inr (Or.inr (Or.inr (Or.inr (Or.inr (Or.inr (Or.inr (Or.inr (Or.inr (Or.inl e))))))))))) (fun h => h.elim (fun e => Or.inr (Or.inr (Or.inr (Or.inr (Or.inr (Or.inr (Or.inr (Or.inr (Or.inr (Or.inr (Or.inr (Or.inl e)))))))))))) (fun h => h.elim (fun e => Or.inr (Or.inr (Or.inr (Or.inr (Or.inr (Or.inr (Or.inr (Or.inr (Or.inr (Or.inr (Or.inr (Or.inr (Or.inl e))))))))))))) (fun h => h.elim (fun e => Or.inr (Or.inr (Or.inr (Or.inr (Or.inr (Or.inr (Or.inr (Or.inr (Or.inr (Or.inr (Or.inr (Or.inr (Or.inr (Or.inl e)))))))))))))) (fun h => h.elim (fun e => Or.inr (Or.inr (Or.inr (Or.inr (Or.inr (Or.inr (Or.inr (Or.inr (Or.inr (Or.inr (Or.inr (Or.inr (Or.inr (Or.inr (Or.inl e))))))))))))))) (fun h => h.elim (fun e => Or.inr (Or.inr (Or.inr (Or.inr (Or.inr (Or.inr (Or.inr (Or.inr (Or.inr (Or.inr (Or.inr (Or.inr (Or.inr (Or.inr (Or.inr (Or.inl e)))))))))))))))) (fun h => h.elim (fun e => Or.inr (Or.inr (Or.inr (Or.inr (Or.inr (Or.inr (Or.inr (Or.inr (Or.inr (Or.inr (Or.inr (Or.inr (Or.inr (Or.inr (Or.inr (Or.inr (Or.inl e))))))))))))))))) (fun h => h.elim (fun e => Or.inr (Or.inr (Or.inr (Or.inr (Or.inr (Or.inr (Or.inr (Or.inr (Or.inr (Or.inr (Or.inr (Or.inr (Or.inr (Or.inr (Or.inr (Or.inr (Or.inr (Or.inl e)))))))))))))))))) (fun h => h.elim (fun e => Or.inr (Or.inr (Or.inr (Or.inr (Or.inr (Or.inr (Or.inr (Or.inr (Or.inr (Or.inr (Or.inr (Or.inr (Or.inr (Or.inr (Or.inr (Or.inr (Or.inr (Or.inr (Or.inl e))))))))))))))))))) (fun h => h.elim (fun e => Or.inr (Or.inr (Or.inr (Or.inr (Or.inr (Or.inr (Or.inr (Or.inr (Or.inr (Or.inr (Or.inr (Or.inr (Or.inr (Or.inr (Or.inr (Or.inr (Or.inr (Or.inr (Or.inr (Or.inl e)))))))))))))))))))) (fun h => h.elim (fun e => Or.inr (Or.inr (Or.inr (Or.inr (Or.inr (Or.inr (Or.inr (Or.inr (Or.inr (Or.inr (Or.inr (Or.inr (Or.inr (Or.inr (Or.inr (Or.inr (Or.inr (Or.inr (Or.inr (Or.inr (Or.inl e))))))))))))))))))))) (fun e => Or.inr (Or.inr (Or.inr (Or.inr (Or.inr (Or.inr (Or.inr (Or.inr (Or.inr (Or.inr (Or.inr (Or.inr (Or.inr (Or.inr (Or.inr (Or.inr (Or.inr (Or.inr (Or.inr (Or.inr (Or.inr (e))))))))))))))))))))))))))))))))))))))))))
theorem mono_Fm_plan_1  : ∀ c j, fp_Fm_plans c j → fp_Fm_plan c j := fun c j => (fun h => h.elim (fun e => Or.inr (Or.inr (Or.inr (Or.inr (Or.inr (Or.inr (Or.inr (Or.inl e)))))))) (fun h => h.elim (fun e => Or.inr (Or.inr (Or.inr (Or.inr (Or.inr (Or.inr (Or.inr (Or.inr (Or.inr (Or.inl e)))))))))) (fun h => h.elim (fun e => Or.inr (Or.inr (Or.inr (Or.inr (Or.inr (Or.inr (Or.inr (Or.inr (Or.inr (Or.inr (Or.inr (Or.inr (Or.inr (Or.inr (Or.inr (Or.inr (Or.inr (Or.inl e)))))))))))))))))) (fun e => Or.inr (Or.inr (Or.inr (Or.inr (Or.inr (Or.inr (Or.inr (Or.inr (Or.inr (Or.inr (Or.inr (Or.inr (Or.inr (Or.inr (Or.inr (Or.inr (Or.inr (Or.inr (Or.inr (Or.inl e)))))))))))))))))))))))
theorem fr_Fm_plan {n : Nat} {v1 : Int32} {M : Mm} {oo : Int32 × Mm} (h : Fm_plan n v1 M = some oo) : Fr (fp_Fm_plan) M oo.2 := by
  unfold Fm_plan at h
  obtain ⟨z1, _, h⟩ := bnd_s h
  by_cases g0 : z1 = true
  · have h := (if_pos g0).symm.trans h
    obtain ⟨z4, _, h⟩ := bnd_s h
    by_cases g0 : z4.1 = true
    · have h := (if_pos g0).symm.trans h
      obtain ⟨z7, _, h⟩ := bnd_s h
      obtain rfl := Option.some.inj h
      try dsimp only [elS]
      repeat' (with_reducible first | exact Fr.rf | refine Fr.I ?_ (by simp [fp_Fm_plan]) | refine Fr.L ?_ (by simp [fp_Fm_plan]) | refine Fr.cI ?_ (by intro j; simp [fp_Fm_plan]) | refine Fr.cL ?_ (by intro j; simp [fp_Fm_plan]) | (refine Fr.tr ?_ (Fr.mono (fr_Fm_aims (by with_reducible assumption)) mono_Fm_plan_0); try dsimp only) | (refine Fr.tr ?_ (Fr.mono (fr_Fm_plans (by with_reducible assumption)) mono_Fm_plan_1); try dsimp only))
    · have h := (if_neg g0).symm.trans h
      obtain rfl := Option.some.inj h
      try dsimp only [elS]
      repeat' (with_reducible first | exact Fr.rf | refine Fr.I ?_ (by simp [fp_Fm_plan]) | refine Fr.L ?_ (by simp [fp_Fm_plan]) | refine Fr.cI ?_ (by intro j; simp [fp_Fm_plan]) | refine Fr.cL ?_ (by intro j; simp [fp_Fm_plan]) | (refine Fr.tr ?_ (Fr.mono (fr_Fm_aims (by with_reducible assumption)) mono_Fm_plan_0); try dsimp only) | (refine Fr.tr ?_ (Fr.mono (fr_Fm_plans (by with_reducible assumption)) mono_Fm_plan_1); try dsimp only))
  · have h := (if_neg g0).symm.trans h
    obtain rfl := Option.some.inj h
    try dsimp only [elS]
    repeat' (with_reducible first | exact Fr.rf | refine Fr.I ?_ (by simp [fp_Fm_plan]) | refine Fr.L ?_ (by simp [fp_Fm_plan]) | refine Fr.cI ?_ (by intro j; simp [fp_Fm_plan]) | refine Fr.cL ?_ (by intro j; simp [fp_Fm_plan]) | (refine Fr.tr ?_ (Fr.mono (fr_Fm_aims (by with_reducible assumption)) mono_Fm_plan_0); try dsimp only) | (refine Fr.tr ?_ (Fr.mono (fr_Fm_plans (by with_reducible assumption)) mono_Fm_plan_1); try dsimp only))
theorem fr_Fm_rounds_j62 {v3 : Int32} {w0 : Int32} {w1 : Int32} {M : Mm} {oo : (Int32 × Mm) ⊕ (Mm)} (h : Fm_rounds_j62 v3 w0 w1 M = some oo) : Fr (fp_Fm_rounds) M (elS oo (fun s1 => s1.2) (fun x1 => x1)) := by
  unfold Fm_rounds_j62 at h
  obtain ⟨_, h⟩ := grd_s h
  obtain rfl := Option.some.inj h
  try dsimp only [elS]
  repeat' (with_reducible first | exact Fr.rf | refine Fr.I ?_ (by simp [fp_Fm_rounds]) | refine Fr.L ?_ (by simp [fp_Fm_rounds]) | refine Fr.cI ?_ (by intro j; simp [fp_Fm_rounds]) | refine Fr.cL ?_ (by intro j; simp [fp_Fm_rounds]))
theorem fr_Fm_rounds_j61 {v3 : Int32} {w0 : Int32} {M : Mm} {oo : (Int32 × Mm) ⊕ (Mm)} (h : Fm_rounds_j61 v3 w0 M = some oo) : Fr (fp_Fm_rounds) M (elS oo (fun s1 => s1.2) (fun x1 => x1)) := by
  unfold Fm_rounds_j61 at h
  refine Fr.tr ?_ (fr_Fm_rounds_j62 h)
  try dsimp only [elS]
  repeat' (with_reducible first | exact Fr.rf | refine Fr.I ?_ (by simp [fp_Fm_rounds]) | refine Fr.L ?_ (by simp [fp_Fm_rounds]) | refine Fr.cI ?_ (by intro j; simp [fp_Fm_rounds]) | refine Fr.cL ?_ (by intro j; simp [fp_Fm_rounds]))
theorem fr_Fm_rounds_b17 {c1 : Int32} {c2 : Int32} {v3 : Int32} {M : Mm} {oo : (Int32 × Mm) ⊕ (Mm)} (h : Fm_rounds_b17 c1 c2 v3 M = some oo) : Fr (fp_Fm_rounds) M (elS oo (fun s1 => s1.2) (fun x1 => x1)) := by
  unfold Fm_rounds_b17 at h
  by_cases g0 : c1 ≤ v3
  · have h := (if_pos g0).symm.trans h
    obtain rfl := Option.some.inj h
    try dsimp only [elS]
    repeat' (with_reducible first | exact Fr.rf | refine Fr.I ?_ (by simp [fp_Fm_rounds]) | refine Fr.L ?_ (by simp [fp_Fm_rounds]) | refine Fr.cI ?_ (by intro j; simp [fp_Fm_rounds]) | refine Fr.cL ?_ (by intro j; simp [fp_Fm_rounds]))
  · have h := (if_neg g0).symm.trans h
    obtain ⟨z4, _, h⟩ := bnd_s h
    by_cases g0 : z4 = true
    · have h := (if_pos g0).symm.trans h
      obtain ⟨z8, _, h⟩ := bnd_s h
      by_cases g0 : z8 = true
      · have h := (if_pos g0).symm.trans h
        obtain ⟨z11, _, h⟩ := bnd_s h
        by_cases g0 : z11 = true
        · have h := (if_pos g0).symm.trans h
          refine Fr.tr ?_ (fr_Fm_rounds_j62 h)
          try dsimp only [elS]
          repeat' (with_reducible first | exact Fr.rf | refine Fr.I ?_ (by simp [fp_Fm_rounds]) | refine Fr.L ?_ (by simp [fp_Fm_rounds]) | refine Fr.cI ?_ (by intro j; simp [fp_Fm_rounds]) | refine Fr.cL ?_ (by intro j; simp [fp_Fm_rounds]))
        · have h := (if_neg g0).symm.trans h
          refine Fr.tr ?_ (fr_Fm_rounds_j61 h)
          try dsimp only [elS]
          repeat' (with_reducible first | exact Fr.rf | refine Fr.I ?_ (by simp [fp_Fm_rounds]) | refine Fr.L ?_ (by simp [fp_Fm_rounds]) | refine Fr.cI ?_ (by intro j; simp [fp_Fm_rounds]) | refine Fr.cL ?_ (by intro j; simp [fp_Fm_rounds]))
      · have h := (if_neg g0).symm.trans h
        refine Fr.tr ?_ (fr_Fm_rounds_j61 h)
        try dsimp only [elS]
        repeat' (with_reducible first | exact Fr.rf | refine Fr.I ?_ (by simp [fp_Fm_rounds]) | refine Fr.L ?_ (by simp [fp_Fm_rounds]) | refine Fr.cI ?_ (by intro j; simp [fp_Fm_rounds]) | refine Fr.cL ?_ (by intro j; simp [fp_Fm_rounds]))
    · have h := (if_neg g0).symm.trans h
      refine Fr.tr ?_ (fr_Fm_rounds_j61 h)
      try dsimp only [elS]
      repeat' (with_reducible first | exact Fr.rf | refine Fr.I ?_ (by simp [fp_Fm_rounds]) | refine Fr.L ?_ (by simp [fp_Fm_rounds]) | refine Fr.cI ?_ (by intro j; simp [fp_Fm_rounds]) | refine Fr.cL ?_ (by intro j; simp [fp_Fm_rounds]))
theorem frl_Fm_rounds_b17 {c1 : Int32} {c2 : Int32}  {n1 : Nat} {s0 : Int32 × Mm} {y1 : Mm} (h : loop (fun s1 : Int32 × Mm => Fm_rounds_b17 c1 c2 s1.1 s1.2) n1 s0 = some y1) : Fr (fp_Fm_rounds) s0.2 y1 :=
  loop_inv (P := fun s2 : Int32 × Mm => Fr (fp_Fm_rounds) s0.2 s2.2) (E := fun y1 : Mm => Fr (fp_Fm_rounds) s0.2 y1) (fun s2 s3 hP hb => hP.tr (fr_Fm_rounds_b17 hb)) (fun s2 x2 hP hb => hP.tr (fr_Fm_rounds_b17 hb)) n1 s0 y1 h Fr.rf
theorem fr_Fm_rounds_b10 {n : Nat} {c1 : Int32} {v2 : Int32} {M : Mm} {oo : (Int32 × Mm) ⊕ (Mm)} (h : Fm_rounds_b10 n c1 v2 M = some oo) : Fr (fp_Fm_rounds) M (elS oo (fun s1 => s1.2) (fun x1 => x1)) := by
  unfold Fm_rounds_b10 at h
  by_cases g0 : c1 ≤ v2
  · have h := (if_pos g0).symm.trans h
    obtain rfl := Option.some.inj h
    try dsimp only [elS]
    repeat' (with_reducible first | exact Fr.rf | refine Fr.I ?_ (by simp [fp_Fm_rounds]) | refine Fr.L ?_ (by simp [fp_Fm_rounds]) | refine Fr.cI ?_ (by intro j; simp [fp_Fm_rounds]) | refine Fr.cL ?_ (by intro j; simp [fp_Fm_rounds]) | (refine Fr.tr ?_ (frl_Fm_rounds_b17 (by with_reducible assumption)); try dsimp only))
  · have h := (if_neg g0).symm.trans h
    obtain ⟨y14, _, h⟩ := bnd_s h
    obtain rfl := Option.some.inj h
    try dsimp only [elS]
    repeat' (with_reducible first | exact Fr.rf | refine Fr.I ?_ (by simp [fp_Fm_rounds]) | refine Fr.L ?_ (by simp [fp_Fm_rounds]) | refine Fr.cI ?_ (by intro j; simp [fp_Fm_rounds]) | refine Fr.cL ?_ (by intro j; simp [fp_Fm_rounds]) | (refine Fr.tr ?_ (frl_Fm_rounds_b17 (by with_reducible assumption)); try dsimp only))
theorem frl_Fm_rounds_b10 {n : Nat} {c1 : Int32}  {n1 : Nat} {s0 : Int32 × Mm} {y1 : Mm} (h : loop (fun s1 : Int32 × Mm => Fm_rounds_b10 n c1 s1.1 s1.2) n1 s0 = some y1) : Fr (fp_Fm_rounds) s0.2 y1 :=
  loop_inv (P := fun s2 : Int32 × Mm => Fr (fp_Fm_rounds) s0.2 s2.2) (E := fun y1 : Mm => Fr (fp_Fm_rounds) s0.2 y1) (fun s2 s3 hP hb => hP.tr (fr_Fm_rounds_b10 hb)) (fun s2 x2 hP hb => hP.tr (fr_Fm_rounds_b10 hb)) n1 s0 y1 h Fr.rf
theorem fr_Fm_rounds_j140 {v4 : Int32} {M : Mm} {oo : (Int32 × Mm) ⊕ (Mm)} (h : Fm_rounds_j140 v4 M = some oo) : Fr (fp_Fm_rounds) M (elS oo (fun s1 => s1.2) (fun x1 => x1)) := by
  unfold Fm_rounds_j140 at h
  obtain rfl := Option.some.inj h
  try dsimp only [elS]
  repeat' (with_reducible first | exact Fr.rf | refine Fr.I ?_ (by simp [fp_Fm_rounds]) | refine Fr.L ?_ (by simp [fp_Fm_rounds]) | refine Fr.cI ?_ (by intro j; simp [fp_Fm_rounds]) | refine Fr.cL ?_ (by intro j; simp [fp_Fm_rounds]) | (refine Fr.tr ?_ (frl_Fm_rounds_b17 (by with_reducible assumption)); try dsimp only) | (refine Fr.tr ?_ (frl_Fm_rounds_b10 (by with_reducible assumption)); try dsimp only))
theorem fr_Fm_rounds_b92 {c1 : Int32} {c2 : Int32} {c3 : Int32} {v4 : Int32} {M : Mm} {oo : (Int32 × Mm) ⊕ (Mm)} (h : Fm_rounds_b92 c1 c2 c3 v4 M = some oo) : Fr (fp_Fm_rounds) M (elS oo (fun s1 => s1.2) (fun x1 => x1)) := by
  unfold Fm_rounds_b92 at h
  by_cases g0 : c1 ≤ v4
  · have h := (if_pos g0).symm.trans h
    obtain rfl := Option.some.inj h
    try dsimp only [elS]
    repeat' (with_reducible first | exact Fr.rf | refine Fr.I ?_ (by simp [fp_Fm_rounds]) | refine Fr.L ?_ (by simp [fp_Fm_rounds]) | refine Fr.cI ?_ (by intro j; simp [fp_Fm_rounds]) | refine Fr.cL ?_ (by intro j; simp [fp_Fm_rounds]) | (refine Fr.tr ?_ (frl_Fm_rounds_b17 (by with_reducible assumption)); try dsimp only) | (refine Fr.tr ?_ (frl_Fm_rounds_b10 (by with_reducible assumption)); try dsimp only))
  · have h := (if_neg g0).symm.trans h
    obtain ⟨_, h⟩ := grd_s h
    by_cases g0 : (M.1 112 (tn (((40 : Int32) * c3) + c2))) = (0 : Int32)
    · have h := (if_pos g0).symm.trans h
      refine Fr.tr ?_ (fr_Fm_rounds_j140 h)
      try dsimp only [elS]
      repeat' (with_reducible first | exact Fr.rf | refine Fr.I ?_ (by simp [fp_Fm_rounds]) | refine Fr.L ?_ (by simp [fp_Fm_rounds]) | refine Fr.cI ?_ (by intro j; simp [fp_Fm_rounds]) | refine Fr.cL ?_ (by intro j; simp [fp_Fm_rounds]) | (refine Fr.tr ?_ (frl_Fm_rounds_b17 (by with_reducible assumption)); try dsimp only) | (refine Fr.tr ?_ (frl_Fm_rounds_b10 (by with_reducible assumption)); try dsimp only))
    · have h := (if_neg g0).symm.trans h
      obtain ⟨_, h⟩ := grd_s h
      by_cases g0 : (M.1 112 (tn (((40 : Int32) * c2) + v4))) = (0 : Int32)
      · have h := (if_pos g0).symm.trans h
        refine Fr.tr ?_ (fr_Fm_rounds_j140 h)
        try dsimp only [elS]
        repeat' (with_reducible first | exact Fr.rf | refine Fr.I ?_ (by simp [fp_Fm_rounds]) | refine Fr.L ?_ (by simp [fp_Fm_rounds]) | refine Fr.cI ?_ (by intro j; simp [fp_Fm_rounds]) | refine Fr.cL ?_ (by intro j; simp [fp_Fm_rounds]) | (refine Fr.tr ?_ (frl_Fm_rounds_b17 (by with_reducible assumption)); try dsimp only) | (refine Fr.tr ?_ (frl_Fm_rounds_b10 (by with_reducible assumption)); try dsimp only))
      · have h := (if_neg g0).symm.trans h
        obtain ⟨_, h⟩ := grd_s h
        refine Fr.tr ?_ (fr_Fm_rounds_j140 h)
        try dsimp only [elS]
        repeat' (with_reducible first | exact Fr.rf | refine Fr.I ?_ (by simp [fp_Fm_rounds]) | refine Fr.L ?_ (by simp [fp_Fm_rounds]) | refine Fr.cI ?_ (by intro j; simp [fp_Fm_rounds]) | refine Fr.cL ?_ (by intro j; simp [fp_Fm_rounds]) | (refine Fr.tr ?_ (frl_Fm_rounds_b17 (by with_reducible assumption)); try dsimp only) | (refine Fr.tr ?_ (frl_Fm_rounds_b10 (by with_reducible assumption)); try dsimp only))
theorem frl_Fm_rounds_b92 {c1 : Int32} {c2 : Int32} {c3 : Int32}  {n1 : Nat} {s0 : Int32 × Mm} {y1 : Mm} (h : loop (fun s1 : Int32 × Mm => Fm_rounds_b92 c1 c2 c3 s1.1 s1.2) n1 s0 = some y1) : Fr (fp_Fm_rounds) s0.2 y1 :=
  loop_inv (P := fun s2 : Int32 × Mm => Fr (fp_Fm_rounds) s0.2 s2.2) (E := fun y1 : Mm => Fr (fp_Fm_rounds) s0.2 y1) (fun s2 s3 hP hb => hP.tr (fr_Fm_rounds_b92 hb)) (fun s2 x2 hP hb => hP.tr (fr_Fm_rounds_b92 hb)) n1 s0 y1 h Fr.rf
theorem fr_Fm_rounds_b84 {n : Nat} {c1 : Int32} {c2 : Int32} {v3 : Int32} {M : Mm} {oo : (Int32 × Mm) ⊕ (Mm)} (h : Fm_rounds_b84 n c1 c2 v3 M = some oo) : Fr (fp_Fm_rounds) M (elS oo (fun s1 => s1.2) (fun x1 => x1)) := by
  unfold Fm_rounds_b84 at h
  by_cases g0 : c1 ≤ v3
  · have h := (if_pos g0).symm.trans h
    obtain rfl := Option.some.inj h
    try dsimp only [elS]
    repeat' (with_reducible first | exact Fr.rf | refine Fr.I ?_ (by simp [fp_Fm_rounds]) | refine Fr.L ?_ (by simp [fp_Fm_rounds]) | refine Fr.cI ?_ (by intro j; simp [fp_Fm_rounds]) | refine Fr.cL ?_ (by intro j; simp [fp_Fm_rounds]) | (refine Fr.tr ?_ (frl_Fm_rounds_b17 (by with_reducible assumption)); try dsimp only) | (refine Fr.tr ?_ (frl_Fm_rounds_b10 (by with_reducible assumption)); try dsimp only) | (refine Fr.tr ?_ (frl_Fm_rounds_b92 (by with_reducible assumption)); try dsimp only))
  · have h := (if_neg g0).symm.trans h
    obtain ⟨y24, _, h⟩ := bnd_s h
    obtain rfl := Option.some.inj h
    try dsimp only [elS]
    repeat' (with_reducible first | exact Fr.rf | refine Fr.I ?_ (by simp [fp_Fm_rounds]) | refine Fr.L ?_ (by simp [fp_Fm_rounds]) | refine Fr.cI ?_ (by intro j; simp [fp_Fm_rounds]) | refine Fr.cL ?_ (by intro j; simp [fp_Fm_rounds]) | (refine Fr.tr ?_ (frl_Fm_rounds_b17 (by with_reducible assumption)); try dsimp only) | (refine Fr.tr ?_ (frl_Fm_rounds_b10 (by with_reducible assumption)); try dsimp only) | (refine Fr.tr ?_ (frl_Fm_rounds_b92 (by with_reducible assumption)); try dsimp only))
theorem frl_Fm_rounds_b84 {n : Nat} {c1 : Int32} {c2 : Int32}  {n1 : Nat} {s0 : Int32 × Mm} {y1 : Mm} (h : loop (fun s1 : Int32 × Mm => Fm_rounds_b84 n c1 c2 s1.1 s1.2) n1 s0 = some y1) : Fr (fp_Fm_rounds) s0.2 y1 :=
  loop_inv (P := fun s2 : Int32 × Mm => Fr (fp_Fm_rounds) s0.2 s2.2) (E := fun y1 : Mm => Fr (fp_Fm_rounds) s0.2 y1) (fun s2 s3 hP hb => hP.tr (fr_Fm_rounds_b84 hb)) (fun s2 x2 hP hb => hP.tr (fr_Fm_rounds_b84 hb)) n1 s0 y1 h Fr.rf
theorem fr_Fm_rounds_b77 {n : Nat} {c1 : Int32} {v2 : Int32} {M : Mm} {oo : (Int32 × Mm) ⊕ (Mm)} (h : Fm_rounds_b77 n c1 v2 M = some oo) : Fr (fp_Fm_rounds) M (elS oo (fun s1 => s1.2) (fun x1 => x1)) := by
  unfold Fm_rounds_b77 at h
  by_cases g0 : c1 ≤ v2
  · have h := (if_pos g0).symm.trans h
    obtain rfl := Option.some.inj h
    try dsimp only [elS]
    repeat' (with_reducible first | exact Fr.rf | refine Fr.I ?_ (by simp [fp_Fm_rounds]) | refine Fr.L ?_ (by simp [fp_Fm_rounds]) | refine Fr.cI ?_ (by intro j; simp [fp_Fm_rounds]) | refine Fr.cL ?_ (by intro j; simp [fp_Fm_rounds]) | (refine Fr.tr ?_ (frl_Fm_rounds_b17 (by with_reducible assumption)); try dsimp only) | (refine Fr.tr ?_ (frl_Fm_rounds_b10 (by with_reducible assumption)); try dsimp only) | (refine Fr.tr ?_ (frl_Fm_rounds_b92 (by with_reducible assumption)); try dsimp only) | (refine Fr.tr ?_ (frl_Fm_rounds_b84 (by with_reducible assumption)); try dsimp only))
  · have h := (if_neg g0).symm.trans h
    obtain ⟨y25, _, h⟩ := bnd_s h
    obtain rfl := Option.some.inj h
    try dsimp only [elS]
    repeat' (with_reducible first | exact Fr.rf | refine Fr.I ?_ (by simp [fp_Fm_rounds]) | refine Fr.L ?_ (by simp [fp_Fm_rounds]) | refine Fr.cI ?_ (by intro j; simp [fp_Fm_rounds]) | refine Fr.cL ?_ (by intro j; simp [fp_Fm_rounds]) | (refine Fr.tr ?_ (frl_Fm_rounds_b17 (by with_reducible assumption)); try dsimp only) | (refine Fr.tr ?_ (frl_Fm_rounds_b10 (by with_reducible assumption)); try dsimp only) | (refine Fr.tr ?_ (frl_Fm_rounds_b92 (by with_reducible assumption)); try dsimp only) | (refine Fr.tr ?_ (frl_Fm_rounds_b84 (by with_reducible assumption)); try dsimp only))
theorem frl_Fm_rounds_b77 {n : Nat} {c1 : Int32}  {n1 : Nat} {s0 : Int32 × Mm} {y1 : Mm} (h : loop (fun s1 : Int32 × Mm => Fm_rounds_b77 n c1 s1.1 s1.2) n1 s0 = some y1) : Fr (fp_Fm_rounds) s0.2 y1 :=
  loop_inv (P := fun s2 : Int32 × Mm => Fr (fp_Fm_rounds) s0.2 s2.2) (E := fun y1 : Mm => Fr (fp_Fm_rounds) s0.2 y1) (fun s2 s3 hP hb => hP.tr (fr_Fm_rounds_b77 hb)) (fun s2 x2 hP hb => hP.tr (fr_Fm_rounds_b77 hb)) n1 s0 y1 h Fr.rf
theorem fr_Fm_rounds_j183 {v2 : Int32} {v3 : Int32} {Mc : Mm} {oo : (Int32 × Int32) ⊕ (Int32)} (h : Fm_rounds_j183 v2 v3 = some oo) : Fr (fp_Fm_rounds) Mc (elS oo (fun s1 => Mc) (fun x1 => Mc)) := by
  unfold Fm_rounds_j183 at h
  obtain rfl := Option.some.inj h
  try dsimp only [elS]
  repeat' (with_reducible first | exact Fr.rf | refine Fr.I ?_ (by simp [fp_Fm_rounds]) | refine Fr.L ?_ (by simp [fp_Fm_rounds]) | refine Fr.cI ?_ (by intro j; simp [fp_Fm_rounds]) | refine Fr.cL ?_ (by intro j; simp [fp_Fm_rounds]) | (refine Fr.tr ?_ (frl_Fm_rounds_b17 (by with_reducible assumption)); try dsimp only) | (refine Fr.tr ?_ (frl_Fm_rounds_b10 (by with_reducible assumption)); try dsimp only) | (refine Fr.tr ?_ (frl_Fm_rounds_b92 (by with_reducible assumption)); try dsimp only) | (refine Fr.tr ?_ (frl_Fm_rounds_b84 (by with_reducible assumption)); try dsimp only) | (refine Fr.tr ?_ (frl_Fm_rounds_b77 (by with_reducible assumption)); try dsimp only))
theorem fr_Fm_rounds_b162 {c1 : Int32} {Mc : Mm} {v2 : Int32} {v3 : Int32} {oo : (Int32 × Int32) ⊕ (Int32)} (h : Fm_rounds_b162 c1 Mc v2 v3 = some oo) : Fr (fp_Fm_rounds) Mc (elS oo (fun s1 => Mc) (fun x1 => Mc)) := by
  unfold Fm_rounds_b162 at h
  by_cases g0 : c1 ≤ v3
  · have h := (if_pos g0).symm.trans h
    obtain rfl := Option.some.inj h
    try dsimp only [elS]
    repeat' (with_reducible first | exact Fr.rf | refine Fr.I ?_ (by simp [fp_Fm_rounds]) | refine Fr.L ?_ (by simp [fp_Fm_rounds]) | refine Fr.cI ?_ (by intro j; simp [fp_Fm_rounds]) | refine Fr.cL ?_ (by intro j; simp [fp_Fm_rounds]) | (refine Fr.tr ?_ (frl_Fm_rounds_b17 (by with_reducible assumption)); try dsimp only) | (refine Fr.tr ?_ (frl_Fm_rounds_b10 (by with_reducible assumption)); try dsimp only) | (refine Fr.tr ?_ (frl_Fm_rounds_b92 (by with_reducible assumption)); try dsimp only) | (refine Fr.tr ?_ (frl_Fm_rounds_b84 (by with_reducible assumption)); try dsimp only) | (refine Fr.tr ?_ (frl_Fm_rounds_b77 (by with_reducible assumption)); try dsimp only))
  · have h := (if_neg g0).symm.trans h
    obtain ⟨_, h⟩ := grd_s h
    by_cases g0 : (Mc.1 112 (tn ((41 : Int32) * v3))) = (0 : Int32)
    · have h := (if_pos g0).symm.trans h
      refine Fr.tr ?_ (fr_Fm_rounds_j183 h)
      try dsimp only [elS]
      repeat' (with_reducible first | exact Fr.rf | refine Fr.I ?_ (by simp [fp_Fm_rounds]) | refine Fr.L ?_ (by simp [fp_Fm_rounds]) | refine Fr.cI ?_ (by intro j; simp [fp_Fm_rounds]) | refine Fr.cL ?_ (by intro j; simp [fp_Fm_rounds]) | (refine Fr.tr ?_ (frl_Fm_rounds_b17 (by with_reducible assumption)); try dsimp only) | (refine Fr.tr ?_ (frl_Fm_rounds_b10 (by with_reducible assumption)); try dsimp only) | (refine Fr.tr ?_ (frl_Fm_rounds_b92 (by with_reducible assumption)); try dsimp only) | (refine Fr.tr ?_ (frl_Fm_rounds_b84 (by with_reducible assumption)); try dsimp only) | (refine Fr.tr ?_ (frl_Fm_rounds_b77 (by with_reducible assumption)); try dsimp only))
    · have h := (if_neg g0).symm.trans h
      refine Fr.tr ?_ (fr_Fm_rounds_j183 h)
      try dsimp only [elS]
      repeat' (with_reducible first | exact Fr.rf | refine Fr.I ?_ (by simp [fp_Fm_rounds]) | refine Fr.L ?_ (by simp [fp_Fm_rounds]) | refine Fr.cI ?_ (by intro j; simp [fp_Fm_rounds]) | refine Fr.cL ?_ (by intro j; simp [fp_Fm_rounds]) | (refine Fr.tr ?_ (frl_Fm_rounds_b17 (by with_reducible assumption)); try dsimp only) | (refine Fr.tr ?_ (frl_Fm_rounds_b10 (by with_reducible assumption)); try dsimp only) | (refine Fr.tr ?_ (frl_Fm_rounds_b92 (by with_reducible assumption)); try dsimp only) | (refine Fr.tr ?_ (frl_Fm_rounds_b84 (by with_reducible assumption)); try dsimp only) | (refine Fr.tr ?_ (frl_Fm_rounds_b77 (by with_reducible assumption)); try dsimp only))
theorem fr_Fm_rounds {n : Nat} {M : Mm} {oo : Int32 × Mm} (h : Fm_rounds n M = some oo) : Fr (fp_Fm_rounds) M oo.2 := by
  unfold Fm_rounds at h
  obtain ⟨_, h⟩ := grd_s h
  obtain ⟨y15, _, h⟩ := bnd_s h
  obtain ⟨y26, _, h⟩ := bnd_s h
  obtain ⟨y30, _, h⟩ := bnd_s h
  obtain rfl := Option.some.inj h
  try dsimp only [elS]
  repeat' (with_reducible first | exact Fr.rf | refine Fr.I ?_ (by simp [fp_Fm_rounds]) | refine Fr.L ?_ (by simp [fp_Fm_rounds]) | refine Fr.cI ?_ (by intro j; simp [fp_Fm_rounds]) | refine Fr.cL ?_ (by intro j; simp [fp_Fm_rounds]) | (refine Fr.tr ?_ (frl_Fm_rounds_b17 (by with_reducible assumption)); try dsimp only) | (refine Fr.tr ?_ (frl_Fm_rounds_b10 (by with_reducible assumption)); try dsimp only) | (refine Fr.tr ?_ (frl_Fm_rounds_b92 (by with_reducible assumption)); try dsimp only) | (refine Fr.tr ?_ (frl_Fm_rounds_b84 (by with_reducible assumption)); try dsimp only) | (refine Fr.tr ?_ (frl_Fm_rounds_b77 (by with_reducible assumption)); try dsimp only))
theorem mono_Fm_repack_0  : ∀ c j, fp_Fm_aims c j → fp_Fm_repack c j := fun c j => (fun h => h.elim (fun e => Or.inl e) (fun h => h.elim (fun e => Or.inr (Or.inl e)) (fun h => h.elim (fun e => Or.inr (Or.inr (Or.inl e))) (fun h => h.elim (fun e => Or.inr (Or.inr (Or.inr (Or.inl e)))) (fun h => h.elim (fun e => Or.inr (Or.inr (Or.inr (Or.inr (Or.inl e))))) (fun h => h.elim (fun e => Or.inr (Or.inr (Or.inr (Or.inr (Or.inr (Or.inl e)))))) (fun h => h.elim (fun e => Or.inr (Or.inr (Or.inr (Or.inr (Or.inr (Or.inr (Or.inl e))))))) (fun h => h.elim (fun e => Or.inr (Or.inr (Or.inr (Or.inr (Or.inr (Or.inr (Or.inr (Or.inr (Or.inl e))))))))) (fun h => h.elim (fun e => Or.inr (Or.inr (Or.inr (Or.inr (Or.inr (Or.inr (Or.inr (Or.inr (Or.inr (Or.inl e)))))))))) (fun h => h.elim (fun e => Or.inr (Or.inr (Or.inr (Or.inr (Or.inr (Or.inr (Or.inr (Or.inr (Or.inr (Or.inr (Or.inl e))))))))))) (fun h => h.elim (fun e => Or.inr (Or.inr (Or.inr (Or.inr (Or.inr (Or.inr (Or.inr (Or.inr (Or.inr (Or.inr (Or.inr (Or.inr (Or.inl e))))))))))))) (fun h => h.elim (fun e => Or.inr (Or.inr (Or.inr (Or.inr (Or.inr (Or.inr (Or.inr (Or.inr (Or.inr (Or.inr (Or.inr (Or.inr (Or.inr (Or.inl e)))))))))))))) (fun h => h.elim (fun e => Or.inr (Or.inr (Or.inr (Or.inr (Or.inr (Or.inr (Or.inr (Or.inr (Or.inr (Or.inr (Or.inr (Or.inr (Or.inr (Or.inr (Or.inl e))))))))))))))) (fun h => h.elim (fun e => Or.inr (Or.inr (Or.inr (Or.inr (Or.inr (Or.inr (Or.inr (Or.inr (Or.inr (Or.inr (Or.inr (Or.inr (Or.inr (Or.inr (Or.inr (Or.inl e)))))))))))))))) (fun h => h.elim (fun e => Or.inr (Or.inr (Or.inr (Or.inr (Or.inr (Or.inr (Or.inr (Or.inr (Or.inr (Or.inr (Or.inr (Or.inr (Or.inr (Or.inr (Or.inr (Or.inr (Or.inl e))))))))))))))))) (fun h => h.elim (fun e => Or.inr (Or.inr (Or.inr (Or.inr (Or.inr (Or.inr (Or.inr (Or.inr (Or.inr (Or.inr (Or.inr (Or.inr (Or.inr (Or.inr (Or.inr (Or.inr (Or.inr (Or.inl e)))))))))))))))))) (fun h => h.elim (fun e => Or.inr (Or.inr (Or.inr (Or.inr (Or.inr (Or.inr (Or.inr (Or.inr (Or.inr (Or.inr (Or.inr (Or.inr (Or.inr (Or.inr (Or.inr (Or.inr (Or.inr (Or.inr (Or.inl e))))))))))))))))))) (fun h => h.elim (fun e => Or.inr (Or.inr (Or.inr (Or.inr (Or.inr (Or.inr (Or.inr (Or.inr (Or.inr (Or.inr (Or.inr (Or.inr (Or.inr (Or.inr (Or.inr (Or.inr (Or.inr (Or.inr (Or.inr (Or.inl e)))))))))))))))))))) (fun h => h.elim (fun e => Or.inr (Or.inr (Or.inr (Or.inr (Or.inr (Or.inr (Or.inr (Or.inr (Or.inr (Or.inr (Or.inr (Or.inr (Or.inr (Or.inr (Or.inr (Or.inr (Or.inr (Or.inr (Or.inr (Or.inr (Or.inl e))))))))))))))))))))) (fun h => h.elim (fun e => Or.inr (Or.inr (Or.inr (Or.inr (Or.inr (Or.inr (Or.inr (Or.inr (Or.inr (Or.inr (Or.inr (Or.inr (Or.inr (Or.inr (Or.inr (Or.inr (Or.inr (Or.inr (Or.inr (Or.inr (Or.inr (Or.inl e)))))))))))))))))))))) (fun e => Or.inr (Or.inr (Or.inr (Or.inr (Or.inr (Or.inr (Or.inr (Or.inr (Or.inr (Or.inr (Or.inr (Or.inr (Or.inr (Or.inr (Or.inr (Or.inr (Or.inr (Or.inr (Or.inr (Or.inr (Or.inr (Or.inr (e)))))))))))))))))))))))))))))))))))))))))))
theorem mono_Fm_repack_1  : ∀ c j, fp_Fm_copies c j → fp_Fm_repack c j := fun c j => (fun e => Or.inr (Or.inr (Or.inr (Or.inr (Or.inr (Or.inr (Or.inr (Or.inr (Or.inr (Or.inr (Or.inr (Or.inr (Or.inr (Or.inr (Or.inr (Or.inr (Or.inr (Or.inr (Or.inr (Or.inr (Or.inl e)))))))))))))))))))))
theorem mono_Fm_repack_2  : ∀ c j, fp_Fm_plans c j → fp_Fm_repack c j := fun c j => (fun h => h.elim (fun e => Or.inr (Or.inr (Or.inr (Or.inr (Or.inr (Or.inr (Or.inr (Or.inl e)))))))) (fun h => h.elim (fun e => Or.inr (Or.inr (Or.inr (Or.inr (Or.inr (Or.inr (Or.inr (Or.inr (Or.inr (Or.inl e)))))))))) (fun h => h.elim (fun e => Or.inr (Or.inr (Or.inr (Or.inr (Or.inr (Or.inr (Or.inr (Or.inr (Or.inr (Or.inr (Or.inr (Or.inr (Or.inr (Or.inr (Or.inr (Or.inr (Or.inr (Or.inr (Or.inl e))))))))))))))))))) (fun e => Or.inr (Or.inr (Or.inr (Or.inr (Or.inr (Or.inr (Or.inr (Or.inr (Or.inr (Or.inr (Or.inr (Or.inr (Or.inr (Or.inr (Or.inr (Or.inr (Or.inr (Or.inr (Or.inr (Or.inr (Or.inl e))))))))))))))))))))))))
theorem mono_Fm_repack_3  : ∀ c j, fp_Fm_rounds c j → fp_Fm_repack c j := fun c j => (fun e => Or.inr (Or.inr (Or.inr (Or.inr (Or.inr (Or.inr (Or.inr (Or.inr (Or.inr (Or.inr (Or.inr (Or.inl e))))))))))))
theorem fr_Fm_repack {n : Nat} {v1 : Int32} {v2 : Int32} {M : Mm} {oo : Int32 × Mm} (h : Fm_repack n v1 v2 M = some oo) : Fr (fp_Fm_repack) M oo.2 := by
  unfold Fm_repack at h
  obtain ⟨z1, _, h⟩ := bnd_s h
  by_cases g0 : z1 = true
  · have h := (if_pos g0).symm.trans h
    obtain ⟨z4, _, h⟩ := bnd_s h
    by_cases g0 : z4 = true
    · have h := (if_pos g0).symm.trans h
      obtain ⟨z7, _, h⟩ := bnd_s h
      by_cases g0 : z7.1 = true
      · have h := (if_pos g0).symm.trans h
        obtain ⟨z10, _, h⟩ := bnd_s h
        obtain ⟨z12, _, h⟩ := bnd_s h
        obtain ⟨z14, _, h⟩ := bnd_s h
        obtain ⟨z16, _, h⟩ := bnd_s h
        obtain ⟨z18, _, h⟩ := bnd_s h
        by_cases g0 : v2 = (0 : Int32)
        · have h := (if_pos g0).symm.trans h
          obtain rfl := Option.some.inj h
          try dsimp only [elS]
          repeat' (with_reducible first | exact Fr.rf | refine Fr.I ?_ (by simp [fp_Fm_repack]) | refine Fr.L ?_ (by simp [fp_Fm_repack]) | refine Fr.cI ?_ (by intro j; simp [fp_Fm_repack]) | refine Fr.cL ?_ (by intro j; simp [fp_Fm_repack]) | (refine Fr.tr ?_ (Fr.mono (fr_Fm_aims (by with_reducible assumption)) mono_Fm_repack_0); try dsimp only) | (refine Fr.tr ?_ (Fr.mono (fr_Fm_copies (by with_reducible assumption)) mono_Fm_repack_1); try dsimp only) | (refine Fr.tr ?_ (Fr.mono (fr_Fm_plans (by with_reducible assumption)) mono_Fm_repack_2); try dsimp only) | (refine Fr.tr ?_ (Fr.mono (fr_Fm_rounds (by with_reducible assumption)) mono_Fm_repack_3); try dsimp only))
        · have h := (if_neg g0).symm.trans h
          by_cases g0 : v2 = (1 : Int32)
          · have h := (if_pos g0).symm.trans h
            obtain rfl := Option.some.inj h
            try dsimp only [elS]
            repeat' (with_reducible first | exact Fr.rf | refine Fr.I ?_ (by simp [fp_Fm_repack]) | refine Fr.L ?_ (by simp [fp_Fm_repack]) | refine Fr.cI ?_ (by intro j; simp [fp_Fm_repack]) | refine Fr.cL ?_ (by intro j; simp [fp_Fm_repack]) | (refine Fr.tr ?_ (Fr.mono (fr_Fm_aims (by with_reducible assumption)) mono_Fm_repack_0); try dsimp only) | (refine Fr.tr ?_ (Fr.mono (fr_Fm_copies (by with_reducible assumption)) mono_Fm_repack_1); try dsimp only) | (refine Fr.tr ?_ (Fr.mono (fr_Fm_plans (by with_reducible assumption)) mono_Fm_repack_2); try dsimp only) | (refine Fr.tr ?_ (Fr.mono (fr_Fm_rounds (by with_reducible assumption)) mono_Fm_repack_3); try dsimp only))
          · have h := (if_neg g0).symm.trans h
            by_cases g0 : v2 = (2 : Int32)
            · have h := (if_pos g0).symm.trans h
              obtain rfl := Option.some.inj h
              try dsimp only [elS]
              repeat' (with_reducible first | exact Fr.rf | refine Fr.I ?_ (by simp [fp_Fm_repack]) | refine Fr.L ?_ (by simp [fp_Fm_repack]) | refine Fr.cI ?_ (by intro j; simp [fp_Fm_repack]) | refine Fr.cL ?_ (by intro j; simp [fp_Fm_repack]) | (refine Fr.tr ?_ (Fr.mono (fr_Fm_aims (by with_reducible assumption)) mono_Fm_repack_0); try dsimp only) | (refine Fr.tr ?_ (Fr.mono (fr_Fm_copies (by with_reducible assumption)) mono_Fm_repack_1); try dsimp only) | (refine Fr.tr ?_ (Fr.mono (fr_Fm_plans (by with_reducible assumption)) mono_Fm_repack_2); try dsimp only) | (refine Fr.tr ?_ (Fr.mono (fr_Fm_rounds (by with_reducible assumption)) mono_Fm_repack_3); try dsimp only))
            · have h := (if_neg g0).symm.trans h
              by_cases g0 : v2 = (3 : Int32)
              · have h := (if_pos g0).symm.trans h
                obtain rfl := Option.some.inj h
                try dsimp only [elS]
                repeat' (with_reducible first | exact Fr.rf | refine Fr.I ?_ (by simp [fp_Fm_repack]) | refine Fr.L ?_ (by simp [fp_Fm_repack]) | refine Fr.cI ?_ (by intro j; simp [fp_Fm_repack]) | refine Fr.cL ?_ (by intro j; simp [fp_Fm_repack]) | (refine Fr.tr ?_ (Fr.mono (fr_Fm_aims (by with_reducible assumption)) mono_Fm_repack_0); try dsimp only) | (refine Fr.tr ?_ (Fr.mono (fr_Fm_copies (by with_reducible assumption)) mono_Fm_repack_1); try dsimp only) | (refine Fr.tr ?_ (Fr.mono (fr_Fm_plans (by with_reducible assumption)) mono_Fm_repack_2); try dsimp only) | (refine Fr.tr ?_ (Fr.mono (fr_Fm_rounds (by with_reducible assumption)) mono_Fm_repack_3); try dsimp only))
              · have h := (if_neg g0).symm.trans h
                by_cases g0 : v2 = (4 : Int32)
                · have h := (if_pos g0).symm.trans h
                  obtain rfl := Option.some.inj h
                  try dsimp only [elS]
                  repeat' (with_reducible first | exact Fr.rf | refine Fr.I ?_ (by simp [fp_Fm_repack]) | refine Fr.L ?_ (by simp [fp_Fm_repack]) | refine Fr.cI ?_ (by intro j; simp [fp_Fm_repack]) | refine Fr.cL ?_ (by intro j; simp [fp_Fm_repack]) | (refine Fr.tr ?_ (Fr.mono (fr_Fm_aims (by with_reducible assumption)) mono_Fm_repack_0); try dsimp only) | (refine Fr.tr ?_ (Fr.mono (fr_Fm_copies (by with_reducible assumption)) mono_Fm_repack_1); try dsimp only) | (refine Fr.tr ?_ (Fr.mono (fr_Fm_plans (by with_reducible assumption)) mono_Fm_repack_2); try dsimp only) | (refine Fr.tr ?_ (Fr.mono (fr_Fm_rounds (by with_reducible assumption)) mono_Fm_repack_3); try dsimp only))
                · have h := (if_neg g0).symm.trans h
                  obtain rfl := Option.some.inj h
                  try dsimp only [elS]
                  repeat' (with_reducible first | exact Fr.rf | refine Fr.I ?_ (by simp [fp_Fm_repack]) | refine Fr.L ?_ (by simp [fp_Fm_repack]) | refine Fr.cI ?_ (by intro j; simp [fp_Fm_repack]) | refine Fr.cL ?_ (by intro j; simp [fp_Fm_repack]) | (refine Fr.tr ?_ (Fr.mono (fr_Fm_aims (by with_reducible assumption)) mono_Fm_repack_0); try dsimp only) | (refine Fr.tr ?_ (Fr.mono (fr_Fm_copies (by with_reducible assumption)) mono_Fm_repack_1); try dsimp only) | (refine Fr.tr ?_ (Fr.mono (fr_Fm_plans (by with_reducible assumption)) mono_Fm_repack_2); try dsimp only) | (refine Fr.tr ?_ (Fr.mono (fr_Fm_rounds (by with_reducible assumption)) mono_Fm_repack_3); try dsimp only))
      · have h := (if_neg g0).symm.trans h
        obtain rfl := Option.some.inj h
        try dsimp only [elS]
        repeat' (with_reducible first | exact Fr.rf | refine Fr.I ?_ (by simp [fp_Fm_repack]) | refine Fr.L ?_ (by simp [fp_Fm_repack]) | refine Fr.cI ?_ (by intro j; simp [fp_Fm_repack]) | refine Fr.cL ?_ (by intro j; simp [fp_Fm_repack]) | (refine Fr.tr ?_ (Fr.mono (fr_Fm_aims (by with_reducible assumption)) mono_Fm_repack_0); try dsimp only) | (refine Fr.tr ?_ (Fr.mono (fr_Fm_copies (by with_reducible assumption)) mono_Fm_repack_1); try dsimp only) | (refine Fr.tr ?_ (Fr.mono (fr_Fm_plans (by with_reducible assumption)) mono_Fm_repack_2); try dsimp only) | (refine Fr.tr ?_ (Fr.mono (fr_Fm_rounds (by with_reducible assumption)) mono_Fm_repack_3); try dsimp only))
    · have h := (if_neg g0).symm.trans h
      obtain rfl := Option.some.inj h
      try dsimp only [elS]
      repeat' (with_reducible first | exact Fr.rf | refine Fr.I ?_ (by simp [fp_Fm_repack]) | refine Fr.L ?_ (by simp [fp_Fm_repack]) | refine Fr.cI ?_ (by intro j; simp [fp_Fm_repack]) | refine Fr.cL ?_ (by intro j; simp [fp_Fm_repack]) | (refine Fr.tr ?_ (Fr.mono (fr_Fm_aims (by with_reducible assumption)) mono_Fm_repack_0); try dsimp only) | (refine Fr.tr ?_ (Fr.mono (fr_Fm_copies (by with_reducible assumption)) mono_Fm_repack_1); try dsimp only) | (refine Fr.tr ?_ (Fr.mono (fr_Fm_plans (by with_reducible assumption)) mono_Fm_repack_2); try dsimp only) | (refine Fr.tr ?_ (Fr.mono (fr_Fm_rounds (by with_reducible assumption)) mono_Fm_repack_3); try dsimp only))
  · have h := (if_neg g0).symm.trans h
    obtain rfl := Option.some.inj h
    try dsimp only [elS]
    repeat' (with_reducible first | exact Fr.rf | refine Fr.I ?_ (by simp [fp_Fm_repack]) | refine Fr.L ?_ (by simp [fp_Fm_repack]) | refine Fr.cI ?_ (by intro j; simp [fp_Fm_repack]) | refine Fr.cL ?_ (by intro j; simp [fp_Fm_repack]) | (refine Fr.tr ?_ (Fr.mono (fr_Fm_aims (by with_reducible assumption)) mono_Fm_repack_0); try dsimp only) | (refine Fr.tr ?_ (Fr.mono (fr_Fm_copies (by with_reducible assumption)) mono_Fm_repack_1); try dsimp only) | (refine Fr.tr ?_ (Fr.mono (fr_Fm_plans (by with_reducible assumption)) mono_Fm_repack_2); try dsimp only) | (refine Fr.tr ?_ (Fr.mono (fr_Fm_rounds (by with_reducible assumption)) mono_Fm_repack_3); try dsimp only))
theorem mono_Fm_planned_0  : ∀ c j, fp_Fm_aims c j → fp_Fm_planned c j := fun c j => (fun h => h.elim (fun e => Or.inl e) (fun h => h.elim (fun e => Or.inr (Or.inl e)) (fun h => h.elim (fun e => Or.inr (Or.inr (Or.inl e))) (fun h => h.elim (fun e => Or.inr (Or.inr (Or.inr (Or.inl e)))) (fun h => h.elim (fun e => Or.inr (Or.inr (Or.inr (Or.inr (Or.inl e))))) (fun h => h.elim (fun e => Or.inr (Or.inr (Or.inr (Or.inr (Or.inr (Or.inl e)))))) (fun h => h.elim (fun e => Or.inr (Or.inr (Or.inr (Or.inr (Or.inr (Or.inr (Or.inl e))))))) (fun h => h.elim (fun e => Or.inr (Or.inr (Or.inr (Or.inr (Or.inr (Or.inr (Or.inr (Or.inr (Or.inl e))))))))) (fun h => h.elim (fun e => Or.inr (Or.inr (Or.inr (Or.inr (Or.inr (Or.inr (Or.inr (Or.inr (Or.inr (Or.inl e)))))))))) (fun h => h.elim (fun e => Or.inr (Or.inr (Or.inr (Or.inr (Or.inr (Or.inr (Or.inr (Or.inr (Or.inr (Or.inr (Or.inl e))))))))))) (fun h => h.elim (fun e => Or.inr (Or.inr (Or.inr (Or.inr (Or.inr (Or.inr (Or.inr (Or.inr (Or.inr (Or.inr (Or.inr (Or.inl e)))))))))))) (fun h => h.elim (fun e => Or.inr (Or.inr (Or.inr (Or.inr (Or.inr (Or.inr (Or.inr (Or.inr (Or.inr (Or.inr (Or.inr (Or.inr (Or.inl e))))))))))))) (fun h => h.elim (fun e => Or.inr (Or.inr (Or.inr (Or.inr (Or.inr (Or.inr (Or.inr (Or.inr (Or.inr (Or.inr (Or.inr (Or.inr (Or.inr (Or.inl e)))))))))))))) (fun h => h.elim (fun e => Or.inr (Or.inr (Or.inr (Or.inr (Or.inr (Or.inr (Or.inr (Or.inr (Or.inr (Or.inr (Or.inr (Or.inr (Or.inr (Or.inr (Or.inl e))))))))))))))) (fun h => h.elim (fun e => Or.inr (Or.inr (Or.inr (Or.inr (Or.inr (Or.inr (Or.inr (Or.inr (Or.inr (Or.inr (Or.inr (Or.inr (Or.inr (Or.inr (Or.inr (Or.inl e)))))))))))))))) (fun h => h.elim (fun e => Or.inr (Or.inr (Or.inr (Or.inr (Or.inr (Or.inr (Or.inr (Or.inr (Or.inr (Or.inr (Or.inr (Or.inr (Or.inr (Or.inr (Or.inr (Or.inr (Or.inl e))))))))))))))))) (fun h => h.elim (fun e => Or.inr (Or.inr (Or.inr (Or.inr (Or.inr (Or.inr (Or.inr (Or.inr (Or.inr (Or.inr (Or.inr (Or.inr (Or.inr (Or.inr (Or.inr (Or.inr (Or.inr (Or.inl e)))))))))))))))))) (fun h => h.elim (fun e => Or.inr (Or.inr (Or.inr (Or.inr (Or.inr (Or.inr (Or.inr (Or.inr (Or.inr (Or.inr (Or.inr (Or.inr (Or.inr (Or.inr (Or.inr (Or.inr (Or.inr (Or.inr (Or.inl e))))))))))))))))))) (fun h => h.elim (fun e => Or.inr (Or.inr (Or.inr (Or.inr (Or.inr (Or.inr (Or.inr (Or.inr (Or.inr (Or.inr (Or.inr (Or.inr (Or.inr (Or.inr (Or.inr (Or.inr (Or.inr (Or.inr (Or.inr (Or.inl e)))))))))))))))))))) (fun h => h.elim (fun e => Or.inr (Or.inr (Or.inr (Or.inr (Or.inr (Or.inr (Or.inr (Or.inr (Or.inr (Or.inr (Or.inr (Or.inr (Or.inr (Or.inr (Or.inr (Or.inr (Or.inr (Or.inr (Or.inr (Or.inr (Or.inl e))))))))))))))))))))) (fun e => Or.inr (Or.inr (Or.inr (Or.inr (Or.inr (Or.inr (Or.inr (Or.inr (Or.inr (Or.inr (Or.inr (Or.inr (Or.inr (Or.inr (Or.inr (Or.inr (Or.inr (Or.inr (Or.inr (Or.inr (Or.inr (e))))))))))))))))))))))))))))))))))))))))))
theorem mono_Fm_planned_1  : ∀ c j, fp_Fm_copies c j → fp_Fm_planned c j := fun c j => (fun e => Or.inr (Or.inr (Or.inr (Or.inr (Or.inr (Or.inr (Or.inr (Or.inr (Or.inr (Or.inr (Or.inr (Or.inr (Or.inr (Or.inr (Or.inr (Or.inr (Or.inr (Or.inr (Or.inr (Or.inl e))))))))))))))))))))
theorem mono_Fm_planned_2  : ∀ c j, fp_Fm_plans c j → fp_Fm_planned c j := fun c j => (fun h => h.elim (fun e => Or.inr (Or.inr (Or.inr (Or.inr (Or.inr (Or.inr (Or.inr (Or.inl e)))))))) (fun h => h.elim (fun e => Or.inr (Or.inr (Or.inr (Or.inr (Or.inr (Or.inr (Or.inr (Or.inr (Or.inr (Or.inl e)))))))))) (fun h => h.elim (fun e => Or.inr (Or.inr (Or.inr (Or.inr (Or.inr (Or.inr (Or.inr (Or.inr (Or.inr (Or.inr (Or.inr (Or.inr (Or.inr (Or.inr (Or.inr (Or.inr (Or.inr (Or.inl e)))))))))))))))))) (fun e => Or.inr (Or.inr (Or.inr (Or.inr (Or.inr (Or.inr (Or.inr (Or.inr (Or.inr (Or.inr (Or.inr (Or.inr (Or.inr (Or.inr (Or.inr (Or.inr (Or.inr (Or.inr (Or.inr (Or.inl e)))))))))))))))))))))))
theorem fr_Fm_planned {n : Nat} {v1 : Int32} {v2 : Int32} {v3 : Int32} {M : Mm} {oo : Int32 × Mm} (h : Fm_planned n v1 v2 v3 M = some oo) : Fr (fp_Fm_planned) M oo.2 := by
  unfold Fm_planned at h
  obtain ⟨z1, _, h⟩ := bnd_s h
  by_cases g0 : z1 = true
  · have h := (if_pos g0).symm.trans h
    by_cases g0 : v2 < (0 : Int32)
    · have h := (if_pos g0).symm.trans h
      obtain rfl := Option.some.inj h
      try dsimp only [elS]
      repeat' (with_reducible first | exact Fr.rf | refine Fr.I ?_ (by simp [fp_Fm_planned]) | refine Fr.L ?_ (by simp [fp_Fm_planned]) | refine Fr.cI ?_ (by intro j; simp [fp_Fm_planned]) | refine Fr.cL ?_ (by intro j; simp [fp_Fm_planned]) | (refine Fr.tr ?_ (Fr.mono (fr_Fm_aims (by with_reducible assumption)) mono_Fm_planned_0); try dsimp only) | (refine Fr.tr ?_ (Fr.mono (fr_Fm_copies (by with_reducible assumption)) mono_Fm_planned_1); try dsimp only) | (refine Fr.tr ?_ (Fr.mono (fr_Fm_plans (by with_reducible assumption)) mono_Fm_planned_2); try dsimp only))
    · have h := (if_neg g0).symm.trans h
      obtain ⟨z5, _, h⟩ := bnd_s h
      by_cases g0 : z5 = true
      · have h := (if_pos g0).symm.trans h
        obtain ⟨z8, _, h⟩ := bnd_s h
        by_cases g0 : z8.1 = true
        · have h := (if_pos g0).symm.trans h
          obtain ⟨z11, _, h⟩ := bnd_s h
          obtain ⟨z13, _, h⟩ := bnd_s h
          obtain ⟨z15, _, h⟩ := bnd_s h
          by_cases g0 : v2 < (z15.1 94 33)
          · have h := (if_pos g0).symm.trans h
            obtain ⟨_, h⟩ := grd_s h
            by_cases g0 : v3 = (0 : Int32)
            · have h := (if_pos g0).symm.trans h
              obtain rfl := Option.some.inj h
              try dsimp only [elS]
              repeat' (with_reducible first | exact Fr.rf | refine Fr.I ?_ (by simp [fp_Fm_planned]) | refine Fr.L ?_ (by simp [fp_Fm_planned]) | refine Fr.cI ?_ (by intro j; simp [fp_Fm_planned]) | refine Fr.cL ?_ (by intro j; simp [fp_Fm_planned]) | (refine Fr.tr ?_ (Fr.mono (fr_Fm_aims (by with_reducible assumption)) mono_Fm_planned_0); try dsimp only) | (refine Fr.tr ?_ (Fr.mono (fr_Fm_copies (by with_reducible assumption)) mono_Fm_planned_1); try dsimp only) | (refine Fr.tr ?_ (Fr.mono (fr_Fm_plans (by with_reducible assumption)) mono_Fm_planned_2); try dsimp only))
            · have h := (if_neg g0).symm.trans h
              by_cases g0 : v3 = (1 : Int32)
              · have h := (if_pos g0).symm.trans h
                obtain ⟨_, h⟩ := grd_s h
                obtain rfl := Option.some.inj h
                try dsimp only [elS]
                repeat' (with_reducible first | exact Fr.rf | refine Fr.I ?_ (by simp [fp_Fm_planned]) | refine Fr.L ?_ (by simp [fp_Fm_planned]) | refine Fr.cI ?_ (by intro j; simp [fp_Fm_planned]) | refine Fr.cL ?_ (by intro j; simp [fp_Fm_planned]) | (refine Fr.tr ?_ (Fr.mono (fr_Fm_aims (by with_reducible assumption)) mono_Fm_planned_0); try dsimp only) | (refine Fr.tr ?_ (Fr.mono (fr_Fm_copies (by with_reducible assumption)) mono_Fm_planned_1); try dsimp only) | (refine Fr.tr ?_ (Fr.mono (fr_Fm_plans (by with_reducible assumption)) mono_Fm_planned_2); try dsimp only))
              · have h := (if_neg g0).symm.trans h
                obtain ⟨_, h⟩ := grd_s h
                obtain rfl := Option.some.inj h
                try dsimp only [elS]
                repeat' (with_reducible first | exact Fr.rf | refine Fr.I ?_ (by simp [fp_Fm_planned]) | refine Fr.L ?_ (by simp [fp_Fm_planned]) | refine Fr.cI ?_ (by intro j; simp [fp_Fm_planned]) | refine Fr.cL ?_ (by intro j; simp [fp_Fm_planned]) | (refine Fr.tr ?_ (Fr.mono (fr_Fm_aims (by with_reducible assumption)) mono_Fm_planned_0); try dsimp only) | (refine Fr.tr ?_ (Fr.mono (fr_Fm_copies (by with_reducible assumption)) mono_Fm_planned_1); try dsimp only) | (refine Fr.tr ?_ (Fr.mono (fr_Fm_plans (by with_reducible assumption)) mono_Fm_planned_2); try dsimp only))
          · have h := (if_neg g0).symm.trans h
            obtain rfl := Option.some.inj h
            try dsimp only [elS]
            repeat' (with_reducible first | exact Fr.rf | refine Fr.I ?_ (by simp [fp_Fm_planned]) | refine Fr.L ?_ (by simp [fp_Fm_planned]) | refine Fr.cI ?_ (by intro j; simp [fp_Fm_planned]) | refine Fr.cL ?_ (by intro j; simp [fp_Fm_planned]) | (refine Fr.tr ?_ (Fr.mono (fr_Fm_aims (by with_reducible assumption)) mono_Fm_planned_0); try dsimp only) | (refine Fr.tr ?_ (Fr.mono (fr_Fm_copies (by with_reducible assumption)) mono_Fm_planned_1); try dsimp only) | (refine Fr.tr ?_ (Fr.mono (fr_Fm_plans (by with_reducible assumption)) mono_Fm_planned_2); try dsimp only))
        · have h := (if_neg g0).symm.trans h
          obtain rfl := Option.some.inj h
          try dsimp only [elS]
          repeat' (with_reducible first | exact Fr.rf | refine Fr.I ?_ (by simp [fp_Fm_planned]) | refine Fr.L ?_ (by simp [fp_Fm_planned]) | refine Fr.cI ?_ (by intro j; simp [fp_Fm_planned]) | refine Fr.cL ?_ (by intro j; simp [fp_Fm_planned]) | (refine Fr.tr ?_ (Fr.mono (fr_Fm_aims (by with_reducible assumption)) mono_Fm_planned_0); try dsimp only) | (refine Fr.tr ?_ (Fr.mono (fr_Fm_copies (by with_reducible assumption)) mono_Fm_planned_1); try dsimp only) | (refine Fr.tr ?_ (Fr.mono (fr_Fm_plans (by with_reducible assumption)) mono_Fm_planned_2); try dsimp only))
      · have h := (if_neg g0).symm.trans h
        obtain rfl := Option.some.inj h
        try dsimp only [elS]
        repeat' (with_reducible first | exact Fr.rf | refine Fr.I ?_ (by simp [fp_Fm_planned]) | refine Fr.L ?_ (by simp [fp_Fm_planned]) | refine Fr.cI ?_ (by intro j; simp [fp_Fm_planned]) | refine Fr.cL ?_ (by intro j; simp [fp_Fm_planned]) | (refine Fr.tr ?_ (Fr.mono (fr_Fm_aims (by with_reducible assumption)) mono_Fm_planned_0); try dsimp only) | (refine Fr.tr ?_ (Fr.mono (fr_Fm_copies (by with_reducible assumption)) mono_Fm_planned_1); try dsimp only) | (refine Fr.tr ?_ (Fr.mono (fr_Fm_plans (by with_reducible assumption)) mono_Fm_planned_2); try dsimp only))
  · have h := (if_neg g0).symm.trans h
    obtain rfl := Option.some.inj h
    try dsimp only [elS]
    repeat' (with_reducible first | exact Fr.rf | refine Fr.I ?_ (by simp [fp_Fm_planned]) | refine Fr.L ?_ (by simp [fp_Fm_planned]) | refine Fr.cI ?_ (by intro j; simp [fp_Fm_planned]) | refine Fr.cL ?_ (by intro j; simp [fp_Fm_planned]) | (refine Fr.tr ?_ (Fr.mono (fr_Fm_aims (by with_reducible assumption)) mono_Fm_planned_0); try dsimp only) | (refine Fr.tr ?_ (Fr.mono (fr_Fm_copies (by with_reducible assumption)) mono_Fm_planned_1); try dsimp only) | (refine Fr.tr ?_ (Fr.mono (fr_Fm_plans (by with_reducible assumption)) mono_Fm_planned_2); try dsimp only))
theorem mono_Fm_waits_0  : ∀ c j, fp_Fm_aims c j → fp_Fm_waits c j := fun c j => (fun h => h.elim (fun e => Or.inl e) (fun h => h.elim (fun e => Or.inr (Or.inl e)) (fun h => h.elim (fun e => Or.inr (Or.inr (Or.inl e))) (fun h => h.elim (fun e => Or.inr (Or.inr (Or.inr (Or.inl e)))) (fun h => h.elim (fun e => Or.inr (Or.inr (Or.inr (Or.inr (Or.inl e))))) (fun h => h.elim (fun e => Or.inr (Or.inr (Or.inr (Or.inr (Or.inr (Or.inl e)))))) (fun h => h.elim (fun e => Or.inr (Or.inr (Or.inr (Or.inr (Or.inr (Or.inr (Or.inl e))))))) (fun h => h.elim (fun e => Or.inr (Or.inr (Or.inr (Or.inr (Or.inr (Or.inr (Or.inr (Or.inl e)))))))) (fun h => h.elim (fun e => Or.inr (Or.inr (Or.inr (Or.inr (Or.inr (Or.inr (Or.inr (Or.inr (Or.inl e))))))))) (fun h => h.elim (fun e => Or.inr (Or.inr (Or.inr (Or.inr (Or.inr (Or.inr (Or.inr (Or.inr (Or.inr (Or.inl e)))))))))) (fun h => h.elim (fun e => Or.inr (Or.inr (Or.inr (Or.inr (Or.inr (Or.inr (Or.inr (Or.inr (Or.inr (Or.inr (Or.inl e))))))))))) (fun h => h.elim (fun e => Or.inr (Or.inr (Or.inr (Or.inr (Or.inr (Or.inr (Or.inr (Or.inr (Or.inr (Or.inr (Or.inr (Or.inl e)))))))))))) (fun h => h.elim (fun e => Or.inr (Or.inr (Or.inr (Or.inr (Or.inr (Or.inr (Or.inr (Or.inr (Or.inr (Or.inr (Or.inr (Or.inr (Or.inl e))))))))))))) (fun h => h.elim (fun e => Or.inr (Or.inr (Or.inr (Or.inr (Or.inr (Or.inr (Or.inr (Or.inr (Or.inr (Or.inr (Or.inr (Or.inr (Or.inr (Or.inl e)))))))))))))) (fun h => h.elim (fun e => Or.inr (Or.inr (Or.inr (Or.inr (Or.inr (Or.inr (Or.inr (Or.inr (Or.inr (Or.inr (Or.inr (Or.inr (Or.inr (Or.inr (Or.inl e))))))))))))))) (fun h => h.elim (fun e => Or.inr (Or.inr (Or.inr (Or.inr (Or.inr (Or.inr (Or.inr (Or.inr (Or.inr (Or.inr (Or.inr (Or.inr (Or.inr (Or.inr (Or.inr (Or.inl e)))))))))))))))) (fun h => h.elim (fun e => Or.inr (Or.inr (Or.inr (Or.inr (Or.inr (Or.inr (Or.inr (Or.inr (Or.inr (Or.inr (Or.inr (Or.inr (Or.inr (Or.inr (Or.inr (Or.inr (Or.inl e))))))))))))))))) (fun h => h.elim (fun e => Or.inr (Or.inr (Or.inr (Or.inr (Or.inr (Or.inr (Or.inr (Or.inr (Or.inr (Or.inr (Or.inr (Or.inr (Or.inr (Or.inr (Or.inr (Or.inr (Or.inr (Or.inl e)))))))))))))))))) (fun h => h.elim (fun e => Or.inr (Or.inr (Or.inr (Or.inr (Or.inr (Or.inr (Or.inr (Or.inr (Or.inr (Or.inr (Or.inr (Or.inr (Or.inr (Or.inr (Or.inr (Or.inr (Or.inr (Or.inr (Or.inl e))))))))))))))))))) (fun h => h.elim (fun e => Or.inr (Or.inr (Or.inr (Or.inr (Or.inr (Or.inr (Or.inr (Or.inr (Or.inr (Or.inr (Or.inr (Or.inr (Or.inr (Or.inr (Or.inr (Or.inr (Or.inr (Or.inr (Or.inr (Or.inl e)))))))))))))))))))) (fun e => Or.inr (Or.inr (Or.inr (Or.inr (Or.inr (Or.inr (Or.inr (Or.inr (Or.inr (Or.inr (Or.inr (Or.inr (Or.inr (Or.inr (Or.inr (Or.inr (Or.inr (Or.inr (Or.inr (Or.inr (e)))))))))))))))))))))))))))))))))))))))))
theorem fr_Fm_waits {n : Nat} {v1 : Int32} {v2 : Int32} {M : Mm} {oo : Int32 × Mm} (h : Fm_waits n v1 v2 M = some oo) : Fr (fp_Fm_waits) M oo.2 := by
  unfold Fm_waits at h
  obtain ⟨z1, _, h⟩ := bnd_s h
  by_cases g0 : z1 = true
  · have h := (if_pos g0).symm.trans h
    obtain ⟨z4, _, h⟩ := bnd_s h
    by_cases g0 : z4 = true
    · have h := (if_pos g0).symm.trans h
      obtain ⟨z7, _, h⟩ := bnd_s h
      by_cases g0 : z7.1 = true
      · have h := (if_pos g0).symm.trans h
        obtain ⟨_, h⟩ := grd_s h
        by_cases g0 : (z7.2.1 109 (tn v2)) = (0 : Int32)
        · have h := (if_pos g0).symm.trans h
          obtain rfl := Option.some.inj h
          try dsimp only [elS]
          repeat' (with_reducible first | exact Fr.rf | refine Fr.I ?_ (by simp [fp_Fm_waits]) | refine Fr.L ?_ (by simp [fp_Fm_waits]) | refine Fr.cI ?_ (by intro j; simp [fp_Fm_waits]) | refine Fr.cL ?_ (by intro j; simp [fp_Fm_waits]) | (refine Fr.tr ?_ (Fr.mono (fr_Fm_aims (by with_reducible assumption)) mono_Fm_waits_0); try dsimp only))
        · have h := (if_neg g0).symm.trans h
          obtain ⟨z12, _, h⟩ := bnd_s h
          obtain rfl := Option.some.inj h
          try dsimp only [elS]
          repeat' (with_reducible first | exact Fr.rf | refine Fr.I ?_ (by simp [fp_Fm_waits]) | refine Fr.L ?_ (by simp [fp_Fm_waits]) | refine Fr.cI ?_ (by intro j; simp [fp_Fm_waits]) | refine Fr.cL ?_ (by intro j; simp [fp_Fm_waits]) | (refine Fr.tr ?_ (Fr.mono (fr_Fm_aims (by with_reducible assumption)) mono_Fm_waits_0); try dsimp only))
      · have h := (if_neg g0).symm.trans h
        obtain rfl := Option.some.inj h
        try dsimp only [elS]
        repeat' (with_reducible first | exact Fr.rf | refine Fr.I ?_ (by simp [fp_Fm_waits]) | refine Fr.L ?_ (by simp [fp_Fm_waits]) | refine Fr.cI ?_ (by intro j; simp [fp_Fm_waits]) | refine Fr.cL ?_ (by intro j; simp [fp_Fm_waits]) | (refine Fr.tr ?_ (Fr.mono (fr_Fm_aims (by with_reducible assumption)) mono_Fm_waits_0); try dsimp only))
    · have h := (if_neg g0).symm.trans h
      obtain rfl := Option.some.inj h
      try dsimp only [elS]
      repeat' (with_reducible first | exact Fr.rf | refine Fr.I ?_ (by simp [fp_Fm_waits]) | refine Fr.L ?_ (by simp [fp_Fm_waits]) | refine Fr.cI ?_ (by intro j; simp [fp_Fm_waits]) | refine Fr.cL ?_ (by intro j; simp [fp_Fm_waits]) | (refine Fr.tr ?_ (Fr.mono (fr_Fm_aims (by with_reducible assumption)) mono_Fm_waits_0); try dsimp only))
  · have h := (if_neg g0).symm.trans h
    obtain rfl := Option.some.inj h
    try dsimp only [elS]
    repeat' (with_reducible first | exact Fr.rf | refine Fr.I ?_ (by simp [fp_Fm_waits]) | refine Fr.L ?_ (by simp [fp_Fm_waits]) | refine Fr.cI ?_ (by intro j; simp [fp_Fm_waits]) | refine Fr.cL ?_ (by intro j; simp [fp_Fm_waits]) | (refine Fr.tr ?_ (Fr.mono (fr_Fm_aims (by with_reducible assumption)) mono_Fm_waits_0); try dsimp only))
theorem mono_Fm_parks_0  : ∀ c j, fp_Fm_sets c j → fp_Fm_parks c j := fun c j => (fun e => Or.inr (Or.inr (e)))
theorem fr_Fm_parks_j72 {v1 : Int32} {Mc : Mm} {oo : (Int32) ⊕ ((Unit) ⊕ (Bool × Mm))} (h : Fm_parks_j72 v1 = some oo) : Fr (fp_Fm_parks) Mc (elS oo (fun s1 => Mc) (fun y1 => elS y1 (fun x1 => Mc) (fun z1 => z1.2))) := by
  unfold Fm_parks_j72 at h
  obtain rfl := Option.some.inj h
  try dsimp only [elS]
  repeat' (with_reducible first | exact Fr.rf | refine Fr.I ?_ (by simp [fp_Fm_parks]) | refine Fr.L ?_ (by simp [fp_Fm_parks]) | refine Fr.cI ?_ (by intro j; simp [fp_Fm_parks]) | refine Fr.cL ?_ (by intro j; simp [fp_Fm_parks]) | (refine Fr.tr ?_ (Fr.mono (fr_Fm_sets (by with_reducible assumption)) mono_Fm_parks_0); try dsimp only))
theorem fr_Fm_parks_b2 {n : Nat} {Mc : Mm} {v1 : Int32} {oo : (Int32) ⊕ ((Unit) ⊕ (Bool × Mm))} (h : Fm_parks_b2 n Mc v1 = some oo) : Fr (fp_Fm_parks) Mc (elS oo (fun s1 => Mc) (fun y1 => elS y1 (fun x1 => Mc) (fun z1 => z1.2))) := by
  unfold Fm_parks_b2 at h
  obtain ⟨_, h⟩ := grd_s h
  by_cases g0 : (Mc.1 95 (tn (7 : Int32))) ≤ v1
  · have h := (if_pos g0).symm.trans h
    obtain rfl := Option.some.inj h
    try dsimp only [elS]
    repeat' (with_reducible first | exact Fr.rf | refine Fr.I ?_ (by simp [fp_Fm_parks]) | refine Fr.L ?_ (by simp [fp_Fm_parks]) | refine Fr.cI ?_ (by intro j; simp [fp_Fm_parks]) | refine Fr.cL ?_ (by intro j; simp [fp_Fm_parks]) | (refine Fr.tr ?_ (Fr.mono (fr_Fm_sets (by with_reducible assumption)) mono_Fm_parks_0); try dsimp only))
  · have h := (if_neg g0).symm.trans h
    obtain ⟨z3, _, h⟩ := bnd_s h
    by_cases g0 : z3 = true
    · have h := (if_pos g0).symm.trans h
      obtain ⟨_, h⟩ := grd_s h
      by_cases g0 : (Mc.1 111 (tn v1)) = (0 : Int32)
      · have h := (if_pos g0).symm.trans h
        obtain ⟨z8, _, h⟩ := bnd_s h
        by_cases g0 : z8 = (-1 : Int32)
        · have h := (if_pos g0).symm.trans h
          refine Fr.tr ?_ (fr_Fm_parks_j72 h)
          try dsimp only [elS]
          repeat' (with_reducible first | exact Fr.rf | refine Fr.I ?_ (by simp [fp_Fm_parks]) | refine Fr.L ?_ (by simp [fp_Fm_parks]) | refine Fr.cI ?_ (by intro j; simp [fp_Fm_parks]) | refine Fr.cL ?_ (by intro j; simp [fp_Fm_parks]) | (refine Fr.tr ?_ (Fr.mono (fr_Fm_sets (by with_reducible assumption)) mono_Fm_parks_0); try dsimp only))
        · have h := (if_neg g0).symm.trans h
          obtain ⟨z11, _, h⟩ := bnd_s h
          obtain ⟨z13, _, h⟩ := bnd_s h
          obtain ⟨_, h⟩ := grd_s h
          obtain rfl := Option.some.inj h
          try dsimp only [elS]
          repeat' (with_reducible first | exact Fr.rf | refine Fr.I ?_ (by simp [fp_Fm_parks]) | refine Fr.L ?_ (by simp [fp_Fm_parks]) | refine Fr.cI ?_ (by intro j; simp [fp_Fm_parks]) | refine Fr.cL ?_ (by intro j; simp [fp_Fm_parks]) | (refine Fr.tr ?_ (Fr.mono (fr_Fm_sets (by with_reducible assumption)) mono_Fm_parks_0); try dsimp only))
      · have h := (if_neg g0).symm.trans h
        refine Fr.tr ?_ (fr_Fm_parks_j72 h)
        try dsimp only [elS]
        repeat' (with_reducible first | exact Fr.rf | refine Fr.I ?_ (by simp [fp_Fm_parks]) | refine Fr.L ?_ (by simp [fp_Fm_parks]) | refine Fr.cI ?_ (by intro j; simp [fp_Fm_parks]) | refine Fr.cL ?_ (by intro j; simp [fp_Fm_parks]) | (refine Fr.tr ?_ (Fr.mono (fr_Fm_sets (by with_reducible assumption)) mono_Fm_parks_0); try dsimp only))
    · have h := (if_neg g0).symm.trans h
      refine Fr.tr ?_ (fr_Fm_parks_j72 h)
      try dsimp only [elS]
      repeat' (with_reducible first | exact Fr.rf | refine Fr.I ?_ (by simp [fp_Fm_parks]) | refine Fr.L ?_ (by simp [fp_Fm_parks]) | refine Fr.cI ?_ (by intro j; simp [fp_Fm_parks]) | refine Fr.cL ?_ (by intro j; simp [fp_Fm_parks]) | (refine Fr.tr ?_ (Fr.mono (fr_Fm_sets (by with_reducible assumption)) mono_Fm_parks_0); try dsimp only))
theorem frl_Fm_parks_b2 {n : Nat} {Mc : Mm}  {n1 : Nat} {s0 : Int32} {y1 : (Unit) ⊕ (Bool × Mm)} (h : loop (fun s1 : Int32 => Fm_parks_b2 n Mc s1) n1 s0 = some y1) : Fr (fp_Fm_parks) Mc (elS y1 (fun x1 => Mc) (fun z1 => z1.2)) :=
  loop_inv (P := fun s2 : Int32 => Fr (fp_Fm_parks) Mc Mc) (E := fun y1 : (Unit) ⊕ (Bool × Mm) => Fr (fp_Fm_parks) Mc (elS y1 (fun x1 => Mc) (fun z1 => z1.2))) (fun _ _ _ _ => Fr.rf) (fun s2 x2 hP hb => hP.tr (fr_Fm_parks_b2 hb)) n1 s0 y1 h Fr.rf
theorem fr_Fm_parks {n : Nat} {M : Mm} {oo : Bool × Mm} (h : Fm_parks n M = some oo) : Fr (fp_Fm_parks) M oo.2 := by
  unfold Fm_parks at h
  obtain ⟨y16, _, h⟩ := bnd_s h
  cases y16 with
  | inl x17 =>
    obtain rfl := Option.some.inj h
    try dsimp only [elS]
    repeat' (with_reducible first | exact Fr.rf | refine Fr.I ?_ (by simp [fp_Fm_parks]) | refine Fr.L ?_ (by simp [fp_Fm_parks]) | refine Fr.cI ?_ (by intro j; simp [fp_Fm_parks]) | refine Fr.cL ?_ (by intro j; simp [fp_Fm_parks]) | (refine Fr.tr ?_ (Fr.mono (fr_Fm_sets (by with_reducible assumption)) mono_Fm_parks_0); try dsimp only) | (refine Fr.tr ?_ (frl_Fm_parks_b2 (by with_reducible assumption)); try dsimp only))
  | inr e18 =>
    obtain rfl := Option.some.inj h
    try dsimp only [elS]
    repeat' (with_reducible first | exact Fr.rf | refine Fr.I ?_ (by simp [fp_Fm_parks]) | refine Fr.L ?_ (by simp [fp_Fm_parks]) | refine Fr.cI ?_ (by intro j; simp [fp_Fm_parks]) | refine Fr.cL ?_ (by intro j; simp [fp_Fm_parks]) | (refine Fr.tr ?_ (Fr.mono (fr_Fm_sets (by with_reducible assumption)) mono_Fm_parks_0); try dsimp only) | (refine Fr.tr ?_ (frl_Fm_parks_b2 (by with_reducible assumption)); try dsimp only))
theorem mono_Fm_unravel_0  : ∀ c j, fp_Fm_aims c j → fp_Fm_unravel c j := fun c j => (fun h => h.elim (fun e => Or.inl e) (fun h => h.elim (fun e => Or.inr (Or.inl e)) (fun h => h.elim (fun e => Or.inr (Or.inr (Or.inl e))) (fun h => h.elim (fun e => Or.inr (Or.inr (Or.inr (Or.inl e)))) (fun h => h.elim (fun e => Or.inr (Or.inr (Or.inr (Or.inr (Or.inl e))))) (fun h => h.elim (fun e => Or.inr (Or.inr (Or.inr (Or.inr (Or.inr (Or.inl e)))))) (fun h => h.elim (fun e => Or.inr (Or.inr (Or.inr (Or.inr (Or.inr (Or.inr (Or.inl e))))))) (fun h => h.elim (fun e => Or.inr (Or.inr (Or.inr (Or.inr (Or.inr (Or.inr (Or.inr (Or.inr (Or.inl e))))))))) (fun h => h.elim (fun e => Or.inr (Or.inr (Or.inr (Or.inr (Or.inr (Or.inr (Or.inr (Or.inr (Or.inr (Or.inl e)))))))))) (fun h => h.elim (fun e => Or.inr (Or.inr (Or.inr (Or.inr (Or.inr (Or.inr (Or.inr (Or.inr (Or.inr (Or.inr (Or.inl e))))))))))) (fun h => h.elim (fun e => Or.inr (Or.inr (Or.inr (Or.inr (Or.inr (Or.inr (Or.inr (Or.inr (Or.inr (Or.inr (Or.inr (Or.inl e)))))))))))) (fun h => h.elim (fun e => Or.inr (Or.inr (Or.inr (Or.inr (Or.inr (Or.inr (Or.inr (Or.inr (Or.inr (Or.inr (Or.inr (Or.inr (Or.inl e))))))))))))) (fun h => h.elim (fun e => Or.inr (Or.inr (Or.inr (Or.inr (Or.inr (Or.inr (Or.inr (Or.inr (Or.inr (Or.inr (Or.inr (Or.inr (Or.inr (Or.inl e)))))))))))))) (fun h => h.elim (fun e => Or.inr (Or.inr (Or.inr (Or.inr (Or.inr (Or.inr (Or.inr (Or.inr (Or.inr (Or.inr (Or.inr (Or.inr (Or.inr (Or.inr (Or.inl e))))))))))))))) (fun h => h.elim (fun e => Or.inr (Or.inr (Or.inr (Or.inr (Or.inr (Or.inr (Or.inr (Or.inr (Or.inr (Or.inr (Or.inr (Or.inr (Or.inr (Or.inr (Or.inr (Or.inl e)))))))))))))))) (fun h => h.elim (fun e => Or.inr (Or.inr (Or.inr (Or.inr (Or.inr (Or.inr (Or.inr (Or.inr (Or.inr (Or.inr (Or.inr (Or.inr (Or.inr (Or.inr (Or.inr (Or.inr (Or.inl e))))))))))))))))) (fun h => h.elim (fun e => Or.inr (Or.inr (Or.inr (Or.inr (Or.inr (Or.inr (Or.inr (Or.inr (Or.inr (Or.inr (Or.inr (Or.inr (Or.inr (Or.inr (Or.inr (Or.inr (Or.inr (Or.inl e)))))))))))))))))) (fun h => h.elim (fun e => Or.inr (Or.inr (Or.inr (Or.inr (Or.inr (Or.inr (Or.inr (Or.inr (Or.inr (Or.inr (Or.inr (Or.inr (Or.inr (Or.inr (Or.inr (Or.inr (Or.inr (Or.inr (Or.inl e))))))))))))))))))) (fun h => h.elim (fun e => Or.inr (Or.inr (Or.inr (Or.inr (Or.inr (Or.inr (Or.inr (Or.inr (Or.inr (Or.inr (Or.inr (Or.inr (Or.inr (Or.inr (Or.inr (Or.inr (Or.inr (Or.inr (Or.inr (Or.inl e)))))))))))))))))))) (fun h => h.elim (fun e => Or.inr (Or.inr (Or.inr (Or.inr (Or.inr (Or.inr (Or.inr (Or.inr (Or.inr (Or.inr (Or.inr (Or.inr (Or.inr (Or.inr (Or.inr (Or.inr (Or.inr (Or.inr (Or.inr (Or.inr (Or.inl e))))))))))))))))))))) (fun e => Or.inr (Or.inr (Or.inr (Or.inr (Or.inr (Or.inr (Or.inr (Or.inr (Or.inr (Or.inr (Or.inr (Or.inr (Or.inr (Or.inr (Or.inr (Or.inr (Or.inr (Or.inr (Or.inr (Or.inr (Or.inr (e))))))))))))))))))))))))))))))))))))))))))
theorem mono_Fm_unravel_1  : ∀ c j, fp_Fm_copies c j → fp_Fm_unravel c j := fun c j => (fun e => Or.inr (Or.inr (Or.inr (Or.inr (Or.inr (Or.inr (Or.inr (Or.inr (Or.inr (Or.inr (Or.inr (Or.inr (Or.inr (Or.inr (Or.inr (Or.inr (Or.inr (Or.inr (Or.inr (Or.inl e))))))))))))))))))))
theorem mono_Fm_unravel_2  : ∀ c j, fp_Fm_parks c j → fp_Fm_unravel c j := fun c j => (fun h => h.elim (fun e => Or.inr (Or.inr (Or.inr (Or.inr (Or.inr (Or.inr (Or.inr (Or.inr (Or.inr (Or.inr (Or.inl e))))))))))) (fun h => h.elim (fun e => Or.inr (Or.inr (Or.inr (Or.inr (Or.inr (Or.inr (Or.inr (Or.inr (Or.inr (Or.inr (Or.inr (Or.inr (Or.inr (Or.inr (Or.inr (Or.inr (Or.inr (Or.inr (Or.inl e))))))))))))))))))) (fun e => Or.inr (Or.inr (Or.inr (Or.inr (Or.inr (Or.inr (Or.inr (Or.inr (Or.inr (Or.inr (Or.inr (Or.inr (Or.inr (Or.inr (Or.inr (Or.inr (Or.inr (Or.inr (Or.inr (Or.inl e))))))))))))))))))))))
theorem mono_Fm_unravel_3  : ∀ c j, fp_Fm_plans c j → fp_Fm_unravel c j := fun c j => (fun h => h.elim (fun e => Or.inr (Or.inr (Or.inr (Or.inr (Or.inr (Or.inr (Or.inr (Or.inl e)))))))) (fun h => h.elim (fun e => Or.inr (Or.inr (Or.inr (Or.inr (Or.inr (Or.inr (Or.inr (Or.inr (Or.inr (Or.inl e)))))))))) (fun h => h.elim (fun e => Or.inr (Or.inr (Or.inr (Or.inr (Or.inr (Or.inr (Or.inr (Or.inr (Or.inr (Or.inr (Or.inr (Or.inr (Or.inr (Or.inr (Or.inr (Or.inr (Or.inr (Or.inl e)))))))))))))))))) (fun e => Or.inr (Or.inr (Or.inr (Or.inr (Or.inr (Or.inr (Or.inr (Or.inr (Or.inr (Or.inr (Or.inr (Or.inr (Or.inr (Or.inr (Or.inr (Or.inr (Or.inr (Or.inr (Or.inr (Or.inl e)))))))))))))))))))))))
theorem fr_Fm_unravel_b39 {n : Nat} {M : Mm} {oo : (Mm) ⊕ (Mm)} (h : Fm_unravel_b39 n M = some oo) : Fr (fp_Fm_unravel) M (elS oo (fun s1 => s1) (fun x1 => x1)) := by
  unfold Fm_unravel_b39 at h
  by_cases g0 : (M.1 94 32) ≤ (M.1 94 33)
  · have h := (if_pos g0).symm.trans h
    obtain rfl := Option.some.inj h
    try dsimp only [elS]
    repeat' (with_reducible first | exact Fr.rf | refine Fr.I ?_ (by simp [fp_Fm_unravel]) | refine Fr.L ?_ (by simp [fp_Fm_unravel]) | refine Fr.cI ?_ (by intro j; simp [fp_Fm_unravel]) | refine Fr.cL ?_ (by intro j; simp [fp_Fm_unravel]) | (refine Fr.tr ?_ (Fr.mono (fr_Fm_aims (by with_reducible assumption)) mono_Fm_unravel_0); try dsimp only) | (refine Fr.tr ?_ (Fr.mono (fr_Fm_copies (by with_reducible assumption)) mono_Fm_unravel_1); try dsimp only) | (refine Fr.tr ?_ (Fr.mono (fr_Fm_parks (by with_reducible assumption)) mono_Fm_unravel_2); try dsimp only) | (refine Fr.tr ?_ (Fr.mono (fr_Fm_plans (by with_reducible assumption)) mono_Fm_unravel_3); try dsimp only))
  · have h := (if_neg g0).symm.trans h
    obtain ⟨z15, _, h⟩ := bnd_s h
    by_cases g0 : z15.1 = true
    · have h := (if_pos g0).symm.trans h
      obtain ⟨z18, _, h⟩ := bnd_s h
      obtain rfl := Option.some.inj h
      try dsimp only [elS]
      repeat' (with_reducible first | exact Fr.rf | refine Fr.I ?_ (by simp [fp_Fm_unravel]) | refine Fr.L ?_ (by simp [fp_Fm_unravel]) | refine Fr.cI ?_ (by intro j; simp [fp_Fm_unravel]) | refine Fr.cL ?_ (by intro j; simp [fp_Fm_unravel]) | (refine Fr.tr ?_ (Fr.mono (fr_Fm_aims (by with_reducible assumption)) mono_Fm_unravel_0); try dsimp only) | (refine Fr.tr ?_ (Fr.mono (fr_Fm_copies (by with_reducible assumption)) mono_Fm_unravel_1); try dsimp only) | (refine Fr.tr ?_ (Fr.mono (fr_Fm_parks (by with_reducible assumption)) mono_Fm_unravel_2); try dsimp only) | (refine Fr.tr ?_ (Fr.mono (fr_Fm_plans (by with_reducible assumption)) mono_Fm_unravel_3); try dsimp only))
    · have h := (if_neg g0).symm.trans h
      obtain rfl := Option.some.inj h
      try dsimp only [elS]
      repeat' (with_reducible first | exact Fr.rf | refine Fr.I ?_ (by simp [fp_Fm_unravel]) | refine Fr.L ?_ (by simp [fp_Fm_unravel]) | refine Fr.cI ?_ (by intro j; simp [fp_Fm_unravel]) | refine Fr.cL ?_ (by intro j; simp [fp_Fm_unravel]) | (refine Fr.tr ?_ (Fr.mono (fr_Fm_aims (by with_reducible assumption)) mono_Fm_unravel_0); try dsimp only) | (refine Fr.tr ?_ (Fr.mono (fr_Fm_copies (by with_reducible assumption)) mono_Fm_unravel_1); try dsimp only) | (refine Fr.tr ?_ (Fr.mono (fr_Fm_parks (by with_reducible assumption)) mono_Fm_unravel_2); try dsimp only) | (refine Fr.tr ?_ (Fr.mono (fr_Fm_plans (by with_reducible assumption)) mono_Fm_unravel_3); try dsimp only))
theorem frl_Fm_unravel_b39 {n : Nat}  {n1 : Nat} {s0 : Mm} {y1 : Mm} (h : loop (fun s1 : Mm => Fm_unravel_b39 n s1) n1 s0 = some y1) : Fr (fp_Fm_unravel) s0 y1 :=
  loop_inv (P := fun s2 : Mm => Fr (fp_Fm_unravel) s0 s2) (E := fun y1 : Mm => Fr (fp_Fm_unravel) s0 y1) (fun s2 s3 hP hb => hP.tr (fr_Fm_unravel_b39 hb)) (fun s2 x2 hP hb => hP.tr (fr_Fm_unravel_b39 hb)) n1 s0 y1 h Fr.rf
theorem fr_Fm_unravel_j64 {n : Nat} {v2 : Int32} {M : Mm} {oo : Int32 × Mm} (h : Fm_unravel_j64 n v2 M = some oo) : Fr (fp_Fm_unravel) M oo.2 := by
  unfold Fm_unravel_j64 at h
  obtain ⟨z21, _, h⟩ := bnd_s h
  obtain ⟨z23, _, h⟩ := bnd_s h
  by_cases g0 : v2 = (0 : Int32)
  · have h := (if_pos g0).symm.trans h
    obtain rfl := Option.some.inj h
    try dsimp only [elS]
    repeat' (with_reducible first | exact Fr.rf | refine Fr.I ?_ (by simp [fp_Fm_unravel]) | refine Fr.L ?_ (by simp [fp_Fm_unravel]) | refine Fr.cI ?_ (by intro j; simp [fp_Fm_unravel]) | refine Fr.cL ?_ (by intro j; simp [fp_Fm_unravel]) | (refine Fr.tr ?_ (Fr.mono (fr_Fm_aims (by with_reducible assumption)) mono_Fm_unravel_0); try dsimp only) | (refine Fr.tr ?_ (Fr.mono (fr_Fm_copies (by with_reducible assumption)) mono_Fm_unravel_1); try dsimp only) | (refine Fr.tr ?_ (Fr.mono (fr_Fm_parks (by with_reducible assumption)) mono_Fm_unravel_2); try dsimp only) | (refine Fr.tr ?_ (Fr.mono (fr_Fm_plans (by with_reducible assumption)) mono_Fm_unravel_3); try dsimp only) | (refine Fr.tr ?_ (frl_Fm_unravel_b39 (by with_reducible assumption)); try dsimp only))
  · have h := (if_neg g0).symm.trans h
    by_cases g0 : v2 = (1 : Int32)
    · have h := (if_pos g0).symm.trans h
      obtain rfl := Option.some.inj h
      try dsimp only [elS]
      repeat' (with_reducible first | exact Fr.rf | refine Fr.I ?_ (by simp [fp_Fm_unravel]) | refine Fr.L ?_ (by simp [fp_Fm_unravel]) | refine Fr.cI ?_ (by intro j; simp [fp_Fm_unravel]) | refine Fr.cL ?_ (by intro j; simp [fp_Fm_unravel]) | (refine Fr.tr ?_ (Fr.mono (fr_Fm_aims (by with_reducible assumption)) mono_Fm_unravel_0); try dsimp only) | (refine Fr.tr ?_ (Fr.mono (fr_Fm_copies (by with_reducible assumption)) mono_Fm_unravel_1); try dsimp only) | (refine Fr.tr ?_ (Fr.mono (fr_Fm_parks (by with_reducible assumption)) mono_Fm_unravel_2); try dsimp only) | (refine Fr.tr ?_ (Fr.mono (fr_Fm_plans (by with_reducible assumption)) mono_Fm_unravel_3); try dsimp only) | (refine Fr.tr ?_ (frl_Fm_unravel_b39 (by with_reducible assumption)); try dsimp only))
    · have h := (if_neg g0).symm.trans h
      by_cases g0 : v2 = (2 : Int32)
      · have h := (if_pos g0).symm.trans h
        obtain rfl := Option.some.inj h
        try dsimp only [elS]
        repeat' (with_reducible first | exact Fr.rf | refine Fr.I ?_ (by simp [fp_Fm_unravel]) | refine Fr.L ?_ (by simp [fp_Fm_unravel]) | refine Fr.cI ?_ (by intro j; simp [fp_Fm_unravel]) | refine Fr.cL ?_ (by intro j; simp [fp_Fm_unravel]) | (refine Fr.tr ?_ (Fr.mono (fr_Fm_aims (by with_reducible assumption)) mono_Fm_unravel_0); try dsimp only) | (refine Fr.tr ?_ (Fr.mono (fr_Fm_copies (by with_reducible assumption)) mono_Fm_unravel_1); try dsimp only) | (refine Fr.tr ?_ (Fr.mono (fr_Fm_parks (by with_reducible assumption)) mono_Fm_unravel_2); try dsimp only) | (refine Fr.tr ?_ (Fr.mono (fr_Fm_plans (by with_reducible assumption)) mono_Fm_unravel_3); try dsimp only) | (refine Fr.tr ?_ (frl_Fm_unravel_b39 (by with_reducible assumption)); try dsimp only))
      · have h := (if_neg g0).symm.trans h
        obtain rfl := Option.some.inj h
        try dsimp only [elS]
        repeat' (with_reducible first | exact Fr.rf | refine Fr.I ?_ (by simp [fp_Fm_unravel]) | refine Fr.L ?_ (by simp [fp_Fm_unravel]) | refine Fr.cI ?_ (by intro j; simp [fp_Fm_unravel]) | refine Fr.cL ?_ (by intro j; simp [fp_Fm_unravel]) | (refine Fr.tr ?_ (Fr.mono (fr_Fm_aims (by with_reducible assumption)) mono_Fm_unravel_0); try dsimp only) | (refine Fr.tr ?_ (Fr.mono (fr_Fm_copies (by with_reducible assumption)) mono_Fm_unravel_1); try dsimp only) | (refine Fr.tr ?_ (Fr.mono (fr_Fm_parks (by with_reducible assumption)) mono_Fm_unravel_2); try dsimp only) | (refine Fr.tr ?_ (Fr.mono (fr_Fm_plans (by with_reducible assumption)) mono_Fm_unravel_3); try dsimp only) | (refine Fr.tr ?_ (frl_Fm_unravel_b39 (by with_reducible assumption)); try dsimp only))
theorem fr_Fm_unravel {n : Nat} {v1 : Int32} {v2 : Int32} {M : Mm} {oo : Int32 × Mm} (h : Fm_unravel n v1 v2 M = some oo) : Fr (fp_Fm_unravel) M oo.2 := by
  unfold Fm_unravel at h
  obtain ⟨z1, _, h⟩ := bnd_s h
  by_cases g0 : z1 = true
  · have h := (if_pos g0).symm.trans h
    obtain ⟨z4, _, h⟩ := bnd_s h
    by_cases g0 : z4 = true
    · have h := (if_pos g0).symm.trans h
      obtain ⟨z7, _, h⟩ := bnd_s h
      by_cases g0 : z7.1 = true
      · have h := (if_pos g0).symm.trans h
        obtain ⟨z10, _, h⟩ := bnd_s h
        obtain ⟨z12, _, h⟩ := bnd_s h
        obtain ⟨y20, _, h⟩ := bnd_s h
        refine Fr.tr ?_ (fr_Fm_unravel_j64 h)
        try dsimp only [elS]
        repeat' (with_reducible first | exact Fr.rf | refine Fr.I ?_ (by simp [fp_Fm_unravel]) | refine Fr.L ?_ (by simp [fp_Fm_unravel]) | refine Fr.cI ?_ (by intro j; simp [fp_Fm_unravel]) | refine Fr.cL ?_ (by intro j; simp [fp_Fm_unravel]) | (refine Fr.tr ?_ (Fr.mono (fr_Fm_aims (by with_reducible assumption)) mono_Fm_unravel_0); try dsimp only) | (refine Fr.tr ?_ (Fr.mono (fr_Fm_copies (by with_reducible assumption)) mono_Fm_unravel_1); try dsimp only) | (refine Fr.tr ?_ (Fr.mono (fr_Fm_parks (by with_reducible assumption)) mono_Fm_unravel_2); try dsimp only) | (refine Fr.tr ?_ (Fr.mono (fr_Fm_plans (by with_reducible assumption)) mono_Fm_unravel_3); try dsimp only) | (refine Fr.tr ?_ (frl_Fm_unravel_b39 (by with_reducible assumption)); try dsimp only))
      · have h := (if_neg g0).symm.trans h
        obtain rfl := Option.some.inj h
        try dsimp only [elS]
        repeat' (with_reducible first | exact Fr.rf | refine Fr.I ?_ (by simp [fp_Fm_unravel]) | refine Fr.L ?_ (by simp [fp_Fm_unravel]) | refine Fr.cI ?_ (by intro j; simp [fp_Fm_unravel]) | refine Fr.cL ?_ (by intro j; simp [fp_Fm_unravel]) | (refine Fr.tr ?_ (Fr.mono (fr_Fm_aims (by with_reducible assumption)) mono_Fm_unravel_0); try dsimp only) | (refine Fr.tr ?_ (Fr.mono (fr_Fm_copies (by with_reducible assumption)) mono_Fm_unravel_1); try dsimp only) | (refine Fr.tr ?_ (Fr.mono (fr_Fm_parks (by with_reducible assumption)) mono_Fm_unravel_2); try dsimp only) | (refine Fr.tr ?_ (Fr.mono (fr_Fm_plans (by with_reducible assumption)) mono_Fm_unravel_3); try dsimp only) | (refine Fr.tr ?_ (frl_Fm_unravel_b39 (by with_reducible assumption)); try dsimp only))
    · have h := (if_neg g0).symm.trans h
      obtain rfl := Option.some.inj h
      try dsimp only [elS]
      repeat' (with_reducible first | exact Fr.rf | refine Fr.I ?_ (by simp [fp_Fm_unravel]) | refine Fr.L ?_ (by simp [fp_Fm_unravel]) | refine Fr.cI ?_ (by intro j; simp [fp_Fm_unravel]) | refine Fr.cL ?_ (by intro j; simp [fp_Fm_unravel]) | (refine Fr.tr ?_ (Fr.mono (fr_Fm_aims (by with_reducible assumption)) mono_Fm_unravel_0); try dsimp only) | (refine Fr.tr ?_ (Fr.mono (fr_Fm_copies (by with_reducible assumption)) mono_Fm_unravel_1); try dsimp only) | (refine Fr.tr ?_ (Fr.mono (fr_Fm_parks (by with_reducible assumption)) mono_Fm_unravel_2); try dsimp only) | (refine Fr.tr ?_ (Fr.mono (fr_Fm_plans (by with_reducible assumption)) mono_Fm_unravel_3); try dsimp only) | (refine Fr.tr ?_ (frl_Fm_unravel_b39 (by with_reducible assumption)); try dsimp only))
  · have h := (if_neg g0).symm.trans h
    obtain rfl := Option.some.inj h
    try dsimp only [elS]
    repeat' (with_reducible first | exact Fr.rf | refine Fr.I ?_ (by simp [fp_Fm_unravel]) | refine Fr.L ?_ (by simp [fp_Fm_unravel]) | refine Fr.cI ?_ (by intro j; simp [fp_Fm_unravel]) | refine Fr.cL ?_ (by intro j; simp [fp_Fm_unravel]) | (refine Fr.tr ?_ (Fr.mono (fr_Fm_aims (by with_reducible assumption)) mono_Fm_unravel_0); try dsimp only) | (refine Fr.tr ?_ (Fr.mono (fr_Fm_copies (by with_reducible assumption)) mono_Fm_unravel_1); try dsimp only) | (refine Fr.tr ?_ (Fr.mono (fr_Fm_parks (by with_reducible assumption)) mono_Fm_unravel_2); try dsimp only) | (refine Fr.tr ?_ (Fr.mono (fr_Fm_plans (by with_reducible assumption)) mono_Fm_unravel_3); try dsimp only) | (refine Fr.tr ?_ (frl_Fm_unravel_b39 (by with_reducible assumption)); try dsimp only))
theorem mono_Fm_lasts_0  : ∀ c j, fp_Fm_sets c j → fp_Fm_lasts c j := fun c j => (fun e => e)
theorem fr_Fm_lasts_j27 {v1 : Int32} {v2 : Int32} {M : Mm} {oo : Int32 × Mm} (h : Fm_lasts_j27 v1 v2 M = some oo) : Fr (fp_Fm_lasts) M oo.2 := by
  unfold Fm_lasts_j27 at h
  obtain ⟨z7, _, h⟩ := bnd_s h
  by_cases g0 : z7 = true
  · have h := (if_pos g0).symm.trans h
    obtain ⟨_, h⟩ := grd_s h
    obtain ⟨z11, _, h⟩ := bnd_s h
    obtain ⟨_, h⟩ := grd_s h
    obtain rfl := Option.some.inj h
    try dsimp only [elS]
    repeat' (with_reducible first | exact Fr.rf | refine Fr.I ?_ (by simp [fp_Fm_lasts]) | refine Fr.L ?_ (by simp [fp_Fm_lasts]) | refine Fr.cI ?_ (by intro j; simp [fp_Fm_lasts]) | refine Fr.cL ?_ (by intro j; simp [fp_Fm_lasts]) | (refine Fr.tr ?_ (Fr.mono (fr_Fm_sets (by with_reducible assumption)) mono_Fm_lasts_0); try dsimp only))
  · have h := (if_neg g0).symm.trans h
    obtain rfl := Option.some.inj h
    try dsimp only [elS]
    repeat' (with_reducible first | exact Fr.rf | refine Fr.I ?_ (by simp [fp_Fm_lasts]) | refine Fr.L ?_ (by simp [fp_Fm_lasts]) | refine Fr.cI ?_ (by intro j; simp [fp_Fm_lasts]) | refine Fr.cL ?_ (by intro j; simp [fp_Fm_lasts]) | (refine Fr.tr ?_ (Fr.mono (fr_Fm_sets (by with_reducible assumption)) mono_Fm_lasts_0); try dsimp only))
theorem fr_Fm_lasts {v1 : Int32} {v2 : Int32} {M : Mm} {oo : Int32 × Mm} (h : Fm_lasts v1 v2 M = some oo) : Fr (fp_Fm_lasts) M oo.2 := by
  unfold Fm_lasts at h
  obtain ⟨z1, _, h⟩ := bnd_s h
  by_cases g0 : z1 = true
  · have h := (if_pos g0).symm.trans h
    obtain ⟨z4, _, h⟩ := bnd_s h
    by_cases g0 : z4 = (0 : Int32)
    · have h := (if_pos g0).symm.trans h
      refine Fr.tr ?_ (fr_Fm_lasts_j27 h)
      try dsimp only [elS]
      repeat' (with_reducible first | exact Fr.rf | refine Fr.I ?_ (by simp [fp_Fm_lasts]) | refine Fr.L ?_ (by simp [fp_Fm_lasts]) | refine Fr.cI ?_ (by intro j; simp [fp_Fm_lasts]) | refine Fr.cL ?_ (by intro j; simp [fp_Fm_lasts]) | (refine Fr.tr ?_ (Fr.mono (fr_Fm_sets (by with_reducible assumption)) mono_Fm_lasts_0); try dsimp only))
    · have h := (if_neg g0).symm.trans h
      obtain ⟨z14, _, h⟩ := bnd_s h
      by_cases g0 : z14 = (2 : Int32)
      · have h := (if_pos g0).symm.trans h
        refine Fr.tr ?_ (fr_Fm_lasts_j27 h)
        try dsimp only [elS]
        repeat' (with_reducible first | exact Fr.rf | refine Fr.I ?_ (by simp [fp_Fm_lasts]) | refine Fr.L ?_ (by simp [fp_Fm_lasts]) | refine Fr.cI ?_ (by intro j; simp [fp_Fm_lasts]) | refine Fr.cL ?_ (by intro j; simp [fp_Fm_lasts]) | (refine Fr.tr ?_ (Fr.mono (fr_Fm_sets (by with_reducible assumption)) mono_Fm_lasts_0); try dsimp only))
      · have h := (if_neg g0).symm.trans h
        obtain rfl := Option.some.inj h
        try dsimp only [elS]
        repeat' (with_reducible first | exact Fr.rf | refine Fr.I ?_ (by simp [fp_Fm_lasts]) | refine Fr.L ?_ (by simp [fp_Fm_lasts]) | refine Fr.cI ?_ (by intro j; simp [fp_Fm_lasts]) | refine Fr.cL ?_ (by intro j; simp [fp_Fm_lasts]) | (refine Fr.tr ?_ (Fr.mono (fr_Fm_sets (by with_reducible assumption)) mono_Fm_lasts_0); try dsimp only))
  · have h := (if_neg g0).symm.trans h
    obtain rfl := Option.some.inj h
    try dsimp only [elS]
    repeat' (with_reducible first | exact Fr.rf | refine Fr.I ?_ (by simp [fp_Fm_lasts]) | refine Fr.L ?_ (by simp [fp_Fm_lasts]) | refine Fr.cI ?_ (by intro j; simp [fp_Fm_lasts]) | refine Fr.cL ?_ (by intro j; simp [fp_Fm_lasts]) | (refine Fr.tr ?_ (Fr.mono (fr_Fm_sets (by with_reducible assumption)) mono_Fm_lasts_0); try dsimp only))
theorem mono_Fm_ends_0  : ∀ c j, fp_Fm_sets c j → fp_Fm_ends c j := fun c j => (fun e => e)
theorem fr_Fm_ends_j59 {v2 : Int32} {v3 : Int32} {M : Mm} {oo : (Int32 × Int32 × Mm) ⊕ (Int32 × Mm)} (h : Fm_ends_j59 v2 v3 M = some oo) : Fr (fp_Fm_ends) M (elS oo (fun s1 => s1.2.2) (fun x1 => x1.2)) := by
  unfold Fm_ends_j59 at h
  obtain rfl := Option.some.inj h
  try dsimp only [elS]
  repeat' (with_reducible first | exact Fr.rf | refine Fr.I ?_ (by simp [fp_Fm_ends]) | refine Fr.L ?_ (by simp [fp_Fm_ends]) | refine Fr.cI ?_ (by intro j; simp [fp_Fm_ends]) | refine Fr.cL ?_ (by intro j; simp [fp_Fm_ends]) | (refine Fr.tr ?_ (Fr.mono (fr_Fm_sets (by with_reducible assumption)) mono_Fm_ends_0); try dsimp only))
theorem fr_Fm_ends_j48 {v2 : Int32} {v3 : Int32} {M : Mm} {oo : (Int32 × Int32 × Mm) ⊕ (Int32 × Mm)} (h : Fm_ends_j48 v2 v3 M = some oo) : Fr (fp_Fm_ends) M (elS oo (fun s1 => s1.2.2) (fun x1 => x1.2)) := by
  unfold Fm_ends_j48 at h
  obtain ⟨z9, _, h⟩ := bnd_s h
  refine Fr.tr ?_ (fr_Fm_ends_j59 h)
  try dsimp only [elS]
  repeat' (with_reducible first | exact Fr.rf | refine Fr.I ?_ (by simp [fp_Fm_ends]) | refine Fr.L ?_ (by simp [fp_Fm_ends]) | refine Fr.cI ?_ (by intro j; simp [fp_Fm_ends]) | refine Fr.cL ?_ (by intro j; simp [fp_Fm_ends]) | (refine Fr.tr ?_ (Fr.mono (fr_Fm_sets (by with_reducible assumption)) mono_Fm_ends_0); try dsimp only))
theorem fr_Fm_ends_b4 {c1 : Int32} {v2 : Int32} {v3 : Int32} {M : Mm} {oo : (Int32 × Int32 × Mm) ⊕ (Int32 × Mm)} (h : Fm_ends_b4 c1 v2 v3 M = some oo) : Fr (fp_Fm_ends) M (elS oo (fun s1 => s1.2.2) (fun x1 => x1.2)) := by
  unfold Fm_ends_b4 at h
  obtain ⟨_, h⟩ := grd_s h
  by_cases g0 : (M.1 95 (tn (7 : Int32))) ≤ v3
  · have h := (if_pos g0).symm.trans h
    obtain rfl := Option.some.inj h
    try dsimp only [elS]
    repeat' (with_reducible first | exact Fr.rf | refine Fr.I ?_ (by simp [fp_Fm_ends]) | refine Fr.L ?_ (by simp [fp_Fm_ends]) | refine Fr.cI ?_ (by intro j; simp [fp_Fm_ends]) | refine Fr.cL ?_ (by intro j; simp [fp_Fm_ends]) | (refine Fr.tr ?_ (Fr.mono (fr_Fm_sets (by with_reducible assumption)) mono_Fm_ends_0); try dsimp only))
  · have h := (if_neg g0).symm.trans h
    obtain ⟨z3, _, h⟩ := bnd_s h
    by_cases g0 : z3 = c1
    · have h := (if_pos g0).symm.trans h
      obtain ⟨z6, _, h⟩ := bnd_s h
      by_cases g0 : z6 = (0 : Int32)
      · have h := (if_pos g0).symm.trans h
        refine Fr.tr ?_ (fr_Fm_ends_j48 h)
        try dsimp only [elS]
        repeat' (with_reducible first | exact Fr.rf | refine Fr.I ?_ (by simp [fp_Fm_ends]) | refine Fr.L ?_ (by simp [fp_Fm_ends]) | refine Fr.cI ?_ (by intro j; simp [fp_Fm_ends]) | refine Fr.cL ?_ (by intro j; simp [fp_Fm_ends]) | (refine Fr.tr ?_ (Fr.mono (fr_Fm_sets (by with_reducible assumption)) mono_Fm_ends_0); try dsimp only))
      · have h := (if_neg g0).symm.trans h
        obtain ⟨z11, _, h⟩ := bnd_s h
        by_cases g0 : z11 = (2 : Int32)
        · have h := (if_pos g0).symm.trans h
          refine Fr.tr ?_ (fr_Fm_ends_j48 h)
          try dsimp only [elS]
          repeat' (with_reducible first | exact Fr.rf | refine Fr.I ?_ (by simp [fp_Fm_ends]) | refine Fr.L ?_ (by simp [fp_Fm_ends]) | refine Fr.cI ?_ (by intro j; simp [fp_Fm_ends]) | refine Fr.cL ?_ (by intro j; simp [fp_Fm_ends]) | (refine Fr.tr ?_ (Fr.mono (fr_Fm_sets (by with_reducible assumption)) mono_Fm_ends_0); try dsimp only))
        · have h := (if_neg g0).symm.trans h
          refine Fr.tr ?_ (fr_Fm_ends_j59 h)
          try dsimp only [elS]
          repeat' (with_reducible first | exact Fr.rf | refine Fr.I ?_ (by simp [fp_Fm_ends]) | refine Fr.L ?_ (by simp [fp_Fm_ends]) | refine Fr.cI ?_ (by intro j; simp [fp_Fm_ends]) | refine Fr.cL ?_ (by intro j; simp [fp_Fm_ends]) | (refine Fr.tr ?_ (Fr.mono (fr_Fm_sets (by with_reducible assumption)) mono_Fm_ends_0); try dsimp only))
    · have h := (if_neg g0).symm.trans h
      refine Fr.tr ?_ (fr_Fm_ends_j59 h)
      try dsimp only [elS]
      repeat' (with_reducible first | exact Fr.rf | refine Fr.I ?_ (by simp [fp_Fm_ends]) | refine Fr.L ?_ (by simp [fp_Fm_ends]) | refine Fr.cI ?_ (by intro j; simp [fp_Fm_ends]) | refine Fr.cL ?_ (by intro j; simp [fp_Fm_ends]) | (refine Fr.tr ?_ (Fr.mono (fr_Fm_sets (by with_reducible assumption)) mono_Fm_ends_0); try dsimp only))
theorem frl_Fm_ends_b4 {c1 : Int32}  {n1 : Nat} {s0 : Int32 × Int32 × Mm} {y1 : Int32 × Mm} (h : loop (fun s1 : Int32 × Int32 × Mm => Fm_ends_b4 c1 s1.1 s1.2.1 s1.2.2) n1 s0 = some y1) : Fr (fp_Fm_ends) s0.2.2 y1.2 :=
  loop_inv (P := fun s2 : Int32 × Int32 × Mm => Fr (fp_Fm_ends) s0.2.2 s2.2.2) (E := fun y1 : Int32 × Mm => Fr (fp_Fm_ends) s0.2.2 y1.2) (fun s2 s3 hP hb => hP.tr (fr_Fm_ends_b4 hb)) (fun s2 x2 hP hb => hP.tr (fr_Fm_ends_b4 hb)) n1 s0 y1 h Fr.rf
theorem fr_Fm_ends {n : Nat} {v1 : Int32} {M : Mm} {oo : Int32 × Mm} (h : Fm_ends n v1 M = some oo) : Fr (fp_Fm_ends) M oo.2 := by
  unfold Fm_ends at h
  obtain ⟨y14, _, h⟩ := bnd_s h
  obtain rfl := Option.some.inj h
  try dsimp only [elS]
  repeat' (with_reducible first | exact Fr.rf | refine Fr.I ?_ (by simp [fp_Fm_ends]) | refine Fr.L ?_ (by simp [fp_Fm_ends]) | refine Fr.cI ?_ (by intro j; simp [fp_Fm_ends]) | refine Fr.cL ?_ (by intro j; simp [fp_Fm_ends]) | (refine Fr.tr ?_ (Fr.mono (fr_Fm_sets (by with_reducible assumption)) mono_Fm_ends_0); try dsimp only) | (refine Fr.tr ?_ (frl_Fm_ends_b4 (by with_reducible assumption)); try dsimp only))
theorem mono_Fm_ticks_0  : ∀ c j, fp_Fm_ends c j → fp_Fm_ticks c j := fun c j => (fun e => e)
theorem fr_Fm_ticks_b34 {n : Nat} {c1 : Int32} {v2 : Int32} {v3 : Int32} {M : Mm} {oo : (Int32 × Int32 × Mm) ⊕ (Int32 × Mm)} (h : Fm_ticks_b34 n c1 v2 v3 M = some oo) : Fr (fp_Fm_ticks) M (elS oo (fun s1 => s1.2.2) (fun x1 => x1.2)) := by
  unfold Fm_ticks_b34 at h
  by_cases g0 : c1 ≤ v3
  · have h := (if_pos g0).symm.trans h
    obtain rfl := Option.some.inj h
    try dsimp only [elS]
    repeat' (with_reducible first | exact Fr.rf | refine Fr.I ?_ (by simp [fp_Fm_ticks]) | refine Fr.L ?_ (by simp [fp_Fm_ticks]) | refine Fr.cI ?_ (by intro j; simp [fp_Fm_ticks]) | refine Fr.cL ?_ (by intro j; simp [fp_Fm_ticks]) | (refine Fr.tr ?_ (Fr.mono (fr_Fm_ends (by with_reducible assumption)) mono_Fm_ticks_0); try dsimp only))
  · have h := (if_neg g0).symm.trans h
    obtain ⟨_, h⟩ := grd_s h
    obtain ⟨_, h⟩ := grd_s h
    obtain ⟨_, h⟩ := grd_s h
    obtain ⟨z10, _, h⟩ := bnd_s h
    obtain rfl := Option.some.inj h
    try dsimp only [elS]
    repeat' (with_reducible first | exact Fr.rf | refine Fr.I ?_ (by simp [fp_Fm_ticks]) | refine Fr.L ?_ (by simp [fp_Fm_ticks]) | refine Fr.cI ?_ (by intro j; simp [fp_Fm_ticks]) | refine Fr.cL ?_ (by intro j; simp [fp_Fm_ticks]) | (refine Fr.tr ?_ (Fr.mono (fr_Fm_ends (by with_reducible assumption)) mono_Fm_ticks_0); try dsimp only))
theorem frl_Fm_ticks_b34 {n : Nat} {c1 : Int32}  {n1 : Nat} {s0 : Int32 × Int32 × Mm} {y1 : Int32 × Mm} (h : loop (fun s1 : Int32 × Int32 × Mm => Fm_ticks_b34 n c1 s1.1 s1.2.1 s1.2.2) n1 s0 = some y1) : Fr (fp_Fm_ticks) s0.2.2 y1.2 :=
  loop_inv (P := fun s2 : Int32 × Int32 × Mm => Fr (fp_Fm_ticks) s0.2.2 s2.2.2) (E := fun y1 : Int32 × Mm => Fr (fp_Fm_ticks) s0.2.2 y1.2) (fun s2 s3 hP hb => hP.tr (fr_Fm_ticks_b34 hb)) (fun s2 x2 hP hb => hP.tr (fr_Fm_ticks_b34 hb)) n1 s0 y1 h Fr.rf
theorem fr_Fm_ticks {n : Nat} {v1 : Int32} {M : Mm} {oo : Int32 × Mm} (h : Fm_ticks n v1 M = some oo) : Fr (fp_Fm_ticks) M oo.2 := by
  unfold Fm_ticks at h
  obtain ⟨z1, _, h⟩ := bnd_s h
  by_cases g0 : z1 = true
  · have h := (if_pos g0).symm.trans h
    obtain ⟨_, h⟩ := grd_s h
    by_cases g0 : ((M.1 95 (tn (5 : Int32))) + v1) ≤ (99999 : Int32)
    · have h := (if_pos g0).symm.trans h
      obtain ⟨y12, _, h⟩ := bnd_s h
      obtain rfl := Option.some.inj h
      try dsimp only [elS]
      repeat' (with_reducible first | exact Fr.rf | refine Fr.I ?_ (by simp [fp_Fm_ticks]) | refine Fr.L ?_ (by simp [fp_Fm_ticks]) | refine Fr.cI ?_ (by intro j; simp [fp_Fm_ticks]) | refine Fr.cL ?_ (by intro j; simp [fp_Fm_ticks]) | (refine Fr.tr ?_ (Fr.mono (fr_Fm_ends (by with_reducible assumption)) mono_Fm_ticks_0); try dsimp only) | (refine Fr.tr ?_ (frl_Fm_ticks_b34 (by with_reducible assumption)); try dsimp only))
    · have h := (if_neg g0).symm.trans h
      obtain rfl := Option.some.inj h
      try dsimp only [elS]
      repeat' (with_reducible first | exact Fr.rf | refine Fr.I ?_ (by simp [fp_Fm_ticks]) | refine Fr.L ?_ (by simp [fp_Fm_ticks]) | refine Fr.cI ?_ (by intro j; simp [fp_Fm_ticks]) | refine Fr.cL ?_ (by intro j; simp [fp_Fm_ticks]) | (refine Fr.tr ?_ (Fr.mono (fr_Fm_ends (by with_reducible assumption)) mono_Fm_ticks_0); try dsimp only) | (refine Fr.tr ?_ (frl_Fm_ticks_b34 (by with_reducible assumption)); try dsimp only))
  · have h := (if_neg g0).symm.trans h
    obtain rfl := Option.some.inj h
    try dsimp only [elS]
    repeat' (with_reducible first | exact Fr.rf | refine Fr.I ?_ (by simp [fp_Fm_ticks]) | refine Fr.L ?_ (by simp [fp_Fm_ticks]) | refine Fr.cI ?_ (by intro j; simp [fp_Fm_ticks]) | refine Fr.cL ?_ (by intro j; simp [fp_Fm_ticks]) | (refine Fr.tr ?_ (Fr.mono (fr_Fm_ends (by with_reducible assumption)) mono_Fm_ticks_0); try dsimp only) | (refine Fr.tr ?_ (frl_Fm_ticks_b34 (by with_reducible assumption)); try dsimp only))
theorem fr_Fm_drawn {v1 : Int32} {M : Mm} {oo : Int32 × Mm} (h : Fm_drawn v1 M = some oo) : Fr (fp_Fm_drawn) M oo.2 := by
  unfold Fm_drawn at h
  obtain ⟨_, h⟩ := grd_s h
  obtain ⟨_, h⟩ := grd_s h
  obtain ⟨_, h⟩ := grd_s h
  obtain ⟨_, h⟩ := grd_s h
  obtain rfl := Option.some.inj h
  try dsimp only [elS]
  repeat' (with_reducible first | exact Fr.rf | refine Fr.I ?_ (by simp [fp_Fm_drawn]) | refine Fr.L ?_ (by simp [fp_Fm_drawn]) | refine Fr.cI ?_ (by intro j; simp [fp_Fm_drawn]) | refine Fr.cL ?_ (by intro j; simp [fp_Fm_drawn]))
