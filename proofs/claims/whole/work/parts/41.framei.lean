theorem mono_Fm_ranks_0  : ∀ c j, fp_Fm_changes 100 c j → fp_Fm_ranks c j := fun c j => (fun e => Or.inl e)
theorem mono_Fm_ranks_1  : ∀ c j, fp_Fm_changes 101 c j → fp_Fm_ranks c j := fun c j => (fun e => Or.inr (Or.inl e))
theorem mono_Fm_ranks_2  : ∀ c j, fp_Fm_changes 98 c j → fp_Fm_ranks c j := fun c j => (fun e => Or.inr (Or.inr (Or.inl e)))
theorem mono_Fm_ranks_3  : ∀ c j, fp_Fm_changes 99 c j → fp_Fm_ranks c j := fun c j => (fun e => Or.inr (Or.inr (Or.inr (e))))
theorem fr_Fm_ranks_b2 {v2 : Int32} {M : Mm} {oo : (Int32 × Mm) ⊕ (Mm)} (h : Fm_ranks_b2 v2 M = some oo) : Fr (fp_Fm_ranks) M (elS oo (fun s1 => s1.2) (fun x1 => x1)) := by
  unfold Fm_ranks_b2 at h
  by_cases g0 : v2 ≤ (0 : Int32)
  · have h := (if_pos g0).symm.trans h
    obtain rfl := Option.some.inj h
    try dsimp only [elS]
    repeat' (with_reducible first | exact Fr.rf | refine Fr.I ?_ (by simp [fp_Fm_ranks]) | refine Fr.L ?_ (by simp [fp_Fm_ranks]) | refine Fr.cI ?_ (by intro j; simp [fp_Fm_ranks]) | refine Fr.cL ?_ (by intro j; simp [fp_Fm_ranks]) | (refine Fr.tr ?_ (Fr.mono (fr_Fm_changes (by with_reducible assumption)) mono_Fm_ranks_0); try dsimp only) | (refine Fr.tr ?_ (Fr.mono (fr_Fm_changes (by with_reducible assumption)) mono_Fm_ranks_1); try dsimp only) | (refine Fr.tr ?_ (Fr.mono (fr_Fm_changes (by with_reducible assumption)) mono_Fm_ranks_2); try dsimp only) | (refine Fr.tr ?_ (Fr.mono (fr_Fm_changes (by with_reducible assumption)) mono_Fm_ranks_3); try dsimp only))
  · have h := (if_neg g0).symm.trans h
    obtain ⟨z2, _, h⟩ := bnd_s h
    by_cases g0 : z2 = true
    · have h := (if_pos g0).symm.trans h
      obtain ⟨z5, _, h⟩ := bnd_s h
      obtain ⟨z7, _, h⟩ := bnd_s h
      obtain ⟨z9, _, h⟩ := bnd_s h
      obtain ⟨z11, _, h⟩ := bnd_s h
      obtain rfl := Option.some.inj h
      try dsimp only [elS]
      repeat' (with_reducible first | exact Fr.rf | refine Fr.I ?_ (by simp [fp_Fm_ranks]) | refine Fr.L ?_ (by simp [fp_Fm_ranks]) | refine Fr.cI ?_ (by intro j; simp [fp_Fm_ranks]) | refine Fr.cL ?_ (by intro j; simp [fp_Fm_ranks]) | (refine Fr.tr ?_ (Fr.mono (fr_Fm_changes (by with_reducible assumption)) mono_Fm_ranks_0); try dsimp only) | (refine Fr.tr ?_ (Fr.mono (fr_Fm_changes (by with_reducible assumption)) mono_Fm_ranks_1); try dsimp only) | (refine Fr.tr ?_ (Fr.mono (fr_Fm_changes (by with_reducible assumption)) mono_Fm_ranks_2); try dsimp only) | (refine Fr.tr ?_ (Fr.mono (fr_Fm_changes (by with_reducible assumption)) mono_Fm_ranks_3); try dsimp only))
    · have h := (if_neg g0).symm.trans h
      obtain rfl := Option.some.inj h
      try dsimp only [elS]
      repeat' (with_reducible first | exact Fr.rf | refine Fr.I ?_ (by simp [fp_Fm_ranks]) | refine Fr.L ?_ (by simp [fp_Fm_ranks]) | refine Fr.cI ?_ (by intro j; simp [fp_Fm_ranks]) | refine Fr.cL ?_ (by intro j; simp [fp_Fm_ranks]) | (refine Fr.tr ?_ (Fr.mono (fr_Fm_changes (by with_reducible assumption)) mono_Fm_ranks_0); try dsimp only) | (refine Fr.tr ?_ (Fr.mono (fr_Fm_changes (by with_reducible assumption)) mono_Fm_ranks_1); try dsimp only) | (refine Fr.tr ?_ (Fr.mono (fr_Fm_changes (by with_reducible assumption)) mono_Fm_ranks_2); try dsimp only) | (refine Fr.tr ?_ (Fr.mono (fr_Fm_changes (by with_reducible assumption)) mono_Fm_ranks_3); try dsimp only))
theorem frl_Fm_ranks_b2   {n1 : Nat} {s0 : Int32 × Mm} {y1 : Mm} (h : loop (fun s1 : Int32 × Mm => Fm_ranks_b2 s1.1 s1.2) n1 s0 = some y1) : Fr (fp_Fm_ranks) s0.2 y1 :=
  loop_inv (P := fun s2 : Int32 × Mm => Fr (fp_Fm_ranks) s0.2 s2.2) (E := fun y1 : Mm => Fr (fp_Fm_ranks) s0.2 y1) (fun s2 s3 hP hb => hP.tr (fr_Fm_ranks_b2 hb)) (fun s2 x2 hP hb => hP.tr (fr_Fm_ranks_b2 hb)) n1 s0 y1 h Fr.rf
theorem fr_Fm_ranks {n : Nat} {v1 : Int32} {M : Mm} {oo : Mm} (h : Fm_ranks n v1 M = some oo) : Fr (fp_Fm_ranks) M oo := by
  unfold Fm_ranks at h
  obtain ⟨y13, _, h⟩ := bnd_s h
  obtain rfl := Option.some.inj h
  try dsimp only [elS]
  repeat' (with_reducible first | exact Fr.rf | refine Fr.I ?_ (by simp [fp_Fm_ranks]) | refine Fr.L ?_ (by simp [fp_Fm_ranks]) | refine Fr.cI ?_ (by intro j; simp [fp_Fm_ranks]) | refine Fr.cL ?_ (by intro j; simp [fp_Fm_ranks]) | (refine Fr.tr ?_ (Fr.mono (fr_Fm_changes (by with_reducible assumption)) mono_Fm_ranks_0); try dsimp only) | (refine Fr.tr ?_ (Fr.mono (fr_Fm_changes (by with_reducible assumption)) mono_Fm_ranks_1); try dsimp only) | (refine Fr.tr ?_ (Fr.mono (fr_Fm_changes (by with_reducible assumption)) mono_Fm_ranks_2); try dsimp only) | (refine Fr.tr ?_ (Fr.mono (fr_Fm_changes (by with_reducible assumption)) mono_Fm_ranks_3); try dsimp only) | (refine Fr.tr ?_ (frl_Fm_ranks_b2 (by with_reducible assumption)); try dsimp only))
theorem mono_Fm_laysWay_0  : ∀ c j, fp_Fm_ranks c j → fp_Fm_laysWay c j := fun c j => (fun h => h.elim (fun e => Or.inl e) (fun h => h.elim (fun e => Or.inr (Or.inl e)) (fun h => h.elim (fun e => Or.inr (Or.inr (Or.inr (Or.inl e)))) (fun e => Or.inr (Or.inr (Or.inr (Or.inr (e))))))))
theorem fr_Fm_laysWay_b6 {c1 : Int32} {Mc : Mm} {v4 : Int32} {v5 : Int32} {oo : (Int32 × Int32) ⊕ (Int32)} (h : Fm_laysWay_b6 c1 Mc v4 v5 = some oo) : Fr (fp_Fm_laysWay) Mc (elS oo (fun s1 => Mc) (fun x1 => Mc)) := by
  unfold Fm_laysWay_b6 at h
  by_cases g0 : c1 < v5
  · have h := (if_pos g0).symm.trans h
    obtain rfl := Option.some.inj h
    try dsimp only [elS]
    repeat' (with_reducible first | exact Fr.rf | refine Fr.I ?_ (by simp [fp_Fm_laysWay]) | refine Fr.L ?_ (by simp [fp_Fm_laysWay]) | refine Fr.cI ?_ (by intro j; simp [fp_Fm_laysWay]) | refine Fr.cL ?_ (by intro j; simp [fp_Fm_laysWay]) | (refine Fr.tr ?_ (Fr.mono (fr_Fm_ranks (by with_reducible assumption)) mono_Fm_laysWay_0); try dsimp only))
  · have h := (if_neg g0).symm.trans h
    obtain ⟨_, h⟩ := grd_s h
    obtain rfl := Option.some.inj h
    try dsimp only [elS]
    repeat' (with_reducible first | exact Fr.rf | refine Fr.I ?_ (by simp [fp_Fm_laysWay]) | refine Fr.L ?_ (by simp [fp_Fm_laysWay]) | refine Fr.cI ?_ (by intro j; simp [fp_Fm_laysWay]) | refine Fr.cL ?_ (by intro j; simp [fp_Fm_laysWay]) | (refine Fr.tr ?_ (Fr.mono (fr_Fm_ranks (by with_reducible assumption)) mono_Fm_laysWay_0); try dsimp only))
theorem fr_Fm_laysWay {n : Nat} {v1 : Int32} {v2 : Int32} {v3 : Int32} {M : Mm} {oo : Mm} (h : Fm_laysWay n v1 v2 v3 M = some oo) : Fr (fp_Fm_laysWay) M oo := by
  unfold Fm_laysWay at h
  obtain ⟨y3, _, h⟩ := bnd_s h
  obtain ⟨_, h⟩ := grd_s h
  obtain ⟨_, h⟩ := grd_s h
  obtain ⟨_, h⟩ := grd_s h
  obtain ⟨_, h⟩ := grd_s h
  obtain ⟨z8, _, h⟩ := bnd_s h
  obtain ⟨z10, _, h⟩ := bnd_s h
  obtain rfl := Option.some.inj h
  try dsimp only [elS]
  repeat' (with_reducible first | exact Fr.rf | refine Fr.I ?_ (by simp [fp_Fm_laysWay]) | refine Fr.L ?_ (by simp [fp_Fm_laysWay]) | refine Fr.cI ?_ (by intro j; simp [fp_Fm_laysWay]) | refine Fr.cL ?_ (by intro j; simp [fp_Fm_laysWay]) | (refine Fr.tr ?_ (Fr.mono (fr_Fm_ranks (by with_reducible assumption)) mono_Fm_laysWay_0); try dsimp only))
theorem mono_Fm_findsWays_0  : ∀ c j, fp_Fm_laysWay c j → fp_Fm_findsWays c j := fun c j => (fun h => h.elim (fun e => Or.inl e) (fun h => h.elim (fun e => Or.inr (Or.inl e)) (fun h => h.elim (fun e => Or.inr (Or.inr (Or.inr (Or.inr (Or.inl e))))) (fun h => h.elim (fun e => Or.inr (Or.inr (Or.inr (Or.inr (Or.inr (Or.inl e)))))) (fun e => Or.inr (Or.inr (Or.inr (Or.inr (Or.inr (Or.inr (e)))))))))))
theorem fr_Fm_findsWays_j65 {v3 : Int32} {v4 : Int32} {v5 : Int32} {v6 : Int32} {M : Mm} {oo : (Int32 × Int32 × Int32 × Int32 × Mm) ⊕ (Mm)} (h : Fm_findsWays_j65 v3 v4 v5 v6 M = some oo) : Fr (fp_Fm_findsWays) M (elS oo (fun s1 => s1.2.2.2.2) (fun x1 => x1)) := by
  unfold Fm_findsWays_j65 at h
  by_cases g0 : (v3 - (1 : Int32)) < (0 : Int32)
  · have h := (if_pos g0).symm.trans h
    obtain rfl := Option.some.inj h
    try dsimp only [elS]
    repeat' (with_reducible first | exact Fr.rf | refine Fr.I ?_ (by simp [fp_Fm_findsWays]) | refine Fr.L ?_ (by simp [fp_Fm_findsWays]) | refine Fr.cI ?_ (by intro j; simp [fp_Fm_findsWays]) | refine Fr.cL ?_ (by intro j; simp [fp_Fm_findsWays]) | (refine Fr.tr ?_ (Fr.mono (fr_Fm_laysWay (by with_reducible assumption)) mono_Fm_findsWays_0); try dsimp only))
  · have h := (if_neg g0).symm.trans h
    obtain ⟨_, h⟩ := grd_s h
    obtain ⟨_, h⟩ := grd_s h
    obtain ⟨_, h⟩ := grd_s h
    obtain ⟨_, h⟩ := grd_s h
    obtain rfl := Option.some.inj h
    try dsimp only [elS]
    repeat' (with_reducible first | exact Fr.rf | refine Fr.I ?_ (by simp [fp_Fm_findsWays]) | refine Fr.L ?_ (by simp [fp_Fm_findsWays]) | refine Fr.cI ?_ (by intro j; simp [fp_Fm_findsWays]) | refine Fr.cL ?_ (by intro j; simp [fp_Fm_findsWays]) | (refine Fr.tr ?_ (Fr.mono (fr_Fm_laysWay (by with_reducible assumption)) mono_Fm_findsWays_0); try dsimp only))
theorem fr_Fm_findsWays_j241 {v3 : Int32} {v4 : Int32} {v5 : Int32} {v6 : Int32} {M : Mm} {oo : (Int32 × Int32 × Int32 × Int32 × Mm) ⊕ (Mm)} (h : Fm_findsWays_j241 v3 v4 v5 v6 M = some oo) : Fr (fp_Fm_findsWays) M (elS oo (fun s1 => s1.2.2.2.2) (fun x1 => x1)) := by
  unfold Fm_findsWays_j241 at h
  obtain rfl := Option.some.inj h
  try dsimp only [elS]
  repeat' (with_reducible first | exact Fr.rf | refine Fr.I ?_ (by simp [fp_Fm_findsWays]) | refine Fr.L ?_ (by simp [fp_Fm_findsWays]) | refine Fr.cI ?_ (by intro j; simp [fp_Fm_findsWays]) | refine Fr.cL ?_ (by intro j; simp [fp_Fm_findsWays]) | (refine Fr.tr ?_ (Fr.mono (fr_Fm_laysWay (by with_reducible assumption)) mono_Fm_findsWays_0); try dsimp only))
theorem fr_Fm_findsWays_b32 {n : Nat} {c2 : Int32} {v3 : Int32} {v4 : Int32} {v5 : Int32} {v6 : Int32} {M : Mm} {oo : (Int32 × Int32 × Int32 × Int32 × Mm) ⊕ (Mm)} (h : Fm_findsWays_b32 n c2 v3 v4 v5 v6 M = some oo) : Fr (fp_Fm_findsWays) M (elS oo (fun s1 => s1.2.2.2.2) (fun x1 => x1)) := by
  unfold Fm_findsWays_b32 at h
  by_cases g0 : v3 < (0 : Int32)
  · have h := (if_pos g0).symm.trans h
    obtain rfl := Option.some.inj h
    try dsimp only [elS]
    repeat' (with_reducible first | exact Fr.rf | refine Fr.I ?_ (by simp [fp_Fm_findsWays]) | refine Fr.L ?_ (by simp [fp_Fm_findsWays]) | refine Fr.cI ?_ (by intro j; simp [fp_Fm_findsWays]) | refine Fr.cL ?_ (by intro j; simp [fp_Fm_findsWays]) | (refine Fr.tr ?_ (Fr.mono (fr_Fm_laysWay (by with_reducible assumption)) mono_Fm_findsWays_0); try dsimp only))
  · have h := (if_neg g0).symm.trans h
    obtain ⟨_, h⟩ := grd_s h
    obtain ⟨_, h⟩ := grd_s h
    by_cases g0 : (M.1 103 (tn v3)) = (M.1 95 (tn (3 : Int32)))
    · have h := (if_pos g0).symm.trans h
      refine Fr.tr ?_ (fr_Fm_findsWays_j65 h)
      try dsimp only [elS]
      repeat' (with_reducible first | exact Fr.rf | refine Fr.I ?_ (by simp [fp_Fm_findsWays]) | refine Fr.L ?_ (by simp [fp_Fm_findsWays]) | refine Fr.cI ?_ (by intro j; simp [fp_Fm_findsWays]) | refine Fr.cL ?_ (by intro j; simp [fp_Fm_findsWays]) | (refine Fr.tr ?_ (Fr.mono (fr_Fm_laysWay (by with_reducible assumption)) mono_Fm_findsWays_0); try dsimp only))
    · have h := (if_neg g0).symm.trans h
      obtain ⟨_, h⟩ := grd_s h
      by_cases g0 : (M.1 102 (tn v3)) = c2
      · have h := (if_pos g0).symm.trans h
        refine Fr.tr ?_ (fr_Fm_findsWays_j65 h)
        try dsimp only [elS]
        repeat' (with_reducible first | exact Fr.rf | refine Fr.I ?_ (by simp [fp_Fm_findsWays]) | refine Fr.L ?_ (by simp [fp_Fm_findsWays]) | refine Fr.cI ?_ (by intro j; simp [fp_Fm_findsWays]) | refine Fr.cL ?_ (by intro j; simp [fp_Fm_findsWays]) | (refine Fr.tr ?_ (Fr.mono (fr_Fm_laysWay (by with_reducible assumption)) mono_Fm_findsWays_0); try dsimp only))
      · have h := (if_neg g0).symm.trans h
        obtain ⟨_, h⟩ := grd_s h
        obtain ⟨_, h⟩ := grd_s h
        obtain ⟨z16, _, h⟩ := bnd_s h
        by_cases g0 : z16 = (-1 : Int32)
        · have h := (if_pos g0).symm.trans h
          obtain rfl := Option.some.inj h
          try dsimp only [elS]
          repeat' (with_reducible first | exact Fr.rf | refine Fr.I ?_ (by simp [fp_Fm_findsWays]) | refine Fr.L ?_ (by simp [fp_Fm_findsWays]) | refine Fr.cI ?_ (by intro j; simp [fp_Fm_findsWays]) | refine Fr.cL ?_ (by intro j; simp [fp_Fm_findsWays]) | (refine Fr.tr ?_ (Fr.mono (fr_Fm_laysWay (by with_reducible assumption)) mono_Fm_findsWays_0); try dsimp only))
        · have h := (if_neg g0).symm.trans h
          obtain ⟨z19, _, h⟩ := bnd_s h
          by_cases g0 : z19 = true
          · have h := (if_pos g0).symm.trans h
            obtain rfl := Option.some.inj h
            try dsimp only [elS]
            repeat' (with_reducible first | exact Fr.rf | refine Fr.I ?_ (by simp [fp_Fm_findsWays]) | refine Fr.L ?_ (by simp [fp_Fm_findsWays]) | refine Fr.cI ?_ (by intro j; simp [fp_Fm_findsWays]) | refine Fr.cL ?_ (by intro j; simp [fp_Fm_findsWays]) | (refine Fr.tr ?_ (Fr.mono (fr_Fm_laysWay (by with_reducible assumption)) mono_Fm_findsWays_0); try dsimp only))
          · have h := (if_neg g0).symm.trans h
            obtain ⟨_, h⟩ := grd_s h
            obtain ⟨_, h⟩ := grd_s h
            obtain ⟨_, h⟩ := grd_s h
            by_cases g0 : z16 = c2
            · have h := (if_pos g0).symm.trans h
              obtain ⟨z26, _, h⟩ := bnd_s h
              refine Fr.tr ?_ (fr_Fm_findsWays_j241 h)
              try dsimp only [elS]
              repeat' (with_reducible first | exact Fr.rf | refine Fr.I ?_ (by simp [fp_Fm_findsWays]) | refine Fr.L ?_ (by simp [fp_Fm_findsWays]) | refine Fr.cI ?_ (by intro j; simp [fp_Fm_findsWays]) | refine Fr.cL ?_ (by intro j; simp [fp_Fm_findsWays]) | (refine Fr.tr ?_ (Fr.mono (fr_Fm_laysWay (by with_reducible assumption)) mono_Fm_findsWays_0); try dsimp only))
            · have h := (if_neg g0).symm.trans h
              refine Fr.tr ?_ (fr_Fm_findsWays_j241 h)
              try dsimp only [elS]
              repeat' (with_reducible first | exact Fr.rf | refine Fr.I ?_ (by simp [fp_Fm_findsWays]) | refine Fr.L ?_ (by simp [fp_Fm_findsWays]) | refine Fr.cI ?_ (by intro j; simp [fp_Fm_findsWays]) | refine Fr.cL ?_ (by intro j; simp [fp_Fm_findsWays]) | (refine Fr.tr ?_ (Fr.mono (fr_Fm_laysWay (by with_reducible assumption)) mono_Fm_findsWays_0); try dsimp only))
theorem frl_Fm_findsWays_b32 {n : Nat} {c2 : Int32}  {n1 : Nat} {s0 : Int32 × Int32 × Int32 × Int32 × Mm} {y1 : Mm} (h : loop (fun s1 : Int32 × Int32 × Int32 × Int32 × Mm => Fm_findsWays_b32 n c2 s1.1 s1.2.1 s1.2.2.1 s1.2.2.2.1 s1.2.2.2.2) n1 s0 = some y1) : Fr (fp_Fm_findsWays) s0.2.2.2.2 y1 :=
  loop_inv (P := fun s2 : Int32 × Int32 × Int32 × Int32 × Mm => Fr (fp_Fm_findsWays) s0.2.2.2.2 s2.2.2.2.2) (E := fun y1 : Mm => Fr (fp_Fm_findsWays) s0.2.2.2.2 y1) (fun s2 s3 hP hb => hP.tr (fr_Fm_findsWays_b32 hb)) (fun s2 x2 hP hb => hP.tr (fr_Fm_findsWays_b32 hb)) n1 s0 y1 h Fr.rf
theorem fr_Fm_findsWays {n : Nat} {v1 : Int32} {v2 : Int32} {M : Mm} {oo : Mm} (h : Fm_findsWays n v1 v2 M = some oo) : Fr (fp_Fm_findsWays) M oo := by
  unfold Fm_findsWays at h
  obtain ⟨_, h⟩ := grd_s h
  obtain ⟨_, h⟩ := grd_s h
  obtain ⟨y28, _, h⟩ := bnd_s h
  obtain rfl := Option.some.inj h
  try dsimp only [elS]
  repeat' (with_reducible first | exact Fr.rf | refine Fr.I ?_ (by simp [fp_Fm_findsWays]) | refine Fr.L ?_ (by simp [fp_Fm_findsWays]) | refine Fr.cI ?_ (by intro j; simp [fp_Fm_findsWays]) | refine Fr.cL ?_ (by intro j; simp [fp_Fm_findsWays]) | (refine Fr.tr ?_ (Fr.mono (fr_Fm_laysWay (by with_reducible assumption)) mono_Fm_findsWays_0); try dsimp only) | (refine Fr.tr ?_ (frl_Fm_findsWays_b32 (by with_reducible assumption)); try dsimp only))
theorem mono_Fm_way_0  : ∀ c j, fp_Fm_findsWays c j → fp_Fm_way c j := fun c j => (fun h => h.elim (fun e => Or.inl e) (fun h => h.elim (fun e => Or.inr (Or.inl e)) (fun h => h.elim (fun e => Or.inr (Or.inr (Or.inl e))) (fun h => h.elim (fun e => Or.inr (Or.inr (Or.inr (Or.inl e)))) (fun h => h.elim (fun e => Or.inr (Or.inr (Or.inr (Or.inr (Or.inl e))))) (fun h => h.elim (fun e => Or.inr (Or.inr (Or.inr (Or.inr (Or.inr (Or.inl e)))))) (fun e => Or.inr (Or.inr (Or.inr (Or.inr (Or.inr (Or.inr (e)))))))))))))
theorem fr_Fm_way {n : Nat} {v1 : Int32} {v2 : Int32} {v3 : Int32} {v4 : Int32} {M : Mm} {oo : Int32 × Mm} (h : Fm_way n v1 v2 v3 v4 M = some oo) : Fr (fp_Fm_way) M oo.2 := by
  unfold Fm_way at h
  obtain ⟨z1, _, h⟩ := bnd_s h
  by_cases g0 : z1 = true
  · have h := (if_pos g0).symm.trans h
    obtain ⟨z4, _, h⟩ := bnd_s h
    by_cases g0 : z4 = true
    · have h := (if_pos g0).symm.trans h
      obtain ⟨z7, _, h⟩ := bnd_s h
      by_cases g0 : z7 = true
      · have h := (if_pos g0).symm.trans h
        obtain ⟨z10, _, h⟩ := bnd_s h
        by_cases g0 : v4 = (4 : Int32)
        · have h := (if_pos g0).symm.trans h
          obtain rfl := Option.some.inj h
          try dsimp only [elS]
          repeat' (with_reducible first | exact Fr.rf | refine Fr.I ?_ (by simp [fp_Fm_way]) | refine Fr.L ?_ (by simp [fp_Fm_way]) | refine Fr.cI ?_ (by intro j; simp [fp_Fm_way]) | refine Fr.cL ?_ (by intro j; simp [fp_Fm_way]) | (refine Fr.tr ?_ (Fr.mono (fr_Fm_findsWays (by with_reducible assumption)) mono_Fm_way_0); try dsimp only))
        · have h := (if_neg g0).symm.trans h
          by_cases g0 : v3 < (z10.1 94 19)
          · have h := (if_pos g0).symm.trans h
            obtain ⟨_, h⟩ := grd_s h
            obtain ⟨z15, _, h⟩ := bnd_s h
            by_cases g0 : v4 = (0 : Int32)
            · have h := (if_pos g0).symm.trans h
              obtain ⟨_, h⟩ := grd_s h
              obtain rfl := Option.some.inj h
              try dsimp only [elS]
              repeat' (with_reducible first | exact Fr.rf | refine Fr.I ?_ (by simp [fp_Fm_way]) | refine Fr.L ?_ (by simp [fp_Fm_way]) | refine Fr.cI ?_ (by intro j; simp [fp_Fm_way]) | refine Fr.cL ?_ (by intro j; simp [fp_Fm_way]) | (refine Fr.tr ?_ (Fr.mono (fr_Fm_findsWays (by with_reducible assumption)) mono_Fm_way_0); try dsimp only))
            · have h := (if_neg g0).symm.trans h
              by_cases g0 : v4 = (1 : Int32)
              · have h := (if_pos g0).symm.trans h
                obtain ⟨_, h⟩ := grd_s h
                obtain rfl := Option.some.inj h
                try dsimp only [elS]
                repeat' (with_reducible first | exact Fr.rf | refine Fr.I ?_ (by simp [fp_Fm_way]) | refine Fr.L ?_ (by simp [fp_Fm_way]) | refine Fr.cI ?_ (by intro j; simp [fp_Fm_way]) | refine Fr.cL ?_ (by intro j; simp [fp_Fm_way]) | (refine Fr.tr ?_ (Fr.mono (fr_Fm_findsWays (by with_reducible assumption)) mono_Fm_way_0); try dsimp only))
              · have h := (if_neg g0).symm.trans h
                by_cases g0 : v4 = (2 : Int32)
                · have h := (if_pos g0).symm.trans h
                  obtain ⟨_, h⟩ := grd_s h
                  obtain rfl := Option.some.inj h
                  try dsimp only [elS]
                  repeat' (with_reducible first | exact Fr.rf | refine Fr.I ?_ (by simp [fp_Fm_way]) | refine Fr.L ?_ (by simp [fp_Fm_way]) | refine Fr.cI ?_ (by intro j; simp [fp_Fm_way]) | refine Fr.cL ?_ (by intro j; simp [fp_Fm_way]) | (refine Fr.tr ?_ (Fr.mono (fr_Fm_findsWays (by with_reducible assumption)) mono_Fm_way_0); try dsimp only))
                · have h := (if_neg g0).symm.trans h
                  by_cases g0 : z15 = (-1 : Int32)
                  · have h := (if_pos g0).symm.trans h
                    obtain rfl := Option.some.inj h
                    try dsimp only [elS]
                    repeat' (with_reducible first | exact Fr.rf | refine Fr.I ?_ (by simp [fp_Fm_way]) | refine Fr.L ?_ (by simp [fp_Fm_way]) | refine Fr.cI ?_ (by intro j; simp [fp_Fm_way]) | refine Fr.cL ?_ (by intro j; simp [fp_Fm_way]) | (refine Fr.tr ?_ (Fr.mono (fr_Fm_findsWays (by with_reducible assumption)) mono_Fm_way_0); try dsimp only))
                  · have h := (if_neg g0).symm.trans h
                    obtain rfl := Option.some.inj h
                    try dsimp only [elS]
                    repeat' (with_reducible first | exact Fr.rf | refine Fr.I ?_ (by simp [fp_Fm_way]) | refine Fr.L ?_ (by simp [fp_Fm_way]) | refine Fr.cI ?_ (by intro j; simp [fp_Fm_way]) | refine Fr.cL ?_ (by intro j; simp [fp_Fm_way]) | (refine Fr.tr ?_ (Fr.mono (fr_Fm_findsWays (by with_reducible assumption)) mono_Fm_way_0); try dsimp only))
          · have h := (if_neg g0).symm.trans h
            obtain rfl := Option.some.inj h
            try dsimp only [elS]
            repeat' (with_reducible first | exact Fr.rf | refine Fr.I ?_ (by simp [fp_Fm_way]) | refine Fr.L ?_ (by simp [fp_Fm_way]) | refine Fr.cI ?_ (by intro j; simp [fp_Fm_way]) | refine Fr.cL ?_ (by intro j; simp [fp_Fm_way]) | (refine Fr.tr ?_ (Fr.mono (fr_Fm_findsWays (by with_reducible assumption)) mono_Fm_way_0); try dsimp only))
      · have h := (if_neg g0).symm.trans h
        obtain rfl := Option.some.inj h
        try dsimp only [elS]
        repeat' (with_reducible first | exact Fr.rf | refine Fr.I ?_ (by simp [fp_Fm_way]) | refine Fr.L ?_ (by simp [fp_Fm_way]) | refine Fr.cI ?_ (by intro j; simp [fp_Fm_way]) | refine Fr.cL ?_ (by intro j; simp [fp_Fm_way]) | (refine Fr.tr ?_ (Fr.mono (fr_Fm_findsWays (by with_reducible assumption)) mono_Fm_way_0); try dsimp only))
    · have h := (if_neg g0).symm.trans h
      obtain rfl := Option.some.inj h
      try dsimp only [elS]
      repeat' (with_reducible first | exact Fr.rf | refine Fr.I ?_ (by simp [fp_Fm_way]) | refine Fr.L ?_ (by simp [fp_Fm_way]) | refine Fr.cI ?_ (by intro j; simp [fp_Fm_way]) | refine Fr.cL ?_ (by intro j; simp [fp_Fm_way]) | (refine Fr.tr ?_ (Fr.mono (fr_Fm_findsWays (by with_reducible assumption)) mono_Fm_way_0); try dsimp only))
  · have h := (if_neg g0).symm.trans h
    obtain rfl := Option.some.inj h
    try dsimp only [elS]
    repeat' (with_reducible first | exact Fr.rf | refine Fr.I ?_ (by simp [fp_Fm_way]) | refine Fr.L ?_ (by simp [fp_Fm_way]) | refine Fr.cI ?_ (by intro j; simp [fp_Fm_way]) | refine Fr.cL ?_ (by intro j; simp [fp_Fm_way]) | (refine Fr.tr ?_ (Fr.mono (fr_Fm_findsWays (by with_reducible assumption)) mono_Fm_way_0); try dsimp only))
theorem fr_Fm_finds_j191 {v3 : Int32} {v4 : Int32} {M : Mm} {oo : (Int32 × Int32 × Mm) ⊕ (Mm)} (h : Fm_finds_j191 v3 v4 M = some oo) : Fr (fp_Fm_finds) M (elS oo (fun s1 => s1.2.2) (fun x1 => x1)) := by
  unfold Fm_finds_j191 at h
  obtain rfl := Option.some.inj h
  try dsimp only [elS]
  repeat' (with_reducible first | exact Fr.rf | refine Fr.I ?_ (by simp [fp_Fm_finds]) | refine Fr.L ?_ (by simp [fp_Fm_finds]) | refine Fr.cI ?_ (by intro j; simp [fp_Fm_finds]) | refine Fr.cL ?_ (by intro j; simp [fp_Fm_finds]))
theorem fr_Fm_finds_j185 {v3 : Int32} {v6 : Int32} {M : Mm} {oo : (Int32 × Int32 × Mm) ⊕ (Int32 × Mm)} (h : Fm_finds_j185 v3 v6 M = some oo) : Fr (fp_Fm_finds) M (elS oo (fun s1 => s1.2.2) (fun x1 => x1.2)) := by
  unfold Fm_finds_j185 at h
  obtain rfl := Option.some.inj h
  try dsimp only [elS]
  repeat' (with_reducible first | exact Fr.rf | refine Fr.I ?_ (by simp [fp_Fm_finds]) | refine Fr.L ?_ (by simp [fp_Fm_finds]) | refine Fr.cI ?_ (by intro j; simp [fp_Fm_finds]) | refine Fr.cL ?_ (by intro j; simp [fp_Fm_finds]))
theorem fr_Fm_finds_j153 {c4 : Int32} {c5 : Int32} {v3 : Int32} {v6 : Int32} {v7 : Int32} {w0 : Int32} {M : Mm} {oo : (Int32 × Int32 × Mm) ⊕ (Int32 × Mm)} (h : Fm_finds_j153 c4 c5 v3 v6 v7 w0 M = some oo) : Fr (fp_Fm_finds) M (elS oo (fun s1 => s1.2.2) (fun x1 => x1.2)) := by
  unfold Fm_finds_j153 at h
  by_cases g0 : w0 < v3
  · have h := (if_pos g0).symm.trans h
    refine Fr.tr ?_ (fr_Fm_finds_j185 h)
    try dsimp only [elS]
    repeat' (with_reducible first | exact Fr.rf | refine Fr.I ?_ (by simp [fp_Fm_finds]) | refine Fr.L ?_ (by simp [fp_Fm_finds]) | refine Fr.cI ?_ (by intro j; simp [fp_Fm_finds]) | refine Fr.cL ?_ (by intro j; simp [fp_Fm_finds]))
  · have h := (if_neg g0).symm.trans h
    refine Fr.tr ?_ (fr_Fm_finds_j185 h)
    try dsimp only [elS]
    repeat' (with_reducible first | exact Fr.rf | refine Fr.I ?_ (by simp [fp_Fm_finds]) | refine Fr.L ?_ (by simp [fp_Fm_finds]) | refine Fr.cI ?_ (by intro j; simp [fp_Fm_finds]) | refine Fr.cL ?_ (by intro j; simp [fp_Fm_finds]))
theorem fr_Fm_finds_j94 {n : Nat} {c2 : Int32} {c4 : Int32} {c5 : Int32} {v3 : Int32} {v6 : Int32} {w0 : Int32} {M : Mm} {oo : (Int32 × Int32 × Mm) ⊕ (Int32 × Mm)} (h : Fm_finds_j94 n c2 c4 c5 v3 v6 w0 M = some oo) : Fr (fp_Fm_finds) M (elS oo (fun s1 => s1.2.2) (fun x1 => x1.2)) := by
  unfold Fm_finds_j94 at h
  obtain ⟨_, h⟩ := grd_s h
  obtain ⟨z10, _, h⟩ := bnd_s h
  by_cases g0 : z10 = true
  · have h := (if_pos g0).symm.trans h
    by_cases g0 : c2 = (2 : Int32)
    · have h := (if_pos g0).symm.trans h
      obtain ⟨_, h⟩ := grd_s h
      obtain ⟨z17, _, h⟩ := bnd_s h
      refine Fr.tr ?_ (fr_Fm_finds_j153 h)
      try dsimp only [elS]
      repeat' (with_reducible first | exact Fr.rf | refine Fr.I ?_ (by simp [fp_Fm_finds]) | refine Fr.L ?_ (by simp [fp_Fm_finds]) | refine Fr.cI ?_ (by intro j; simp [fp_Fm_finds]) | refine Fr.cL ?_ (by intro j; simp [fp_Fm_finds]))
    · have h := (if_neg g0).symm.trans h
      by_cases g0 : c2 = (1 : Int32)
      · have h := (if_pos g0).symm.trans h
        refine Fr.tr ?_ (fr_Fm_finds_j153 h)
        try dsimp only [elS]
        repeat' (with_reducible first | exact Fr.rf | refine Fr.I ?_ (by simp [fp_Fm_finds]) | refine Fr.L ?_ (by simp [fp_Fm_finds]) | refine Fr.cI ?_ (by intro j; simp [fp_Fm_finds]) | refine Fr.cL ?_ (by intro j; simp [fp_Fm_finds]))
      · have h := (if_neg g0).symm.trans h
        refine Fr.tr ?_ (fr_Fm_finds_j153 h)
        try dsimp only [elS]
        repeat' (with_reducible first | exact Fr.rf | refine Fr.I ?_ (by simp [fp_Fm_finds]) | refine Fr.L ?_ (by simp [fp_Fm_finds]) | refine Fr.cI ?_ (by intro j; simp [fp_Fm_finds]) | refine Fr.cL ?_ (by intro j; simp [fp_Fm_finds]))
  · have h := (if_neg g0).symm.trans h
    refine Fr.tr ?_ (fr_Fm_finds_j185 h)
    try dsimp only [elS]
    repeat' (with_reducible first | exact Fr.rf | refine Fr.I ?_ (by simp [fp_Fm_finds]) | refine Fr.L ?_ (by simp [fp_Fm_finds]) | refine Fr.cI ?_ (by intro j; simp [fp_Fm_finds]) | refine Fr.cL ?_ (by intro j; simp [fp_Fm_finds]))
theorem fr_Fm_finds_b58 {n : Nat} {c2 : Int32} {c4 : Int32} {c5 : Int32} {v3 : Int32} {v6 : Int32} {M : Mm} {oo : (Int32 × Int32 × Mm) ⊕ (Int32 × Mm)} (h : Fm_finds_b58 n c2 c4 c5 v3 v6 M = some oo) : Fr (fp_Fm_finds) M (elS oo (fun s1 => s1.2.2) (fun x1 => x1.2)) := by
  unfold Fm_finds_b58 at h
  obtain ⟨_, h⟩ := grd_s h
  by_cases g0 : (M.1 95 (tn (1 : Int32))) < (v6 + c5)
  · have h := (if_pos g0).symm.trans h
    obtain rfl := Option.some.inj h
    try dsimp only [elS]
    repeat' (with_reducible first | exact Fr.rf | refine Fr.I ?_ (by simp [fp_Fm_finds]) | refine Fr.L ?_ (by simp [fp_Fm_finds]) | refine Fr.cI ?_ (by intro j; simp [fp_Fm_finds]) | refine Fr.cL ?_ (by intro j; simp [fp_Fm_finds]))
  · have h := (if_neg g0).symm.trans h
    by_cases g0 : c2 = (3 : Int32)
    · have h := (if_pos g0).symm.trans h
      obtain ⟨_, h⟩ := grd_s h
      refine Fr.tr ?_ (fr_Fm_finds_j94 h)
      try dsimp only [elS]
      repeat' (with_reducible first | exact Fr.rf | refine Fr.I ?_ (by simp [fp_Fm_finds]) | refine Fr.L ?_ (by simp [fp_Fm_finds]) | refine Fr.cI ?_ (by intro j; simp [fp_Fm_finds]) | refine Fr.cL ?_ (by intro j; simp [fp_Fm_finds]))
    · have h := (if_neg g0).symm.trans h
      refine Fr.tr ?_ (fr_Fm_finds_j94 h)
      try dsimp only [elS]
      repeat' (with_reducible first | exact Fr.rf | refine Fr.I ?_ (by simp [fp_Fm_finds]) | refine Fr.L ?_ (by simp [fp_Fm_finds]) | refine Fr.cI ?_ (by intro j; simp [fp_Fm_finds]) | refine Fr.cL ?_ (by intro j; simp [fp_Fm_finds]))
theorem frl_Fm_finds_b58 {n : Nat} {c2 : Int32} {c4 : Int32} {c5 : Int32}  {n1 : Nat} {s0 : Int32 × Int32 × Mm} {y1 : Int32 × Mm} (h : loop (fun s1 : Int32 × Int32 × Mm => Fm_finds_b58 n c2 c4 c5 s1.1 s1.2.1 s1.2.2) n1 s0 = some y1) : Fr (fp_Fm_finds) s0.2.2 y1.2 :=
  loop_inv (P := fun s2 : Int32 × Int32 × Mm => Fr (fp_Fm_finds) s0.2.2 s2.2.2) (E := fun y1 : Int32 × Mm => Fr (fp_Fm_finds) s0.2.2 y1.2) (fun s2 s3 hP hb => hP.tr (fr_Fm_finds_b58 hb)) (fun s2 x2 hP hb => hP.tr (fr_Fm_finds_b58 hb)) n1 s0 y1 h Fr.rf
theorem fr_Fm_finds_j55 {n : Nat} {c2 : Int32} {v3 : Int32} {v4 : Int32} {v5 : Int32} {M : Mm} {oo : (Int32 × Int32 × Mm) ⊕ (Mm)} (h : Fm_finds_j55 n c2 v3 v4 v5 M = some oo) : Fr (fp_Fm_finds) M (elS oo (fun s1 => s1.2.2) (fun x1 => x1)) := by
  unfold Fm_finds_j55 at h
  obtain ⟨y20, _, h⟩ := bnd_s h
  refine Fr.tr ?_ (fr_Fm_finds_j191 h)
  try dsimp only [elS]
  repeat' (with_reducible first | exact Fr.rf | refine Fr.I ?_ (by simp [fp_Fm_finds]) | refine Fr.L ?_ (by simp [fp_Fm_finds]) | refine Fr.cI ?_ (by intro j; simp [fp_Fm_finds]) | refine Fr.cL ?_ (by intro j; simp [fp_Fm_finds]) | (refine Fr.tr ?_ (frl_Fm_finds_b58 (by with_reducible assumption)); try dsimp only))
theorem fr_Fm_finds_b11 {n : Nat} {c1 : Int32} {c2 : Int32} {v3 : Int32} {v4 : Int32} {M : Mm} {oo : (Int32 × Int32 × Mm) ⊕ (Mm)} (h : Fm_finds_b11 n c1 c2 v3 v4 M = some oo) : Fr (fp_Fm_finds) M (elS oo (fun s1 => s1.2.2) (fun x1 => x1)) := by
  unfold Fm_finds_b11 at h
  by_cases g0 : (M.1 94 19) ≤ v4
  · have h := (if_pos g0).symm.trans h
    obtain rfl := Option.some.inj h
    try dsimp only [elS]
    repeat' (with_reducible first | exact Fr.rf | refine Fr.I ?_ (by simp [fp_Fm_finds]) | refine Fr.L ?_ (by simp [fp_Fm_finds]) | refine Fr.cI ?_ (by intro j; simp [fp_Fm_finds]) | refine Fr.cL ?_ (by intro j; simp [fp_Fm_finds]) | (refine Fr.tr ?_ (frl_Fm_finds_b58 (by with_reducible assumption)); try dsimp only))
  · have h := (if_neg g0).symm.trans h
    obtain ⟨z2, _, h⟩ := bnd_s h
    by_cases g0 : z2 = (-1 : Int32)
    · have h := (if_pos g0).symm.trans h
      refine Fr.tr ?_ (fr_Fm_finds_j191 h)
      try dsimp only [elS]
      repeat' (with_reducible first | exact Fr.rf | refine Fr.I ?_ (by simp [fp_Fm_finds]) | refine Fr.L ?_ (by simp [fp_Fm_finds]) | refine Fr.cI ?_ (by intro j; simp [fp_Fm_finds]) | refine Fr.cL ?_ (by intro j; simp [fp_Fm_finds]) | (refine Fr.tr ?_ (frl_Fm_finds_b58 (by with_reducible assumption)); try dsimp only))
    · have h := (if_neg g0).symm.trans h
      by_cases g0 : (M.1 94 20) = (-1 : Int32)
      · have h := (if_pos g0).symm.trans h
        refine Fr.tr ?_ (fr_Fm_finds_j55 h)
        try dsimp only [elS]
        repeat' (with_reducible first | exact Fr.rf | refine Fr.I ?_ (by simp [fp_Fm_finds]) | refine Fr.L ?_ (by simp [fp_Fm_finds]) | refine Fr.cI ?_ (by intro j; simp [fp_Fm_finds]) | refine Fr.cL ?_ (by intro j; simp [fp_Fm_finds]) | (refine Fr.tr ?_ (frl_Fm_finds_b58 (by with_reducible assumption)); try dsimp only))
      · have h := (if_neg g0).symm.trans h
        by_cases g0 : c2 = (0 : Int32)
        · have h := (if_pos g0).symm.trans h
          refine Fr.tr ?_ (fr_Fm_finds_j191 h)
          try dsimp only [elS]
          repeat' (with_reducible first | exact Fr.rf | refine Fr.I ?_ (by simp [fp_Fm_finds]) | refine Fr.L ?_ (by simp [fp_Fm_finds]) | refine Fr.cI ?_ (by intro j; simp [fp_Fm_finds]) | refine Fr.cL ?_ (by intro j; simp [fp_Fm_finds]) | (refine Fr.tr ?_ (frl_Fm_finds_b58 (by with_reducible assumption)); try dsimp only))
        · have h := (if_neg g0).symm.trans h
          by_cases g0 : c2 = (3 : Int32)
          · have h := (if_pos g0).symm.trans h
            refine Fr.tr ?_ (fr_Fm_finds_j191 h)
            try dsimp only [elS]
            repeat' (with_reducible first | exact Fr.rf | refine Fr.I ?_ (by simp [fp_Fm_finds]) | refine Fr.L ?_ (by simp [fp_Fm_finds]) | refine Fr.cI ?_ (by intro j; simp [fp_Fm_finds]) | refine Fr.cL ?_ (by intro j; simp [fp_Fm_finds]) | (refine Fr.tr ?_ (frl_Fm_finds_b58 (by with_reducible assumption)); try dsimp only))
          · have h := (if_neg g0).symm.trans h
            refine Fr.tr ?_ (fr_Fm_finds_j55 h)
            try dsimp only [elS]
            repeat' (with_reducible first | exact Fr.rf | refine Fr.I ?_ (by simp [fp_Fm_finds]) | refine Fr.L ?_ (by simp [fp_Fm_finds]) | refine Fr.cI ?_ (by intro j; simp [fp_Fm_finds]) | refine Fr.cL ?_ (by intro j; simp [fp_Fm_finds]) | (refine Fr.tr ?_ (frl_Fm_finds_b58 (by with_reducible assumption)); try dsimp only))
theorem frl_Fm_finds_b11 {n : Nat} {c1 : Int32} {c2 : Int32}  {n1 : Nat} {s0 : Int32 × Int32 × Mm} {y1 : Mm} (h : loop (fun s1 : Int32 × Int32 × Mm => Fm_finds_b11 n c1 c2 s1.1 s1.2.1 s1.2.2) n1 s0 = some y1) : Fr (fp_Fm_finds) s0.2.2 y1 :=
  loop_inv (P := fun s2 : Int32 × Int32 × Mm => Fr (fp_Fm_finds) s0.2.2 s2.2.2) (E := fun y1 : Mm => Fr (fp_Fm_finds) s0.2.2 y1) (fun s2 s3 hP hb => hP.tr (fr_Fm_finds_b11 hb)) (fun s2 x2 hP hb => hP.tr (fr_Fm_finds_b11 hb)) n1 s0 y1 h Fr.rf
theorem fr_Fm_finds {n : Nat} {v1 : Int32} {v2 : Int32} {M : Mm} {oo : Bool × Mm} (h : Fm_finds n v1 v2 M = some oo) : Fr (fp_Fm_finds) M oo.2 := by
  unfold Fm_finds at h
  obtain ⟨y23, _, h⟩ := bnd_s h
  by_cases g0 : (y23.1 94 20) = (-1 : Int32)
  · have h := (if_pos g0).symm.trans h
    obtain rfl := Option.some.inj h
    try dsimp only [elS]
    repeat' (with_reducible first | exact Fr.rf | refine Fr.I ?_ (by simp [fp_Fm_finds]) | refine Fr.L ?_ (by simp [fp_Fm_finds]) | refine Fr.cI ?_ (by intro j; simp [fp_Fm_finds]) | refine Fr.cL ?_ (by intro j; simp [fp_Fm_finds]) | (refine Fr.tr ?_ (frl_Fm_finds_b58 (by with_reducible assumption)); try dsimp only) | (refine Fr.tr ?_ (frl_Fm_finds_b11 (by with_reducible assumption)); try dsimp only))
  · have h := (if_neg g0).symm.trans h
    obtain rfl := Option.some.inj h
    try dsimp only [elS]
    repeat' (with_reducible first | exact Fr.rf | refine Fr.I ?_ (by simp [fp_Fm_finds]) | refine Fr.L ?_ (by simp [fp_Fm_finds]) | refine Fr.cI ?_ (by intro j; simp [fp_Fm_finds]) | refine Fr.cL ?_ (by intro j; simp [fp_Fm_finds]) | (refine Fr.tr ?_ (frl_Fm_finds_b58 (by with_reducible assumption)); try dsimp only) | (refine Fr.tr ?_ (frl_Fm_finds_b11 (by with_reducible assumption)); try dsimp only))
theorem mono_Fm_findsFor_0  : ∀ c j, fp_Fm_finds c j → fp_Fm_findsFor c j := fun c j => (fun h => h.elim (fun e => Or.inr (Or.inr (Or.inr (Or.inr (Or.inr (Or.inl e)))))) (fun h => h.elim (fun e => Or.inr (Or.inr (Or.inr (Or.inr (Or.inr (Or.inr (Or.inl e))))))) (fun e => Or.inr (Or.inr (Or.inr (Or.inr (Or.inr (Or.inr (Or.inr (Or.inl e))))))))))
theorem mono_Fm_findsFor_1  : ∀ c j, fp_Fm_findsWays c j → fp_Fm_findsFor c j := fun c j => (fun h => h.elim (fun e => Or.inl e) (fun h => h.elim (fun e => Or.inr (Or.inl e)) (fun h => h.elim (fun e => Or.inr (Or.inr (Or.inl e))) (fun h => h.elim (fun e => Or.inr (Or.inr (Or.inr (Or.inl e)))) (fun h => h.elim (fun e => Or.inr (Or.inr (Or.inr (Or.inr (Or.inl e))))) (fun h => h.elim (fun e => Or.inr (Or.inr (Or.inr (Or.inr (Or.inr (Or.inr (Or.inr (Or.inr (Or.inl e))))))))) (fun e => Or.inr (Or.inr (Or.inr (Or.inr (Or.inr (Or.inr (Or.inr (Or.inr (Or.inr (e))))))))))))))))
theorem fr_Fm_findsFor {n : Nat} {v1 : Int32} {v2 : Int32} {v3 : Int32} {v4 : Int32} {M : Mm} {oo : Bool × Mm} (h : Fm_findsFor n v1 v2 v3 v4 M = some oo) : Fr (fp_Fm_findsFor) M oo.2 := by
  unfold Fm_findsFor at h
  obtain ⟨z1, _, h⟩ := bnd_s h
  obtain ⟨z3, _, h⟩ := bnd_s h
  obtain rfl := Option.some.inj h
  try dsimp only [elS]
  repeat' (with_reducible first | exact Fr.rf | refine Fr.I ?_ (by simp [fp_Fm_findsFor]) | refine Fr.L ?_ (by simp [fp_Fm_findsFor]) | refine Fr.cI ?_ (by intro j; simp [fp_Fm_findsFor]) | refine Fr.cL ?_ (by intro j; simp [fp_Fm_findsFor]) | (refine Fr.tr ?_ (Fr.mono (fr_Fm_finds (by with_reducible assumption)) mono_Fm_findsFor_0); try dsimp only) | (refine Fr.tr ?_ (Fr.mono (fr_Fm_findsWays (by with_reducible assumption)) mono_Fm_findsFor_1); try dsimp only))
theorem mono_Fm_lights_0  : ∀ c j, fp_Fm_sets c j → fp_Fm_lights c j := fun c j => (fun e => e)
theorem fr_Fm_lights {v1 : Int32} {M : Mm} {oo : Mm} (h : Fm_lights v1 M = some oo) : Fr (fp_Fm_lights) M oo := by
  unfold Fm_lights at h
  obtain ⟨z1, _, h⟩ := bnd_s h
  obtain ⟨z3, _, h⟩ := bnd_s h
  obtain ⟨z5, _, h⟩ := bnd_s h
  obtain ⟨_, h⟩ := grd_s h
  obtain ⟨z8, _, h⟩ := bnd_s h
  obtain rfl := Option.some.inj h
  try dsimp only [elS]
  repeat' (with_reducible first | exact Fr.rf | refine Fr.I ?_ (by simp [fp_Fm_lights]) | refine Fr.L ?_ (by simp [fp_Fm_lights]) | refine Fr.cI ?_ (by intro j; simp [fp_Fm_lights]) | refine Fr.cL ?_ (by intro j; simp [fp_Fm_lights]) | (refine Fr.tr ?_ (Fr.mono (fr_Fm_sets (by with_reducible assumption)) mono_Fm_lights_0); try dsimp only))
theorem mono_Fm_comes_0  : ∀ c j, fp_Fm_lights c j → fp_Fm_comes c j := fun c j => (fun e => e)
theorem mono_Fm_comes_1  : ∀ c j, fp_Fm_sets c j → fp_Fm_comes c j := fun c j => (fun e => e)
theorem fr_Fm_comes_b23 {c5 : Int32} {v6 : Int32} {M : Mm} {oo : (Int32 × Mm) ⊕ (Mm)} (h : Fm_comes_b23 c5 v6 M = some oo) : Fr (fp_Fm_comes) M (elS oo (fun s1 => s1.2) (fun x1 => x1)) := by
  unfold Fm_comes_b23 at h
  by_cases g0 : (10 : Int32) ≤ v6
  · have h := (if_pos g0).symm.trans h
    obtain rfl := Option.some.inj h
    try dsimp only [elS]
    repeat' (with_reducible first | exact Fr.rf | refine Fr.I ?_ (by simp [fp_Fm_comes]) | refine Fr.L ?_ (by simp [fp_Fm_comes]) | refine Fr.cI ?_ (by intro j; simp [fp_Fm_comes]) | refine Fr.cL ?_ (by intro j; simp [fp_Fm_comes]) | (refine Fr.tr ?_ (Fr.mono (fr_Fm_lights (by with_reducible assumption)) mono_Fm_comes_0); try dsimp only) | (refine Fr.tr ?_ (Fr.mono (fr_Fm_sets (by with_reducible assumption)) mono_Fm_comes_1); try dsimp only))
  · have h := (if_neg g0).symm.trans h
    obtain ⟨z4, _, h⟩ := bnd_s h
    obtain rfl := Option.some.inj h
    try dsimp only [elS]
    repeat' (with_reducible first | exact Fr.rf | refine Fr.I ?_ (by simp [fp_Fm_comes]) | refine Fr.L ?_ (by simp [fp_Fm_comes]) | refine Fr.cI ?_ (by intro j; simp [fp_Fm_comes]) | refine Fr.cL ?_ (by intro j; simp [fp_Fm_comes]) | (refine Fr.tr ?_ (Fr.mono (fr_Fm_lights (by with_reducible assumption)) mono_Fm_comes_0); try dsimp only) | (refine Fr.tr ?_ (Fr.mono (fr_Fm_sets (by with_reducible assumption)) mono_Fm_comes_1); try dsimp only))
theorem frl_Fm_comes_b23 {c5 : Int32}  {n1 : Nat} {s0 : Int32 × Mm} {y1 : Mm} (h : loop (fun s1 : Int32 × Mm => Fm_comes_b23 c5 s1.1 s1.2) n1 s0 = some y1) : Fr (fp_Fm_comes) s0.2 y1 :=
  loop_inv (P := fun s2 : Int32 × Mm => Fr (fp_Fm_comes) s0.2 s2.2) (E := fun y1 : Mm => Fr (fp_Fm_comes) s0.2 y1) (fun s2 s3 hP hb => hP.tr (fr_Fm_comes_b23 hb)) (fun s2 x2 hP hb => hP.tr (fr_Fm_comes_b23 hb)) n1 s0 y1 h Fr.rf
theorem fr_Fm_comes {n : Nat} {v1 : Int32} {v2 : Int32} {v3 : Int32} {v4 : Bool} {M : Mm} {oo : Int32 × Mm} (h : Fm_comes n v1 v2 v3 v4 M = some oo) : Fr (fp_Fm_comes) M oo.2 := by
  unfold Fm_comes at h
  obtain ⟨_, h⟩ := grd_s h
  obtain ⟨_, h⟩ := grd_s h
  obtain ⟨y6, _, h⟩ := bnd_s h
  obtain ⟨z7, _, h⟩ := bnd_s h
  obtain ⟨z9, _, h⟩ := bnd_s h
  obtain ⟨z11, _, h⟩ := bnd_s h
  obtain ⟨z13, _, h⟩ := bnd_s h
  obtain ⟨z15, _, h⟩ := bnd_s h
  by_cases g0 : v4 = true
  · have h := (if_pos g0).symm.trans h
    obtain ⟨z18, _, h⟩ := bnd_s h
    obtain rfl := Option.some.inj h
    try dsimp only [elS]
    repeat' (with_reducible first | exact Fr.rf | refine Fr.I ?_ (by simp [fp_Fm_comes]) | refine Fr.L ?_ (by simp [fp_Fm_comes]) | refine Fr.cI ?_ (by intro j; simp [fp_Fm_comes]) | refine Fr.cL ?_ (by intro j; simp [fp_Fm_comes]) | (refine Fr.tr ?_ (Fr.mono (fr_Fm_lights (by with_reducible assumption)) mono_Fm_comes_0); try dsimp only) | (refine Fr.tr ?_ (Fr.mono (fr_Fm_sets (by with_reducible assumption)) mono_Fm_comes_1); try dsimp only) | (refine Fr.tr ?_ (frl_Fm_comes_b23 (by with_reducible assumption)); try dsimp only))
  · have h := (if_neg g0).symm.trans h
    obtain rfl := Option.some.inj h
    try dsimp only [elS]
    repeat' (with_reducible first | exact Fr.rf | refine Fr.I ?_ (by simp [fp_Fm_comes]) | refine Fr.L ?_ (by simp [fp_Fm_comes]) | refine Fr.cI ?_ (by intro j; simp [fp_Fm_comes]) | refine Fr.cL ?_ (by intro j; simp [fp_Fm_comes]) | (refine Fr.tr ?_ (Fr.mono (fr_Fm_lights (by with_reducible assumption)) mono_Fm_comes_0); try dsimp only) | (refine Fr.tr ?_ (Fr.mono (fr_Fm_sets (by with_reducible assumption)) mono_Fm_comes_1); try dsimp only) | (refine Fr.tr ?_ (frl_Fm_comes_b23 (by with_reducible assumption)); try dsimp only))
theorem mono_Fm_ask_0  : ∀ c j, fp_Fm_comes c j → fp_Fm_ask c j := fun c j => (fun e => Or.inr (Or.inr (Or.inr (Or.inr (Or.inr (Or.inr (Or.inr (Or.inr (Or.inl e)))))))))
theorem mono_Fm_ask_1  : ∀ c j, fp_Fm_findsFor c j → fp_Fm_ask c j := fun c j => (fun h => h.elim (fun e => Or.inl e) (fun h => h.elim (fun e => Or.inr (Or.inl e)) (fun h => h.elim (fun e => Or.inr (Or.inr (Or.inl e))) (fun h => h.elim (fun e => Or.inr (Or.inr (Or.inr (Or.inl e)))) (fun h => h.elim (fun e => Or.inr (Or.inr (Or.inr (Or.inr (Or.inl e))))) (fun h => h.elim (fun e => Or.inr (Or.inr (Or.inr (Or.inr (Or.inr (Or.inl e)))))) (fun h => h.elim (fun e => Or.inr (Or.inr (Or.inr (Or.inr (Or.inr (Or.inr (Or.inl e))))))) (fun h => h.elim (fun e => Or.inr (Or.inr (Or.inr (Or.inr (Or.inr (Or.inr (Or.inr (Or.inl e)))))))) (fun h => h.elim (fun e => Or.inr (Or.inr (Or.inr (Or.inr (Or.inr (Or.inr (Or.inr (Or.inr (Or.inr (Or.inl e)))))))))) (fun e => Or.inr (Or.inr (Or.inr (Or.inr (Or.inr (Or.inr (Or.inr (Or.inr (Or.inr (Or.inr (e))))))))))))))))))))
theorem fr_Fm_ask {n : Nat} {v1 : Int32} {v2 : Int32} {v3 : Int32} {v4 : Int32} {M : Mm} {oo : Int32 × Mm} (h : Fm_ask n v1 v2 v3 v4 M = some oo) : Fr (fp_Fm_ask) M oo.2 := by
  unfold Fm_ask at h
  obtain ⟨z1, _, h⟩ := bnd_s h
  by_cases g0 : z1 = true
  · have h := (if_pos g0).symm.trans h
    obtain ⟨_, h⟩ := grd_s h
    by_cases g0 : (M.1 95 (tn (7 : Int32))) = (40 : Int32)
    · have h := (if_pos g0).symm.trans h
      obtain rfl := Option.some.inj h
      try dsimp only [elS]
      repeat' (with_reducible first | exact Fr.rf | refine Fr.I ?_ (by simp [fp_Fm_ask]) | refine Fr.L ?_ (by simp [fp_Fm_ask]) | refine Fr.cI ?_ (by intro j; simp [fp_Fm_ask]) | refine Fr.cL ?_ (by intro j; simp [fp_Fm_ask]) | (refine Fr.tr ?_ (Fr.mono (fr_Fm_comes (by with_reducible assumption)) mono_Fm_ask_0); try dsimp only) | (refine Fr.tr ?_ (Fr.mono (fr_Fm_findsFor (by with_reducible assumption)) mono_Fm_ask_1); try dsimp only))
    · have h := (if_neg g0).symm.trans h
      obtain ⟨z6, _, h⟩ := bnd_s h
      obtain ⟨z8, _, h⟩ := bnd_s h
      by_cases g0 : z6.1 = true
      · have h := (if_pos g0).symm.trans h
        obtain rfl := Option.some.inj h
        try dsimp only [elS]
        repeat' (with_reducible first | exact Fr.rf | refine Fr.I ?_ (by simp [fp_Fm_ask]) | refine Fr.L ?_ (by simp [fp_Fm_ask]) | refine Fr.cI ?_ (by intro j; simp [fp_Fm_ask]) | refine Fr.cL ?_ (by intro j; simp [fp_Fm_ask]) | (refine Fr.tr ?_ (Fr.mono (fr_Fm_comes (by with_reducible assumption)) mono_Fm_ask_0); try dsimp only) | (refine Fr.tr ?_ (Fr.mono (fr_Fm_findsFor (by with_reducible assumption)) mono_Fm_ask_1); try dsimp only))
      · have h := (if_neg g0).symm.trans h
        obtain rfl := Option.some.inj h
        try dsimp only [elS]
        repeat' (with_reducible first | exact Fr.rf | refine Fr.I ?_ (by simp [fp_Fm_ask]) | refine Fr.L ?_ (by simp [fp_Fm_ask]) | refine Fr.cI ?_ (by intro j; simp [fp_Fm_ask]) | refine Fr.cL ?_ (by intro j; simp [fp_Fm_ask]) | (refine Fr.tr ?_ (Fr.mono (fr_Fm_comes (by with_reducible assumption)) mono_Fm_ask_0); try dsimp only) | (refine Fr.tr ?_ (Fr.mono (fr_Fm_findsFor (by with_reducible assumption)) mono_Fm_ask_1); try dsimp only))
  · have h := (if_neg g0).symm.trans h
    obtain rfl := Option.some.inj h
    try dsimp only [elS]
    repeat' (with_reducible first | exact Fr.rf | refine Fr.I ?_ (by simp [fp_Fm_ask]) | refine Fr.L ?_ (by simp [fp_Fm_ask]) | refine Fr.cI ?_ (by intro j; simp [fp_Fm_ask]) | refine Fr.cL ?_ (by intro j; simp [fp_Fm_ask]) | (refine Fr.tr ?_ (Fr.mono (fr_Fm_comes (by with_reducible assumption)) mono_Fm_ask_0); try dsimp only) | (refine Fr.tr ?_ (Fr.mono (fr_Fm_findsFor (by with_reducible assumption)) mono_Fm_ask_1); try dsimp only))
theorem mono_Fm_found_0  : ∀ c j, fp_Fm_findsFor c j → fp_Fm_found c j := fun c j => (fun h => h.elim (fun e => Or.inl e) (fun h => h.elim (fun e => Or.inr (Or.inl e)) (fun h => h.elim (fun e => Or.inr (Or.inr (Or.inl e))) (fun h => h.elim (fun e => Or.inr (Or.inr (Or.inr (Or.inl e)))) (fun h => h.elim (fun e => Or.inr (Or.inr (Or.inr (Or.inr (Or.inl e))))) (fun h => h.elim (fun e => Or.inr (Or.inr (Or.inr (Or.inr (Or.inr (Or.inl e)))))) (fun h => h.elim (fun e => Or.inr (Or.inr (Or.inr (Or.inr (Or.inr (Or.inr (Or.inl e))))))) (fun h => h.elim (fun e => Or.inr (Or.inr (Or.inr (Or.inr (Or.inr (Or.inr (Or.inr (Or.inl e)))))))) (fun h => h.elim (fun e => Or.inr (Or.inr (Or.inr (Or.inr (Or.inr (Or.inr (Or.inr (Or.inr (Or.inl e))))))))) (fun e => Or.inr (Or.inr (Or.inr (Or.inr (Or.inr (Or.inr (Or.inr (Or.inr (Or.inr (e)))))))))))))))))))
theorem fr_Fm_found {n : Nat} {v1 : Int32} {v2 : Int32} {v3 : Int32} {v4 : Int32} {v5 : Int32} {M : Mm} {oo : Int32 × Mm} (h : Fm_found n v1 v2 v3 v4 v5 M = some oo) : Fr (fp_Fm_found) M oo.2 := by
  unfold Fm_found at h
  obtain ⟨z1, _, h⟩ := bnd_s h
  by_cases g0 : z1 = true
  · have h := (if_pos g0).symm.trans h
    obtain ⟨z4, _, h⟩ := bnd_s h
    by_cases g0 : z4 = true
    · have h := (if_pos g0).symm.trans h
      obtain ⟨z7, _, h⟩ := bnd_s h
      by_cases g0 : z7.1 = true
      · have h := (if_pos g0).symm.trans h
        by_cases g0 : v5 = (0 : Int32)
        · have h := (if_pos g0).symm.trans h
          obtain rfl := Option.some.inj h
          try dsimp only [elS]
          repeat' (with_reducible first | exact Fr.rf | refine Fr.I ?_ (by simp [fp_Fm_found]) | refine Fr.L ?_ (by simp [fp_Fm_found]) | refine Fr.cI ?_ (by intro j; simp [fp_Fm_found]) | refine Fr.cL ?_ (by intro j; simp [fp_Fm_found]) | (refine Fr.tr ?_ (Fr.mono (fr_Fm_findsFor (by with_reducible assumption)) mono_Fm_found_0); try dsimp only))
        · have h := (if_neg g0).symm.trans h
          by_cases g0 : v5 = (1 : Int32)
          · have h := (if_pos g0).symm.trans h
            obtain rfl := Option.some.inj h
            try dsimp only [elS]
            repeat' (with_reducible first | exact Fr.rf | refine Fr.I ?_ (by simp [fp_Fm_found]) | refine Fr.L ?_ (by simp [fp_Fm_found]) | refine Fr.cI ?_ (by intro j; simp [fp_Fm_found]) | refine Fr.cL ?_ (by intro j; simp [fp_Fm_found]) | (refine Fr.tr ?_ (Fr.mono (fr_Fm_findsFor (by with_reducible assumption)) mono_Fm_found_0); try dsimp only))
          · have h := (if_neg g0).symm.trans h
            obtain rfl := Option.some.inj h
            try dsimp only [elS]
            repeat' (with_reducible first | exact Fr.rf | refine Fr.I ?_ (by simp [fp_Fm_found]) | refine Fr.L ?_ (by simp [fp_Fm_found]) | refine Fr.cI ?_ (by intro j; simp [fp_Fm_found]) | refine Fr.cL ?_ (by intro j; simp [fp_Fm_found]) | (refine Fr.tr ?_ (Fr.mono (fr_Fm_findsFor (by with_reducible assumption)) mono_Fm_found_0); try dsimp only))
      · have h := (if_neg g0).symm.trans h
        obtain rfl := Option.some.inj h
        try dsimp only [elS]
        repeat' (with_reducible first | exact Fr.rf | refine Fr.I ?_ (by simp [fp_Fm_found]) | refine Fr.L ?_ (by simp [fp_Fm_found]) | refine Fr.cI ?_ (by intro j; simp [fp_Fm_found]) | refine Fr.cL ?_ (by intro j; simp [fp_Fm_found]) | (refine Fr.tr ?_ (Fr.mono (fr_Fm_findsFor (by with_reducible assumption)) mono_Fm_found_0); try dsimp only))
    · have h := (if_neg g0).symm.trans h
      obtain rfl := Option.some.inj h
      try dsimp only [elS]
      repeat' (with_reducible first | exact Fr.rf | refine Fr.I ?_ (by simp [fp_Fm_found]) | refine Fr.L ?_ (by simp [fp_Fm_found]) | refine Fr.cI ?_ (by intro j; simp [fp_Fm_found]) | refine Fr.cL ?_ (by intro j; simp [fp_Fm_found]) | (refine Fr.tr ?_ (Fr.mono (fr_Fm_findsFor (by with_reducible assumption)) mono_Fm_found_0); try dsimp only))
  · have h := (if_neg g0).symm.trans h
    obtain rfl := Option.some.inj h
    try dsimp only [elS]
    repeat' (with_reducible first | exact Fr.rf | refine Fr.I ?_ (by simp [fp_Fm_found]) | refine Fr.L ?_ (by simp [fp_Fm_found]) | refine Fr.cI ?_ (by intro j; simp [fp_Fm_found]) | refine Fr.cL ?_ (by intro j; simp [fp_Fm_found]) | (refine Fr.tr ?_ (Fr.mono (fr_Fm_findsFor (by with_reducible assumption)) mono_Fm_found_0); try dsimp only))
theorem mono_Fm_witness_0  : ∀ c j, fp_Fm_findsWays c j → fp_Fm_witness c j := fun c j => (fun h => h.elim (fun e => Or.inl e) (fun h => h.elim (fun e => Or.inr (Or.inl e)) (fun h => h.elim (fun e => Or.inr (Or.inr (Or.inl e))) (fun h => h.elim (fun e => Or.inr (Or.inr (Or.inr (Or.inl e)))) (fun h => h.elim (fun e => Or.inr (Or.inr (Or.inr (Or.inr (Or.inl e))))) (fun h => h.elim (fun e => Or.inr (Or.inr (Or.inr (Or.inr (Or.inr (Or.inl e)))))) (fun e => Or.inr (Or.inr (Or.inr (Or.inr (Or.inr (Or.inr (e)))))))))))))
theorem fr_Fm_witness {n : Nat} {v1 : Int32} {v2 : Int32} {v3 : Int32} {v4 : Int32} {v5 : Int32} {M : Mm} {oo : Int32 × Mm} (h : Fm_witness n v1 v2 v3 v4 v5 M = some oo) : Fr (fp_Fm_witness) M oo.2 := by
  unfold Fm_witness at h
  obtain ⟨z1, _, h⟩ := bnd_s h
  by_cases g0 : z1 = true
  · have h := (if_pos g0).symm.trans h
    obtain ⟨z4, _, h⟩ := bnd_s h
    by_cases g0 : z4 = true
    · have h := (if_pos g0).symm.trans h
      obtain ⟨z7, _, h⟩ := bnd_s h
      by_cases g0 : z7 = true
      · have h := (if_pos g0).symm.trans h
        obtain ⟨_, h⟩ := grd_s h
        obtain ⟨z11, _, h⟩ := bnd_s h
        by_cases g0 : z11 = true
        · have h := (if_pos g0).symm.trans h
          obtain ⟨z14, _, h⟩ := bnd_s h
          by_cases g0 : (z14.1 94 19) ≤ v4
          · have h := (if_pos g0).symm.trans h
            obtain rfl := Option.some.inj h
            try dsimp only [elS]
            repeat' (with_reducible first | exact Fr.rf | refine Fr.I ?_ (by simp [fp_Fm_witness]) | refine Fr.L ?_ (by simp [fp_Fm_witness]) | refine Fr.cI ?_ (by intro j; simp [fp_Fm_witness]) | refine Fr.cL ?_ (by intro j; simp [fp_Fm_witness]) | (refine Fr.tr ?_ (Fr.mono (fr_Fm_findsWays (by with_reducible assumption)) mono_Fm_witness_0); try dsimp only))
          · have h := (if_neg g0).symm.trans h
            obtain ⟨z17, _, h⟩ := bnd_s h
            by_cases g0 : z17 = (-1 : Int32)
            · have h := (if_pos g0).symm.trans h
              obtain rfl := Option.some.inj h
              try dsimp only [elS]
              repeat' (with_reducible first | exact Fr.rf | refine Fr.I ?_ (by simp [fp_Fm_witness]) | refine Fr.L ?_ (by simp [fp_Fm_witness]) | refine Fr.cI ?_ (by intro j; simp [fp_Fm_witness]) | refine Fr.cL ?_ (by intro j; simp [fp_Fm_witness]) | (refine Fr.tr ?_ (Fr.mono (fr_Fm_findsWays (by with_reducible assumption)) mono_Fm_witness_0); try dsimp only))
            · have h := (if_neg g0).symm.trans h
              obtain ⟨z20, _, h⟩ := bnd_s h
              obtain ⟨_, h⟩ := grd_s h
              by_cases g0 : (v5 + z20) ≤ (z14.1 95 (tn (1 : Int32)))
              · have h := (if_pos g0).symm.trans h
                obtain ⟨_, h⟩ := grd_s h
                obtain ⟨z25, _, h⟩ := bnd_s h
                by_cases g0 : z25 = (-1 : Int32)
                · have h := (if_pos g0).symm.trans h
                  obtain rfl := Option.some.inj h
                  try dsimp only [elS]
                  repeat' (with_reducible first | exact Fr.rf | refine Fr.I ?_ (by simp [fp_Fm_witness]) | refine Fr.L ?_ (by simp [fp_Fm_witness]) | refine Fr.cI ?_ (by intro j; simp [fp_Fm_witness]) | refine Fr.cL ?_ (by intro j; simp [fp_Fm_witness]) | (refine Fr.tr ?_ (Fr.mono (fr_Fm_findsWays (by with_reducible assumption)) mono_Fm_witness_0); try dsimp only))
                · have h := (if_neg g0).symm.trans h
                  obtain rfl := Option.some.inj h
                  try dsimp only [elS]
                  repeat' (with_reducible first | exact Fr.rf | refine Fr.I ?_ (by simp [fp_Fm_witness]) | refine Fr.L ?_ (by simp [fp_Fm_witness]) | refine Fr.cI ?_ (by intro j; simp [fp_Fm_witness]) | refine Fr.cL ?_ (by intro j; simp [fp_Fm_witness]) | (refine Fr.tr ?_ (Fr.mono (fr_Fm_findsWays (by with_reducible assumption)) mono_Fm_witness_0); try dsimp only))
              · have h := (if_neg g0).symm.trans h
                obtain rfl := Option.some.inj h
                try dsimp only [elS]
                repeat' (with_reducible first | exact Fr.rf | refine Fr.I ?_ (by simp [fp_Fm_witness]) | refine Fr.L ?_ (by simp [fp_Fm_witness]) | refine Fr.cI ?_ (by intro j; simp [fp_Fm_witness]) | refine Fr.cL ?_ (by intro j; simp [fp_Fm_witness]) | (refine Fr.tr ?_ (Fr.mono (fr_Fm_findsWays (by with_reducible assumption)) mono_Fm_witness_0); try dsimp only))
        · have h := (if_neg g0).symm.trans h
          obtain rfl := Option.some.inj h
          try dsimp only [elS]
          repeat' (with_reducible first | exact Fr.rf | refine Fr.I ?_ (by simp [fp_Fm_witness]) | refine Fr.L ?_ (by simp [fp_Fm_witness]) | refine Fr.cI ?_ (by intro j; simp [fp_Fm_witness]) | refine Fr.cL ?_ (by intro j; simp [fp_Fm_witness]) | (refine Fr.tr ?_ (Fr.mono (fr_Fm_findsWays (by with_reducible assumption)) mono_Fm_witness_0); try dsimp only))
      · have h := (if_neg g0).symm.trans h
        obtain rfl := Option.some.inj h
        try dsimp only [elS]
        repeat' (with_reducible first | exact Fr.rf | refine Fr.I ?_ (by simp [fp_Fm_witness]) | refine Fr.L ?_ (by simp [fp_Fm_witness]) | refine Fr.cI ?_ (by intro j; simp [fp_Fm_witness]) | refine Fr.cL ?_ (by intro j; simp [fp_Fm_witness]) | (refine Fr.tr ?_ (Fr.mono (fr_Fm_findsWays (by with_reducible assumption)) mono_Fm_witness_0); try dsimp only))
    · have h := (if_neg g0).symm.trans h
      obtain rfl := Option.some.inj h
      try dsimp only [elS]
      repeat' (with_reducible first | exact Fr.rf | refine Fr.I ?_ (by simp [fp_Fm_witness]) | refine Fr.L ?_ (by simp [fp_Fm_witness]) | refine Fr.cI ?_ (by intro j; simp [fp_Fm_witness]) | refine Fr.cL ?_ (by intro j; simp [fp_Fm_witness]) | (refine Fr.tr ?_ (Fr.mono (fr_Fm_findsWays (by with_reducible assumption)) mono_Fm_witness_0); try dsimp only))
  · have h := (if_neg g0).symm.trans h
    obtain rfl := Option.some.inj h
    try dsimp only [elS]
    repeat' (with_reducible first | exact Fr.rf | refine Fr.I ?_ (by simp [fp_Fm_witness]) | refine Fr.L ?_ (by simp [fp_Fm_witness]) | refine Fr.cI ?_ (by intro j; simp [fp_Fm_witness]) | refine Fr.cL ?_ (by intro j; simp [fp_Fm_witness]) | (refine Fr.tr ?_ (Fr.mono (fr_Fm_findsWays (by with_reducible assumption)) mono_Fm_witness_0); try dsimp only))
theorem mono_Fm_blocked_0  : ∀ c j, fp_Fm_finds c j → fp_Fm_blocked c j := fun c j => (fun h => h.elim (fun e => Or.inr (Or.inr (Or.inr (Or.inr (Or.inr (Or.inl e)))))) (fun h => h.elim (fun e => Or.inr (Or.inr (Or.inr (Or.inr (Or.inr (Or.inr (Or.inl e))))))) (fun e => Or.inr (Or.inr (Or.inr (Or.inr (Or.inr (Or.inr (Or.inr (Or.inl e))))))))))
theorem mono_Fm_blocked_1  : ∀ c j, fp_Fm_findsWays c j → fp_Fm_blocked c j := fun c j => (fun h => h.elim (fun e => Or.inl e) (fun h => h.elim (fun e => Or.inr (Or.inl e)) (fun h => h.elim (fun e => Or.inr (Or.inr (Or.inl e))) (fun h => h.elim (fun e => Or.inr (Or.inr (Or.inr (Or.inl e)))) (fun h => h.elim (fun e => Or.inr (Or.inr (Or.inr (Or.inr (Or.inl e))))) (fun h => h.elim (fun e => Or.inr (Or.inr (Or.inr (Or.inr (Or.inr (Or.inr (Or.inr (Or.inr (Or.inl e))))))))) (fun e => Or.inr (Or.inr (Or.inr (Or.inr (Or.inr (Or.inr (Or.inr (Or.inr (Or.inr (e))))))))))))))))
theorem fr_Fm_blocked_j107 {v5 : Int32} {v6 : Int32} {v7 : Int32} {Mc : Mm} {oo : (Int32 × Int32 × Int32) ⊕ (Int32 × Int32)} (h : Fm_blocked_j107 v5 v6 v7 = some oo) : Fr (fp_Fm_blocked) Mc (elS oo (fun s1 => Mc) (fun x1 => Mc)) := by
  unfold Fm_blocked_j107 at h
  obtain rfl := Option.some.inj h
  try dsimp only [elS]
  repeat' (with_reducible first | exact Fr.rf | refine Fr.I ?_ (by simp [fp_Fm_blocked]) | refine Fr.L ?_ (by simp [fp_Fm_blocked]) | refine Fr.cI ?_ (by intro j; simp [fp_Fm_blocked]) | refine Fr.cL ?_ (by intro j; simp [fp_Fm_blocked]) | (refine Fr.tr ?_ (Fr.mono (fr_Fm_finds (by with_reducible assumption)) mono_Fm_blocked_0); try dsimp only) | (refine Fr.tr ?_ (Fr.mono (fr_Fm_findsWays (by with_reducible assumption)) mono_Fm_blocked_1); try dsimp only))
theorem fr_Fm_blocked_b69 {n : Nat} {c3 : Int32} {Mc : Mm} {v5 : Int32} {v6 : Int32} {v7 : Int32} {oo : (Int32 × Int32 × Int32) ⊕ (Int32 × Int32)} (h : Fm_blocked_b69 n c3 Mc v5 v6 v7 = some oo) : Fr (fp_Fm_blocked) Mc (elS oo (fun s1 => Mc) (fun x1 => Mc)) := by
  unfold Fm_blocked_b69 at h
  by_cases g0 : (Mc.1 94 19) ≤ v7
  · have h := (if_pos g0).symm.trans h
    obtain rfl := Option.some.inj h
    try dsimp only [elS]
    repeat' (with_reducible first | exact Fr.rf | refine Fr.I ?_ (by simp [fp_Fm_blocked]) | refine Fr.L ?_ (by simp [fp_Fm_blocked]) | refine Fr.cI ?_ (by intro j; simp [fp_Fm_blocked]) | refine Fr.cL ?_ (by intro j; simp [fp_Fm_blocked]) | (refine Fr.tr ?_ (Fr.mono (fr_Fm_finds (by with_reducible assumption)) mono_Fm_blocked_0); try dsimp only) | (refine Fr.tr ?_ (Fr.mono (fr_Fm_findsWays (by with_reducible assumption)) mono_Fm_blocked_1); try dsimp only))
  · have h := (if_neg g0).symm.trans h
    obtain ⟨z15, _, h⟩ := bnd_s h
    by_cases g0 : z15 = (-1 : Int32)
    · have h := (if_pos g0).symm.trans h
      refine Fr.tr ?_ (fr_Fm_blocked_j107 h)
      try dsimp only [elS]
      repeat' (with_reducible first | exact Fr.rf | refine Fr.I ?_ (by simp [fp_Fm_blocked]) | refine Fr.L ?_ (by simp [fp_Fm_blocked]) | refine Fr.cI ?_ (by intro j; simp [fp_Fm_blocked]) | refine Fr.cL ?_ (by intro j; simp [fp_Fm_blocked]) | (refine Fr.tr ?_ (Fr.mono (fr_Fm_finds (by with_reducible assumption)) mono_Fm_blocked_0); try dsimp only) | (refine Fr.tr ?_ (Fr.mono (fr_Fm_findsWays (by with_reducible assumption)) mono_Fm_blocked_1); try dsimp only))
    · have h := (if_neg g0).symm.trans h
      obtain ⟨_, h⟩ := grd_s h
      refine Fr.tr ?_ (fr_Fm_blocked_j107 h)
      try dsimp only [elS]
      repeat' (with_reducible first | exact Fr.rf | refine Fr.I ?_ (by simp [fp_Fm_blocked]) | refine Fr.L ?_ (by simp [fp_Fm_blocked]) | refine Fr.cI ?_ (by intro j; simp [fp_Fm_blocked]) | refine Fr.cL ?_ (by intro j; simp [fp_Fm_blocked]) | (refine Fr.tr ?_ (Fr.mono (fr_Fm_finds (by with_reducible assumption)) mono_Fm_blocked_0); try dsimp only) | (refine Fr.tr ?_ (Fr.mono (fr_Fm_findsWays (by with_reducible assumption)) mono_Fm_blocked_1); try dsimp only))
theorem fr_Fm_blocked {n : Nat} {v1 : Int32} {v2 : Int32} {v3 : Int32} {v4 : Int32} {M : Mm} {oo : Int32 × Mm} (h : Fm_blocked n v1 v2 v3 v4 M = some oo) : Fr (fp_Fm_blocked) M oo.2 := by
  unfold Fm_blocked at h
  obtain ⟨z1, _, h⟩ := bnd_s h
  by_cases g0 : z1 = true
  · have h := (if_pos g0).symm.trans h
    obtain ⟨z4, _, h⟩ := bnd_s h
    by_cases g0 : z4 = true
    · have h := (if_pos g0).symm.trans h
      obtain ⟨z7, _, h⟩ := bnd_s h
      by_cases g0 : z7 = true
      · have h := (if_pos g0).symm.trans h
        obtain ⟨z10, _, h⟩ := bnd_s h
        by_cases g0 : v4 = (0 : Int32)
        · have h := (if_pos g0).symm.trans h
          obtain ⟨z24, _, h⟩ := bnd_s h
          by_cases g0 : z24.1 = true
          · have h := (if_pos g0).symm.trans h
            obtain rfl := Option.some.inj h
            try dsimp only [elS]
            repeat' (with_reducible first | exact Fr.rf | refine Fr.I ?_ (by simp [fp_Fm_blocked]) | refine Fr.L ?_ (by simp [fp_Fm_blocked]) | refine Fr.cI ?_ (by intro j; simp [fp_Fm_blocked]) | refine Fr.cL ?_ (by intro j; simp [fp_Fm_blocked]) | (refine Fr.tr ?_ (Fr.mono (fr_Fm_finds (by with_reducible assumption)) mono_Fm_blocked_0); try dsimp only) | (refine Fr.tr ?_ (Fr.mono (fr_Fm_findsWays (by with_reducible assumption)) mono_Fm_blocked_1); try dsimp only))
          · have h := (if_neg g0).symm.trans h
            obtain rfl := Option.some.inj h
            try dsimp only [elS]
            repeat' (with_reducible first | exact Fr.rf | refine Fr.I ?_ (by simp [fp_Fm_blocked]) | refine Fr.L ?_ (by simp [fp_Fm_blocked]) | refine Fr.cI ?_ (by intro j; simp [fp_Fm_blocked]) | refine Fr.cL ?_ (by intro j; simp [fp_Fm_blocked]) | (refine Fr.tr ?_ (Fr.mono (fr_Fm_finds (by with_reducible assumption)) mono_Fm_blocked_0); try dsimp only) | (refine Fr.tr ?_ (Fr.mono (fr_Fm_findsWays (by with_reducible assumption)) mono_Fm_blocked_1); try dsimp only))
        · have h := (if_neg g0).symm.trans h
          obtain ⟨_, h⟩ := grd_s h
          obtain ⟨y19, _, h⟩ := bnd_s h
          by_cases g0 : y19.2 = (0 : Int32)
          · have h := (if_pos g0).symm.trans h
            obtain rfl := Option.some.inj h
            try dsimp only [elS]
            repeat' (with_reducible first | exact Fr.rf | refine Fr.I ?_ (by simp [fp_Fm_blocked]) | refine Fr.L ?_ (by simp [fp_Fm_blocked]) | refine Fr.cI ?_ (by intro j; simp [fp_Fm_blocked]) | refine Fr.cL ?_ (by intro j; simp [fp_Fm_blocked]) | (refine Fr.tr ?_ (Fr.mono (fr_Fm_finds (by with_reducible assumption)) mono_Fm_blocked_0); try dsimp only) | (refine Fr.tr ?_ (Fr.mono (fr_Fm_findsWays (by with_reducible assumption)) mono_Fm_blocked_1); try dsimp only))
          · have h := (if_neg g0).symm.trans h
            by_cases g0 : v4 = (1 : Int32)
            · have h := (if_pos g0).symm.trans h
              obtain ⟨z22, _, h⟩ := bnd_s h
              obtain rfl := Option.some.inj h
              try dsimp only [elS]
              repeat' (with_reducible first | exact Fr.rf | refine Fr.I ?_ (by simp [fp_Fm_blocked]) | refine Fr.L ?_ (by simp [fp_Fm_blocked]) | refine Fr.cI ?_ (by intro j; simp [fp_Fm_blocked]) | refine Fr.cL ?_ (by intro j; simp [fp_Fm_blocked]) | (refine Fr.tr ?_ (Fr.mono (fr_Fm_finds (by with_reducible assumption)) mono_Fm_blocked_0); try dsimp only) | (refine Fr.tr ?_ (Fr.mono (fr_Fm_findsWays (by with_reducible assumption)) mono_Fm_blocked_1); try dsimp only))
            · have h := (if_neg g0).symm.trans h
              obtain rfl := Option.some.inj h
              try dsimp only [elS]
              repeat' (with_reducible first | exact Fr.rf | refine Fr.I ?_ (by simp [fp_Fm_blocked]) | refine Fr.L ?_ (by simp [fp_Fm_blocked]) | refine Fr.cI ?_ (by intro j; simp [fp_Fm_blocked]) | refine Fr.cL ?_ (by intro j; simp [fp_Fm_blocked]) | (refine Fr.tr ?_ (Fr.mono (fr_Fm_finds (by with_reducible assumption)) mono_Fm_blocked_0); try dsimp only) | (refine Fr.tr ?_ (Fr.mono (fr_Fm_findsWays (by with_reducible assumption)) mono_Fm_blocked_1); try dsimp only))
      · have h := (if_neg g0).symm.trans h
        obtain rfl := Option.some.inj h
        try dsimp only [elS]
        repeat' (with_reducible first | exact Fr.rf | refine Fr.I ?_ (by simp [fp_Fm_blocked]) | refine Fr.L ?_ (by simp [fp_Fm_blocked]) | refine Fr.cI ?_ (by intro j; simp [fp_Fm_blocked]) | refine Fr.cL ?_ (by intro j; simp [fp_Fm_blocked]) | (refine Fr.tr ?_ (Fr.mono (fr_Fm_finds (by with_reducible assumption)) mono_Fm_blocked_0); try dsimp only) | (refine Fr.tr ?_ (Fr.mono (fr_Fm_findsWays (by with_reducible assumption)) mono_Fm_blocked_1); try dsimp only))
    · have h := (if_neg g0).symm.trans h
      obtain rfl := Option.some.inj h
      try dsimp only [elS]
      repeat' (with_reducible first | exact Fr.rf | refine Fr.I ?_ (by simp [fp_Fm_blocked]) | refine Fr.L ?_ (by simp [fp_Fm_blocked]) | refine Fr.cI ?_ (by intro j; simp [fp_Fm_blocked]) | refine Fr.cL ?_ (by intro j; simp [fp_Fm_blocked]) | (refine Fr.tr ?_ (Fr.mono (fr_Fm_finds (by with_reducible assumption)) mono_Fm_blocked_0); try dsimp only) | (refine Fr.tr ?_ (Fr.mono (fr_Fm_findsWays (by with_reducible assumption)) mono_Fm_blocked_1); try dsimp only))
  · have h := (if_neg g0).symm.trans h
    obtain rfl := Option.some.inj h
    try dsimp only [elS]
    repeat' (with_reducible first | exact Fr.rf | refine Fr.I ?_ (by simp [fp_Fm_blocked]) | refine Fr.L ?_ (by simp [fp_Fm_blocked]) | refine Fr.cI ?_ (by intro j; simp [fp_Fm_blocked]) | refine Fr.cL ?_ (by intro j; simp [fp_Fm_blocked]) | (refine Fr.tr ?_ (Fr.mono (fr_Fm_finds (by with_reducible assumption)) mono_Fm_blocked_0); try dsimp only) | (refine Fr.tr ?_ (Fr.mono (fr_Fm_findsWays (by with_reducible assumption)) mono_Fm_blocked_1); try dsimp only))
