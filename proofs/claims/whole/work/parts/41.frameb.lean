theorem mono_Rd_linkFault_0  : ∀ c j, fp_Nt_join 4 c j → fp_Rd_linkFault c j := fun c j => (fun h => h.elim (fun e => Or.inl e) (fun h => h.elim (fun e => Or.inr (Or.inl e)) (fun h => h.elim (fun e => Or.inr (Or.inr (Or.inl e))) (fun h => h.elim (fun e => Or.inr (Or.inr (Or.inr (Or.inl e)))) (fun e => Or.inr (Or.inr (Or.inr (Or.inr (e)))))))))
theorem fr_Rd_linkFault_j89 {M : Mm} {oo : Int32 × Mm} (h : Rd_linkFault_j89 M = some oo) : Fr (fp_Rd_linkFault) M oo.2 := by
  unfold Rd_linkFault_j89 at h
  obtain rfl := Option.some.inj h
  try dsimp only [elS]
  repeat' (with_reducible first | exact Fr.rf | refine Fr.I ?_ (by simp [fp_Rd_linkFault]) | refine Fr.L ?_ (by simp [fp_Rd_linkFault]) | refine Fr.cI ?_ (by intro j; simp [fp_Rd_linkFault]) | refine Fr.cL ?_ (by intro j; simp [fp_Rd_linkFault]) | (refine Fr.tr ?_ (Fr.mono (fr_Nt_join (by with_reducible assumption)) mono_Rd_linkFault_0); try dsimp only))
theorem fr_Rd_linkFault {v1 : Int32} {v2 : Int32} {M : Mm} {oo : Int32 × Mm} (h : Rd_linkFault v1 v2 M = some oo) : Fr (fp_Rd_linkFault) M oo.2 := by
  unfold Rd_linkFault at h
  obtain ⟨_, h⟩ := grd_s h
  by_cases g0 : v1 = (2 : Int32)
  · have h := (if_pos g0).symm.trans h
    by_cases g0 : v2 < (1 : Int32)
    · have h := (if_pos g0).symm.trans h
      obtain rfl := Option.some.inj h
      try dsimp only [elS]
      repeat' (with_reducible first | exact Fr.rf | refine Fr.I ?_ (by simp [fp_Rd_linkFault]) | refine Fr.L ?_ (by simp [fp_Rd_linkFault]) | refine Fr.cI ?_ (by intro j; simp [fp_Rd_linkFault]) | refine Fr.cL ?_ (by intro j; simp [fp_Rd_linkFault]) | (refine Fr.tr ?_ (Fr.mono (fr_Nt_join (by with_reducible assumption)) mono_Rd_linkFault_0); try dsimp only))
    · have h := (if_neg g0).symm.trans h
      by_cases g0 : v2 ≤ (99 : Int32)
      · have h := (if_pos g0).symm.trans h
        obtain ⟨_, h⟩ := grd_s h
        obtain ⟨z12, _, h⟩ := bnd_s h
        obtain rfl := Option.some.inj h
        try dsimp only [elS]
        repeat' (with_reducible first | exact Fr.rf | refine Fr.I ?_ (by simp [fp_Rd_linkFault]) | refine Fr.L ?_ (by simp [fp_Rd_linkFault]) | refine Fr.cI ?_ (by intro j; simp [fp_Rd_linkFault]) | refine Fr.cL ?_ (by intro j; simp [fp_Rd_linkFault]) | (refine Fr.tr ?_ (Fr.mono (fr_Nt_join (by with_reducible assumption)) mono_Rd_linkFault_0); try dsimp only))
      · have h := (if_neg g0).symm.trans h
        obtain rfl := Option.some.inj h
        try dsimp only [elS]
        repeat' (with_reducible first | exact Fr.rf | refine Fr.I ?_ (by simp [fp_Rd_linkFault]) | refine Fr.L ?_ (by simp [fp_Rd_linkFault]) | refine Fr.cI ?_ (by intro j; simp [fp_Rd_linkFault]) | refine Fr.cL ?_ (by intro j; simp [fp_Rd_linkFault]) | (refine Fr.tr ?_ (Fr.mono (fr_Nt_join (by with_reducible assumption)) mono_Rd_linkFault_0); try dsimp only))
  · have h := (if_neg g0).symm.trans h
    by_cases g0 : v2 < (M.1 4 0)
    · have h := (if_pos g0).symm.trans h
      by_cases g0 : v1 = (1 : Int32)
      · have h := (if_pos g0).symm.trans h
        by_cases g0 : v2 = (M.1 11 (tn ((M.1 3 5) * (4 : Int32))))
        · have h := (if_pos g0).symm.trans h
          refine Fr.tr ?_ (fr_Rd_linkFault_j89 h)
          try dsimp only [elS]
          repeat' (with_reducible first | exact Fr.rf | refine Fr.I ?_ (by simp [fp_Rd_linkFault]) | refine Fr.L ?_ (by simp [fp_Rd_linkFault]) | refine Fr.cI ?_ (by intro j; simp [fp_Rd_linkFault]) | refine Fr.cL ?_ (by intro j; simp [fp_Rd_linkFault]) | (refine Fr.tr ?_ (Fr.mono (fr_Nt_join (by with_reducible assumption)) mono_Rd_linkFault_0); try dsimp only))
        · have h := (if_neg g0).symm.trans h
          obtain ⟨z6, _, h⟩ := bnd_s h
          by_cases g0 : z6 = true
          · have h := (if_pos g0).symm.trans h
            refine Fr.tr ?_ (fr_Rd_linkFault_j89 h)
            try dsimp only [elS]
            repeat' (with_reducible first | exact Fr.rf | refine Fr.I ?_ (by simp [fp_Rd_linkFault]) | refine Fr.L ?_ (by simp [fp_Rd_linkFault]) | refine Fr.cI ?_ (by intro j; simp [fp_Rd_linkFault]) | refine Fr.cL ?_ (by intro j; simp [fp_Rd_linkFault]) | (refine Fr.tr ?_ (Fr.mono (fr_Nt_join (by with_reducible assumption)) mono_Rd_linkFault_0); try dsimp only))
          · have h := (if_neg g0).symm.trans h
            obtain rfl := Option.some.inj h
            try dsimp only [elS]
            repeat' (with_reducible first | exact Fr.rf | refine Fr.I ?_ (by simp [fp_Rd_linkFault]) | refine Fr.L ?_ (by simp [fp_Rd_linkFault]) | refine Fr.cI ?_ (by intro j; simp [fp_Rd_linkFault]) | refine Fr.cL ?_ (by intro j; simp [fp_Rd_linkFault]) | (refine Fr.tr ?_ (Fr.mono (fr_Nt_join (by with_reducible assumption)) mono_Rd_linkFault_0); try dsimp only))
      · have h := (if_neg g0).symm.trans h
        obtain rfl := Option.some.inj h
        try dsimp only [elS]
        repeat' (with_reducible first | exact Fr.rf | refine Fr.I ?_ (by simp [fp_Rd_linkFault]) | refine Fr.L ?_ (by simp [fp_Rd_linkFault]) | refine Fr.cI ?_ (by intro j; simp [fp_Rd_linkFault]) | refine Fr.cL ?_ (by intro j; simp [fp_Rd_linkFault]) | (refine Fr.tr ?_ (Fr.mono (fr_Nt_join (by with_reducible assumption)) mono_Rd_linkFault_0); try dsimp only))
    · have h := (if_neg g0).symm.trans h
      obtain rfl := Option.some.inj h
      try dsimp only [elS]
      repeat' (with_reducible first | exact Fr.rf | refine Fr.I ?_ (by simp [fp_Rd_linkFault]) | refine Fr.L ?_ (by simp [fp_Rd_linkFault]) | refine Fr.cI ?_ (by intro j; simp [fp_Rd_linkFault]) | refine Fr.cL ?_ (by intro j; simp [fp_Rd_linkFault]) | (refine Fr.tr ?_ (Fr.mono (fr_Nt_join (by with_reducible assumption)) mono_Rd_linkFault_0); try dsimp only))
theorem mono_Rd_gridFault_0  : ∀ c j, fp_Rd_linkFault c j → fp_Rd_gridFault c j := fun c j => (fun h => h.elim (fun e => Or.inr (Or.inr (Or.inr (Or.inl e)))) (fun h => h.elim (fun e => Or.inr (Or.inr (Or.inr (Or.inr (Or.inr (Or.inl e)))))) (fun h => h.elim (fun e => Or.inr (Or.inr (Or.inr (Or.inr (Or.inr (Or.inr (Or.inl e))))))) (fun h => h.elim (fun e => Or.inr (Or.inr (Or.inr (Or.inr (Or.inr (Or.inr (Or.inr (Or.inl e)))))))) (fun e => Or.inr (Or.inr (Or.inr (Or.inr (Or.inr (Or.inr (Or.inr (Or.inr (e)))))))))))))
theorem fr_Rd_gridFault_j134 {v2 : Int32} {v3 : Int32} {M : Mm} {oo : Int32 × Mm} (h : Rd_gridFault_j134 v2 v3 M = some oo) : Fr (fp_Rd_gridFault) M oo.2 := by
  unfold Rd_gridFault_j134 at h
  obtain ⟨_, h⟩ := grd_s h
  obtain rfl := Option.some.inj h
  try dsimp only [elS]
  repeat' (with_reducible first | exact Fr.rf | refine Fr.I ?_ (by simp [fp_Rd_gridFault]) | refine Fr.L ?_ (by simp [fp_Rd_gridFault]) | refine Fr.cI ?_ (by intro j; simp [fp_Rd_gridFault]) | refine Fr.cL ?_ (by intro j; simp [fp_Rd_gridFault]) | (refine Fr.tr ?_ (Fr.mono (fr_Rd_linkFault (by with_reducible assumption)) mono_Rd_gridFault_0); try dsimp only))
theorem fr_Rd_gridFault {v1 : Int32} {v2 : Int32} {v3 : Int32} {M : Mm} {oo : Int32 × Mm} (h : Rd_gridFault v1 v2 v3 M = some oo) : Fr (fp_Rd_gridFault) M oo.2 := by
  unfold Rd_gridFault at h
  by_cases g0 : v1 = (0 : Int32)
  · have h := (if_pos g0).symm.trans h
    by_cases g0 : v3 < (2 : Int32)
    · have h := (if_pos g0).symm.trans h
      obtain rfl := Option.some.inj h
      try dsimp only [elS]
      repeat' (with_reducible first | exact Fr.rf | refine Fr.I ?_ (by simp [fp_Rd_gridFault]) | refine Fr.L ?_ (by simp [fp_Rd_gridFault]) | refine Fr.cI ?_ (by intro j; simp [fp_Rd_gridFault]) | refine Fr.cL ?_ (by intro j; simp [fp_Rd_gridFault]) | (refine Fr.tr ?_ (Fr.mono (fr_Rd_linkFault (by with_reducible assumption)) mono_Rd_gridFault_0); try dsimp only))
    · have h := (if_neg g0).symm.trans h
      by_cases g0 : (8 : Int32) < v3
      · have h := (if_pos g0).symm.trans h
        obtain rfl := Option.some.inj h
        try dsimp only [elS]
        repeat' (with_reducible first | exact Fr.rf | refine Fr.I ?_ (by simp [fp_Rd_gridFault]) | refine Fr.L ?_ (by simp [fp_Rd_gridFault]) | refine Fr.cI ?_ (by intro j; simp [fp_Rd_gridFault]) | refine Fr.cL ?_ (by intro j; simp [fp_Rd_gridFault]) | (refine Fr.tr ?_ (Fr.mono (fr_Rd_linkFault (by with_reducible assumption)) mono_Rd_gridFault_0); try dsimp only))
      · have h := (if_neg g0).symm.trans h
        by_cases g0 : (M.1 4 3) ≤ (0 : Int32)
        · have h := (if_pos g0).symm.trans h
          obtain rfl := Option.some.inj h
          try dsimp only [elS]
          repeat' (with_reducible first | exact Fr.rf | refine Fr.I ?_ (by simp [fp_Rd_gridFault]) | refine Fr.L ?_ (by simp [fp_Rd_gridFault]) | refine Fr.cI ?_ (by intro j; simp [fp_Rd_gridFault]) | refine Fr.cL ?_ (by intro j; simp [fp_Rd_gridFault]) | (refine Fr.tr ?_ (Fr.mono (fr_Rd_linkFault (by with_reducible assumption)) mono_Rd_gridFault_0); try dsimp only))
        · have h := (if_neg g0).symm.trans h
          obtain rfl := Option.some.inj h
          try dsimp only [elS]
          repeat' (with_reducible first | exact Fr.rf | refine Fr.I ?_ (by simp [fp_Rd_gridFault]) | refine Fr.L ?_ (by simp [fp_Rd_gridFault]) | refine Fr.cI ?_ (by intro j; simp [fp_Rd_gridFault]) | refine Fr.cL ?_ (by intro j; simp [fp_Rd_gridFault]) | (refine Fr.tr ?_ (Fr.mono (fr_Rd_linkFault (by with_reducible assumption)) mono_Rd_gridFault_0); try dsimp only))
  · have h := (if_neg g0).symm.trans h
    by_cases g0 : v1 = (1 : Int32)
    · have h := (if_pos g0).symm.trans h
      by_cases g0 : v3 < (8 : Int32)
      · have h := (if_pos g0).symm.trans h
        obtain rfl := Option.some.inj h
        try dsimp only [elS]
        repeat' (with_reducible first | exact Fr.rf | refine Fr.I ?_ (by simp [fp_Rd_gridFault]) | refine Fr.L ?_ (by simp [fp_Rd_gridFault]) | refine Fr.cI ?_ (by intro j; simp [fp_Rd_gridFault]) | refine Fr.cL ?_ (by intro j; simp [fp_Rd_gridFault]) | (refine Fr.tr ?_ (Fr.mono (fr_Rd_linkFault (by with_reducible assumption)) mono_Rd_gridFault_0); try dsimp only))
      · have h := (if_neg g0).symm.trans h
        by_cases g0 : v3 ≤ (60 : Int32)
        · have h := (if_pos g0).symm.trans h
          obtain rfl := Option.some.inj h
          try dsimp only [elS]
          repeat' (with_reducible first | exact Fr.rf | refine Fr.I ?_ (by simp [fp_Rd_gridFault]) | refine Fr.L ?_ (by simp [fp_Rd_gridFault]) | refine Fr.cI ?_ (by intro j; simp [fp_Rd_gridFault]) | refine Fr.cL ?_ (by intro j; simp [fp_Rd_gridFault]) | (refine Fr.tr ?_ (Fr.mono (fr_Rd_linkFault (by with_reducible assumption)) mono_Rd_gridFault_0); try dsimp only))
        · have h := (if_neg g0).symm.trans h
          obtain rfl := Option.some.inj h
          try dsimp only [elS]
          repeat' (with_reducible first | exact Fr.rf | refine Fr.I ?_ (by simp [fp_Rd_gridFault]) | refine Fr.L ?_ (by simp [fp_Rd_gridFault]) | refine Fr.cI ?_ (by intro j; simp [fp_Rd_gridFault]) | refine Fr.cL ?_ (by intro j; simp [fp_Rd_gridFault]) | (refine Fr.tr ?_ (Fr.mono (fr_Rd_linkFault (by with_reducible assumption)) mono_Rd_gridFault_0); try dsimp only))
    · have h := (if_neg g0).symm.trans h
      by_cases g0 : v1 = (2 : Int32)
      · have h := (if_pos g0).symm.trans h
        by_cases g0 : v3 ≤ (4 : Int32)
        · have h := (if_pos g0).symm.trans h
          obtain rfl := Option.some.inj h
          try dsimp only [elS]
          repeat' (with_reducible first | exact Fr.rf | refine Fr.I ?_ (by simp [fp_Rd_gridFault]) | refine Fr.L ?_ (by simp [fp_Rd_gridFault]) | refine Fr.cI ?_ (by intro j; simp [fp_Rd_gridFault]) | refine Fr.cL ?_ (by intro j; simp [fp_Rd_gridFault]) | (refine Fr.tr ?_ (Fr.mono (fr_Rd_linkFault (by with_reducible assumption)) mono_Rd_gridFault_0); try dsimp only))
        · have h := (if_neg g0).symm.trans h
          obtain rfl := Option.some.inj h
          try dsimp only [elS]
          repeat' (with_reducible first | exact Fr.rf | refine Fr.I ?_ (by simp [fp_Rd_gridFault]) | refine Fr.L ?_ (by simp [fp_Rd_gridFault]) | refine Fr.cI ?_ (by intro j; simp [fp_Rd_gridFault]) | refine Fr.cL ?_ (by intro j; simp [fp_Rd_gridFault]) | (refine Fr.tr ?_ (Fr.mono (fr_Rd_linkFault (by with_reducible assumption)) mono_Rd_gridFault_0); try dsimp only))
      · have h := (if_neg g0).symm.trans h
        by_cases g0 : v1 = (3 : Int32)
        · have h := (if_pos g0).symm.trans h
          by_cases g0 : (999 : Int32) < v3
          · have h := (if_pos g0).symm.trans h
            obtain rfl := Option.some.inj h
            try dsimp only [elS]
            repeat' (with_reducible first | exact Fr.rf | refine Fr.I ?_ (by simp [fp_Rd_gridFault]) | refine Fr.L ?_ (by simp [fp_Rd_gridFault]) | refine Fr.cI ?_ (by intro j; simp [fp_Rd_gridFault]) | refine Fr.cL ?_ (by intro j; simp [fp_Rd_gridFault]) | (refine Fr.tr ?_ (Fr.mono (fr_Rd_linkFault (by with_reducible assumption)) mono_Rd_gridFault_0); try dsimp only))
          · have h := (if_neg g0).symm.trans h
            by_cases g0 : v2 ≤ (0 : Int32)
            · have h := (if_pos g0).symm.trans h
              refine Fr.tr ?_ (fr_Rd_gridFault_j134 h)
              try dsimp only [elS]
              repeat' (with_reducible first | exact Fr.rf | refine Fr.I ?_ (by simp [fp_Rd_gridFault]) | refine Fr.L ?_ (by simp [fp_Rd_gridFault]) | refine Fr.cI ?_ (by intro j; simp [fp_Rd_gridFault]) | refine Fr.cL ?_ (by intro j; simp [fp_Rd_gridFault]) | (refine Fr.tr ?_ (Fr.mono (fr_Rd_linkFault (by with_reducible assumption)) mono_Rd_gridFault_0); try dsimp only))
            · have h := (if_neg g0).symm.trans h
              obtain ⟨_, h⟩ := grd_s h
              by_cases g0 : v3 ≤ (M.1 5 (tn (v2 - (1 : Int32))))
              · have h := (if_pos g0).symm.trans h
                refine Fr.tr ?_ (fr_Rd_gridFault_j134 h)
                try dsimp only [elS]
                repeat' (with_reducible first | exact Fr.rf | refine Fr.I ?_ (by simp [fp_Rd_gridFault]) | refine Fr.L ?_ (by simp [fp_Rd_gridFault]) | refine Fr.cI ?_ (by intro j; simp [fp_Rd_gridFault]) | refine Fr.cL ?_ (by intro j; simp [fp_Rd_gridFault]) | (refine Fr.tr ?_ (Fr.mono (fr_Rd_linkFault (by with_reducible assumption)) mono_Rd_gridFault_0); try dsimp only))
              · have h := (if_neg g0).symm.trans h
                obtain rfl := Option.some.inj h
                try dsimp only [elS]
                repeat' (with_reducible first | exact Fr.rf | refine Fr.I ?_ (by simp [fp_Rd_gridFault]) | refine Fr.L ?_ (by simp [fp_Rd_gridFault]) | refine Fr.cI ?_ (by intro j; simp [fp_Rd_gridFault]) | refine Fr.cL ?_ (by intro j; simp [fp_Rd_gridFault]) | (refine Fr.tr ?_ (Fr.mono (fr_Rd_linkFault (by with_reducible assumption)) mono_Rd_gridFault_0); try dsimp only))
        · have h := (if_neg g0).symm.trans h
          obtain ⟨z16, _, h⟩ := bnd_s h
          obtain rfl := Option.some.inj h
          try dsimp only [elS]
          repeat' (with_reducible first | exact Fr.rf | refine Fr.I ?_ (by simp [fp_Rd_gridFault]) | refine Fr.L ?_ (by simp [fp_Rd_gridFault]) | refine Fr.cI ?_ (by intro j; simp [fp_Rd_gridFault]) | refine Fr.cL ?_ (by intro j; simp [fp_Rd_gridFault]) | (refine Fr.tr ?_ (Fr.mono (fr_Rd_linkFault (by with_reducible assumption)) mono_Rd_gridFault_0); try dsimp only))
theorem mono_Rd_readNumber_0  : ∀ c j, fp_Rd_blame c j → fp_Rd_readNumber c j := fun c j => (fun e => Or.inr (Or.inr (Or.inl e)))
theorem mono_Rd_readNumber_1  : ∀ c j, fp_Rd_gridFault c j → fp_Rd_readNumber c j := fun c j => (fun h => h.elim (fun e => Or.inr (Or.inr (Or.inr (Or.inl e)))) (fun h => h.elim (fun e => Or.inr (Or.inr (Or.inr (Or.inr (Or.inl e))))) (fun h => h.elim (fun e => Or.inr (Or.inr (Or.inr (Or.inr (Or.inr (Or.inl e)))))) (fun h => h.elim (fun e => Or.inr (Or.inr (Or.inr (Or.inr (Or.inr (Or.inr (Or.inl e))))))) (fun h => h.elim (fun e => Or.inr (Or.inr (Or.inr (Or.inr (Or.inr (Or.inr (Or.inr (Or.inl e)))))))) (fun h => h.elim (fun e => Or.inr (Or.inr (Or.inr (Or.inr (Or.inr (Or.inr (Or.inr (Or.inr (Or.inl e))))))))) (fun h => h.elim (fun e => Or.inr (Or.inr (Or.inr (Or.inr (Or.inr (Or.inr (Or.inr (Or.inr (Or.inr (Or.inl e)))))))))) (fun h => h.elim (fun e => Or.inr (Or.inr (Or.inr (Or.inr (Or.inr (Or.inr (Or.inr (Or.inr (Or.inr (Or.inr (Or.inl e))))))))))) (fun e => Or.inr (Or.inr (Or.inr (Or.inr (Or.inr (Or.inr (Or.inr (Or.inr (Or.inr (Or.inr (Or.inr (e))))))))))))))))))))
theorem fr_Rd_readNumber_j28 {M : Mm} {oo : Mm} (h : Rd_readNumber_j28 M = some oo) : Fr (fp_Rd_readNumber) M oo := by
  unfold Rd_readNumber_j28 at h
  obtain ⟨z2, _, h⟩ := bnd_s h
  obtain rfl := Option.some.inj h
  try dsimp only [elS]
  repeat' (with_reducible first | exact Fr.rf | refine Fr.I ?_ (by simp [fp_Rd_readNumber]) | refine Fr.L ?_ (by simp [fp_Rd_readNumber]) | refine Fr.cI ?_ (by intro j; simp [fp_Rd_readNumber]) | refine Fr.cL ?_ (by intro j; simp [fp_Rd_readNumber]) | (refine Fr.tr ?_ (Fr.mono (fr_Rd_blame (by with_reducible assumption)) mono_Rd_readNumber_0); try dsimp only) | (refine Fr.tr ?_ (Fr.mono (fr_Rd_gridFault (by with_reducible assumption)) mono_Rd_readNumber_1); try dsimp only))
theorem fr_Rd_readNumber_b56 {c3 : Int32} {v4 : Int32} {M : Mm} {oo : (Int32 × Mm) ⊕ ((Int32 × Mm) ⊕ (Mm))} (h : Rd_readNumber_b56 c3 v4 M = some oo) : Fr (fp_Rd_readNumber) M (elS oo (fun s1 => s1.2) (fun y1 => elS y1 (fun x1 => x1.2) (fun z1 => z1))) := by
  unfold Rd_readNumber_b56 at h
  by_cases g0 : (M.1 3 6) ≤ (M.1 3 7)
  · have h := (if_pos g0).symm.trans h
    obtain rfl := Option.some.inj h
    try dsimp only [elS]
    repeat' (with_reducible first | exact Fr.rf | refine Fr.I ?_ (by simp [fp_Rd_readNumber]) | refine Fr.L ?_ (by simp [fp_Rd_readNumber]) | refine Fr.cI ?_ (by intro j; simp [fp_Rd_readNumber]) | refine Fr.cL ?_ (by intro j; simp [fp_Rd_readNumber]) | (refine Fr.tr ?_ (Fr.mono (fr_Rd_blame (by with_reducible assumption)) mono_Rd_readNumber_0); try dsimp only) | (refine Fr.tr ?_ (Fr.mono (fr_Rd_gridFault (by with_reducible assumption)) mono_Rd_readNumber_1); try dsimp only))
  · have h := (if_neg g0).symm.trans h
    obtain ⟨_, h⟩ := grd_s h
    by_cases g0 : (M.1 2 (tn (M.1 3 7))) < (48 : Int32)
    · have h := (if_pos g0).symm.trans h
      obtain rfl := Option.some.inj h
      try dsimp only [elS]
      repeat' (with_reducible first | exact Fr.rf | refine Fr.I ?_ (by simp [fp_Rd_readNumber]) | refine Fr.L ?_ (by simp [fp_Rd_readNumber]) | refine Fr.cI ?_ (by intro j; simp [fp_Rd_readNumber]) | refine Fr.cL ?_ (by intro j; simp [fp_Rd_readNumber]) | (refine Fr.tr ?_ (Fr.mono (fr_Rd_blame (by with_reducible assumption)) mono_Rd_readNumber_0); try dsimp only) | (refine Fr.tr ?_ (Fr.mono (fr_Rd_gridFault (by with_reducible assumption)) mono_Rd_readNumber_1); try dsimp only))
    · have h := (if_neg g0).symm.trans h
      obtain ⟨_, h⟩ := grd_s h
      by_cases g0 : (57 : Int32) < (M.1 2 (tn (M.1 3 7)))
      · have h := (if_pos g0).symm.trans h
        obtain rfl := Option.some.inj h
        try dsimp only [elS]
        repeat' (with_reducible first | exact Fr.rf | refine Fr.I ?_ (by simp [fp_Rd_readNumber]) | refine Fr.L ?_ (by simp [fp_Rd_readNumber]) | refine Fr.cI ?_ (by intro j; simp [fp_Rd_readNumber]) | refine Fr.cL ?_ (by intro j; simp [fp_Rd_readNumber]) | (refine Fr.tr ?_ (Fr.mono (fr_Rd_blame (by with_reducible assumption)) mono_Rd_readNumber_0); try dsimp only) | (refine Fr.tr ?_ (Fr.mono (fr_Rd_gridFault (by with_reducible assumption)) mono_Rd_readNumber_1); try dsimp only))
      · have h := (if_neg g0).symm.trans h
        by_cases g0 : ((M.1 3 7) - c3) = (5 : Int32)
        · have h := (if_pos g0).symm.trans h
          obtain ⟨z13, _, h⟩ := bnd_s h
          obtain rfl := Option.some.inj h
          try dsimp only [elS]
          repeat' (with_reducible first | exact Fr.rf | refine Fr.I ?_ (by simp [fp_Rd_readNumber]) | refine Fr.L ?_ (by simp [fp_Rd_readNumber]) | refine Fr.cI ?_ (by intro j; simp [fp_Rd_readNumber]) | refine Fr.cL ?_ (by intro j; simp [fp_Rd_readNumber]) | (refine Fr.tr ?_ (Fr.mono (fr_Rd_blame (by with_reducible assumption)) mono_Rd_readNumber_0); try dsimp only) | (refine Fr.tr ?_ (Fr.mono (fr_Rd_gridFault (by with_reducible assumption)) mono_Rd_readNumber_1); try dsimp only))
        · have h := (if_neg g0).symm.trans h
          obtain ⟨_, h⟩ := grd_s h
          obtain rfl := Option.some.inj h
          try dsimp only [elS]
          repeat' (with_reducible first | exact Fr.rf | refine Fr.I ?_ (by simp [fp_Rd_readNumber]) | refine Fr.L ?_ (by simp [fp_Rd_readNumber]) | refine Fr.cI ?_ (by intro j; simp [fp_Rd_readNumber]) | refine Fr.cL ?_ (by intro j; simp [fp_Rd_readNumber]) | (refine Fr.tr ?_ (Fr.mono (fr_Rd_blame (by with_reducible assumption)) mono_Rd_readNumber_0); try dsimp only) | (refine Fr.tr ?_ (Fr.mono (fr_Rd_gridFault (by with_reducible assumption)) mono_Rd_readNumber_1); try dsimp only))
theorem frl_Rd_readNumber_b56 {c3 : Int32}  {n1 : Nat} {s0 : Int32 × Mm} {y1 : (Int32 × Mm) ⊕ (Mm)} (h : loop (fun s1 : Int32 × Mm => Rd_readNumber_b56 c3 s1.1 s1.2) n1 s0 = some y1) : Fr (fp_Rd_readNumber) s0.2 (elS y1 (fun x1 => x1.2) (fun z1 => z1)) :=
  loop_inv (P := fun s2 : Int32 × Mm => Fr (fp_Rd_readNumber) s0.2 s2.2) (E := fun y1 : (Int32 × Mm) ⊕ (Mm) => Fr (fp_Rd_readNumber) s0.2 (elS y1 (fun x1 => x1.2) (fun z1 => z1))) (fun s2 s3 hP hb => hP.tr (fr_Rd_readNumber_b56 hb)) (fun s2 x2 hP hb => hP.tr (fr_Rd_readNumber_b56 hb)) n1 s0 y1 h Fr.rf
theorem fr_Rd_readNumber_j216 {v3 : Int32} {w0 : Int32} {M : Mm} {oo : Mm} (h : Rd_readNumber_j216 v3 w0 M = some oo) : Fr (fp_Rd_readNumber) M oo := by
  unfold Rd_readNumber_j216 at h
  by_cases g0 : w0 = (0 : Int32)
  · have h := (if_pos g0).symm.trans h
    obtain rfl := Option.some.inj h
    try dsimp only [elS]
    repeat' (with_reducible first | exact Fr.rf | refine Fr.I ?_ (by simp [fp_Rd_readNumber]) | refine Fr.L ?_ (by simp [fp_Rd_readNumber]) | refine Fr.cI ?_ (by intro j; simp [fp_Rd_readNumber]) | refine Fr.cL ?_ (by intro j; simp [fp_Rd_readNumber]) | (refine Fr.tr ?_ (Fr.mono (fr_Rd_blame (by with_reducible assumption)) mono_Rd_readNumber_0); try dsimp only) | (refine Fr.tr ?_ (Fr.mono (fr_Rd_gridFault (by with_reducible assumption)) mono_Rd_readNumber_1); try dsimp only) | (refine Fr.tr ?_ (frl_Rd_readNumber_b56 (by with_reducible assumption)); try dsimp only))
  · have h := (if_neg g0).symm.trans h
    obtain ⟨z24, _, h⟩ := bnd_s h
    obtain rfl := Option.some.inj h
    try dsimp only [elS]
    repeat' (with_reducible first | exact Fr.rf | refine Fr.I ?_ (by simp [fp_Rd_readNumber]) | refine Fr.L ?_ (by simp [fp_Rd_readNumber]) | refine Fr.cI ?_ (by intro j; simp [fp_Rd_readNumber]) | refine Fr.cL ?_ (by intro j; simp [fp_Rd_readNumber]) | (refine Fr.tr ?_ (Fr.mono (fr_Rd_blame (by with_reducible assumption)) mono_Rd_readNumber_0); try dsimp only) | (refine Fr.tr ?_ (Fr.mono (fr_Rd_gridFault (by with_reducible assumption)) mono_Rd_readNumber_1); try dsimp only) | (refine Fr.tr ?_ (frl_Rd_readNumber_b56 (by with_reducible assumption)); try dsimp only))
theorem fr_Rd_readNumber_j157 {v1 : Int32} {v2 : Int32} {v3 : Int32} {v4 : Int32} {M : Mm} {oo : Mm} (h : Rd_readNumber_j157 v1 v2 v3 v4 M = some oo) : Fr (fp_Rd_readNumber) M oo := by
  unfold Rd_readNumber_j157 at h
  by_cases g0 : (M.1 3 7) = v3
  · have h := (if_pos g0).symm.trans h
    obtain ⟨z28, _, h⟩ := bnd_s h
    obtain rfl := Option.some.inj h
    try dsimp only [elS]
    repeat' (with_reducible first | exact Fr.rf | refine Fr.I ?_ (by simp [fp_Rd_readNumber]) | refine Fr.L ?_ (by simp [fp_Rd_readNumber]) | refine Fr.cI ?_ (by intro j; simp [fp_Rd_readNumber]) | refine Fr.cL ?_ (by intro j; simp [fp_Rd_readNumber]) | (refine Fr.tr ?_ (Fr.mono (fr_Rd_blame (by with_reducible assumption)) mono_Rd_readNumber_0); try dsimp only) | (refine Fr.tr ?_ (Fr.mono (fr_Rd_gridFault (by with_reducible assumption)) mono_Rd_readNumber_1); try dsimp only) | (refine Fr.tr ?_ (frl_Rd_readNumber_b56 (by with_reducible assumption)); try dsimp only))
  · have h := (if_neg g0).symm.trans h
    obtain ⟨_, h⟩ := grd_s h
    by_cases g0 : ((up2 M.1 11 (tn (((M.1 3 5) * (4 : Int32)) + v2)) v4) 3 4) = (0 : Int32)
    · have h := (if_pos g0).symm.trans h
      obtain ⟨z21, _, h⟩ := bnd_s h
      refine Fr.tr ?_ (fr_Rd_readNumber_j216 h)
      try dsimp only [elS]
      repeat' (with_reducible first | exact Fr.rf | refine Fr.I ?_ (by simp [fp_Rd_readNumber]) | refine Fr.L ?_ (by simp [fp_Rd_readNumber]) | refine Fr.cI ?_ (by intro j; simp [fp_Rd_readNumber]) | refine Fr.cL ?_ (by intro j; simp [fp_Rd_readNumber]) | (refine Fr.tr ?_ (Fr.mono (fr_Rd_blame (by with_reducible assumption)) mono_Rd_readNumber_0); try dsimp only) | (refine Fr.tr ?_ (Fr.mono (fr_Rd_gridFault (by with_reducible assumption)) mono_Rd_readNumber_1); try dsimp only) | (refine Fr.tr ?_ (frl_Rd_readNumber_b56 (by with_reducible assumption)); try dsimp only))
    · have h := (if_neg g0).symm.trans h
      obtain ⟨z26, _, h⟩ := bnd_s h
      refine Fr.tr ?_ (fr_Rd_readNumber_j216 h)
      try dsimp only [elS]
      repeat' (with_reducible first | exact Fr.rf | refine Fr.I ?_ (by simp [fp_Rd_readNumber]) | refine Fr.L ?_ (by simp [fp_Rd_readNumber]) | refine Fr.cI ?_ (by intro j; simp [fp_Rd_readNumber]) | refine Fr.cL ?_ (by intro j; simp [fp_Rd_readNumber]) | (refine Fr.tr ?_ (Fr.mono (fr_Rd_blame (by with_reducible assumption)) mono_Rd_readNumber_0); try dsimp only) | (refine Fr.tr ?_ (Fr.mono (fr_Rd_gridFault (by with_reducible assumption)) mono_Rd_readNumber_1); try dsimp only) | (refine Fr.tr ?_ (frl_Rd_readNumber_b56 (by with_reducible assumption)); try dsimp only))
theorem fr_Rd_readNumber {n : Nat} {v1 : Int32} {v2 : Int32} {M : Mm} {oo : Mm} (h : Rd_readNumber n v1 v2 M = some oo) : Fr (fp_Rd_readNumber) M oo := by
  unfold Rd_readNumber at h
  by_cases g0 : (M.1 3 6) ≤ (M.1 3 7)
  · have h := (if_pos g0).symm.trans h
    refine Fr.tr ?_ (fr_Rd_readNumber_j28 h)
    try dsimp only [elS]
    repeat' (with_reducible first | exact Fr.rf | refine Fr.I ?_ (by simp [fp_Rd_readNumber]) | refine Fr.L ?_ (by simp [fp_Rd_readNumber]) | refine Fr.cI ?_ (by intro j; simp [fp_Rd_readNumber]) | refine Fr.cL ?_ (by intro j; simp [fp_Rd_readNumber]) | (refine Fr.tr ?_ (Fr.mono (fr_Rd_blame (by with_reducible assumption)) mono_Rd_readNumber_0); try dsimp only) | (refine Fr.tr ?_ (Fr.mono (fr_Rd_gridFault (by with_reducible assumption)) mono_Rd_readNumber_1); try dsimp only) | (refine Fr.tr ?_ (frl_Rd_readNumber_b56 (by with_reducible assumption)); try dsimp only))
  · have h := (if_neg g0).symm.trans h
    obtain ⟨_, h⟩ := grd_s h
    by_cases g0 : (M.1 2 (tn (M.1 3 7))) = (32 : Int32)
    · have h := (if_pos g0).symm.trans h
      obtain ⟨y15, _, h⟩ := bnd_s h
      cases y15 with
      | inl x16 =>
        refine Fr.tr ?_ (fr_Rd_readNumber_j157 h)
        try dsimp only [elS]
        repeat' (with_reducible first | exact Fr.rf | refine Fr.I ?_ (by simp [fp_Rd_readNumber]) | refine Fr.L ?_ (by simp [fp_Rd_readNumber]) | refine Fr.cI ?_ (by intro j; simp [fp_Rd_readNumber]) | refine Fr.cL ?_ (by intro j; simp [fp_Rd_readNumber]) | (refine Fr.tr ?_ (Fr.mono (fr_Rd_blame (by with_reducible assumption)) mono_Rd_readNumber_0); try dsimp only) | (refine Fr.tr ?_ (Fr.mono (fr_Rd_gridFault (by with_reducible assumption)) mono_Rd_readNumber_1); try dsimp only) | (refine Fr.tr ?_ (frl_Rd_readNumber_b56 (by with_reducible assumption)); try dsimp only))
      | inr e17 =>
        obtain rfl := Option.some.inj h
        try dsimp only [elS]
        repeat' (with_reducible first | exact Fr.rf | refine Fr.I ?_ (by simp [fp_Rd_readNumber]) | refine Fr.L ?_ (by simp [fp_Rd_readNumber]) | refine Fr.cI ?_ (by intro j; simp [fp_Rd_readNumber]) | refine Fr.cL ?_ (by intro j; simp [fp_Rd_readNumber]) | (refine Fr.tr ?_ (Fr.mono (fr_Rd_blame (by with_reducible assumption)) mono_Rd_readNumber_0); try dsimp only) | (refine Fr.tr ?_ (Fr.mono (fr_Rd_gridFault (by with_reducible assumption)) mono_Rd_readNumber_1); try dsimp only) | (refine Fr.tr ?_ (frl_Rd_readNumber_b56 (by with_reducible assumption)); try dsimp only))
    · have h := (if_neg g0).symm.trans h
      refine Fr.tr ?_ (fr_Rd_readNumber_j28 h)
      try dsimp only [elS]
      repeat' (with_reducible first | exact Fr.rf | refine Fr.I ?_ (by simp [fp_Rd_readNumber]) | refine Fr.L ?_ (by simp [fp_Rd_readNumber]) | refine Fr.cI ?_ (by intro j; simp [fp_Rd_readNumber]) | refine Fr.cL ?_ (by intro j; simp [fp_Rd_readNumber]) | (refine Fr.tr ?_ (Fr.mono (fr_Rd_blame (by with_reducible assumption)) mono_Rd_readNumber_0); try dsimp only) | (refine Fr.tr ?_ (Fr.mono (fr_Rd_gridFault (by with_reducible assumption)) mono_Rd_readNumber_1); try dsimp only) | (refine Fr.tr ?_ (frl_Rd_readNumber_b56 (by with_reducible assumption)); try dsimp only))
theorem mono_Rd_readClause_0  : ∀ c j, fp_Rd_blame c j → fp_Rd_readClause c j := fun c j => (fun e => Or.inr (Or.inr (Or.inr (Or.inl e))))
theorem mono_Rd_readClause_1  : ∀ c j, fp_Rd_readNumber c j → fp_Rd_readClause c j := fun c j => (fun h => h.elim (fun e => Or.inr (Or.inl e)) (fun h => h.elim (fun e => Or.inr (Or.inr (Or.inl e))) (fun h => h.elim (fun e => Or.inr (Or.inr (Or.inr (Or.inl e)))) (fun h => h.elim (fun e => Or.inr (Or.inr (Or.inr (Or.inr (Or.inl e))))) (fun h => h.elim (fun e => Or.inr (Or.inr (Or.inr (Or.inr (Or.inr (Or.inl e)))))) (fun h => h.elim (fun e => Or.inr (Or.inr (Or.inr (Or.inr (Or.inr (Or.inr (Or.inl e))))))) (fun h => h.elim (fun e => Or.inr (Or.inr (Or.inr (Or.inr (Or.inr (Or.inr (Or.inr (Or.inl e)))))))) (fun h => h.elim (fun e => Or.inr (Or.inr (Or.inr (Or.inr (Or.inr (Or.inr (Or.inr (Or.inr (Or.inl e))))))))) (fun h => h.elim (fun e => Or.inr (Or.inr (Or.inr (Or.inr (Or.inr (Or.inr (Or.inr (Or.inr (Or.inr (Or.inl e)))))))))) (fun h => h.elim (fun e => Or.inr (Or.inr (Or.inr (Or.inr (Or.inr (Or.inr (Or.inr (Or.inr (Or.inr (Or.inr (Or.inl e))))))))))) (fun h => h.elim (fun e => Or.inr (Or.inr (Or.inr (Or.inr (Or.inr (Or.inr (Or.inr (Or.inr (Or.inr (Or.inr (Or.inr (Or.inl e)))))))))))) (fun e => Or.inr (Or.inr (Or.inr (Or.inr (Or.inr (Or.inr (Or.inr (Or.inr (Or.inr (Or.inr (Or.inr (Or.inr (e))))))))))))))))))))))))
theorem fr_Rd_readClause_b5 {M : Mm} {oo : (Mm) ⊕ (Mm)} (h : Rd_readClause_b5 M = some oo) : Fr (fp_Rd_readClause) M (elS oo (fun s1 => s1) (fun x1 => x1)) := by
  unfold Rd_readClause_b5 at h
  by_cases g0 : (M.1 3 6) ≤ (M.1 3 7)
  · have h := (if_pos g0).symm.trans h
    obtain rfl := Option.some.inj h
    try dsimp only [elS]
    repeat' (with_reducible first | exact Fr.rf | refine Fr.I ?_ (by simp [fp_Rd_readClause]) | refine Fr.L ?_ (by simp [fp_Rd_readClause]) | refine Fr.cI ?_ (by intro j; simp [fp_Rd_readClause]) | refine Fr.cL ?_ (by intro j; simp [fp_Rd_readClause]) | (refine Fr.tr ?_ (Fr.mono (fr_Rd_blame (by with_reducible assumption)) mono_Rd_readClause_0); try dsimp only) | (refine Fr.tr ?_ (Fr.mono (fr_Rd_readNumber (by with_reducible assumption)) mono_Rd_readClause_1); try dsimp only))
  · have h := (if_neg g0).symm.trans h
    obtain ⟨_, h⟩ := grd_s h
    by_cases g0 : (M.1 2 (tn (M.1 3 7))) < (97 : Int32)
    · have h := (if_pos g0).symm.trans h
      obtain rfl := Option.some.inj h
      try dsimp only [elS]
      repeat' (with_reducible first | exact Fr.rf | refine Fr.I ?_ (by simp [fp_Rd_readClause]) | refine Fr.L ?_ (by simp [fp_Rd_readClause]) | refine Fr.cI ?_ (by intro j; simp [fp_Rd_readClause]) | refine Fr.cL ?_ (by intro j; simp [fp_Rd_readClause]) | (refine Fr.tr ?_ (Fr.mono (fr_Rd_blame (by with_reducible assumption)) mono_Rd_readClause_0); try dsimp only) | (refine Fr.tr ?_ (Fr.mono (fr_Rd_readNumber (by with_reducible assumption)) mono_Rd_readClause_1); try dsimp only))
    · have h := (if_neg g0).symm.trans h
      obtain ⟨_, h⟩ := grd_s h
      by_cases g0 : (122 : Int32) < (M.1 2 (tn (M.1 3 7)))
      · have h := (if_pos g0).symm.trans h
        obtain rfl := Option.some.inj h
        try dsimp only [elS]
        repeat' (with_reducible first | exact Fr.rf | refine Fr.I ?_ (by simp [fp_Rd_readClause]) | refine Fr.L ?_ (by simp [fp_Rd_readClause]) | refine Fr.cI ?_ (by intro j; simp [fp_Rd_readClause]) | refine Fr.cL ?_ (by intro j; simp [fp_Rd_readClause]) | (refine Fr.tr ?_ (Fr.mono (fr_Rd_blame (by with_reducible assumption)) mono_Rd_readClause_0); try dsimp only) | (refine Fr.tr ?_ (Fr.mono (fr_Rd_readNumber (by with_reducible assumption)) mono_Rd_readClause_1); try dsimp only))
      · have h := (if_neg g0).symm.trans h
        obtain rfl := Option.some.inj h
        try dsimp only [elS]
        repeat' (with_reducible first | exact Fr.rf | refine Fr.I ?_ (by simp [fp_Rd_readClause]) | refine Fr.L ?_ (by simp [fp_Rd_readClause]) | refine Fr.cI ?_ (by intro j; simp [fp_Rd_readClause]) | refine Fr.cL ?_ (by intro j; simp [fp_Rd_readClause]) | (refine Fr.tr ?_ (Fr.mono (fr_Rd_blame (by with_reducible assumption)) mono_Rd_readClause_0); try dsimp only) | (refine Fr.tr ?_ (Fr.mono (fr_Rd_readNumber (by with_reducible assumption)) mono_Rd_readClause_1); try dsimp only))
theorem frl_Rd_readClause_b5   {n1 : Nat} {s0 : Mm} {y1 : Mm} (h : loop (fun s1 : Mm => Rd_readClause_b5 s1) n1 s0 = some y1) : Fr (fp_Rd_readClause) s0 y1 :=
  loop_inv (P := fun s2 : Mm => Fr (fp_Rd_readClause) s0 s2) (E := fun y1 : Mm => Fr (fp_Rd_readClause) s0 y1) (fun s2 s3 hP hb => hP.tr (fr_Rd_readClause_b5 hb)) (fun s2 x2 hP hb => hP.tr (fr_Rd_readClause_b5 hb)) n1 s0 y1 h Fr.rf
theorem fr_Rd_readClause_b146 {n : Nat} {c2 : Int32} {c3 : Int32} {v4 : Int32} {M : Mm} {oo : (Int32 × Mm) ⊕ (Mm)} (h : Rd_readClause_b146 n c2 c3 v4 M = some oo) : Fr (fp_Rd_readClause) M (elS oo (fun s1 => s1.2) (fun x1 => x1)) := by
  unfold Rd_readClause_b146 at h
  by_cases g0 : c3 ≤ v4
  · have h := (if_pos g0).symm.trans h
    obtain rfl := Option.some.inj h
    try dsimp only [elS]
    repeat' (with_reducible first | exact Fr.rf | refine Fr.I ?_ (by simp [fp_Rd_readClause]) | refine Fr.L ?_ (by simp [fp_Rd_readClause]) | refine Fr.cI ?_ (by intro j; simp [fp_Rd_readClause]) | refine Fr.cL ?_ (by intro j; simp [fp_Rd_readClause]) | (refine Fr.tr ?_ (Fr.mono (fr_Rd_blame (by with_reducible assumption)) mono_Rd_readClause_0); try dsimp only) | (refine Fr.tr ?_ (Fr.mono (fr_Rd_readNumber (by with_reducible assumption)) mono_Rd_readClause_1); try dsimp only) | (refine Fr.tr ?_ (frl_Rd_readClause_b5 (by with_reducible assumption)); try dsimp only))
  · have h := (if_neg g0).symm.trans h
    by_cases g0 : (M.1 3 8) = (0 : Int32)
    · have h := (if_pos g0).symm.trans h
      obtain ⟨z16, _, h⟩ := bnd_s h
      obtain rfl := Option.some.inj h
      try dsimp only [elS]
      repeat' (with_reducible first | exact Fr.rf | refine Fr.I ?_ (by simp [fp_Rd_readClause]) | refine Fr.L ?_ (by simp [fp_Rd_readClause]) | refine Fr.cI ?_ (by intro j; simp [fp_Rd_readClause]) | refine Fr.cL ?_ (by intro j; simp [fp_Rd_readClause]) | (refine Fr.tr ?_ (Fr.mono (fr_Rd_blame (by with_reducible assumption)) mono_Rd_readClause_0); try dsimp only) | (refine Fr.tr ?_ (Fr.mono (fr_Rd_readNumber (by with_reducible assumption)) mono_Rd_readClause_1); try dsimp only) | (refine Fr.tr ?_ (frl_Rd_readClause_b5 (by with_reducible assumption)); try dsimp only))
    · have h := (if_neg g0).symm.trans h
      obtain rfl := Option.some.inj h
      try dsimp only [elS]
      repeat' (with_reducible first | exact Fr.rf | refine Fr.I ?_ (by simp [fp_Rd_readClause]) | refine Fr.L ?_ (by simp [fp_Rd_readClause]) | refine Fr.cI ?_ (by intro j; simp [fp_Rd_readClause]) | refine Fr.cL ?_ (by intro j; simp [fp_Rd_readClause]) | (refine Fr.tr ?_ (Fr.mono (fr_Rd_blame (by with_reducible assumption)) mono_Rd_readClause_0); try dsimp only) | (refine Fr.tr ?_ (Fr.mono (fr_Rd_readNumber (by with_reducible assumption)) mono_Rd_readClause_1); try dsimp only) | (refine Fr.tr ?_ (frl_Rd_readClause_b5 (by with_reducible assumption)); try dsimp only))
theorem frl_Rd_readClause_b146 {n : Nat} {c2 : Int32} {c3 : Int32}  {n1 : Nat} {s0 : Int32 × Mm} {y1 : Mm} (h : loop (fun s1 : Int32 × Mm => Rd_readClause_b146 n c2 c3 s1.1 s1.2) n1 s0 = some y1) : Fr (fp_Rd_readClause) s0.2 y1 :=
  loop_inv (P := fun s2 : Int32 × Mm => Fr (fp_Rd_readClause) s0.2 s2.2) (E := fun y1 : Mm => Fr (fp_Rd_readClause) s0.2 y1) (fun s2 s3 hP hb => hP.tr (fr_Rd_readClause_b146 hb)) (fun s2 x2 hP hb => hP.tr (fr_Rd_readClause_b146 hb)) n1 s0 y1 h Fr.rf
theorem fr_Rd_readClause_j172 {M : Mm} {oo : Mm} (h : Rd_readClause_j172 M = some oo) : Fr (fp_Rd_readClause) M oo := by
  unfold Rd_readClause_j172 at h
  by_cases g0 : (M.1 3 8) = (0 : Int32)
  · have h := (if_pos g0).symm.trans h
    by_cases g0 : (M.1 3 6) ≤ (M.1 3 7)
    · have h := (if_pos g0).symm.trans h
      obtain rfl := Option.some.inj h
      try dsimp only [elS]
      repeat' (with_reducible first | exact Fr.rf | refine Fr.I ?_ (by simp [fp_Rd_readClause]) | refine Fr.L ?_ (by simp [fp_Rd_readClause]) | refine Fr.cI ?_ (by intro j; simp [fp_Rd_readClause]) | refine Fr.cL ?_ (by intro j; simp [fp_Rd_readClause]) | (refine Fr.tr ?_ (Fr.mono (fr_Rd_blame (by with_reducible assumption)) mono_Rd_readClause_0); try dsimp only) | (refine Fr.tr ?_ (Fr.mono (fr_Rd_readNumber (by with_reducible assumption)) mono_Rd_readClause_1); try dsimp only) | (refine Fr.tr ?_ (frl_Rd_readClause_b5 (by with_reducible assumption)); try dsimp only) | (refine Fr.tr ?_ (frl_Rd_readClause_b146 (by with_reducible assumption)); try dsimp only))
    · have h := (if_neg g0).symm.trans h
      obtain ⟨_, h⟩ := grd_s h
      by_cases g0 : (M.1 2 (tn (M.1 3 7))) = (59 : Int32)
      · have h := (if_pos g0).symm.trans h
        obtain rfl := Option.some.inj h
        try dsimp only [elS]
        repeat' (with_reducible first | exact Fr.rf | refine Fr.I ?_ (by simp [fp_Rd_readClause]) | refine Fr.L ?_ (by simp [fp_Rd_readClause]) | refine Fr.cI ?_ (by intro j; simp [fp_Rd_readClause]) | refine Fr.cL ?_ (by intro j; simp [fp_Rd_readClause]) | (refine Fr.tr ?_ (Fr.mono (fr_Rd_blame (by with_reducible assumption)) mono_Rd_readClause_0); try dsimp only) | (refine Fr.tr ?_ (Fr.mono (fr_Rd_readNumber (by with_reducible assumption)) mono_Rd_readClause_1); try dsimp only) | (refine Fr.tr ?_ (frl_Rd_readClause_b5 (by with_reducible assumption)); try dsimp only) | (refine Fr.tr ?_ (frl_Rd_readClause_b146 (by with_reducible assumption)); try dsimp only))
      · have h := (if_neg g0).symm.trans h
        obtain ⟨z23, _, h⟩ := bnd_s h
        obtain rfl := Option.some.inj h
        try dsimp only [elS]
        repeat' (with_reducible first | exact Fr.rf | refine Fr.I ?_ (by simp [fp_Rd_readClause]) | refine Fr.L ?_ (by simp [fp_Rd_readClause]) | refine Fr.cI ?_ (by intro j; simp [fp_Rd_readClause]) | refine Fr.cL ?_ (by intro j; simp [fp_Rd_readClause]) | (refine Fr.tr ?_ (Fr.mono (fr_Rd_blame (by with_reducible assumption)) mono_Rd_readClause_0); try dsimp only) | (refine Fr.tr ?_ (Fr.mono (fr_Rd_readNumber (by with_reducible assumption)) mono_Rd_readClause_1); try dsimp only) | (refine Fr.tr ?_ (frl_Rd_readClause_b5 (by with_reducible assumption)); try dsimp only) | (refine Fr.tr ?_ (frl_Rd_readClause_b146 (by with_reducible assumption)); try dsimp only))
  · have h := (if_neg g0).symm.trans h
    obtain rfl := Option.some.inj h
    try dsimp only [elS]
    repeat' (with_reducible first | exact Fr.rf | refine Fr.I ?_ (by simp [fp_Rd_readClause]) | refine Fr.L ?_ (by simp [fp_Rd_readClause]) | refine Fr.cI ?_ (by intro j; simp [fp_Rd_readClause]) | refine Fr.cL ?_ (by intro j; simp [fp_Rd_readClause]) | (refine Fr.tr ?_ (Fr.mono (fr_Rd_blame (by with_reducible assumption)) mono_Rd_readClause_0); try dsimp only) | (refine Fr.tr ?_ (Fr.mono (fr_Rd_readNumber (by with_reducible assumption)) mono_Rd_readClause_1); try dsimp only) | (refine Fr.tr ?_ (frl_Rd_readClause_b5 (by with_reducible assumption)); try dsimp only) | (refine Fr.tr ?_ (frl_Rd_readClause_b146 (by with_reducible assumption)); try dsimp only))
theorem fr_Rd_readClause_j142 {n : Nat} {v2 : Int32} {w0 : Int32} {M : Mm} {oo : Mm} (h : Rd_readClause_j142 n v2 w0 M = some oo) : Fr (fp_Rd_readClause) M oo := by
  unfold Rd_readClause_j142 at h
  obtain ⟨y18, _, h⟩ := bnd_s h
  refine Fr.tr ?_ (fr_Rd_readClause_j172 h)
  try dsimp only [elS]
  repeat' (with_reducible first | exact Fr.rf | refine Fr.I ?_ (by simp [fp_Rd_readClause]) | refine Fr.L ?_ (by simp [fp_Rd_readClause]) | refine Fr.cI ?_ (by intro j; simp [fp_Rd_readClause]) | refine Fr.cL ?_ (by intro j; simp [fp_Rd_readClause]) | (refine Fr.tr ?_ (Fr.mono (fr_Rd_blame (by with_reducible assumption)) mono_Rd_readClause_0); try dsimp only) | (refine Fr.tr ?_ (Fr.mono (fr_Rd_readNumber (by with_reducible assumption)) mono_Rd_readClause_1); try dsimp only) | (refine Fr.tr ?_ (frl_Rd_readClause_b5 (by with_reducible assumption)); try dsimp only) | (refine Fr.tr ?_ (frl_Rd_readClause_b146 (by with_reducible assumption)); try dsimp only))
theorem fr_Rd_readClause_j112 {n : Nat} {v2 : Int32} {M : Mm} {oo : Mm} (h : Rd_readClause_j112 n v2 M = some oo) : Fr (fp_Rd_readClause) M oo := by
  unfold Rd_readClause_j112 at h
  obtain ⟨_, h⟩ := grd_s h
  by_cases g0 : ((up2 M.1 10 (tn (M.1 3 5)) v2) 3 4) = (0 : Int32)
  · have h := (if_pos g0).symm.trans h
    obtain ⟨_, h⟩ := grd_s h
    refine Fr.tr ?_ (fr_Rd_readClause_j142 h)
    try dsimp only [elS]
    repeat' (with_reducible first | exact Fr.rf | refine Fr.I ?_ (by simp [fp_Rd_readClause]) | refine Fr.L ?_ (by simp [fp_Rd_readClause]) | refine Fr.cI ?_ (by intro j; simp [fp_Rd_readClause]) | refine Fr.cL ?_ (by intro j; simp [fp_Rd_readClause]) | (refine Fr.tr ?_ (Fr.mono (fr_Rd_blame (by with_reducible assumption)) mono_Rd_readClause_0); try dsimp only) | (refine Fr.tr ?_ (Fr.mono (fr_Rd_readNumber (by with_reducible assumption)) mono_Rd_readClause_1); try dsimp only) | (refine Fr.tr ?_ (frl_Rd_readClause_b5 (by with_reducible assumption)); try dsimp only) | (refine Fr.tr ?_ (frl_Rd_readClause_b146 (by with_reducible assumption)); try dsimp only))
  · have h := (if_neg g0).symm.trans h
    obtain ⟨_, h⟩ := grd_s h
    refine Fr.tr ?_ (fr_Rd_readClause_j142 h)
    try dsimp only [elS]
    repeat' (with_reducible first | exact Fr.rf | refine Fr.I ?_ (by simp [fp_Rd_readClause]) | refine Fr.L ?_ (by simp [fp_Rd_readClause]) | refine Fr.cI ?_ (by intro j; simp [fp_Rd_readClause]) | refine Fr.cL ?_ (by intro j; simp [fp_Rd_readClause]) | (refine Fr.tr ?_ (Fr.mono (fr_Rd_blame (by with_reducible assumption)) mono_Rd_readClause_0); try dsimp only) | (refine Fr.tr ?_ (Fr.mono (fr_Rd_readNumber (by with_reducible assumption)) mono_Rd_readClause_1); try dsimp only) | (refine Fr.tr ?_ (frl_Rd_readClause_b5 (by with_reducible assumption)); try dsimp only) | (refine Fr.tr ?_ (frl_Rd_readClause_b146 (by with_reducible assumption)); try dsimp only))
theorem fr_Rd_readClause_j63 {n : Nat} {v1 : Int32} {M : Mm} {oo : Mm} (h : Rd_readClause_j63 n v1 M = some oo) : Fr (fp_Rd_readClause) M oo := by
  unfold Rd_readClause_j63 at h
  obtain ⟨z7, _, h⟩ := bnd_s h
  by_cases g0 : (0 : Int32) ≤ z7
  · have h := (if_pos g0).symm.trans h
    by_cases g0 : (M.1 3 4) = (0 : Int32)
    · have h := (if_pos g0).symm.trans h
      refine Fr.tr ?_ (fr_Rd_readClause_j112 h)
      try dsimp only [elS]
      repeat' (with_reducible first | exact Fr.rf | refine Fr.I ?_ (by simp [fp_Rd_readClause]) | refine Fr.L ?_ (by simp [fp_Rd_readClause]) | refine Fr.cI ?_ (by intro j; simp [fp_Rd_readClause]) | refine Fr.cL ?_ (by intro j; simp [fp_Rd_readClause]) | (refine Fr.tr ?_ (Fr.mono (fr_Rd_blame (by with_reducible assumption)) mono_Rd_readClause_0); try dsimp only) | (refine Fr.tr ?_ (Fr.mono (fr_Rd_readNumber (by with_reducible assumption)) mono_Rd_readClause_1); try dsimp only) | (refine Fr.tr ?_ (frl_Rd_readClause_b5 (by with_reducible assumption)); try dsimp only) | (refine Fr.tr ?_ (frl_Rd_readClause_b146 (by with_reducible assumption)); try dsimp only))
    · have h := (if_neg g0).symm.trans h
      by_cases g0 : z7 = (4 : Int32)
      · have h := (if_pos g0).symm.trans h
        by_cases g0 : (M.1 4 3) < (14 : Int32)
        · have h := (if_pos g0).symm.trans h
          refine Fr.tr ?_ (fr_Rd_readClause_j112 h)
          try dsimp only [elS]
          repeat' (with_reducible first | exact Fr.rf | refine Fr.I ?_ (by simp [fp_Rd_readClause]) | refine Fr.L ?_ (by simp [fp_Rd_readClause]) | refine Fr.cI ?_ (by intro j; simp [fp_Rd_readClause]) | refine Fr.cL ?_ (by intro j; simp [fp_Rd_readClause]) | (refine Fr.tr ?_ (Fr.mono (fr_Rd_blame (by with_reducible assumption)) mono_Rd_readClause_0); try dsimp only) | (refine Fr.tr ?_ (Fr.mono (fr_Rd_readNumber (by with_reducible assumption)) mono_Rd_readClause_1); try dsimp only) | (refine Fr.tr ?_ (frl_Rd_readClause_b5 (by with_reducible assumption)); try dsimp only) | (refine Fr.tr ?_ (frl_Rd_readClause_b146 (by with_reducible assumption)); try dsimp only))
        · have h := (if_neg g0).symm.trans h
          obtain ⟨z28, _, h⟩ := bnd_s h
          obtain rfl := Option.some.inj h
          try dsimp only [elS]
          repeat' (with_reducible first | exact Fr.rf | refine Fr.I ?_ (by simp [fp_Rd_readClause]) | refine Fr.L ?_ (by simp [fp_Rd_readClause]) | refine Fr.cI ?_ (by intro j; simp [fp_Rd_readClause]) | refine Fr.cL ?_ (by intro j; simp [fp_Rd_readClause]) | (refine Fr.tr ?_ (Fr.mono (fr_Rd_blame (by with_reducible assumption)) mono_Rd_readClause_0); try dsimp only) | (refine Fr.tr ?_ (Fr.mono (fr_Rd_readNumber (by with_reducible assumption)) mono_Rd_readClause_1); try dsimp only) | (refine Fr.tr ?_ (frl_Rd_readClause_b5 (by with_reducible assumption)); try dsimp only) | (refine Fr.tr ?_ (frl_Rd_readClause_b146 (by with_reducible assumption)); try dsimp only))
      · have h := (if_neg g0).symm.trans h
        refine Fr.tr ?_ (fr_Rd_readClause_j112 h)
        try dsimp only [elS]
        repeat' (with_reducible first | exact Fr.rf | refine Fr.I ?_ (by simp [fp_Rd_readClause]) | refine Fr.L ?_ (by simp [fp_Rd_readClause]) | refine Fr.cI ?_ (by intro j; simp [fp_Rd_readClause]) | refine Fr.cL ?_ (by intro j; simp [fp_Rd_readClause]) | (refine Fr.tr ?_ (Fr.mono (fr_Rd_blame (by with_reducible assumption)) mono_Rd_readClause_0); try dsimp only) | (refine Fr.tr ?_ (Fr.mono (fr_Rd_readNumber (by with_reducible assumption)) mono_Rd_readClause_1); try dsimp only) | (refine Fr.tr ?_ (frl_Rd_readClause_b5 (by with_reducible assumption)); try dsimp only) | (refine Fr.tr ?_ (frl_Rd_readClause_b146 (by with_reducible assumption)); try dsimp only))
  · have h := (if_neg g0).symm.trans h
    obtain ⟨z30, _, h⟩ := bnd_s h
    obtain rfl := Option.some.inj h
    try dsimp only [elS]
    repeat' (with_reducible first | exact Fr.rf | refine Fr.I ?_ (by simp [fp_Rd_readClause]) | refine Fr.L ?_ (by simp [fp_Rd_readClause]) | refine Fr.cI ?_ (by intro j; simp [fp_Rd_readClause]) | refine Fr.cL ?_ (by intro j; simp [fp_Rd_readClause]) | (refine Fr.tr ?_ (Fr.mono (fr_Rd_blame (by with_reducible assumption)) mono_Rd_readClause_0); try dsimp only) | (refine Fr.tr ?_ (Fr.mono (fr_Rd_readNumber (by with_reducible assumption)) mono_Rd_readClause_1); try dsimp only) | (refine Fr.tr ?_ (frl_Rd_readClause_b5 (by with_reducible assumption)); try dsimp only) | (refine Fr.tr ?_ (frl_Rd_readClause_b146 (by with_reducible assumption)); try dsimp only))
theorem fr_Rd_readClause {n : Nat} {M : Mm} {oo : Mm} (h : Rd_readClause n M = some oo) : Fr (fp_Rd_readClause) M oo := by
  unfold Rd_readClause at h
  obtain ⟨y6, _, h⟩ := bnd_s h
  refine Fr.tr ?_ (fr_Rd_readClause_j63 h)
  try dsimp only [elS]
  repeat' (with_reducible first | exact Fr.rf | refine Fr.I ?_ (by simp [fp_Rd_readClause]) | refine Fr.L ?_ (by simp [fp_Rd_readClause]) | refine Fr.cI ?_ (by intro j; simp [fp_Rd_readClause]) | refine Fr.cL ?_ (by intro j; simp [fp_Rd_readClause]) | (refine Fr.tr ?_ (Fr.mono (fr_Rd_blame (by with_reducible assumption)) mono_Rd_readClause_0); try dsimp only) | (refine Fr.tr ?_ (Fr.mono (fr_Rd_readNumber (by with_reducible assumption)) mono_Rd_readClause_1); try dsimp only) | (refine Fr.tr ?_ (frl_Rd_readClause_b5 (by with_reducible assumption)); try dsimp only) | (refine Fr.tr ?_ (frl_Rd_readClause_b146 (by with_reducible assumption)); try dsimp only))
theorem mono_Rd_readText_0  : ∀ c j, fp_Nt_begin 4 c j → fp_Rd_readText c j := fun c j => (fun h => h.elim (fun e => Or.inr (Or.inr (Or.inr (Or.inr (Or.inr (Or.inr (Or.inr (Or.inl e)))))))) (fun h => h.elim (fun e => Or.inr (Or.inr (Or.inr (Or.inr (Or.inr (Or.inr (Or.inr (Or.inr (Or.inl e))))))))) (fun h => h.elim (fun e => Or.inr (Or.inr (Or.inr (Or.inr (Or.inr (Or.inr (Or.inr (Or.inr (Or.inr (Or.inl e)))))))))) (fun h => h.elim (fun e => Or.inr (Or.inr (Or.inr (Or.inr (Or.inr (Or.inr (Or.inr (Or.inr (Or.inr (Or.inr (Or.inl e))))))))))) (fun h => h.elim (fun e => Or.inr (Or.inr (Or.inr (Or.inr (Or.inr (Or.inr (Or.inr (Or.inr (Or.inr (Or.inr (Or.inr (Or.inl e)))))))))))) (fun h => h.elim (fun e => Or.inr (Or.inr (Or.inr (Or.inr (Or.inr (Or.inr (Or.inr (Or.inr (Or.inr (Or.inr (Or.inr (Or.inr (Or.inl e))))))))))))) (fun e => Or.inr (Or.inr (Or.inr (Or.inr (Or.inr (Or.inr (Or.inr (Or.inr (Or.inr (Or.inr (Or.inr (Or.inr (Or.inr (Or.inr (Or.inr (Or.inr (e)))))))))))))))))))))))
theorem mono_Rd_readText_1  : ∀ c j, fp_Rd_blame c j → fp_Rd_readText c j := fun c j => (fun e => Or.inr (Or.inr (Or.inr (Or.inr (Or.inr (Or.inr (Or.inl e)))))))
theorem mono_Rd_readText_2  : ∀ c j, fp_Rd_readClause c j → fp_Rd_readText c j := fun c j => (fun h => h.elim (fun e => Or.inl e) (fun h => h.elim (fun e => Or.inr (Or.inl e)) (fun h => h.elim (fun e => Or.inr (Or.inr (Or.inr (Or.inr (Or.inr (Or.inl e)))))) (fun h => h.elim (fun e => Or.inr (Or.inr (Or.inr (Or.inr (Or.inr (Or.inr (Or.inl e))))))) (fun h => h.elim (fun e => Or.inr (Or.inr (Or.inr (Or.inr (Or.inr (Or.inr (Or.inr (Or.inl e)))))))) (fun h => h.elim (fun e => Or.inr (Or.inr (Or.inr (Or.inr (Or.inr (Or.inr (Or.inr (Or.inr (Or.inl e))))))))) (fun h => h.elim (fun e => Or.inr (Or.inr (Or.inr (Or.inr (Or.inr (Or.inr (Or.inr (Or.inr (Or.inr (Or.inl e)))))))))) (fun h => h.elim (fun e => Or.inr (Or.inr (Or.inr (Or.inr (Or.inr (Or.inr (Or.inr (Or.inr (Or.inr (Or.inr (Or.inl e))))))))))) (fun h => h.elim (fun e => Or.inr (Or.inr (Or.inr (Or.inr (Or.inr (Or.inr (Or.inr (Or.inr (Or.inr (Or.inr (Or.inr (Or.inr (Or.inl e))))))))))))) (fun h => h.elim (fun e => Or.inr (Or.inr (Or.inr (Or.inr (Or.inr (Or.inr (Or.inr (Or.inr (Or.inr (Or.inr (Or.inr (Or.inr (Or.inr (Or.inl e)))))))))))))) (fun h => h.elim (fun e => Or.inr (Or.inr (Or.inr (Or.inr (Or.inr (Or.inr (Or.inr (Or.inr (Or.inr (Or.inr (Or.inr (Or.inr (Or.inr (Or.inr (Or.inl e))))))))))))))) (fun h => h.elim (fun e => Or.inr (Or.inr (Or.inr (Or.inr (Or.inr (Or.inr (Or.inr (Or.inr (Or.inr (Or.inr (Or.inr (Or.inr (Or.inr (Or.inr (Or.inr (Or.inl e)))))))))))))))) (fun e => Or.inr (Or.inr (Or.inr (Or.inr (Or.inr (Or.inr (Or.inr (Or.inr (Or.inr (Or.inr (Or.inr (Or.inr (Or.inr (Or.inr (Or.inr (Or.inr (e)))))))))))))))))))))))))))))
theorem fr_Rd_readText_j89 {w0 : Int32} {M : Mm} {oo : (Int32 × Mm) ⊕ ((Int32 × Mm) ⊕ (Int32 × Mm))} (h : Rd_readText_j89 w0 M = some oo) : Fr (fp_Rd_readText) M (elS oo (fun s1 => s1.2) (fun y1 => elS y1 (fun x1 => x1.2) (fun z1 => z1.2))) := by
  unfold Rd_readText_j89 at h
  by_cases g0 : w0 = (0 : Int32)
  · have h := (if_pos g0).symm.trans h
    obtain rfl := Option.some.inj h
    try dsimp only [elS]
    repeat' (with_reducible first | exact Fr.rf | refine Fr.I ?_ (by simp [fp_Rd_readText]) | refine Fr.L ?_ (by simp [fp_Rd_readText]) | refine Fr.cI ?_ (by intro j; simp [fp_Rd_readText]) | refine Fr.cL ?_ (by intro j; simp [fp_Rd_readText]) | (refine Fr.tr ?_ (Fr.mono (fr_Nt_begin (by with_reducible assumption)) mono_Rd_readText_0); try dsimp only) | (refine Fr.tr ?_ (Fr.mono (fr_Rd_blame (by with_reducible assumption)) mono_Rd_readText_1); try dsimp only) | (refine Fr.tr ?_ (Fr.mono (fr_Rd_readClause (by with_reducible assumption)) mono_Rd_readText_2); try dsimp only))
  · have h := (if_neg g0).symm.trans h
    obtain rfl := Option.some.inj h
    try dsimp only [elS]
    repeat' (with_reducible first | exact Fr.rf | refine Fr.I ?_ (by simp [fp_Rd_readText]) | refine Fr.L ?_ (by simp [fp_Rd_readText]) | refine Fr.cI ?_ (by intro j; simp [fp_Rd_readText]) | refine Fr.cL ?_ (by intro j; simp [fp_Rd_readText]) | (refine Fr.tr ?_ (Fr.mono (fr_Nt_begin (by with_reducible assumption)) mono_Rd_readText_0); try dsimp only) | (refine Fr.tr ?_ (Fr.mono (fr_Rd_blame (by with_reducible assumption)) mono_Rd_readText_1); try dsimp only) | (refine Fr.tr ?_ (Fr.mono (fr_Rd_readClause (by with_reducible assumption)) mono_Rd_readText_2); try dsimp only))
theorem fr_Rd_readText_b34 {n : Nat} {v3 : Int32} {M : Mm} {oo : (Int32 × Mm) ⊕ ((Int32 × Mm) ⊕ (Int32 × Mm))} (h : Rd_readText_b34 n v3 M = some oo) : Fr (fp_Rd_readText) M (elS oo (fun s1 => s1.2) (fun y1 => elS y1 (fun x1 => x1.2) (fun z1 => z1.2))) := by
  unfold Rd_readText_b34 at h
  by_cases g0 : v3 = (0 : Int32)
  · have h := (if_pos g0).symm.trans h
    obtain rfl := Option.some.inj h
    try dsimp only [elS]
    repeat' (with_reducible first | exact Fr.rf | refine Fr.I ?_ (by simp [fp_Rd_readText]) | refine Fr.L ?_ (by simp [fp_Rd_readText]) | refine Fr.cI ?_ (by intro j; simp [fp_Rd_readText]) | refine Fr.cL ?_ (by intro j; simp [fp_Rd_readText]) | (refine Fr.tr ?_ (Fr.mono (fr_Nt_begin (by with_reducible assumption)) mono_Rd_readText_0); try dsimp only) | (refine Fr.tr ?_ (Fr.mono (fr_Rd_blame (by with_reducible assumption)) mono_Rd_readText_1); try dsimp only) | (refine Fr.tr ?_ (Fr.mono (fr_Rd_readClause (by with_reducible assumption)) mono_Rd_readText_2); try dsimp only))
  · have h := (if_neg g0).symm.trans h
    by_cases g0 : (24 : Int32) ≤ (M.1 3 5)
    · have h := (if_pos g0).symm.trans h
      obtain rfl := Option.some.inj h
      try dsimp only [elS]
      repeat' (with_reducible first | exact Fr.rf | refine Fr.I ?_ (by simp [fp_Rd_readText]) | refine Fr.L ?_ (by simp [fp_Rd_readText]) | refine Fr.cI ?_ (by intro j; simp [fp_Rd_readText]) | refine Fr.cL ?_ (by intro j; simp [fp_Rd_readText]) | (refine Fr.tr ?_ (Fr.mono (fr_Nt_begin (by with_reducible assumption)) mono_Rd_readText_0); try dsimp only) | (refine Fr.tr ?_ (Fr.mono (fr_Rd_blame (by with_reducible assumption)) mono_Rd_readText_1); try dsimp only) | (refine Fr.tr ?_ (Fr.mono (fr_Rd_readClause (by with_reducible assumption)) mono_Rd_readText_2); try dsimp only))
    · have h := (if_neg g0).symm.trans h
      obtain ⟨z5, _, h⟩ := bnd_s h
      by_cases g0 : (z5.1 3 8) = (0 : Int32)
      · have h := (if_pos g0).symm.trans h
        by_cases g0 : ((up2 z5.1 3 5 ((z5.1 3 5) + (1 : Int32))) 3 6) ≤ ((up2 z5.1 3 5 ((z5.1 3 5) + (1 : Int32))) 3 7)
        · have h := (if_pos g0).symm.trans h
          refine Fr.tr ?_ (fr_Rd_readText_j89 h)
          try dsimp only [elS]
          repeat' (with_reducible first | exact Fr.rf | refine Fr.I ?_ (by simp [fp_Rd_readText]) | refine Fr.L ?_ (by simp [fp_Rd_readText]) | refine Fr.cI ?_ (by intro j; simp [fp_Rd_readText]) | refine Fr.cL ?_ (by intro j; simp [fp_Rd_readText]) | (refine Fr.tr ?_ (Fr.mono (fr_Nt_begin (by with_reducible assumption)) mono_Rd_readText_0); try dsimp only) | (refine Fr.tr ?_ (Fr.mono (fr_Rd_blame (by with_reducible assumption)) mono_Rd_readText_1); try dsimp only) | (refine Fr.tr ?_ (Fr.mono (fr_Rd_readClause (by with_reducible assumption)) mono_Rd_readText_2); try dsimp only))
        · have h := (if_neg g0).symm.trans h
          refine Fr.tr ?_ (fr_Rd_readText_j89 h)
          try dsimp only [elS]
          repeat' (with_reducible first | exact Fr.rf | refine Fr.I ?_ (by simp [fp_Rd_readText]) | refine Fr.L ?_ (by simp [fp_Rd_readText]) | refine Fr.cI ?_ (by intro j; simp [fp_Rd_readText]) | refine Fr.cL ?_ (by intro j; simp [fp_Rd_readText]) | (refine Fr.tr ?_ (Fr.mono (fr_Nt_begin (by with_reducible assumption)) mono_Rd_readText_0); try dsimp only) | (refine Fr.tr ?_ (Fr.mono (fr_Rd_blame (by with_reducible assumption)) mono_Rd_readText_1); try dsimp only) | (refine Fr.tr ?_ (Fr.mono (fr_Rd_readClause (by with_reducible assumption)) mono_Rd_readText_2); try dsimp only))
      · have h := (if_neg g0).symm.trans h
        obtain rfl := Option.some.inj h
        try dsimp only [elS]
        repeat' (with_reducible first | exact Fr.rf | refine Fr.I ?_ (by simp [fp_Rd_readText]) | refine Fr.L ?_ (by simp [fp_Rd_readText]) | refine Fr.cI ?_ (by intro j; simp [fp_Rd_readText]) | refine Fr.cL ?_ (by intro j; simp [fp_Rd_readText]) | (refine Fr.tr ?_ (Fr.mono (fr_Nt_begin (by with_reducible assumption)) mono_Rd_readText_0); try dsimp only) | (refine Fr.tr ?_ (Fr.mono (fr_Rd_blame (by with_reducible assumption)) mono_Rd_readText_1); try dsimp only) | (refine Fr.tr ?_ (Fr.mono (fr_Rd_readClause (by with_reducible assumption)) mono_Rd_readText_2); try dsimp only))
theorem frl_Rd_readText_b34 {n : Nat}  {n1 : Nat} {s0 : Int32 × Mm} {y1 : (Int32 × Mm) ⊕ (Int32 × Mm)} (h : loop (fun s1 : Int32 × Mm => Rd_readText_b34 n s1.1 s1.2) n1 s0 = some y1) : Fr (fp_Rd_readText) s0.2 (elS y1 (fun x1 => x1.2) (fun z1 => z1.2)) :=
  loop_inv (P := fun s2 : Int32 × Mm => Fr (fp_Rd_readText) s0.2 s2.2) (E := fun y1 : (Int32 × Mm) ⊕ (Int32 × Mm) => Fr (fp_Rd_readText) s0.2 (elS y1 (fun x1 => x1.2) (fun z1 => z1.2))) (fun s2 s3 hP hb => hP.tr (fr_Rd_readText_b34 hb)) (fun s2 x2 hP hb => hP.tr (fr_Rd_readText_b34 hb)) n1 s0 y1 h Fr.rf
theorem fr_Rd_readText_j107 {v3 : Int32} {M : Mm} {oo : Int32 × Mm} (h : Rd_readText_j107 v3 M = some oo) : Fr (fp_Rd_readText) M oo.2 := by
  unfold Rd_readText_j107 at h
  by_cases g0 : v3 = (0 : Int32)
  · have h := (if_pos g0).symm.trans h
    obtain rfl := Option.some.inj h
    try dsimp only [elS]
    repeat' (with_reducible first | exact Fr.rf | refine Fr.I ?_ (by simp [fp_Rd_readText]) | refine Fr.L ?_ (by simp [fp_Rd_readText]) | refine Fr.cI ?_ (by intro j; simp [fp_Rd_readText]) | refine Fr.cL ?_ (by intro j; simp [fp_Rd_readText]) | (refine Fr.tr ?_ (Fr.mono (fr_Nt_begin (by with_reducible assumption)) mono_Rd_readText_0); try dsimp only) | (refine Fr.tr ?_ (Fr.mono (fr_Rd_blame (by with_reducible assumption)) mono_Rd_readText_1); try dsimp only) | (refine Fr.tr ?_ (Fr.mono (fr_Rd_readClause (by with_reducible assumption)) mono_Rd_readText_2); try dsimp only) | (refine Fr.tr ?_ (frl_Rd_readText_b34 (by with_reducible assumption)); try dsimp only))
  · have h := (if_neg g0).symm.trans h
    obtain ⟨z14, _, h⟩ := bnd_s h
    obtain rfl := Option.some.inj h
    try dsimp only [elS]
    repeat' (with_reducible first | exact Fr.rf | refine Fr.I ?_ (by simp [fp_Rd_readText]) | refine Fr.L ?_ (by simp [fp_Rd_readText]) | refine Fr.cI ?_ (by intro j; simp [fp_Rd_readText]) | refine Fr.cL ?_ (by intro j; simp [fp_Rd_readText]) | (refine Fr.tr ?_ (Fr.mono (fr_Nt_begin (by with_reducible assumption)) mono_Rd_readText_0); try dsimp only) | (refine Fr.tr ?_ (Fr.mono (fr_Rd_blame (by with_reducible assumption)) mono_Rd_readText_1); try dsimp only) | (refine Fr.tr ?_ (Fr.mono (fr_Rd_readClause (by with_reducible assumption)) mono_Rd_readText_2); try dsimp only) | (refine Fr.tr ?_ (frl_Rd_readText_b34 (by with_reducible assumption)); try dsimp only))
theorem fr_Rd_readText {n : Nat} {v1 : Int32} {v2 : Bool} {M : Mm} {oo : Int32 × Mm} (h : Rd_readText n v1 v2 M = some oo) : Fr (fp_Rd_readText) M oo.2 := by
  unfold Rd_readText at h
  obtain ⟨z1, _, h⟩ := bnd_s h
  obtain ⟨y10, _, h⟩ := bnd_s h
  cases y10 with
  | inl x11 =>
    refine Fr.tr ?_ (fr_Rd_readText_j107 h)
    try dsimp only [elS]
    repeat' (with_reducible first | exact Fr.rf | refine Fr.I ?_ (by simp [fp_Rd_readText]) | refine Fr.L ?_ (by simp [fp_Rd_readText]) | refine Fr.cI ?_ (by intro j; simp [fp_Rd_readText]) | refine Fr.cL ?_ (by intro j; simp [fp_Rd_readText]) | (refine Fr.tr ?_ (Fr.mono (fr_Nt_begin (by with_reducible assumption)) mono_Rd_readText_0); try dsimp only) | (refine Fr.tr ?_ (Fr.mono (fr_Rd_blame (by with_reducible assumption)) mono_Rd_readText_1); try dsimp only) | (refine Fr.tr ?_ (Fr.mono (fr_Rd_readClause (by with_reducible assumption)) mono_Rd_readText_2); try dsimp only) | (refine Fr.tr ?_ (frl_Rd_readText_b34 (by with_reducible assumption)); try dsimp only))
  | inr e12 =>
    obtain rfl := Option.some.inj h
    try dsimp only [elS]
    repeat' (with_reducible first | exact Fr.rf | refine Fr.I ?_ (by simp [fp_Rd_readText]) | refine Fr.L ?_ (by simp [fp_Rd_readText]) | refine Fr.cI ?_ (by intro j; simp [fp_Rd_readText]) | refine Fr.cL ?_ (by intro j; simp [fp_Rd_readText]) | (refine Fr.tr ?_ (Fr.mono (fr_Nt_begin (by with_reducible assumption)) mono_Rd_readText_0); try dsimp only) | (refine Fr.tr ?_ (Fr.mono (fr_Rd_blame (by with_reducible assumption)) mono_Rd_readText_1); try dsimp only) | (refine Fr.tr ?_ (Fr.mono (fr_Rd_readClause (by with_reducible assumption)) mono_Rd_readText_2); try dsimp only) | (refine Fr.tr ?_ (frl_Rd_readText_b34 (by with_reducible assumption)); try dsimp only))
theorem fr_St_fill_j35 {v4 : Int32} {M : Mm} {s : Nat} {oo : (Int32 × Mm) ⊕ (Mm)} (h : St_fill_j35 v4 M = some oo) : Fr (fp_St_fill s) M (elS oo (fun s1 => s1.2) (fun x1 => x1)) := by
  unfold St_fill_j35 at h
  obtain rfl := Option.some.inj h
  try dsimp only [elS]
  repeat' (with_reducible first | exact Fr.rf | refine Fr.I ?_ (by simp [fp_St_fill]) | refine Fr.L ?_ (by simp [fp_St_fill]) | refine Fr.cI ?_ (by intro j; simp [fp_St_fill]) | refine Fr.cL ?_ (by intro j; simp [fp_St_fill]))
theorem fr_St_fill_b3 {s : Nat} {c1 : Int32} {c2 : Int64} {v4 : Int32} {M : Mm} {oo : (Int32 × Mm) ⊕ (Mm)} (h : St_fill_b3 s c1 c2 v4 M = some oo) : Fr (fp_St_fill s) M (elS oo (fun s1 => s1.2) (fun x1 => x1)) := by
  unfold St_fill_b3 at h
  by_cases g0 : (M.1 (s + 1) 3) ≤ v4
  · have h := (if_pos g0).symm.trans h
    obtain rfl := Option.some.inj h
    try dsimp only [elS]
    repeat' (with_reducible first | exact Fr.rf | refine Fr.I ?_ (by simp [fp_St_fill]) | refine Fr.L ?_ (by simp [fp_St_fill]) | refine Fr.cI ?_ (by intro j; simp [fp_St_fill]) | refine Fr.cL ?_ (by intro j; simp [fp_St_fill]))
  · have h := (if_neg g0).symm.trans h
    by_cases g0 : ((ushr c1 v4) &&& (1 : Int32)) = (0 : Int32)
    · have h := (if_pos g0).symm.trans h
      refine Fr.tr ?_ (fr_St_fill_j35 h)
      try dsimp only [elS]
      repeat' (with_reducible first | exact Fr.rf | refine Fr.I ?_ (by simp [fp_St_fill]) | refine Fr.L ?_ (by simp [fp_St_fill]) | refine Fr.cI ?_ (by intro j; simp [fp_St_fill]) | refine Fr.cL ?_ (by intro j; simp [fp_St_fill]))
    · have h := (if_neg g0).symm.trans h
      obtain ⟨_, h⟩ := grd_s h
      obtain ⟨_, h⟩ := grd_s h
      refine Fr.tr ?_ (fr_St_fill_j35 h)
      try dsimp only [elS]
      repeat' (with_reducible first | exact Fr.rf | refine Fr.I ?_ (by simp [fp_St_fill]) | refine Fr.L ?_ (by simp [fp_St_fill]) | refine Fr.cI ?_ (by intro j; simp [fp_St_fill]) | refine Fr.cL ?_ (by intro j; simp [fp_St_fill]))
theorem frl_St_fill_b3 {s : Nat} {c1 : Int32} {c2 : Int64}  {n1 : Nat} {s0 : Int32 × Mm} {y1 : Mm} (h : loop (fun s1 : Int32 × Mm => St_fill_b3 s c1 c2 s1.1 s1.2) n1 s0 = some y1) : Fr (fp_St_fill s) s0.2 y1 :=
  loop_inv (P := fun s2 : Int32 × Mm => Fr (fp_St_fill s) s0.2 s2.2) (E := fun y1 : Mm => Fr (fp_St_fill s) s0.2 y1) (fun s2 s3 hP hb => hP.tr (fr_St_fill_b3 hb)) (fun s2 x2 hP hb => hP.tr (fr_St_fill_b3 hb)) n1 s0 y1 h Fr.rf
theorem fr_St_fill {n : Nat} {s : Nat} {v1 : Int32} {v2 : Int64} {M : Mm} {oo : Mm} (h : St_fill n s v1 v2 M = some oo) : Fr (fp_St_fill s) M oo := by
  unfold St_fill at h
  obtain ⟨y5, _, h⟩ := bnd_s h
  obtain rfl := Option.some.inj h
  try dsimp only [elS]
  repeat' (with_reducible first | exact Fr.rf | refine Fr.I ?_ (by simp [fp_St_fill]) | refine Fr.L ?_ (by simp [fp_St_fill]) | refine Fr.cI ?_ (by intro j; simp [fp_St_fill]) | refine Fr.cL ?_ (by intro j; simp [fp_St_fill]) | (refine Fr.tr ?_ (frl_St_fill_b3 (by with_reducible assumption)); try dsimp only))
theorem mono_St_put_0 {s : Nat} : ∀ c j, fp_St_fill s c j → fp_St_put s c j := fun c j => (fun e => Or.inr (Or.inr (Or.inr (Or.inr (Or.inr (e))))))
theorem fr_St_put {n : Nat} {s : Nat} {v1 : Int32} {v2 : Int32} {v3 : Int32} {v4 : Int32} {M : Mm} {oo : Mm} (h : St_put n s v1 v2 v3 v4 M = some oo) : Fr (fp_St_put s) M oo := by
  unfold St_put at h
  obtain ⟨_, h⟩ := grd_s h
  obtain ⟨_, h⟩ := grd_s h
  obtain ⟨_, h⟩ := grd_s h
  obtain ⟨_, h⟩ := grd_s h
  obtain ⟨z5, _, h⟩ := bnd_s h
  obtain ⟨_, h⟩ := grd_s h
  obtain ⟨_, h⟩ := grd_s h
  obtain ⟨z9, _, h⟩ := bnd_s h
  obtain rfl := Option.some.inj h
  try dsimp only [elS]
  repeat' (with_reducible first | exact Fr.rf | refine Fr.I ?_ (by simp [fp_St_put]) | refine Fr.L ?_ (by simp [fp_St_put]) | refine Fr.cI ?_ (by intro j; simp [fp_St_put]) | refine Fr.cL ?_ (by intro j; simp [fp_St_put]) | (refine Fr.tr ?_ (Fr.mono (fr_St_fill (by with_reducible assumption)) mono_St_put_0); try dsimp only))
theorem mono_Rp_aim_0  : ∀ c j, fp_St_put 73 c j → fp_Rp_aim c j := fun c j => (fun h => h.elim (fun e => Or.inr (Or.inl e)) (fun h => h.elim (fun e => Or.inr (Or.inr (Or.inl e))) (fun h => h.elim (fun e => Or.inr (Or.inr (Or.inr (Or.inl e)))) (fun h => h.elim (fun e => Or.inr (Or.inr (Or.inr (Or.inr (Or.inl e))))) (fun h => h.elim (fun e => Or.inr (Or.inr (Or.inr (Or.inr (Or.inr (Or.inl e)))))) (fun e => Or.inr (Or.inr (Or.inr (Or.inr (Or.inr (Or.inr (e))))))))))))
theorem fr_Rp_aim_j86 {v1 : Int32} {M : Mm} {oo : Mm} (h : Rp_aim_j86 v1 M = some oo) : Fr (fp_Rp_aim) M oo := by
  unfold Rp_aim_j86 at h
  obtain rfl := Option.some.inj h
  try dsimp only [elS]
  repeat' (with_reducible first | exact Fr.rf | refine Fr.I ?_ (by simp [fp_Rp_aim]) | refine Fr.L ?_ (by simp [fp_Rp_aim]) | refine Fr.cI ?_ (by intro j; simp [fp_Rp_aim]) | refine Fr.cL ?_ (by intro j; simp [fp_Rp_aim]) | (refine Fr.tr ?_ (Fr.mono (fr_St_put (by with_reducible assumption)) mono_Rp_aim_0); try dsimp only))
theorem fr_Rp_aim {n : Nat} {v1 : Int32} {M : Mm} {oo : Mm} (h : Rp_aim n v1 M = some oo) : Fr (fp_Rp_aim) M oo := by
  unfold Rp_aim at h
  obtain ⟨z1, _, h⟩ := bnd_s h
  obtain ⟨_, h⟩ := grd_s h
  by_cases g0 : (z1.1 12 2) = (z1.1 66 (tn v1))
  · have h := (if_pos g0).symm.trans h
    obtain ⟨_, h⟩ := grd_s h
    by_cases g0 : (z1.1 12 3) = (z1.1 67 (tn v1))
    · have h := (if_pos g0).symm.trans h
      obtain ⟨_, h⟩ := grd_s h
      by_cases g0 : (z1.1 12 4) = (z1.1 68 (tn v1))
      · have h := (if_pos g0).symm.trans h
        obtain rfl := Option.some.inj h
        try dsimp only [elS]
        repeat' (with_reducible first | exact Fr.rf | refine Fr.I ?_ (by simp [fp_Rp_aim]) | refine Fr.L ?_ (by simp [fp_Rp_aim]) | refine Fr.cI ?_ (by intro j; simp [fp_Rp_aim]) | refine Fr.cL ?_ (by intro j; simp [fp_Rp_aim]) | (refine Fr.tr ?_ (Fr.mono (fr_St_put (by with_reducible assumption)) mono_Rp_aim_0); try dsimp only))
      · have h := (if_neg g0).symm.trans h
        refine Fr.tr ?_ (fr_Rp_aim_j86 h)
        try dsimp only [elS]
        repeat' (with_reducible first | exact Fr.rf | refine Fr.I ?_ (by simp [fp_Rp_aim]) | refine Fr.L ?_ (by simp [fp_Rp_aim]) | refine Fr.cI ?_ (by intro j; simp [fp_Rp_aim]) | refine Fr.cL ?_ (by intro j; simp [fp_Rp_aim]) | (refine Fr.tr ?_ (Fr.mono (fr_St_put (by with_reducible assumption)) mono_Rp_aim_0); try dsimp only))
    · have h := (if_neg g0).symm.trans h
      refine Fr.tr ?_ (fr_Rp_aim_j86 h)
      try dsimp only [elS]
      repeat' (with_reducible first | exact Fr.rf | refine Fr.I ?_ (by simp [fp_Rp_aim]) | refine Fr.L ?_ (by simp [fp_Rp_aim]) | refine Fr.cI ?_ (by intro j; simp [fp_Rp_aim]) | refine Fr.cL ?_ (by intro j; simp [fp_Rp_aim]) | (refine Fr.tr ?_ (Fr.mono (fr_St_put (by with_reducible assumption)) mono_Rp_aim_0); try dsimp only))
  · have h := (if_neg g0).symm.trans h
    refine Fr.tr ?_ (fr_Rp_aim_j86 h)
    try dsimp only [elS]
    repeat' (with_reducible first | exact Fr.rf | refine Fr.I ?_ (by simp [fp_Rp_aim]) | refine Fr.L ?_ (by simp [fp_Rp_aim]) | refine Fr.cI ?_ (by intro j; simp [fp_Rp_aim]) | refine Fr.cL ?_ (by intro j; simp [fp_Rp_aim]) | (refine Fr.tr ?_ (Fr.mono (fr_St_put (by with_reducible assumption)) mono_Rp_aim_0); try dsimp only))
theorem mono_Rp_canStay_0  : ∀ c j, fp_St_put 73 c j → fp_Rp_canStay c j := fun c j => (fun h => h.elim (fun e => Or.inl e) (fun h => h.elim (fun e => Or.inr (Or.inl e)) (fun h => h.elim (fun e => Or.inr (Or.inr (Or.inl e))) (fun h => h.elim (fun e => Or.inr (Or.inr (Or.inr (Or.inl e)))) (fun h => h.elim (fun e => Or.inr (Or.inr (Or.inr (Or.inr (Or.inl e))))) (fun e => Or.inr (Or.inr (Or.inr (Or.inr (Or.inr (e)))))))))))
theorem fr_Rp_canStay {n : Nat} {v1 : Int32} {M : Mm} {oo : Bool × Mm} (h : Rp_canStay n v1 M = some oo) : Fr (fp_Rp_canStay) M oo.2 := by
  unfold Rp_canStay at h
  obtain ⟨_, h⟩ := grd_s h
  obtain ⟨_, h⟩ := grd_s h
  obtain ⟨_, h⟩ := grd_s h
  obtain ⟨z4, _, h⟩ := bnd_s h
  by_cases g0 : z4 < (0 : Int32)
  · have h := (if_pos g0).symm.trans h
    obtain ⟨_, h⟩ := grd_s h
    obtain ⟨_, h⟩ := grd_s h
    obtain ⟨_, h⟩ := grd_s h
    obtain ⟨z10, _, h⟩ := bnd_s h
    obtain rfl := Option.some.inj h
    try dsimp only [elS]
    repeat' (with_reducible first | exact Fr.rf | refine Fr.I ?_ (by simp [fp_Rp_canStay]) | refine Fr.L ?_ (by simp [fp_Rp_canStay]) | refine Fr.cI ?_ (by intro j; simp [fp_Rp_canStay]) | refine Fr.cL ?_ (by intro j; simp [fp_Rp_canStay]) | (refine Fr.tr ?_ (Fr.mono (fr_St_put (by with_reducible assumption)) mono_Rp_canStay_0); try dsimp only))
  · have h := (if_neg g0).symm.trans h
    obtain rfl := Option.some.inj h
    try dsimp only [elS]
    repeat' (with_reducible first | exact Fr.rf | refine Fr.I ?_ (by simp [fp_Rp_canStay]) | refine Fr.L ?_ (by simp [fp_Rp_canStay]) | refine Fr.cI ?_ (by intro j; simp [fp_Rp_canStay]) | refine Fr.cL ?_ (by intro j; simp [fp_Rp_canStay]) | (refine Fr.tr ?_ (Fr.mono (fr_St_put (by with_reducible assumption)) mono_Rp_canStay_0); try dsimp only))
theorem fr_St_clearSlots_b2 {s : Nat} {v1 : Int32} {M : Mm} {oo : (Int32 × Mm) ⊕ (Mm)} (h : St_clearSlots_b2 s v1 M = some oo) : Fr (fp_St_clearSlots s) M (elS oo (fun s1 => s1.2) (fun x1 => x1)) := by
  unfold St_clearSlots_b2 at h
  by_cases g0 : (14 : Int32) ≤ v1
  · have h := (if_pos g0).symm.trans h
    obtain rfl := Option.some.inj h
    try dsimp only [elS]
    repeat' (with_reducible first | exact Fr.rf | refine Fr.I ?_ (by simp [fp_St_clearSlots]) | refine Fr.L ?_ (by simp [fp_St_clearSlots]) | refine Fr.cI ?_ (by intro j; simp [fp_St_clearSlots]) | refine Fr.cL ?_ (by intro j; simp [fp_St_clearSlots]))
  · have h := (if_neg g0).symm.trans h
    obtain ⟨_, h⟩ := grd_s h
    obtain rfl := Option.some.inj h
    try dsimp only [elS]
    repeat' (with_reducible first | exact Fr.rf | refine Fr.I ?_ (by simp [fp_St_clearSlots]) | refine Fr.L ?_ (by simp [fp_St_clearSlots]) | refine Fr.cI ?_ (by intro j; simp [fp_St_clearSlots]) | refine Fr.cL ?_ (by intro j; simp [fp_St_clearSlots]))
theorem frl_St_clearSlots_b2 {s : Nat}  {n1 : Nat} {s0 : Int32 × Mm} {y1 : Mm} (h : loop (fun s1 : Int32 × Mm => St_clearSlots_b2 s s1.1 s1.2) n1 s0 = some y1) : Fr (fp_St_clearSlots s) s0.2 y1 :=
  loop_inv (P := fun s2 : Int32 × Mm => Fr (fp_St_clearSlots s) s0.2 s2.2) (E := fun y1 : Mm => Fr (fp_St_clearSlots s) s0.2 y1) (fun s2 s3 hP hb => hP.tr (fr_St_clearSlots_b2 hb)) (fun s2 x2 hP hb => hP.tr (fr_St_clearSlots_b2 hb)) n1 s0 y1 h Fr.rf
theorem fr_St_clearSlots {n : Nat} {s : Nat} {M : Mm} {oo : Mm} (h : St_clearSlots n s M = some oo) : Fr (fp_St_clearSlots s) M oo := by
  unfold St_clearSlots at h
  obtain ⟨y3, _, h⟩ := bnd_s h
  obtain rfl := Option.some.inj h
  try dsimp only [elS]
  repeat' (with_reducible first | exact Fr.rf | refine Fr.I ?_ (by simp [fp_St_clearSlots]) | refine Fr.L ?_ (by simp [fp_St_clearSlots]) | refine Fr.cI ?_ (by intro j; simp [fp_St_clearSlots]) | refine Fr.cL ?_ (by intro j; simp [fp_St_clearSlots]) | (refine Fr.tr ?_ (frl_St_clearSlots_b2 (by with_reducible assumption)); try dsimp only))
theorem mono_St_copy_0 {s : Nat} {o : Nat} : ∀ c j, fp_Nt_copy (s + 1) (o + 1) c j → fp_St_copy s o c j := fun c j => (fun h => h.elim (fun e => Or.inr (Or.inr (Or.inr (Or.inr (Or.inl e))))) (fun h => h.elim (fun e => Or.inr (Or.inr (Or.inr (Or.inr (Or.inr (Or.inl e)))))) (fun h => h.elim (fun e => Or.inr (Or.inr (Or.inr (Or.inr (Or.inr (Or.inr (Or.inl e))))))) (fun h => h.elim (fun e => Or.inr (Or.inr (Or.inr (Or.inr (Or.inr (Or.inr (Or.inr (Or.inl e)))))))) (fun h => h.elim (fun e => Or.inr (Or.inr (Or.inr (Or.inr (Or.inr (Or.inr (Or.inr (Or.inr (Or.inl e))))))))) (fun h => h.elim (fun e => Or.inr (Or.inr (Or.inr (Or.inr (Or.inr (Or.inr (Or.inr (Or.inr (Or.inr (Or.inl e)))))))))) (fun h => h.elim (fun e => Or.inr (Or.inr (Or.inr (Or.inr (Or.inr (Or.inr (Or.inr (Or.inr (Or.inr (Or.inr (Or.inl e))))))))))) (fun h => h.elim (fun e => Or.inr (Or.inr (Or.inr (Or.inr (Or.inr (Or.inr (Or.inr (Or.inr (Or.inr (Or.inr (Or.inr (Or.inl e)))))))))))) (fun h => h.elim (fun e => Or.inr (Or.inr (Or.inr (Or.inr (Or.inr (Or.inr (Or.inr (Or.inr (Or.inr (Or.inr (Or.inr (Or.inr (Or.inl e))))))))))))) (fun e => Or.inr (Or.inr (Or.inr (Or.inr (Or.inr (Or.inr (Or.inr (Or.inr (Or.inr (Or.inr (Or.inr (Or.inr (Or.inr (Or.inl e)))))))))))))))))))))))
theorem fr_St_copy {s : Nat} {o : Nat} {M : Mm} {oo : Mm} (h : St_copy s o M = some oo) : Fr (fp_St_copy s o) M oo := by
  unfold St_copy at h
  obtain ⟨z1, _, h⟩ := bnd_s h
  obtain rfl := Option.some.inj h
  try dsimp only [elS]
  repeat' (with_reducible first | exact Fr.rf | refine Fr.I ?_ (by simp [fp_St_copy]) | refine Fr.L ?_ (by simp [fp_St_copy]) | refine Fr.cI ?_ (by intro j; simp [fp_St_copy]) | refine Fr.cL ?_ (by intro j; simp [fp_St_copy]) | (refine Fr.tr ?_ (Fr.mono (fr_Nt_copy (by with_reducible assumption)) mono_St_copy_0); try dsimp only))
theorem mono_Rp_lay_0 {o : Nat} : ∀ c j, fp_Fi_find 73 c j → fp_Rp_lay o c j := fun c j => (fun h => h.elim (fun e => Or.inl e) (fun h => h.elim (fun e => Or.inr (Or.inl e)) (fun h => h.elim (fun e => Or.inr (Or.inr (Or.inl e))) (fun h => h.elim (fun e => Or.inr (Or.inr (Or.inr (Or.inl e)))) (fun h => h.elim (fun e => Or.inr (Or.inr (Or.inr (Or.inr (Or.inl e))))) (fun h => h.elim (fun e => Or.inr (Or.inr (Or.inr (Or.inr (Or.inr (Or.inl e)))))) (fun h => h.elim (fun e => Or.inr (Or.inr (Or.inr (Or.inr (Or.inr (Or.inr (Or.inl e))))))) (fun h => h.elim (fun e => Or.inr (Or.inr (Or.inr (Or.inr (Or.inr (Or.inr (Or.inr (Or.inl e)))))))) (fun h => h.elim (fun e => Or.inr (Or.inr (Or.inr (Or.inr (Or.inr (Or.inr (Or.inr (Or.inr (Or.inl e))))))))) (fun h => h.elim (fun e => Or.inr (Or.inr (Or.inr (Or.inr (Or.inr (Or.inr (Or.inr (Or.inr (Or.inr (Or.inl e)))))))))) (fun h => h.elim (fun e => Or.inr (Or.inr (Or.inr (Or.inr (Or.inr (Or.inr (Or.inr (Or.inr (Or.inr (Or.inr (Or.inl e))))))))))) (fun h => h.elim (fun e => Or.inr (Or.inr (Or.inr (Or.inr (Or.inr (Or.inr (Or.inr (Or.inr (Or.inr (Or.inr (Or.inr (Or.inl e)))))))))))) (fun e => Or.inr (Or.inr (Or.inr (Or.inr (Or.inr (Or.inr (Or.inr (Or.inr (Or.inr (Or.inr (Or.inr (Or.inr (Or.inl e)))))))))))))))))))))))))
theorem mono_Rp_lay_1 {o : Nat} : ∀ c j, fp_Rp_aim c j → fp_Rp_lay o c j := fun c j => (fun h => h.elim (fun e => Or.inr (Or.inr (Or.inr (Or.inr (Or.inr (Or.inr (Or.inr (Or.inr (Or.inr (Or.inr (Or.inr (Or.inr (Or.inr (Or.inr (Or.inr (Or.inr (Or.inr (Or.inr (Or.inr (Or.inr (Or.inr (Or.inr (Or.inr (Or.inr (Or.inr (Or.inr (Or.inr (Or.inr (Or.inr (Or.inr (Or.inr (Or.inr (Or.inr (Or.inr (Or.inr (Or.inr (Or.inr (Or.inl e)))))))))))))))))))))))))))))))))))))) (fun h => h.elim (fun e => Or.inr (Or.inr (Or.inr (Or.inr (Or.inr (Or.inr (Or.inr (Or.inr (Or.inr (Or.inr (Or.inr (Or.inr (Or.inr (Or.inr (Or.inr (Or.inr (Or.inr (Or.inr (Or.inr (Or.inr (Or.inr (Or.inr (Or.inr (Or.inr (Or.inr (Or.inr (Or.inr (Or.inr (Or.inr (Or.inr (Or.inr (Or.inr (Or.inr (Or.inr (Or.inr (Or.inr (Or.inr (Or.inr (Or.inr (Or.inr (Or.inr (Or.inr (Or.inr (Or.inr (Or.inr (Or.inr (Or.inr (Or.inr (Or.inr (Or.inr (Or.inr (Or.inr (Or.inr (Or.inr (Or.inr (Or.inr (Or.inr (Or.inl e)))))))))))))))))))))))))))))))))))))))))))))))))))))))))) (fun h => h.elim (fun e => Or.inr (Or.inr (Or.inr (Or.inr (Or.inr (Or.inr (Or.inr (Or.inr (Or.inr (Or.inr (Or.inr (Or.inr (Or.inr (Or.inr (Or.inr (Or.inr (Or.inr (Or.inr (Or.inr (Or.inr (Or.inr (Or.inr (Or.inr (Or.inr (Or.inr (Or.inr (Or.inr (Or.inr (Or.inr (Or.inr (Or.inr (Or.inr (Or.inr (Or.inr (Or.inr (Or.inr (Or.inr (Or.inr (Or.inr (Or.inr (Or.inr (Or.inr (Or.inr (Or.inr (Or.inr (Or.inr (Or.inr (Or.inr (Or.inr (Or.inr (Or.inr (Or.inr (Or.inr (Or.inr (Or.inr (Or.inr (Or.inr (Or.inr (Or.inr (Or.inl e)))))))))))))))))))))))))))))))))))))))))))))))))))))))))))) (fun h => h.elim (fun e => Or.inr (Or.inr (Or.inr (Or.inr (Or.inr (Or.inr (Or.inr (Or.inr (Or.inr (Or.inr (Or.inr (Or.inr (Or.inr (Or.inr (Or.inr (Or.inr (Or.inr (Or.inr (Or.inr (Or.inr (Or.inr (Or.inr (Or.inr (Or.inr (Or.inr (Or.inr (Or.inr (Or.inr (Or.inr (Or.inr (Or.inr (Or.inr (Or.inr (Or.inr (Or.inr (Or.inr (Or.inr (Or.inr (Or.inr (Or.inr (Or.inr (Or.inr (Or.inr (Or.inr (Or.inr (Or.inr (Or.inr (Or.inr (Or.inr (Or.inr (Or.inr (Or.inr (Or.inr (Or.inr (Or.inr (Or.inr (Or.inr (Or.inr (Or.inr (Or.inr (Or.inl e))))))))))))))))))))))))))))))))))))))))))))))))))))))))))))) (fun h => h.elim (fun e => Or.inr (Or.inr (Or.inr (Or.inr (Or.inr (Or.inr (Or.inr (Or.inr (Or.inr (Or.inr (Or.inr (Or.inr (Or.inr (Or.inr (Or.inr (Or.inr (Or.inr (Or.inr (Or.inr (Or.inr (Or.inr (Or.inr (Or.inr (Or.inr (Or.inr (Or.inr (Or.inr (Or.inr (Or.inr (Or.inr (Or.inr (Or.inr (Or.inr (Or.inr (Or.inr (Or.inr (Or.inr (Or.inr (Or.inr (Or.inr (Or.inr (Or.inr (Or.inr (Or.inr (Or.inr (Or.inr (Or.inr (Or.inr (Or.inr (Or.inr (Or.inr (Or.inr (Or.inr (Or.inr (Or.inr (Or.inr (Or.inr (Or.inr (Or.inr (Or.inr (Or.inr (Or.inl e)))))))))))))))))))))))))))))))))))))))))))))))))))))))))))))) (fun h => h.elim (fun e => Or.inr (Or.inr (Or.inr (Or.inr (Or.inr (Or.inr (Or.inr (Or.inr (Or.inr (Or.inr (Or.inr (Or.inr (Or.inr (Or.inr (Or.inr (Or.inr (Or.inr (Or.inr (Or.inr (Or.inr (Or.inr (Or.inr (Or.inr (Or.inr (Or.inr (Or.inr (Or.inr (Or.inr (Or.inr (Or.inr (Or.inr (Or.inr (Or.inr (Or.inr (Or.inr (Or.inr (Or.inr (Or.inr (Or.inr (Or.inr (Or.inr (Or.inr (Or.inr (Or.inr (Or.inr (Or.inr (Or.inr (Or.inr (Or.inr (Or.inr (Or.inr (Or.inr (Or.inr (Or.inr (Or.inr (Or.inr (Or.inr (Or.inr (Or.inr (Or.inr (Or.inr (Or.inr (Or.inl e))))))))))))))))))))))))))))))))))))))))))))))))))))))))))))))) (fun e => Or.inr (Or.inr (Or.inr (Or.inr (Or.inr (Or.inr (Or.inr (Or.inr (Or.inr (Or.inr (Or.inr (Or.inr (Or.inr (Or.inr (Or.inr (Or.inr (Or.inr (Or.inr (Or.inr (Or.inr (Or.inr (Or.inr (Or.inr (Or.inr (Or.inr (Or.inr (Or.inr (Or.inr (Or.inr (Or.inr (Or.inr (Or.inr (Or.inr (Or.inr (Or.inr (Or.inr (Or.inr (Or.inr (Or.inr (Or.inr (Or.inr (Or.inr (Or.inr (Or.inr (Or.inr (Or.inr (Or.inr (Or.inr (Or.inr (Or.inr (Or.inr (Or.inr (Or.inr (Or.inr (Or.inr (Or.inr (Or.inr (Or.inr (Or.inr (Or.inr (Or.inr (Or.inr (Or.inr (Or.inl e))))))))))))))))))))))))))))))))))))))))))))))))))))))))))))))))))))))
theorem mono_Rp_lay_2 {o : Nat} : ∀ c j, fp_Rp_canStay c j → fp_Rp_lay o c j := fun c j => (fun h => h.elim (fun e => Or.inr (Or.inr (Or.inr (Or.inr (Or.inr (Or.inr (Or.inr (Or.inr (Or.inr (Or.inr (Or.inr (Or.inr (Or.inr (Or.inr (Or.inr (Or.inr (Or.inr (Or.inr (Or.inr (Or.inr (Or.inr (Or.inr (Or.inr (Or.inr (Or.inr (Or.inr (Or.inr (Or.inr (Or.inr (Or.inr (Or.inr (Or.inr (Or.inr (Or.inr (Or.inr (Or.inr (Or.inr (Or.inr (Or.inr (Or.inr (Or.inr (Or.inr (Or.inr (Or.inr (Or.inr (Or.inr (Or.inr (Or.inr (Or.inr (Or.inr (Or.inr (Or.inr (Or.inr (Or.inr (Or.inr (Or.inr (Or.inr (Or.inl e)))))))))))))))))))))))))))))))))))))))))))))))))))))))))) (fun h => h.elim (fun e => Or.inr (Or.inr (Or.inr (Or.inr (Or.inr (Or.inr (Or.inr (Or.inr (Or.inr (Or.inr (Or.inr (Or.inr (Or.inr (Or.inr (Or.inr (Or.inr (Or.inr (Or.inr (Or.inr (Or.inr (Or.inr (Or.inr (Or.inr (Or.inr (Or.inr (Or.inr (Or.inr (Or.inr (Or.inr (Or.inr (Or.inr (Or.inr (Or.inr (Or.inr (Or.inr (Or.inr (Or.inr (Or.inr (Or.inr (Or.inr (Or.inr (Or.inr (Or.inr (Or.inr (Or.inr (Or.inr (Or.inr (Or.inr (Or.inr (Or.inr (Or.inr (Or.inr (Or.inr (Or.inr (Or.inr (Or.inr (Or.inr (Or.inr (Or.inr (Or.inl e)))))))))))))))))))))))))))))))))))))))))))))))))))))))))))) (fun h => h.elim (fun e => Or.inr (Or.inr (Or.inr (Or.inr (Or.inr (Or.inr (Or.inr (Or.inr (Or.inr (Or.inr (Or.inr (Or.inr (Or.inr (Or.inr (Or.inr (Or.inr (Or.inr (Or.inr (Or.inr (Or.inr (Or.inr (Or.inr (Or.inr (Or.inr (Or.inr (Or.inr (Or.inr (Or.inr (Or.inr (Or.inr (Or.inr (Or.inr (Or.inr (Or.inr (Or.inr (Or.inr (Or.inr (Or.inr (Or.inr (Or.inr (Or.inr (Or.inr (Or.inr (Or.inr (Or.inr (Or.inr (Or.inr (Or.inr (Or.inr (Or.inr (Or.inr (Or.inr (Or.inr (Or.inr (Or.inr (Or.inr (Or.inr (Or.inr (Or.inr (Or.inr (Or.inl e))))))))))))))))))))))))))))))))))))))))))))))))))))))))))))) (fun h => h.elim (fun e => Or.inr (Or.inr (Or.inr (Or.inr (Or.inr (Or.inr (Or.inr (Or.inr (Or.inr (Or.inr (Or.inr (Or.inr (Or.inr (Or.inr (Or.inr (Or.inr (Or.inr (Or.inr (Or.inr (Or.inr (Or.inr (Or.inr (Or.inr (Or.inr (Or.inr (Or.inr (Or.inr (Or.inr (Or.inr (Or.inr (Or.inr (Or.inr (Or.inr (Or.inr (Or.inr (Or.inr (Or.inr (Or.inr (Or.inr (Or.inr (Or.inr (Or.inr (Or.inr (Or.inr (Or.inr (Or.inr (Or.inr (Or.inr (Or.inr (Or.inr (Or.inr (Or.inr (Or.inr (Or.inr (Or.inr (Or.inr (Or.inr (Or.inr (Or.inr (Or.inr (Or.inr (Or.inl e)))))))))))))))))))))))))))))))))))))))))))))))))))))))))))))) (fun h => h.elim (fun e => Or.inr (Or.inr (Or.inr (Or.inr (Or.inr (Or.inr (Or.inr (Or.inr (Or.inr (Or.inr (Or.inr (Or.inr (Or.inr (Or.inr (Or.inr (Or.inr (Or.inr (Or.inr (Or.inr (Or.inr (Or.inr (Or.inr (Or.inr (Or.inr (Or.inr (Or.inr (Or.inr (Or.inr (Or.inr (Or.inr (Or.inr (Or.inr (Or.inr (Or.inr (Or.inr (Or.inr (Or.inr (Or.inr (Or.inr (Or.inr (Or.inr (Or.inr (Or.inr (Or.inr (Or.inr (Or.inr (Or.inr (Or.inr (Or.inr (Or.inr (Or.inr (Or.inr (Or.inr (Or.inr (Or.inr (Or.inr (Or.inr (Or.inr (Or.inr (Or.inr (Or.inr (Or.inr (Or.inl e))))))))))))))))))))))))))))))))))))))))))))))))))))))))))))))) (fun e => Or.inr (Or.inr (Or.inr (Or.inr (Or.inr (Or.inr (Or.inr (Or.inr (Or.inr (Or.inr (Or.inr (Or.inr (Or.inr (Or.inr (Or.inr (Or.inr (Or.inr (Or.inr (Or.inr (Or.inr (Or.inr (Or.inr (Or.inr (Or.inr (Or.inr (Or.inr (Or.inr (Or.inr (Or.inr (Or.inr (Or.inr (Or.inr (Or.inr (Or.inr (Or.inr (Or.inr (Or.inr (Or.inr (Or.inr (Or.inr (Or.inr (Or.inr (Or.inr (Or.inr (Or.inr (Or.inr (Or.inr (Or.inr (Or.inr (Or.inr (Or.inr (Or.inr (Or.inr (Or.inr (Or.inr (Or.inr (Or.inr (Or.inr (Or.inr (Or.inr (Or.inr (Or.inr (Or.inr (Or.inl e)))))))))))))))))))))))))))))))))))))))))))))))))))))))))))))))))))))
theorem mono_Rp_lay_3 {o : Nat} : ∀ c j, fp_St_clearSlots 73 c j → fp_Rp_lay o c j := fun c j => (fun e => Or.inr (Or.inr (Or.inr (Or.inr (Or.inr (Or.inr (Or.inr (Or.inr (Or.inr (Or.inr (Or.inr (Or.inr (Or.inr (Or.inr (Or.inr (Or.inr (Or.inr (Or.inr (Or.inr (Or.inr (Or.inr (Or.inr (Or.inr (Or.inr (Or.inr (Or.inr (Or.inr (Or.inr (Or.inr (Or.inr (Or.inr (Or.inr (Or.inr (Or.inr (Or.inr (Or.inr (Or.inr (Or.inr (Or.inr (Or.inr (Or.inr (Or.inr (Or.inr (Or.inr (Or.inr (Or.inr (Or.inr (Or.inr (Or.inr (Or.inr (Or.inr (Or.inr (Or.inr (Or.inr (Or.inr (Or.inr (Or.inr (Or.inr (Or.inr (Or.inr (Or.inr (Or.inr (Or.inr (Or.inl e))))))))))))))))))))))))))))))))))))))))))))))))))))))))))))))))
theorem mono_Rp_lay_4 {o : Nat} : ∀ c j, fp_St_copy 54 o c j → fp_Rp_lay o c j := fun c j => (fun h => h.elim (fun e => Or.inr (Or.inr (Or.inr (Or.inr (Or.inr (Or.inr (Or.inr (Or.inr (Or.inr (Or.inr (Or.inr (Or.inr (Or.inr (Or.inl e)))))))))))))) (fun h => h.elim (fun e => Or.inr (Or.inr (Or.inr (Or.inr (Or.inr (Or.inr (Or.inr (Or.inr (Or.inr (Or.inr (Or.inr (Or.inr (Or.inr (Or.inr (Or.inl e))))))))))))))) (fun h => h.elim (fun e => Or.inr (Or.inr (Or.inr (Or.inr (Or.inr (Or.inr (Or.inr (Or.inr (Or.inr (Or.inr (Or.inr (Or.inr (Or.inr (Or.inr (Or.inr (Or.inl e)))))))))))))))) (fun h => h.elim (fun e => Or.inr (Or.inr (Or.inr (Or.inr (Or.inr (Or.inr (Or.inr (Or.inr (Or.inr (Or.inr (Or.inr (Or.inr (Or.inr (Or.inr (Or.inr (Or.inr (Or.inl e))))))))))))))))) (fun h => h.elim (fun e => Or.inr (Or.inr (Or.inr (Or.inr (Or.inr (Or.inr (Or.inr (Or.inr (Or.inr (Or.inr (Or.inr (Or.inr (Or.inr (Or.inr (Or.inr (Or.inr (Or.inr (Or.inl e)))))))))))))))))) (fun h => h.elim (fun e => Or.inr (Or.inr (Or.inr (Or.inr (Or.inr (Or.inr (Or.inr (Or.inr (Or.inr (Or.inr (Or.inr (Or.inr (Or.inr (Or.inr (Or.inr (Or.inr (Or.inr (Or.inr (Or.inl e))))))))))))))))))) (fun h => h.elim (fun e => Or.inr (Or.inr (Or.inr (Or.inr (Or.inr (Or.inr (Or.inr (Or.inr (Or.inr (Or.inr (Or.inr (Or.inr (Or.inr (Or.inr (Or.inr (Or.inr (Or.inr (Or.inr (Or.inr (Or.inl e)))))))))))))))))))) (fun h => h.elim (fun e => Or.inr (Or.inr (Or.inr (Or.inr (Or.inr (Or.inr (Or.inr (Or.inr (Or.inr (Or.inr (Or.inr (Or.inr (Or.inr (Or.inr (Or.inr (Or.inr (Or.inr (Or.inr (Or.inr (Or.inr (Or.inl e))))))))))))))))))))) (fun h => h.elim (fun e => Or.inr (Or.inr (Or.inr (Or.inr (Or.inr (Or.inr (Or.inr (Or.inr (Or.inr (Or.inr (Or.inr (Or.inr (Or.inr (Or.inr (Or.inr (Or.inr (Or.inr (Or.inr (Or.inr (Or.inr (Or.inr (Or.inl e)))))))))))))))))))))) (fun h => h.elim (fun e => Or.inr (Or.inr (Or.inr (Or.inr (Or.inr (Or.inr (Or.inr (Or.inr (Or.inr (Or.inr (Or.inr (Or.inr (Or.inr (Or.inr (Or.inr (Or.inr (Or.inr (Or.inr (Or.inr (Or.inr (Or.inr (Or.inr (Or.inl e))))))))))))))))))))))) (fun h => h.elim (fun e => Or.inr (Or.inr (Or.inr (Or.inr (Or.inr (Or.inr (Or.inr (Or.inr (Or.inr (Or.inr (Or.inr (Or.inr (Or.inr (Or.inr (Or.inr (Or.inr (Or.inr (Or.inr (Or.inr (Or.inr (Or.inr (Or.inr (Or.inr (Or.inl e)))))))))))))))))))))))) (fun h => h.elim (fun e => Or.inr (Or.inr (Or.inr (Or.inr (Or.inr (Or.inr (Or.inr (Or.inr (Or.inr (Or.inr (Or.inr (Or.inr (Or.inr (Or.inr (Or.inr (Or.inr (Or.inr (Or.inr (Or.inr (Or.inr (Or.inr (Or.inr (Or.inr (Or.inr (Or.inl e))))))))))))))))))))))))) (fun h => h.elim (fun e => Or.inr (Or.inr (Or.inr (Or.inr (Or.inr (Or.inr (Or.inr (Or.inr (Or.inr (Or.inr (Or.inr (Or.inr (Or.inr (Or.inr (Or.inr (Or.inr (Or.inr (Or.inr (Or.inr (Or.inr (Or.inr (Or.inr (Or.inr (Or.inr (Or.inr (Or.inl e)))))))))))))))))))))))))) (fun h => h.elim (fun e => Or.inr (Or.inr (Or.inr (Or.inr (Or.inr (Or.inr (Or.inr (Or.inr (Or.inr (Or.inr (Or.inr (Or.inr (Or.inr (Or.inr (Or.inr (Or.inr (Or.inr (Or.inr (Or.inr (Or.inr (Or.inr (Or.inr (Or.inr (Or.inr (Or.inr (Or.inr (Or.inl e))))))))))))))))))))))))))) (fun h => h.elim (fun e => Or.inr (Or.inr (Or.inr (Or.inr (Or.inr (Or.inr (Or.inr (Or.inr (Or.inr (Or.inr (Or.inr (Or.inr (Or.inr (Or.inr (Or.inr (Or.inr (Or.inr (Or.inr (Or.inr (Or.inr (Or.inr (Or.inr (Or.inr (Or.inr (Or.inr (Or.inr (Or.inr (Or.inl e)))))))))))))))))))))))))))) (fun h => h.elim (fun e => Or.inr (Or.inr (Or.inr (Or.inr (Or.inr (Or.inr (Or.inr (Or.inr (Or.inr (Or.inr (Or.inr (Or.inr (Or.inr (Or.inr (Or.inr (Or.inr (Or.inr (Or.inr (Or.inr (Or.inr (Or.inr (Or.inr (Or.inr (Or.inr (Or.inr (Or.inr (Or.inr (Or.inr (Or.inl e))))))))))))))))))))))))))))) (fun h => h.elim (fun e => Or.inr (Or.inr (Or.inr (Or.inr (Or.inr (Or.inr (Or.inr (Or.inr (Or.inr (Or.inr (Or.inr (Or.inr (Or.inr (Or.inr (Or.inr (Or.inr (Or.inr (Or.inr (Or.inr (Or.inr (Or.inr (Or.inr (Or.inr (Or.inr (Or.inr (Or.inr (Or.inr (Or.inr (Or.inr (Or.inl e)))))))))))))))))))))))))))))) (fun h => h.elim (fun e => Or.inr (Or.inr (Or.inr (Or.inr (Or.inr (Or.inr (Or.inr (Or.inr (Or.inr (Or.inr (Or.inr (Or.inr (Or.inr (Or.inr (Or.inr (Or.inr (Or.inr (Or.inr (Or.inr (Or.inr (Or.inr (Or.inr (Or.inr (Or.inr (Or.inr (Or.inr (Or.inr (Or.inr (Or.inr (Or.inr (Or.inl e))))))))))))))))))))))))))))))) (fun h => h.elim (fun e => Or.inr (Or.inr (Or.inr (Or.inr (Or.inr (Or.inr (Or.inr (Or.inr (Or.inr (Or.inr (Or.inr (Or.inr (Or.inr (Or.inr (Or.inr (Or.inr (Or.inr (Or.inr (Or.inr (Or.inr (Or.inr (Or.inr (Or.inr (Or.inr (Or.inr (Or.inr (Or.inr (Or.inr (Or.inr (Or.inr (Or.inr (Or.inl e)))))))))))))))))))))))))))))))) (fun h => h.elim (fun e => Or.inr (Or.inr (Or.inr (Or.inr (Or.inr (Or.inr (Or.inr (Or.inr (Or.inr (Or.inr (Or.inr (Or.inr (Or.inr (Or.inr (Or.inr (Or.inr (Or.inr (Or.inr (Or.inr (Or.inr (Or.inr (Or.inr (Or.inr (Or.inr (Or.inr (Or.inr (Or.inr (Or.inr (Or.inr (Or.inr (Or.inr (Or.inr (Or.inl e))))))))))))))))))))))))))))))))) (fun h => h.elim (fun e => Or.inr (Or.inr (Or.inr (Or.inr (Or.inr (Or.inr (Or.inr (Or.inr (Or.inr (Or.inr (Or.inr (Or.inr (Or.inr (Or.inr (Or.inr (Or.inr (Or.inr (Or.inr (Or.inr (Or.inr (Or.inr (Or.inr (Or.inr (Or.inr (Or.inr (Or.inr (Or.inr (Or.inr (Or.inr (Or.inr (Or.inr (Or.inr (Or.inr (Or.inl e)))))))))))))))))))))))))))))))))) (fun h => h.elim (fun e => Or.inr (Or.inr (Or.inr (Or.inr (Or.inr (Or.inr (Or.inr (Or.inr (Or.inr (Or.inr (Or.inr (Or.inr (Or.inr (Or.inr (Or.inr (Or.inr (Or.inr (Or.inr (Or.inr (Or.inr (Or.inr (Or.inr (Or.inr (Or.inr (Or.inr (Or.inr (Or.inr (Or.inr (Or.inr (Or.inr (Or.inr (Or.inr (Or.inr (Or.inr (Or.inl e))))))))))))))))))))))))))))))))))) (fun h => h.elim (fun e => Or.inr (Or.inr (Or.inr (Or.inr (Or.inr (Or.inr (Or.inr (Or.inr (Or.inr (Or.inr (Or.inr (Or.inr (Or.inr (Or.inr (Or.inr (Or.inr (Or.inr (Or.inr (Or.inr (Or.inr (Or.inr (Or.inr (Or.inr (Or.inr (Or.inr (Or.inr (Or.inr (Or.inr (Or.inr (Or.inr (Or.inr (Or.inr (Or.inr (Or.inr (Or.inr (Or.inl e)))))))))))))))))))))))))))))))))))) (fun e => Or.inr (Or.inr (Or.inr (Or.inr (Or.inr (Or.inr (Or.inr (Or.inr (Or.inr (Or.inr (Or.inr (Or.inr (Or.inr (Or.inr (Or.inr (Or.inr (Or.inr (Or.inr (Or.inr (Or.inr (Or.inr (Or.inr (Or.inr (Or.inr (Or.inr (Or.inr (Or.inr (Or.inr (Or.inr (Or.inr (Or.inr (Or.inr (Or.inr (Or.inr (Or.inr (Or.inr (Or.inl e))))))))))))))))))))))))))))))))))))))))))))))))))))))))))))
theorem mono_Rp_lay_5 {o : Nat} : ∀ c j, fp_St_copy 73 o c j → fp_Rp_lay o c j := fun c j => (fun h => h.elim (fun e => Or.inr (Or.inr (Or.inr (Or.inr (Or.inr (Or.inr (Or.inr (Or.inr (Or.inr (Or.inr (Or.inr (Or.inr (Or.inr (Or.inr (Or.inr (Or.inr (Or.inr (Or.inr (Or.inr (Or.inr (Or.inr (Or.inr (Or.inr (Or.inr (Or.inr (Or.inr (Or.inr (Or.inr (Or.inr (Or.inr (Or.inr (Or.inr (Or.inr (Or.inr (Or.inr (Or.inr (Or.inr (Or.inr (Or.inr (Or.inr (Or.inl e))))))))))))))))))))))))))))))))))))))))) (fun h => h.elim (fun e => Or.inr (Or.inr (Or.inr (Or.inr (Or.inr (Or.inr (Or.inr (Or.inr (Or.inr (Or.inr (Or.inr (Or.inr (Or.inr (Or.inr (Or.inr (Or.inr (Or.inr (Or.inr (Or.inr (Or.inr (Or.inr (Or.inr (Or.inr (Or.inr (Or.inr (Or.inr (Or.inr (Or.inr (Or.inr (Or.inr (Or.inr (Or.inr (Or.inr (Or.inr (Or.inr (Or.inr (Or.inr (Or.inr (Or.inr (Or.inr (Or.inr (Or.inl e)))))))))))))))))))))))))))))))))))))))))) (fun h => h.elim (fun e => Or.inr (Or.inr (Or.inr (Or.inr (Or.inr (Or.inr (Or.inr (Or.inr (Or.inr (Or.inr (Or.inr (Or.inr (Or.inr (Or.inr (Or.inr (Or.inr (Or.inr (Or.inr (Or.inr (Or.inr (Or.inr (Or.inr (Or.inr (Or.inr (Or.inr (Or.inr (Or.inr (Or.inr (Or.inr (Or.inr (Or.inr (Or.inr (Or.inr (Or.inr (Or.inr (Or.inr (Or.inr (Or.inr (Or.inr (Or.inr (Or.inr (Or.inr (Or.inl e))))))))))))))))))))))))))))))))))))))))))) (fun h => h.elim (fun e => Or.inr (Or.inr (Or.inr (Or.inr (Or.inr (Or.inr (Or.inr (Or.inr (Or.inr (Or.inr (Or.inr (Or.inr (Or.inr (Or.inr (Or.inr (Or.inr (Or.inr (Or.inr (Or.inr (Or.inr (Or.inr (Or.inr (Or.inr (Or.inr (Or.inr (Or.inr (Or.inr (Or.inr (Or.inr (Or.inr (Or.inr (Or.inr (Or.inr (Or.inr (Or.inr (Or.inr (Or.inr (Or.inr (Or.inr (Or.inr (Or.inr (Or.inr (Or.inr (Or.inl e)))))))))))))))))))))))))))))))))))))))))))) (fun h => h.elim (fun e => Or.inr (Or.inr (Or.inr (Or.inr (Or.inr (Or.inr (Or.inr (Or.inr (Or.inr (Or.inr (Or.inr (Or.inr (Or.inr (Or.inr (Or.inr (Or.inr (Or.inr (Or.inr (Or.inr (Or.inr (Or.inr (Or.inr (Or.inr (Or.inr (Or.inr (Or.inr (Or.inr (Or.inr (Or.inr (Or.inr (Or.inr (Or.inr (Or.inr (Or.inr (Or.inr (Or.inr (Or.inr (Or.inr (Or.inr (Or.inr (Or.inr (Or.inr (Or.inr (Or.inr (Or.inl e))))))))))))))))))))))))))))))))))))))))))))) (fun h => h.elim (fun e => Or.inr (Or.inr (Or.inr (Or.inr (Or.inr (Or.inr (Or.inr (Or.inr (Or.inr (Or.inr (Or.inr (Or.inr (Or.inr (Or.inr (Or.inr (Or.inr (Or.inr (Or.inr (Or.inr (Or.inr (Or.inr (Or.inr (Or.inr (Or.inr (Or.inr (Or.inr (Or.inr (Or.inr (Or.inr (Or.inr (Or.inr (Or.inr (Or.inr (Or.inr (Or.inr (Or.inr (Or.inr (Or.inr (Or.inr (Or.inr (Or.inr (Or.inr (Or.inr (Or.inr (Or.inr (Or.inl e)))))))))))))))))))))))))))))))))))))))))))))) (fun h => h.elim (fun e => Or.inr (Or.inr (Or.inr (Or.inr (Or.inr (Or.inr (Or.inr (Or.inr (Or.inr (Or.inr (Or.inr (Or.inr (Or.inr (Or.inr (Or.inr (Or.inr (Or.inr (Or.inr (Or.inr (Or.inr (Or.inr (Or.inr (Or.inr (Or.inr (Or.inr (Or.inr (Or.inr (Or.inr (Or.inr (Or.inr (Or.inr (Or.inr (Or.inr (Or.inr (Or.inr (Or.inr (Or.inr (Or.inr (Or.inr (Or.inr (Or.inr (Or.inr (Or.inr (Or.inr (Or.inr (Or.inr (Or.inl e))))))))))))))))))))))))))))))))))))))))))))))) (fun h => h.elim (fun e => Or.inr (Or.inr (Or.inr (Or.inr (Or.inr (Or.inr (Or.inr (Or.inr (Or.inr (Or.inr (Or.inr (Or.inr (Or.inr (Or.inr (Or.inr (Or.inr (Or.inr (Or.inr (Or.inr (Or.inr (Or.inr (Or.inr (Or.inr (Or.inr (Or.inr (Or.inr (Or.inr (Or.inr (Or.inr (Or.inr (Or.inr (Or.inr (Or.inr (Or.inr (Or.inr (Or.inr (Or.inr (Or.inr (Or.inr (Or.inr (Or.inr (Or.inr (Or.inr (Or.inr (Or.inr (Or.inr (Or.inr (Or.inl e)))))))))))))))))))))))))))))))))))))))))))))))) (fun h => h.elim (fun e => Or.inr (Or.inr (Or.inr (Or.inr (Or.inr (Or.inr (Or.inr (Or.inr (Or.inr (Or.inr (Or.inr (Or.inr (Or.inr (Or.inr (Or.inr (Or.inr (Or.inr (Or.inr (Or.inr (Or.inr (Or.inr (Or.inr (Or.inr (Or.inr (Or.inr (Or.inr (Or.inr (Or.inr (Or.inr (Or.inr (Or.inr (Or.inr (Or.inr (Or.inr (Or.inr (Or.inr (Or.inr (Or.inr (Or.inr (Or.inr (Or.inr (Or.inr (Or.inr (Or.inr (Or.inr (Or.inr (Or.inr (Or.inr (Or.inl e))))))))))))))))))))))))))))))))))))))))))))))))) (fun h => h.elim (fun e => Or.inr (Or.inr (Or.inr (Or.inr (Or.inr (Or.inr (Or.inr (Or.inr (Or.inr (Or.inr (Or.inr (Or.inr (Or.inr (Or.inr (Or.inr (Or.inr (Or.inr (Or.inr (Or.inr (Or.inr (Or.inr (Or.inr (Or.inr (Or.inr (Or.inr (Or.inr (Or.inr (Or.inr (Or.inr (Or.inr (Or.inr (Or.inr (Or.inr (Or.inr (Or.inr (Or.inr (Or.inr (Or.inr (Or.inr (Or.inr (Or.inr (Or.inr (Or.inr (Or.inr (Or.inr (Or.inr (Or.inr (Or.inr (Or.inr (Or.inl e)))))))))))))))))))))))))))))))))))))))))))))))))) (fun h => h.elim (fun e => Or.inr (Or.inr (Or.inr (Or.inr (Or.inr (Or.inr (Or.inr (Or.inr (Or.inr (Or.inr (Or.inr (Or.inr (Or.inr (Or.inr (Or.inr (Or.inr (Or.inr (Or.inr (Or.inr (Or.inr (Or.inr (Or.inr (Or.inr (Or.inr (Or.inr (Or.inr (Or.inr (Or.inr (Or.inr (Or.inr (Or.inr (Or.inr (Or.inr (Or.inr (Or.inr (Or.inr (Or.inr (Or.inr (Or.inr (Or.inr (Or.inr (Or.inr (Or.inr (Or.inr (Or.inr (Or.inr (Or.inr (Or.inr (Or.inr (Or.inr (Or.inl e))))))))))))))))))))))))))))))))))))))))))))))))))) (fun h => h.elim (fun e => Or.inr (Or.inr (Or.inr (Or.inr (Or.inr (Or.inr (Or.inr (Or.inr (Or.inr (Or.inr (Or.inr (Or.inr (Or.inr (Or.inr (Or.inr (Or.inr (Or.inr (Or.inr (Or.inr (Or.inr (Or.inr (Or.inr (Or.inr (Or.inr (Or.inr (Or.inr (Or.inr (Or.inr (Or.inr (Or.inr (Or.inr (Or.inr (Or.inr (Or.inr (Or.inr (Or.inr (Or.inr (Or.inr (Or.inr (Or.inr (Or.inr (Or.inr (Or.inr (Or.inr (Or.inr (Or.inr (Or.inr (Or.inr (Or.inr (Or.inr (Or.inr (Or.inl e)))))))))))))))))))))))))))))))))))))))))))))))))))) (fun h => h.elim (fun e => Or.inr (Or.inr (Or.inr (Or.inr (Or.inr (Or.inr (Or.inr (Or.inr (Or.inr (Or.inr (Or.inr (Or.inr (Or.inr (Or.inr (Or.inr (Or.inr (Or.inr (Or.inr (Or.inr (Or.inr (Or.inr (Or.inr (Or.inr (Or.inr (Or.inr (Or.inr (Or.inr (Or.inr (Or.inr (Or.inr (Or.inr (Or.inr (Or.inr (Or.inr (Or.inr (Or.inr (Or.inr (Or.inr (Or.inr (Or.inr (Or.inr (Or.inr (Or.inr (Or.inr (Or.inr (Or.inr (Or.inr (Or.inr (Or.inr (Or.inr (Or.inr (Or.inr (Or.inl e))))))))))))))))))))))))))))))))))))))))))))))))))))) (fun h => h.elim (fun e => Or.inr (Or.inr (Or.inr (Or.inr (Or.inr (Or.inr (Or.inr (Or.inr (Or.inr (Or.inr (Or.inr (Or.inr (Or.inr (Or.inr (Or.inr (Or.inr (Or.inr (Or.inr (Or.inr (Or.inr (Or.inr (Or.inr (Or.inr (Or.inr (Or.inr (Or.inr (Or.inr (Or.inr (Or.inr (Or.inr (Or.inr (Or.inr (Or.inr (Or.inr (Or.inr (Or.inr (Or.inr (Or.inr (Or.inr (Or.inr (Or.inr (Or.inr (Or.inr (Or.inr (Or.inr (Or.inr (Or.inr (Or.inr (Or.inr (Or.inr (Or.inr (Or.inr (Or.inr (Or.inl e)))))))))))))))))))))))))))))))))))))))))))))))))))))) (fun h => h.elim (fun e => Or.inr (Or.inr (Or.inr (Or.inr (Or.inr (Or.inr (Or.inr (Or.inr (Or.inr (Or.inr (Or.inr (Or.inr (Or.inr (Or.inr (Or.inr (Or.inr (Or.inr (Or.inr (Or.inr (Or.inr (Or.inr (Or.inr (Or.inr (Or.inr (Or.inr (Or.inr (Or.inr (Or.inr (Or.inr (Or.inr (Or.inr (Or.inr (Or.inr (Or.inr (Or.inr (Or.inr (Or.inr (Or.inr (Or.inr (Or.inr (Or.inr (Or.inr (Or.inr (Or.inr (Or.inr (Or.inr (Or.inr (Or.inr (Or.inr (Or.inr (Or.inr (Or.inr (Or.inr (Or.inr (Or.inl e))))))))))))))))))))))))))))))))))))))))))))))))))))))) (fun h => h.elim (fun e => Or.inr (Or.inr (Or.inr (Or.inr (Or.inr (Or.inr (Or.inr (Or.inr (Or.inr (Or.inr (Or.inr (Or.inr (Or.inr (Or.inr (Or.inr (Or.inr (Or.inr (Or.inr (Or.inr (Or.inr (Or.inr (Or.inr (Or.inr (Or.inr (Or.inr (Or.inr (Or.inr (Or.inr (Or.inr (Or.inr (Or.inr (Or.inr (Or.inr (Or.inr (Or.inr (Or.inr (Or.inr (Or.inr (Or.inr (Or.inr (Or.inr (Or.inr (Or.inr (Or.inr (Or.inr (Or.inr (Or.inr (Or.inr (Or.inr (Or.inr (Or.inr (Or.inr (Or.inr (Or.inr (Or.inr (Or.inl e)))))))))))))))))))))))))))))))))))))))))))))))))))))))) (fun h => h.elim (fun e => Or.inr (Or.inr (Or.inr (Or.inr (Or.inr (Or.inr (Or.inr (Or.inr (Or.inr (Or.inr (Or.inr (Or.inr (Or.inr (Or.inr (Or.inr (Or.inr (Or.inr (Or.inr (Or.inr (Or.inr (Or.inr (Or.inr (Or.inr (Or.inr (Or.inr (Or.inr (Or.inr (Or.inr (Or.inr (Or.inr (Or.inr (Or.inr (Or.inr (Or.inr (Or.inr (Or.inr (Or.inr (Or.inr (Or.inr (Or.inr (Or.inr (Or.inr (Or.inr (Or.inr (Or.inr (Or.inr (Or.inr (Or.inr (Or.inr (Or.inr (Or.inr (Or.inr (Or.inr (Or.inr (Or.inr (Or.inr (Or.inl e))))))))))))))))))))))))))))))))))))))))))))))))))))))))) (fun h => h.elim (fun e => Or.inr (Or.inr (Or.inr (Or.inr (Or.inr (Or.inr (Or.inr (Or.inr (Or.inr (Or.inr (Or.inr (Or.inr (Or.inr (Or.inr (Or.inr (Or.inr (Or.inr (Or.inr (Or.inr (Or.inr (Or.inr (Or.inr (Or.inr (Or.inr (Or.inr (Or.inr (Or.inr (Or.inr (Or.inr (Or.inr (Or.inr (Or.inr (Or.inr (Or.inr (Or.inr (Or.inr (Or.inr (Or.inr (Or.inr (Or.inr (Or.inr (Or.inr (Or.inr (Or.inr (Or.inr (Or.inr (Or.inr (Or.inr (Or.inr (Or.inr (Or.inr (Or.inr (Or.inr (Or.inr (Or.inr (Or.inr (Or.inr (Or.inl e)))))))))))))))))))))))))))))))))))))))))))))))))))))))))) (fun h => h.elim (fun e => Or.inr (Or.inr (Or.inr (Or.inr (Or.inr (Or.inr (Or.inr (Or.inr (Or.inr (Or.inr (Or.inr (Or.inr (Or.inr (Or.inr (Or.inr (Or.inr (Or.inr (Or.inr (Or.inr (Or.inr (Or.inr (Or.inr (Or.inr (Or.inr (Or.inr (Or.inr (Or.inr (Or.inr (Or.inr (Or.inr (Or.inr (Or.inr (Or.inr (Or.inr (Or.inr (Or.inr (Or.inr (Or.inr (Or.inr (Or.inr (Or.inr (Or.inr (Or.inr (Or.inr (Or.inr (Or.inr (Or.inr (Or.inr (Or.inr (Or.inr (Or.inr (Or.inr (Or.inr (Or.inr (Or.inr (Or.inr (Or.inr (Or.inr (Or.inl e))))))))))))))))))))))))))))))))))))))))))))))))))))))))))) (fun h => h.elim (fun e => Or.inr (Or.inr (Or.inr (Or.inr (Or.inr (Or.inr (Or.inr (Or.inr (Or.inr (Or.inr (Or.inr (Or.inr (Or.inr (Or.inr (Or.inr (Or.inr (Or.inr (Or.inr (Or.inr (Or.inr (Or.inr (Or.inr (Or.inr (Or.inr (Or.inr (Or.inr (Or.inr (Or.inr (Or.inr (Or.inr (Or.inr (Or.inr (Or.inr (Or.inr (Or.inr (Or.inr (Or.inr (Or.inr (Or.inr (Or.inr (Or.inr (Or.inr (Or.inr (Or.inr (Or.inr (Or.inr (Or.inr (Or.inr (Or.inr (Or.inr (Or.inr (Or.inr (Or.inr (Or.inr (Or.inr (Or.inr (Or.inr (Or.inr (Or.inr (Or.inl e)))))))))))))))))))))))))))))))))))))))))))))))))))))))))))) (fun h => h.elim (fun e => Or.inr (Or.inr (Or.inr (Or.inr (Or.inr (Or.inr (Or.inr (Or.inr (Or.inr (Or.inr (Or.inr (Or.inr (Or.inr (Or.inr (Or.inr (Or.inr (Or.inr (Or.inr (Or.inr (Or.inr (Or.inr (Or.inr (Or.inr (Or.inr (Or.inr (Or.inr (Or.inr (Or.inr (Or.inr (Or.inr (Or.inr (Or.inr (Or.inr (Or.inr (Or.inr (Or.inr (Or.inr (Or.inr (Or.inr (Or.inr (Or.inr (Or.inr (Or.inr (Or.inr (Or.inr (Or.inr (Or.inr (Or.inr (Or.inr (Or.inr (Or.inr (Or.inr (Or.inr (Or.inr (Or.inr (Or.inr (Or.inr (Or.inr (Or.inr (Or.inr (Or.inl e))))))))))))))))))))))))))))))))))))))))))))))))))))))))))))) (fun h => h.elim (fun e => Or.inr (Or.inr (Or.inr (Or.inr (Or.inr (Or.inr (Or.inr (Or.inr (Or.inr (Or.inr (Or.inr (Or.inr (Or.inr (Or.inr (Or.inr (Or.inr (Or.inr (Or.inr (Or.inr (Or.inr (Or.inr (Or.inr (Or.inr (Or.inr (Or.inr (Or.inr (Or.inr (Or.inr (Or.inr (Or.inr (Or.inr (Or.inr (Or.inr (Or.inr (Or.inr (Or.inr (Or.inr (Or.inr (Or.inr (Or.inr (Or.inr (Or.inr (Or.inr (Or.inr (Or.inr (Or.inr (Or.inr (Or.inr (Or.inr (Or.inr (Or.inr (Or.inr (Or.inr (Or.inr (Or.inr (Or.inr (Or.inr (Or.inr (Or.inr (Or.inr (Or.inr (Or.inl e)))))))))))))))))))))))))))))))))))))))))))))))))))))))))))))) (fun h => h.elim (fun e => Or.inr (Or.inr (Or.inr (Or.inr (Or.inr (Or.inr (Or.inr (Or.inr (Or.inr (Or.inr (Or.inr (Or.inr (Or.inr (Or.inr (Or.inr (Or.inr (Or.inr (Or.inr (Or.inr (Or.inr (Or.inr (Or.inr (Or.inr (Or.inr (Or.inr (Or.inr (Or.inr (Or.inr (Or.inr (Or.inr (Or.inr (Or.inr (Or.inr (Or.inr (Or.inr (Or.inr (Or.inr (Or.inr (Or.inr (Or.inr (Or.inr (Or.inr (Or.inr (Or.inr (Or.inr (Or.inr (Or.inr (Or.inr (Or.inr (Or.inr (Or.inr (Or.inr (Or.inr (Or.inr (Or.inr (Or.inr (Or.inr (Or.inr (Or.inr (Or.inr (Or.inr (Or.inr (Or.inl e))))))))))))))))))))))))))))))))))))))))))))))))))))))))))))))) (fun e => Or.inr (Or.inr (Or.inr (Or.inr (Or.inr (Or.inr (Or.inr (Or.inr (Or.inr (Or.inr (Or.inr (Or.inr (Or.inr (Or.inr (Or.inr (Or.inr (Or.inr (Or.inr (Or.inr (Or.inr (Or.inr (Or.inr (Or.inr (Or.inr (Or.inr (Or.inr (Or.inr (Or.inr (Or.inr (Or.inr (Or.inr (Or.inr (Or.inr (Or.inr (Or.inr (Or.inr (Or.inr (Or.inr (Or.inr (Or.inr (Or.inr (Or.inr (Or.inr (Or.inr (Or.inr (Or.inr (Or.inr (Or.inr (Or.inr (Or.inr (Or.inr (Or.inr (Or.inr (Or.inr (Or.inr (Or.inr (Or.inr (Or.inr (Or.inr (Or.inr (Or.inr (Or.inr (Or.inr (Or.inl e)))))))))))))))))))))))))))))))))))))))))))))))))))))))))))))))))))))))))))))))))))))))
theorem fr_Rp_lay_b25 {v3 : Int32} {M : Mm} {o : Nat} {oo : (Int32 × Mm) ⊕ (Mm)} (h : Rp_lay_b25 v3 M = some oo) : Fr (fp_Rp_lay o) M (elS oo (fun s1 => s1.2) (fun x1 => x1)) := by
  unfold Rp_lay_b25 at h
  by_cases g0 : (M.1 54 4) ≤ v3
  · have h := (if_pos g0).symm.trans h
    obtain rfl := Option.some.inj h
    try dsimp only [elS]
    repeat' (with_reducible first | exact Fr.rf | refine Fr.I ?_ (by simp [fp_Rp_lay]) | refine Fr.L ?_ (by simp [fp_Rp_lay]) | refine Fr.cI ?_ (by intro j; simp [fp_Rp_lay]) | refine Fr.cL ?_ (by intro j; simp [fp_Rp_lay]) | (refine Fr.tr ?_ (Fr.mono (fr_Fi_find (by with_reducible assumption)) mono_Rp_lay_0); try dsimp only) | (refine Fr.tr ?_ (Fr.mono (fr_Rp_aim (by with_reducible assumption)) mono_Rp_lay_1); try dsimp only) | (refine Fr.tr ?_ (Fr.mono (fr_Rp_canStay (by with_reducible assumption)) mono_Rp_lay_2); try dsimp only) | (refine Fr.tr ?_ (Fr.mono (fr_St_clearSlots (by with_reducible assumption)) mono_Rp_lay_3); try dsimp only) | (refine Fr.tr ?_ (Fr.mono (fr_St_copy (by with_reducible assumption)) mono_Rp_lay_4); try dsimp only) | (refine Fr.tr ?_ (Fr.mono (fr_St_copy (by with_reducible assumption)) mono_Rp_lay_5); try dsimp only))
  · have h := (if_neg g0).symm.trans h
    obtain ⟨_, h⟩ := grd_s h
    obtain rfl := Option.some.inj h
    try dsimp only [elS]
    repeat' (with_reducible first | exact Fr.rf | refine Fr.I ?_ (by simp [fp_Rp_lay]) | refine Fr.L ?_ (by simp [fp_Rp_lay]) | refine Fr.cI ?_ (by intro j; simp [fp_Rp_lay]) | refine Fr.cL ?_ (by intro j; simp [fp_Rp_lay]) | (refine Fr.tr ?_ (Fr.mono (fr_Fi_find (by with_reducible assumption)) mono_Rp_lay_0); try dsimp only) | (refine Fr.tr ?_ (Fr.mono (fr_Rp_aim (by with_reducible assumption)) mono_Rp_lay_1); try dsimp only) | (refine Fr.tr ?_ (Fr.mono (fr_Rp_canStay (by with_reducible assumption)) mono_Rp_lay_2); try dsimp only) | (refine Fr.tr ?_ (Fr.mono (fr_St_clearSlots (by with_reducible assumption)) mono_Rp_lay_3); try dsimp only) | (refine Fr.tr ?_ (Fr.mono (fr_St_copy (by with_reducible assumption)) mono_Rp_lay_4); try dsimp only) | (refine Fr.tr ?_ (Fr.mono (fr_St_copy (by with_reducible assumption)) mono_Rp_lay_5); try dsimp only))
theorem frl_Rp_lay_b25   {o : Nat} {n1 : Nat} {s0 : Int32 × Mm} {y1 : Mm} (h : loop (fun s1 : Int32 × Mm => Rp_lay_b25 s1.1 s1.2) n1 s0 = some y1) : Fr (fp_Rp_lay o) s0.2 y1 :=
  loop_inv (P := fun s2 : Int32 × Mm => Fr (fp_Rp_lay o) s0.2 s2.2) (E := fun y1 : Mm => Fr (fp_Rp_lay o) s0.2 y1) (fun s2 s3 hP hb => hP.tr (fr_Rp_lay_b25 hb)) (fun s2 x2 hP hb => hP.tr (fr_Rp_lay_b25 hb)) n1 s0 y1 h Fr.rf
theorem fr_Rp_lay_j142 {v3 : Int32} {M : Mm} {o : Nat} {oo : (Int32 × Mm) ⊕ ((Mm) ⊕ (Bool × Mm))} (h : Rp_lay_j142 v3 M = some oo) : Fr (fp_Rp_lay o) M (elS oo (fun s1 => s1.2) (fun y1 => elS y1 (fun x1 => x1) (fun z1 => z1.2))) := by
  unfold Rp_lay_j142 at h
  obtain rfl := Option.some.inj h
  try dsimp only [elS]
  repeat' (with_reducible first | exact Fr.rf | refine Fr.I ?_ (by simp [fp_Rp_lay]) | refine Fr.L ?_ (by simp [fp_Rp_lay]) | refine Fr.cI ?_ (by intro j; simp [fp_Rp_lay]) | refine Fr.cL ?_ (by intro j; simp [fp_Rp_lay]) | (refine Fr.tr ?_ (Fr.mono (fr_Fi_find (by with_reducible assumption)) mono_Rp_lay_0); try dsimp only) | (refine Fr.tr ?_ (Fr.mono (fr_Rp_aim (by with_reducible assumption)) mono_Rp_lay_1); try dsimp only) | (refine Fr.tr ?_ (Fr.mono (fr_Rp_canStay (by with_reducible assumption)) mono_Rp_lay_2); try dsimp only) | (refine Fr.tr ?_ (Fr.mono (fr_St_clearSlots (by with_reducible assumption)) mono_Rp_lay_3); try dsimp only) | (refine Fr.tr ?_ (Fr.mono (fr_St_copy (by with_reducible assumption)) mono_Rp_lay_4); try dsimp only) | (refine Fr.tr ?_ (Fr.mono (fr_St_copy (by with_reducible assumption)) mono_Rp_lay_5); try dsimp only) | (refine Fr.tr ?_ (frl_Rp_lay_b25 (by with_reducible assumption)); try dsimp only))
theorem fr_Rp_lay_b59 {n : Nat} {c2 : Int32} {v3 : Int32} {M : Mm} {o : Nat} {oo : (Int32 × Mm) ⊕ ((Mm) ⊕ (Bool × Mm))} (h : Rp_lay_b59 n c2 v3 M = some oo) : Fr (fp_Rp_lay o) M (elS oo (fun s1 => s1.2) (fun y1 => elS y1 (fun x1 => x1) (fun z1 => z1.2))) := by
  unfold Rp_lay_b59 at h
  by_cases g0 : (M.1 54 4) ≤ v3
  · have h := (if_pos g0).symm.trans h
    obtain rfl := Option.some.inj h
    try dsimp only [elS]
    repeat' (with_reducible first | exact Fr.rf | refine Fr.I ?_ (by simp [fp_Rp_lay]) | refine Fr.L ?_ (by simp [fp_Rp_lay]) | refine Fr.cI ?_ (by intro j; simp [fp_Rp_lay]) | refine Fr.cL ?_ (by intro j; simp [fp_Rp_lay]) | (refine Fr.tr ?_ (Fr.mono (fr_Fi_find (by with_reducible assumption)) mono_Rp_lay_0); try dsimp only) | (refine Fr.tr ?_ (Fr.mono (fr_Rp_aim (by with_reducible assumption)) mono_Rp_lay_1); try dsimp only) | (refine Fr.tr ?_ (Fr.mono (fr_Rp_canStay (by with_reducible assumption)) mono_Rp_lay_2); try dsimp only) | (refine Fr.tr ?_ (Fr.mono (fr_St_clearSlots (by with_reducible assumption)) mono_Rp_lay_3); try dsimp only) | (refine Fr.tr ?_ (Fr.mono (fr_St_copy (by with_reducible assumption)) mono_Rp_lay_4); try dsimp only) | (refine Fr.tr ?_ (Fr.mono (fr_St_copy (by with_reducible assumption)) mono_Rp_lay_5); try dsimp only) | (refine Fr.tr ?_ (frl_Rp_lay_b25 (by with_reducible assumption)); try dsimp only))
  · have h := (if_neg g0).symm.trans h
    obtain ⟨_, h⟩ := grd_s h
    by_cases g0 : (M.1 64 (tn v3)) = (0 : Int32)
    · have h := (if_pos g0).symm.trans h
      obtain ⟨_, h⟩ := grd_s h
      obtain ⟨_, h⟩ := grd_s h
      obtain ⟨_, h⟩ := grd_s h
      obtain ⟨z16, _, h⟩ := bnd_s h
      by_cases g0 : z16.1 = true
      · have h := (if_pos g0).symm.trans h
        obtain ⟨z22, _, h⟩ := bnd_s h
        refine Fr.tr ?_ (fr_Rp_lay_j142 h)
        try dsimp only [elS]
        repeat' (with_reducible first | exact Fr.rf | refine Fr.I ?_ (by simp [fp_Rp_lay]) | refine Fr.L ?_ (by simp [fp_Rp_lay]) | refine Fr.cI ?_ (by intro j; simp [fp_Rp_lay]) | refine Fr.cL ?_ (by intro j; simp [fp_Rp_lay]) | (refine Fr.tr ?_ (Fr.mono (fr_Fi_find (by with_reducible assumption)) mono_Rp_lay_0); try dsimp only) | (refine Fr.tr ?_ (Fr.mono (fr_Rp_aim (by with_reducible assumption)) mono_Rp_lay_1); try dsimp only) | (refine Fr.tr ?_ (Fr.mono (fr_Rp_canStay (by with_reducible assumption)) mono_Rp_lay_2); try dsimp only) | (refine Fr.tr ?_ (Fr.mono (fr_St_clearSlots (by with_reducible assumption)) mono_Rp_lay_3); try dsimp only) | (refine Fr.tr ?_ (Fr.mono (fr_St_copy (by with_reducible assumption)) mono_Rp_lay_4); try dsimp only) | (refine Fr.tr ?_ (Fr.mono (fr_St_copy (by with_reducible assumption)) mono_Rp_lay_5); try dsimp only) | (refine Fr.tr ?_ (frl_Rp_lay_b25 (by with_reducible assumption)); try dsimp only))
      · have h := (if_neg g0).symm.trans h
        obtain ⟨z19, _, h⟩ := bnd_s h
        by_cases g0 : z19.1 = true
        · have h := (if_pos g0).symm.trans h
          refine Fr.tr ?_ (fr_Rp_lay_j142 h)
          try dsimp only [elS]
          repeat' (with_reducible first | exact Fr.rf | refine Fr.I ?_ (by simp [fp_Rp_lay]) | refine Fr.L ?_ (by simp [fp_Rp_lay]) | refine Fr.cI ?_ (by intro j; simp [fp_Rp_lay]) | refine Fr.cL ?_ (by intro j; simp [fp_Rp_lay]) | (refine Fr.tr ?_ (Fr.mono (fr_Fi_find (by with_reducible assumption)) mono_Rp_lay_0); try dsimp only) | (refine Fr.tr ?_ (Fr.mono (fr_Rp_aim (by with_reducible assumption)) mono_Rp_lay_1); try dsimp only) | (refine Fr.tr ?_ (Fr.mono (fr_Rp_canStay (by with_reducible assumption)) mono_Rp_lay_2); try dsimp only) | (refine Fr.tr ?_ (Fr.mono (fr_St_clearSlots (by with_reducible assumption)) mono_Rp_lay_3); try dsimp only) | (refine Fr.tr ?_ (Fr.mono (fr_St_copy (by with_reducible assumption)) mono_Rp_lay_4); try dsimp only) | (refine Fr.tr ?_ (Fr.mono (fr_St_copy (by with_reducible assumption)) mono_Rp_lay_5); try dsimp only) | (refine Fr.tr ?_ (frl_Rp_lay_b25 (by with_reducible assumption)); try dsimp only))
        · have h := (if_neg g0).symm.trans h
          obtain rfl := Option.some.inj h
          try dsimp only [elS]
          repeat' (with_reducible first | exact Fr.rf | refine Fr.I ?_ (by simp [fp_Rp_lay]) | refine Fr.L ?_ (by simp [fp_Rp_lay]) | refine Fr.cI ?_ (by intro j; simp [fp_Rp_lay]) | refine Fr.cL ?_ (by intro j; simp [fp_Rp_lay]) | (refine Fr.tr ?_ (Fr.mono (fr_Fi_find (by with_reducible assumption)) mono_Rp_lay_0); try dsimp only) | (refine Fr.tr ?_ (Fr.mono (fr_Rp_aim (by with_reducible assumption)) mono_Rp_lay_1); try dsimp only) | (refine Fr.tr ?_ (Fr.mono (fr_Rp_canStay (by with_reducible assumption)) mono_Rp_lay_2); try dsimp only) | (refine Fr.tr ?_ (Fr.mono (fr_St_clearSlots (by with_reducible assumption)) mono_Rp_lay_3); try dsimp only) | (refine Fr.tr ?_ (Fr.mono (fr_St_copy (by with_reducible assumption)) mono_Rp_lay_4); try dsimp only) | (refine Fr.tr ?_ (Fr.mono (fr_St_copy (by with_reducible assumption)) mono_Rp_lay_5); try dsimp only) | (refine Fr.tr ?_ (frl_Rp_lay_b25 (by with_reducible assumption)); try dsimp only))
    · have h := (if_neg g0).symm.trans h
      refine Fr.tr ?_ (fr_Rp_lay_j142 h)
      try dsimp only [elS]
      repeat' (with_reducible first | exact Fr.rf | refine Fr.I ?_ (by simp [fp_Rp_lay]) | refine Fr.L ?_ (by simp [fp_Rp_lay]) | refine Fr.cI ?_ (by intro j; simp [fp_Rp_lay]) | refine Fr.cL ?_ (by intro j; simp [fp_Rp_lay]) | (refine Fr.tr ?_ (Fr.mono (fr_Fi_find (by with_reducible assumption)) mono_Rp_lay_0); try dsimp only) | (refine Fr.tr ?_ (Fr.mono (fr_Rp_aim (by with_reducible assumption)) mono_Rp_lay_1); try dsimp only) | (refine Fr.tr ?_ (Fr.mono (fr_Rp_canStay (by with_reducible assumption)) mono_Rp_lay_2); try dsimp only) | (refine Fr.tr ?_ (Fr.mono (fr_St_clearSlots (by with_reducible assumption)) mono_Rp_lay_3); try dsimp only) | (refine Fr.tr ?_ (Fr.mono (fr_St_copy (by with_reducible assumption)) mono_Rp_lay_4); try dsimp only) | (refine Fr.tr ?_ (Fr.mono (fr_St_copy (by with_reducible assumption)) mono_Rp_lay_5); try dsimp only) | (refine Fr.tr ?_ (frl_Rp_lay_b25 (by with_reducible assumption)); try dsimp only))
theorem frl_Rp_lay_b59 {n : Nat} {c2 : Int32}  {o : Nat} {n1 : Nat} {s0 : Int32 × Mm} {y1 : (Mm) ⊕ (Bool × Mm)} (h : loop (fun s1 : Int32 × Mm => Rp_lay_b59 n c2 s1.1 s1.2) n1 s0 = some y1) : Fr (fp_Rp_lay o) s0.2 (elS y1 (fun x1 => x1) (fun z1 => z1.2)) :=
  loop_inv (P := fun s2 : Int32 × Mm => Fr (fp_Rp_lay o) s0.2 s2.2) (E := fun y1 : (Mm) ⊕ (Bool × Mm) => Fr (fp_Rp_lay o) s0.2 (elS y1 (fun x1 => x1) (fun z1 => z1.2))) (fun s2 s3 hP hb => hP.tr (fr_Rp_lay_b59 hb)) (fun s2 x2 hP hb => hP.tr (fr_Rp_lay_b59 hb)) n1 s0 y1 h Fr.rf
theorem fr_Rp_lay_j198 {v3 : Int32} {w0 : Int64} {w1 : Int32} {M : Mm} {o : Nat} {oo : (Int32 × Mm) ⊕ (Mm)} (h : Rp_lay_j198 v3 w0 w1 M = some oo) : Fr (fp_Rp_lay o) M (elS oo (fun s1 => s1.2) (fun x1 => x1)) := by
  unfold Rp_lay_j198 at h
  obtain ⟨_, h⟩ := grd_s h
  obtain rfl := Option.some.inj h
  try dsimp only [elS]
  repeat' (with_reducible first | exact Fr.rf | refine Fr.I ?_ (by simp [fp_Rp_lay]) | refine Fr.L ?_ (by simp [fp_Rp_lay]) | refine Fr.cI ?_ (by intro j; simp [fp_Rp_lay]) | refine Fr.cL ?_ (by intro j; simp [fp_Rp_lay]) | (refine Fr.tr ?_ (Fr.mono (fr_Fi_find (by with_reducible assumption)) mono_Rp_lay_0); try dsimp only) | (refine Fr.tr ?_ (Fr.mono (fr_Rp_aim (by with_reducible assumption)) mono_Rp_lay_1); try dsimp only) | (refine Fr.tr ?_ (Fr.mono (fr_Rp_canStay (by with_reducible assumption)) mono_Rp_lay_2); try dsimp only) | (refine Fr.tr ?_ (Fr.mono (fr_St_clearSlots (by with_reducible assumption)) mono_Rp_lay_3); try dsimp only) | (refine Fr.tr ?_ (Fr.mono (fr_St_copy (by with_reducible assumption)) mono_Rp_lay_4); try dsimp only) | (refine Fr.tr ?_ (Fr.mono (fr_St_copy (by with_reducible assumption)) mono_Rp_lay_5); try dsimp only) | (refine Fr.tr ?_ (frl_Rp_lay_b25 (by with_reducible assumption)); try dsimp only) | (refine Fr.tr ?_ (frl_Rp_lay_b59 (by with_reducible assumption)); try dsimp only))
theorem fr_Rp_lay_b160 {n : Nat} {v3 : Int32} {M : Mm} {o : Nat} {oo : (Int32 × Mm) ⊕ (Mm)} (h : Rp_lay_b160 n v3 M = some oo) : Fr (fp_Rp_lay o) M (elS oo (fun s1 => s1.2) (fun x1 => x1)) := by
  unfold Rp_lay_b160 at h
  by_cases g0 : (M.1 54 4) ≤ v3
  · have h := (if_pos g0).symm.trans h
    obtain rfl := Option.some.inj h
    try dsimp only [elS]
    repeat' (with_reducible first | exact Fr.rf | refine Fr.I ?_ (by simp [fp_Rp_lay]) | refine Fr.L ?_ (by simp [fp_Rp_lay]) | refine Fr.cI ?_ (by intro j; simp [fp_Rp_lay]) | refine Fr.cL ?_ (by intro j; simp [fp_Rp_lay]) | (refine Fr.tr ?_ (Fr.mono (fr_Fi_find (by with_reducible assumption)) mono_Rp_lay_0); try dsimp only) | (refine Fr.tr ?_ (Fr.mono (fr_Rp_aim (by with_reducible assumption)) mono_Rp_lay_1); try dsimp only) | (refine Fr.tr ?_ (Fr.mono (fr_Rp_canStay (by with_reducible assumption)) mono_Rp_lay_2); try dsimp only) | (refine Fr.tr ?_ (Fr.mono (fr_St_clearSlots (by with_reducible assumption)) mono_Rp_lay_3); try dsimp only) | (refine Fr.tr ?_ (Fr.mono (fr_St_copy (by with_reducible assumption)) mono_Rp_lay_4); try dsimp only) | (refine Fr.tr ?_ (Fr.mono (fr_St_copy (by with_reducible assumption)) mono_Rp_lay_5); try dsimp only) | (refine Fr.tr ?_ (frl_Rp_lay_b25 (by with_reducible assumption)); try dsimp only) | (refine Fr.tr ?_ (frl_Rp_lay_b59 (by with_reducible assumption)); try dsimp only))
  · have h := (if_neg g0).symm.trans h
    by_cases g0 : ((lushr (M.2 72 3) v3) &&& (1 : Int64)) = (0 : Int64)
    · have h := (if_pos g0).symm.trans h
      refine Fr.tr ?_ (fr_Rp_lay_j198 h)
      try dsimp only [elS]
      repeat' (with_reducible first | exact Fr.rf | refine Fr.I ?_ (by simp [fp_Rp_lay]) | refine Fr.L ?_ (by simp [fp_Rp_lay]) | refine Fr.cI ?_ (by intro j; simp [fp_Rp_lay]) | refine Fr.cL ?_ (by intro j; simp [fp_Rp_lay]) | (refine Fr.tr ?_ (Fr.mono (fr_Fi_find (by with_reducible assumption)) mono_Rp_lay_0); try dsimp only) | (refine Fr.tr ?_ (Fr.mono (fr_Rp_aim (by with_reducible assumption)) mono_Rp_lay_1); try dsimp only) | (refine Fr.tr ?_ (Fr.mono (fr_Rp_canStay (by with_reducible assumption)) mono_Rp_lay_2); try dsimp only) | (refine Fr.tr ?_ (Fr.mono (fr_St_clearSlots (by with_reducible assumption)) mono_Rp_lay_3); try dsimp only) | (refine Fr.tr ?_ (Fr.mono (fr_St_copy (by with_reducible assumption)) mono_Rp_lay_4); try dsimp only) | (refine Fr.tr ?_ (Fr.mono (fr_St_copy (by with_reducible assumption)) mono_Rp_lay_5); try dsimp only) | (refine Fr.tr ?_ (frl_Rp_lay_b25 (by with_reducible assumption)); try dsimp only) | (refine Fr.tr ?_ (frl_Rp_lay_b59 (by with_reducible assumption)); try dsimp only))
    · have h := (if_neg g0).symm.trans h
      obtain ⟨z30, _, h⟩ := bnd_s h
      refine Fr.tr ?_ (fr_Rp_lay_j198 h)
      try dsimp only [elS]
      repeat' (with_reducible first | exact Fr.rf | refine Fr.I ?_ (by simp [fp_Rp_lay]) | refine Fr.L ?_ (by simp [fp_Rp_lay]) | refine Fr.cI ?_ (by intro j; simp [fp_Rp_lay]) | refine Fr.cL ?_ (by intro j; simp [fp_Rp_lay]) | (refine Fr.tr ?_ (Fr.mono (fr_Fi_find (by with_reducible assumption)) mono_Rp_lay_0); try dsimp only) | (refine Fr.tr ?_ (Fr.mono (fr_Rp_aim (by with_reducible assumption)) mono_Rp_lay_1); try dsimp only) | (refine Fr.tr ?_ (Fr.mono (fr_Rp_canStay (by with_reducible assumption)) mono_Rp_lay_2); try dsimp only) | (refine Fr.tr ?_ (Fr.mono (fr_St_clearSlots (by with_reducible assumption)) mono_Rp_lay_3); try dsimp only) | (refine Fr.tr ?_ (Fr.mono (fr_St_copy (by with_reducible assumption)) mono_Rp_lay_4); try dsimp only) | (refine Fr.tr ?_ (Fr.mono (fr_St_copy (by with_reducible assumption)) mono_Rp_lay_5); try dsimp only) | (refine Fr.tr ?_ (frl_Rp_lay_b25 (by with_reducible assumption)); try dsimp only) | (refine Fr.tr ?_ (frl_Rp_lay_b59 (by with_reducible assumption)); try dsimp only))
theorem frl_Rp_lay_b160 {n : Nat}  {o : Nat} {n1 : Nat} {s0 : Int32 × Mm} {y1 : Mm} (h : loop (fun s1 : Int32 × Mm => Rp_lay_b160 n s1.1 s1.2) n1 s0 = some y1) : Fr (fp_Rp_lay o) s0.2 y1 :=
  loop_inv (P := fun s2 : Int32 × Mm => Fr (fp_Rp_lay o) s0.2 s2.2) (E := fun y1 : Mm => Fr (fp_Rp_lay o) s0.2 y1) (fun s2 s3 hP hb => hP.tr (fr_Rp_lay_b160 hb)) (fun s2 x2 hP hb => hP.tr (fr_Rp_lay_b160 hb)) n1 s0 y1 h Fr.rf
theorem fr_Rp_lay {n : Nat} {o : Nat} {v2 : Int32} {M : Mm} {oo : Bool × Mm} (h : Rp_lay n o v2 M = some oo) : Fr (fp_Rp_lay o) M oo.2 := by
  unfold Rp_lay at h
  obtain ⟨z1, _, h⟩ := bnd_s h
  obtain ⟨z3, _, h⟩ := bnd_s h
  obtain ⟨z5, _, h⟩ := bnd_s h
  obtain ⟨y9, _, h⟩ := bnd_s h
  obtain ⟨y24, _, h⟩ := bnd_s h
  cases y24 with
  | inl x25 =>
    obtain ⟨y32, _, h⟩ := bnd_s h
    obtain rfl := Option.some.inj h
    try dsimp only [elS]
    repeat' (with_reducible first | exact Fr.rf | refine Fr.I ?_ (by simp [fp_Rp_lay]) | refine Fr.L ?_ (by simp [fp_Rp_lay]) | refine Fr.cI ?_ (by intro j; simp [fp_Rp_lay]) | refine Fr.cL ?_ (by intro j; simp [fp_Rp_lay]) | (refine Fr.tr ?_ (Fr.mono (fr_Fi_find (by with_reducible assumption)) mono_Rp_lay_0); try dsimp only) | (refine Fr.tr ?_ (Fr.mono (fr_Rp_aim (by with_reducible assumption)) mono_Rp_lay_1); try dsimp only) | (refine Fr.tr ?_ (Fr.mono (fr_Rp_canStay (by with_reducible assumption)) mono_Rp_lay_2); try dsimp only) | (refine Fr.tr ?_ (Fr.mono (fr_St_clearSlots (by with_reducible assumption)) mono_Rp_lay_3); try dsimp only) | (refine Fr.tr ?_ (Fr.mono (fr_St_copy (by with_reducible assumption)) mono_Rp_lay_4); try dsimp only) | (refine Fr.tr ?_ (Fr.mono (fr_St_copy (by with_reducible assumption)) mono_Rp_lay_5); try dsimp only) | (refine Fr.tr ?_ (frl_Rp_lay_b25 (by with_reducible assumption)); try dsimp only) | (refine Fr.tr ?_ (frl_Rp_lay_b59 (by with_reducible assumption)); try dsimp only) | (refine Fr.tr ?_ (frl_Rp_lay_b160 (by with_reducible assumption)); try dsimp only))
  | inr e26 =>
    obtain rfl := Option.some.inj h
    try dsimp only [elS]
    repeat' (with_reducible first | exact Fr.rf | refine Fr.I ?_ (by simp [fp_Rp_lay]) | refine Fr.L ?_ (by simp [fp_Rp_lay]) | refine Fr.cI ?_ (by intro j; simp [fp_Rp_lay]) | refine Fr.cL ?_ (by intro j; simp [fp_Rp_lay]) | (refine Fr.tr ?_ (Fr.mono (fr_Fi_find (by with_reducible assumption)) mono_Rp_lay_0); try dsimp only) | (refine Fr.tr ?_ (Fr.mono (fr_Rp_aim (by with_reducible assumption)) mono_Rp_lay_1); try dsimp only) | (refine Fr.tr ?_ (Fr.mono (fr_Rp_canStay (by with_reducible assumption)) mono_Rp_lay_2); try dsimp only) | (refine Fr.tr ?_ (Fr.mono (fr_St_clearSlots (by with_reducible assumption)) mono_Rp_lay_3); try dsimp only) | (refine Fr.tr ?_ (Fr.mono (fr_St_copy (by with_reducible assumption)) mono_Rp_lay_4); try dsimp only) | (refine Fr.tr ?_ (Fr.mono (fr_St_copy (by with_reducible assumption)) mono_Rp_lay_5); try dsimp only) | (refine Fr.tr ?_ (frl_Rp_lay_b25 (by with_reducible assumption)); try dsimp only) | (refine Fr.tr ?_ (frl_Rp_lay_b59 (by with_reducible assumption)); try dsimp only) | (refine Fr.tr ?_ (frl_Rp_lay_b160 (by with_reducible assumption)); try dsimp only))
