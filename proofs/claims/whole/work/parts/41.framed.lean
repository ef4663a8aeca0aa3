theorem mono_St_endThoseDue_0 {s : Nat} : ∀ c j, fp_St_takeOff s c j → fp_St_endThoseDue s c j := fun c j => (fun h => h.elim (fun e => Or.inl e) (fun e => Or.inr (e)))
theorem fr_St_endThoseDue_j51 {v1 : Int32} {v2 : Int32} {M : Mm} {s : Nat} {oo : (Int32 × Int32 × Mm) ⊕ (Int32 × Mm)} (h : St_endThoseDue_j51 v1 v2 M = some oo) : Fr (fp_St_endThoseDue s) M (elS oo (fun s1 => s1.2.2) (fun x1 => x1.2)) := by
  unfold St_endThoseDue_j51 at h
  obtain rfl := Option.some.inj h
  try dsimp only [elS]
  repeat' (with_reducible first | exact Fr.rf | refine Fr.I ?_ (by simp [fp_St_endThoseDue]) | refine Fr.L ?_ (by simp [fp_St_endThoseDue]) | refine Fr.cI ?_ (by intro j; simp [fp_St_endThoseDue]) | refine Fr.cL ?_ (by intro j; simp [fp_St_endThoseDue]) | (refine Fr.tr ?_ (Fr.mono (fr_St_takeOff (by with_reducible assumption)) mono_St_endThoseDue_0); try dsimp only))
theorem fr_St_endThoseDue_b4 {n : Nat} {s : Nat} {v1 : Int32} {v2 : Int32} {M : Mm} {oo : (Int32 × Int32 × Mm) ⊕ (Int32 × Mm)} (h : St_endThoseDue_b4 n s v1 v2 M = some oo) : Fr (fp_St_endThoseDue s) M (elS oo (fun s1 => s1.2.2) (fun x1 => x1.2)) := by
  unfold St_endThoseDue_b4 at h
  by_cases g0 : (M.1 s 4) ≤ v2
  · have h := (if_pos g0).symm.trans h
    obtain rfl := Option.some.inj h
    try dsimp only [elS]
    repeat' (with_reducible first | exact Fr.rf | refine Fr.I ?_ (by simp [fp_St_endThoseDue]) | refine Fr.L ?_ (by simp [fp_St_endThoseDue]) | refine Fr.cI ?_ (by intro j; simp [fp_St_endThoseDue]) | refine Fr.cL ?_ (by intro j; simp [fp_St_endThoseDue]) | (refine Fr.tr ?_ (Fr.mono (fr_St_takeOff (by with_reducible assumption)) mono_St_endThoseDue_0); try dsimp only))
  · have h := (if_neg g0).symm.trans h
    obtain ⟨z2, _, h⟩ := bnd_s h
    by_cases g0 : z2 = true
    · have h := (if_pos g0).symm.trans h
      obtain ⟨_, h⟩ := grd_s h
      by_cases g0 : (M.1 (s + 11) (tn v2)) < (0 : Int32)
      · have h := (if_pos g0).symm.trans h
        refine Fr.tr ?_ (fr_St_endThoseDue_j51 h)
        try dsimp only [elS]
        repeat' (with_reducible first | exact Fr.rf | refine Fr.I ?_ (by simp [fp_St_endThoseDue]) | refine Fr.L ?_ (by simp [fp_St_endThoseDue]) | refine Fr.cI ?_ (by intro j; simp [fp_St_endThoseDue]) | refine Fr.cL ?_ (by intro j; simp [fp_St_endThoseDue]) | (refine Fr.tr ?_ (Fr.mono (fr_St_takeOff (by with_reducible assumption)) mono_St_endThoseDue_0); try dsimp only))
      · have h := (if_neg g0).symm.trans h
        obtain ⟨_, h⟩ := grd_s h
        by_cases g0 : (M.1 s 2) < (M.1 (s + 11) (tn v2))
        · have h := (if_pos g0).symm.trans h
          refine Fr.tr ?_ (fr_St_endThoseDue_j51 h)
          try dsimp only [elS]
          repeat' (with_reducible first | exact Fr.rf | refine Fr.I ?_ (by simp [fp_St_endThoseDue]) | refine Fr.L ?_ (by simp [fp_St_endThoseDue]) | refine Fr.cI ?_ (by intro j; simp [fp_St_endThoseDue]) | refine Fr.cL ?_ (by intro j; simp [fp_St_endThoseDue]) | (refine Fr.tr ?_ (Fr.mono (fr_St_takeOff (by with_reducible assumption)) mono_St_endThoseDue_0); try dsimp only))
        · have h := (if_neg g0).symm.trans h
          obtain ⟨z9, _, h⟩ := bnd_s h
          refine Fr.tr ?_ (fr_St_endThoseDue_j51 h)
          try dsimp only [elS]
          repeat' (with_reducible first | exact Fr.rf | refine Fr.I ?_ (by simp [fp_St_endThoseDue]) | refine Fr.L ?_ (by simp [fp_St_endThoseDue]) | refine Fr.cI ?_ (by intro j; simp [fp_St_endThoseDue]) | refine Fr.cL ?_ (by intro j; simp [fp_St_endThoseDue]) | (refine Fr.tr ?_ (Fr.mono (fr_St_takeOff (by with_reducible assumption)) mono_St_endThoseDue_0); try dsimp only))
    · have h := (if_neg g0).symm.trans h
      refine Fr.tr ?_ (fr_St_endThoseDue_j51 h)
      try dsimp only [elS]
      repeat' (with_reducible first | exact Fr.rf | refine Fr.I ?_ (by simp [fp_St_endThoseDue]) | refine Fr.L ?_ (by simp [fp_St_endThoseDue]) | refine Fr.cI ?_ (by intro j; simp [fp_St_endThoseDue]) | refine Fr.cL ?_ (by intro j; simp [fp_St_endThoseDue]) | (refine Fr.tr ?_ (Fr.mono (fr_St_takeOff (by with_reducible assumption)) mono_St_endThoseDue_0); try dsimp only))
theorem frl_St_endThoseDue_b4 {n : Nat} {s : Nat}  {n1 : Nat} {s0 : Int32 × Int32 × Mm} {y1 : Int32 × Mm} (h : loop (fun s1 : Int32 × Int32 × Mm => St_endThoseDue_b4 n s s1.1 s1.2.1 s1.2.2) n1 s0 = some y1) : Fr (fp_St_endThoseDue s) s0.2.2 y1.2 :=
  loop_inv (P := fun s2 : Int32 × Int32 × Mm => Fr (fp_St_endThoseDue s) s0.2.2 s2.2.2) (E := fun y1 : Int32 × Mm => Fr (fp_St_endThoseDue s) s0.2.2 y1.2) (fun s2 s3 hP hb => hP.tr (fr_St_endThoseDue_b4 hb)) (fun s2 x2 hP hb => hP.tr (fr_St_endThoseDue_b4 hb)) n1 s0 y1 h Fr.rf
theorem fr_St_endThoseDue {n : Nat} {s : Nat} {M : Mm} {oo : Int32 × Mm} (h : St_endThoseDue n s M = some oo) : Fr (fp_St_endThoseDue s) M oo.2 := by
  unfold St_endThoseDue at h
  obtain ⟨y11, _, h⟩ := bnd_s h
  obtain rfl := Option.some.inj h
  try dsimp only [elS]
  repeat' (with_reducible first | exact Fr.rf | refine Fr.I ?_ (by simp [fp_St_endThoseDue]) | refine Fr.L ?_ (by simp [fp_St_endThoseDue]) | refine Fr.cI ?_ (by intro j; simp [fp_St_endThoseDue]) | refine Fr.cL ?_ (by intro j; simp [fp_St_endThoseDue]) | (refine Fr.tr ?_ (Fr.mono (fr_St_takeOff (by with_reducible assumption)) mono_St_endThoseDue_0); try dsimp only) | (refine Fr.tr ?_ (frl_St_endThoseDue_b4 (by with_reducible assumption)); try dsimp only))
theorem fr_Tp_append_b3 {c1 : Int32} {v2 : Int32} {M : Mm} {oo : (Int32 × Mm) ⊕ (Mm)} (h : Tp_append_b3 c1 v2 M = some oo) : Fr (fp_Tp_append) M (elS oo (fun s1 => s1.2) (fun x1 => x1)) := by
  unfold Tp_append_b3 at h
  by_cases g0 : v2 < (0 : Int32)
  · have h := (if_pos g0).symm.trans h
    obtain rfl := Option.some.inj h
    try dsimp only [elS]
    repeat' (with_reducible first | exact Fr.rf | refine Fr.I ?_ (by simp [fp_Tp_append]) | refine Fr.L ?_ (by simp [fp_Tp_append]) | refine Fr.cI ?_ (by intro j; simp [fp_Tp_append]) | refine Fr.cL ?_ (by intro j; simp [fp_Tp_append]))
  · have h := (if_neg g0).symm.trans h
    by_cases g0 : (240 : Int32) ≤ (M.1 1 1)
    · have h := (if_pos g0).symm.trans h
      obtain rfl := Option.some.inj h
      try dsimp only [elS]
      repeat' (with_reducible first | exact Fr.rf | refine Fr.I ?_ (by simp [fp_Tp_append]) | refine Fr.L ?_ (by simp [fp_Tp_append]) | refine Fr.cI ?_ (by intro j; simp [fp_Tp_append]) | refine Fr.cL ?_ (by intro j; simp [fp_Tp_append]))
    · have h := (if_neg g0).symm.trans h
      obtain ⟨_, h⟩ := grd_s h
      obtain rfl := Option.some.inj h
      try dsimp only [elS]
      repeat' (with_reducible first | exact Fr.rf | refine Fr.I ?_ (by simp [fp_Tp_append]) | refine Fr.L ?_ (by simp [fp_Tp_append]) | refine Fr.cI ?_ (by intro j; simp [fp_Tp_append]) | refine Fr.cL ?_ (by intro j; simp [fp_Tp_append]))
theorem frl_Tp_append_b3 {c1 : Int32}  {n1 : Nat} {s0 : Int32 × Mm} {y1 : Mm} (h : loop (fun s1 : Int32 × Mm => Tp_append_b3 c1 s1.1 s1.2) n1 s0 = some y1) : Fr (fp_Tp_append) s0.2 y1 :=
  loop_inv (P := fun s2 : Int32 × Mm => Fr (fp_Tp_append) s0.2 s2.2) (E := fun y1 : Mm => Fr (fp_Tp_append) s0.2 y1) (fun s2 s3 hP hb => hP.tr (fr_Tp_append_b3 hb)) (fun s2 x2 hP hb => hP.tr (fr_Tp_append_b3 hb)) n1 s0 y1 h Fr.rf
theorem fr_Tp_append {n : Nat} {v1 : Int32} {M : Mm} {oo : Mm} (h : Tp_append n v1 M = some oo) : Fr (fp_Tp_append) M oo := by
  unfold Tp_append at h
  obtain ⟨y4, _, h⟩ := bnd_s h
  obtain rfl := Option.some.inj h
  try dsimp only [elS]
  repeat' (with_reducible first | exact Fr.rf | refine Fr.I ?_ (by simp [fp_Tp_append]) | refine Fr.L ?_ (by simp [fp_Tp_append]) | refine Fr.cI ?_ (by intro j; simp [fp_Tp_append]) | refine Fr.cL ?_ (by intro j; simp [fp_Tp_append]) | (refine Fr.tr ?_ (frl_Tp_append_b3 (by with_reducible assumption)); try dsimp only))
theorem fr_Tr_draw {v1 : Int32} {M : Mm} {oo : Int32 × Mm} (h : Tr_draw v1 M = some oo) : Fr (fp_Tr_draw) M oo.2 := by
  unfold Tr_draw at h
  by_cases g0 : v1 ≤ (0 : Int32)
  · have h := (if_pos g0).symm.trans h
    obtain rfl := Option.some.inj h
    try dsimp only [elS]
    repeat' (with_reducible first | exact Fr.rf | refine Fr.I ?_ (by simp [fp_Tr_draw]) | refine Fr.L ?_ (by simp [fp_Tr_draw]) | refine Fr.cI ?_ (by intro j; simp [fp_Tr_draw]) | refine Fr.cL ?_ (by intro j; simp [fp_Tr_draw]))
  · have h := (if_neg g0).symm.trans h
    obtain ⟨_, h⟩ := grd_s h
    obtain rfl := Option.some.inj h
    try dsimp only [elS]
    repeat' (with_reducible first | exact Fr.rf | refine Fr.I ?_ (by simp [fp_Tr_draw]) | refine Fr.L ?_ (by simp [fp_Tr_draw]) | refine Fr.cI ?_ (by intro j; simp [fp_Tr_draw]) | refine Fr.cL ?_ (by intro j; simp [fp_Tr_draw]))
theorem mono_Tr_askAt_0  : ∀ c j, fp_Fi_find 54 c j → fp_Tr_askAt c j := fun c j => (fun h => h.elim (fun e => Or.inl e) (fun h => h.elim (fun e => Or.inr (Or.inl e)) (fun h => h.elim (fun e => Or.inr (Or.inr (Or.inl e))) (fun h => h.elim (fun e => Or.inr (Or.inr (Or.inr (Or.inl e)))) (fun h => h.elim (fun e => Or.inr (Or.inr (Or.inr (Or.inr (Or.inl e))))) (fun h => h.elim (fun e => Or.inr (Or.inr (Or.inr (Or.inr (Or.inr (Or.inl e)))))) (fun h => h.elim (fun e => Or.inr (Or.inr (Or.inr (Or.inr (Or.inr (Or.inr (Or.inl e))))))) (fun h => h.elim (fun e => Or.inr (Or.inr (Or.inr (Or.inr (Or.inr (Or.inr (Or.inr (Or.inl e)))))))) (fun h => h.elim (fun e => Or.inr (Or.inr (Or.inr (Or.inr (Or.inr (Or.inr (Or.inr (Or.inr (Or.inl e))))))))) (fun h => h.elim (fun e => Or.inr (Or.inr (Or.inr (Or.inr (Or.inr (Or.inr (Or.inr (Or.inr (Or.inr (Or.inl e)))))))))) (fun h => h.elim (fun e => Or.inr (Or.inr (Or.inr (Or.inr (Or.inr (Or.inr (Or.inr (Or.inr (Or.inr (Or.inr (Or.inl e))))))))))) (fun h => h.elim (fun e => Or.inr (Or.inr (Or.inr (Or.inr (Or.inr (Or.inr (Or.inr (Or.inr (Or.inr (Or.inr (Or.inr (Or.inl e)))))))))))) (fun e => Or.inr (Or.inr (Or.inr (Or.inr (Or.inr (Or.inr (Or.inr (Or.inr (Or.inr (Or.inr (Or.inr (Or.inr (Or.inl e)))))))))))))))))))))))))
theorem mono_Tr_askAt_1  : ∀ c j, fp_St_put 54 c j → fp_Tr_askAt c j := fun c j => (fun h => h.elim (fun e => Or.inr (Or.inr (Or.inr (Or.inr (Or.inr (Or.inr (Or.inr (Or.inr (Or.inr (Or.inr (Or.inr (Or.inr (Or.inr (Or.inl e)))))))))))))) (fun h => h.elim (fun e => Or.inr (Or.inr (Or.inr (Or.inr (Or.inr (Or.inr (Or.inr (Or.inr (Or.inr (Or.inr (Or.inr (Or.inr (Or.inr (Or.inr (Or.inr (Or.inl e)))))))))))))))) (fun h => h.elim (fun e => Or.inr (Or.inr (Or.inr (Or.inr (Or.inr (Or.inr (Or.inr (Or.inr (Or.inr (Or.inr (Or.inr (Or.inr (Or.inr (Or.inr (Or.inr (Or.inr (Or.inl e))))))))))))))))) (fun h => h.elim (fun e => Or.inr (Or.inr (Or.inr (Or.inr (Or.inr (Or.inr (Or.inr (Or.inr (Or.inr (Or.inr (Or.inr (Or.inr (Or.inr (Or.inr (Or.inr (Or.inr (Or.inr (Or.inl e)))))))))))))))))) (fun h => h.elim (fun e => Or.inr (Or.inr (Or.inr (Or.inr (Or.inr (Or.inr (Or.inr (Or.inr (Or.inr (Or.inr (Or.inr (Or.inr (Or.inr (Or.inr (Or.inr (Or.inr (Or.inr (Or.inr (Or.inl e))))))))))))))))))) (fun e => Or.inr (Or.inr (Or.inr (Or.inr (Or.inr (Or.inr (Or.inr (Or.inr (Or.inr (Or.inr (Or.inr (Or.inr (Or.inr (Or.inr (Or.inr (Or.inr (Or.inr (Or.inr (Or.inr (Or.inl e)))))))))))))))))))))))))
theorem mono_Tr_askAt_2  : ∀ c j, fp_Tr_draw c j → fp_Tr_askAt c j := fun c j => (fun e => Or.inr (Or.inr (Or.inr (Or.inr (Or.inr (Or.inr (Or.inr (Or.inr (Or.inr (Or.inr (Or.inr (Or.inr (Or.inr (Or.inr (Or.inr (Or.inr (Or.inr (Or.inr (Or.inr (Or.inr (Or.inl e)))))))))))))))))))))
theorem fr_Tr_askAt {n : Nat} {v1 : Int32} {v2 : Int32} {v3 : Int32} {M : Mm} {oo : Mm} (h : Tr_askAt n v1 v2 v3 M = some oo) : Fr (fp_Tr_askAt) M oo := by
  unfold Tr_askAt at h
  obtain ⟨z1, _, h⟩ := bnd_s h
  obtain ⟨z3, _, h⟩ := bnd_s h
  obtain ⟨_, h⟩ := grd_s h
  obtain ⟨z6, _, h⟩ := bnd_s h
  obtain ⟨z8, _, h⟩ := bnd_s h
  obtain ⟨z10, _, h⟩ := bnd_s h
  by_cases g0 : z10.1 = true
  · have h := (if_pos g0).symm.trans h
    obtain ⟨z13, _, h⟩ := bnd_s h
    obtain ⟨_, h⟩ := grd_s h
    obtain ⟨z16, _, h⟩ := bnd_s h
    obtain rfl := Option.some.inj h
    try dsimp only [elS]
    repeat' (with_reducible first | exact Fr.rf | refine Fr.I ?_ (by simp [fp_Tr_askAt]) | refine Fr.L ?_ (by simp [fp_Tr_askAt]) | refine Fr.cI ?_ (by intro j; simp [fp_Tr_askAt]) | refine Fr.cL ?_ (by intro j; simp [fp_Tr_askAt]) | (refine Fr.tr ?_ (Fr.mono (fr_Fi_find (by with_reducible assumption)) mono_Tr_askAt_0); try dsimp only) | (refine Fr.tr ?_ (Fr.mono (fr_St_put (by with_reducible assumption)) mono_Tr_askAt_1); try dsimp only) | (refine Fr.tr ?_ (Fr.mono (fr_Tr_draw (by with_reducible assumption)) mono_Tr_askAt_2); try dsimp only))
  · have h := (if_neg g0).symm.trans h
    obtain rfl := Option.some.inj h
    try dsimp only [elS]
    repeat' (with_reducible first | exact Fr.rf | refine Fr.I ?_ (by simp [fp_Tr_askAt]) | refine Fr.L ?_ (by simp [fp_Tr_askAt]) | refine Fr.cI ?_ (by intro j; simp [fp_Tr_askAt]) | refine Fr.cL ?_ (by intro j; simp [fp_Tr_askAt]) | (refine Fr.tr ?_ (Fr.mono (fr_Fi_find (by with_reducible assumption)) mono_Tr_askAt_0); try dsimp only) | (refine Fr.tr ?_ (Fr.mono (fr_St_put (by with_reducible assumption)) mono_Tr_askAt_1); try dsimp only) | (refine Fr.tr ?_ (Fr.mono (fr_Tr_draw (by with_reducible assumption)) mono_Tr_askAt_2); try dsimp only))
theorem mono_Tr_endThoseOf_0  : ∀ c j, fp_St_takeOff 54 c j → fp_Tr_endThoseOf c j := fun c j => (fun h => h.elim (fun e => Or.inl e) (fun e => Or.inr (Or.inl e)))
theorem fr_Tr_endThoseOf_j52 {v2 : Int32} {M : Mm} {oo : (Int32 × Mm) ⊕ (Mm)} (h : Tr_endThoseOf_j52 v2 M = some oo) : Fr (fp_Tr_endThoseOf) M (elS oo (fun s1 => s1.2) (fun x1 => x1)) := by
  unfold Tr_endThoseOf_j52 at h
  obtain rfl := Option.some.inj h
  try dsimp only [elS]
  repeat' (with_reducible first | exact Fr.rf | refine Fr.I ?_ (by simp [fp_Tr_endThoseOf]) | refine Fr.L ?_ (by simp [fp_Tr_endThoseOf]) | refine Fr.cI ?_ (by intro j; simp [fp_Tr_endThoseOf]) | refine Fr.cL ?_ (by intro j; simp [fp_Tr_endThoseOf]) | (refine Fr.tr ?_ (Fr.mono (fr_St_takeOff (by with_reducible assumption)) mono_Tr_endThoseOf_0); try dsimp only))
theorem fr_Tr_endThoseOf_b2 {n : Nat} {c1 : Int32} {v2 : Int32} {M : Mm} {oo : (Int32 × Mm) ⊕ (Mm)} (h : Tr_endThoseOf_b2 n c1 v2 M = some oo) : Fr (fp_Tr_endThoseOf) M (elS oo (fun s1 => s1.2) (fun x1 => x1)) := by
  unfold Tr_endThoseOf_b2 at h
  by_cases g0 : (40 : Int32) ≤ v2
  · have h := (if_pos g0).symm.trans h
    obtain rfl := Option.some.inj h
    try dsimp only [elS]
    repeat' (with_reducible first | exact Fr.rf | refine Fr.I ?_ (by simp [fp_Tr_endThoseOf]) | refine Fr.L ?_ (by simp [fp_Tr_endThoseOf]) | refine Fr.cI ?_ (by intro j; simp [fp_Tr_endThoseOf]) | refine Fr.cL ?_ (by intro j; simp [fp_Tr_endThoseOf]) | (refine Fr.tr ?_ (Fr.mono (fr_St_takeOff (by with_reducible assumption)) mono_Tr_endThoseOf_0); try dsimp only))
  · have h := (if_neg g0).symm.trans h
    obtain ⟨_, h⟩ := grd_s h
    by_cases g0 : (M.1 64 (tn v2)) = (0 : Int32)
    · have h := (if_pos g0).symm.trans h
      obtain ⟨_, h⟩ := grd_s h
      by_cases g0 : (M.1 65 (tn v2)) = c1
      · have h := (if_pos g0).symm.trans h
        obtain ⟨z6, _, h⟩ := bnd_s h
        refine Fr.tr ?_ (fr_Tr_endThoseOf_j52 h)
        try dsimp only [elS]
        repeat' (with_reducible first | exact Fr.rf | refine Fr.I ?_ (by simp [fp_Tr_endThoseOf]) | refine Fr.L ?_ (by simp [fp_Tr_endThoseOf]) | refine Fr.cI ?_ (by intro j; simp [fp_Tr_endThoseOf]) | refine Fr.cL ?_ (by intro j; simp [fp_Tr_endThoseOf]) | (refine Fr.tr ?_ (Fr.mono (fr_St_takeOff (by with_reducible assumption)) mono_Tr_endThoseOf_0); try dsimp only))
      · have h := (if_neg g0).symm.trans h
        refine Fr.tr ?_ (fr_Tr_endThoseOf_j52 h)
        try dsimp only [elS]
        repeat' (with_reducible first | exact Fr.rf | refine Fr.I ?_ (by simp [fp_Tr_endThoseOf]) | refine Fr.L ?_ (by simp [fp_Tr_endThoseOf]) | refine Fr.cI ?_ (by intro j; simp [fp_Tr_endThoseOf]) | refine Fr.cL ?_ (by intro j; simp [fp_Tr_endThoseOf]) | (refine Fr.tr ?_ (Fr.mono (fr_St_takeOff (by with_reducible assumption)) mono_Tr_endThoseOf_0); try dsimp only))
    · have h := (if_neg g0).symm.trans h
      refine Fr.tr ?_ (fr_Tr_endThoseOf_j52 h)
      try dsimp only [elS]
      repeat' (with_reducible first | exact Fr.rf | refine Fr.I ?_ (by simp [fp_Tr_endThoseOf]) | refine Fr.L ?_ (by simp [fp_Tr_endThoseOf]) | refine Fr.cI ?_ (by intro j; simp [fp_Tr_endThoseOf]) | refine Fr.cL ?_ (by intro j; simp [fp_Tr_endThoseOf]) | (refine Fr.tr ?_ (Fr.mono (fr_St_takeOff (by with_reducible assumption)) mono_Tr_endThoseOf_0); try dsimp only))
theorem frl_Tr_endThoseOf_b2 {n : Nat} {c1 : Int32}  {n1 : Nat} {s0 : Int32 × Mm} {y1 : Mm} (h : loop (fun s1 : Int32 × Mm => Tr_endThoseOf_b2 n c1 s1.1 s1.2) n1 s0 = some y1) : Fr (fp_Tr_endThoseOf) s0.2 y1 :=
  loop_inv (P := fun s2 : Int32 × Mm => Fr (fp_Tr_endThoseOf) s0.2 s2.2) (E := fun y1 : Mm => Fr (fp_Tr_endThoseOf) s0.2 y1) (fun s2 s3 hP hb => hP.tr (fr_Tr_endThoseOf_b2 hb)) (fun s2 x2 hP hb => hP.tr (fr_Tr_endThoseOf_b2 hb)) n1 s0 y1 h Fr.rf
theorem fr_Tr_endThoseOf {n : Nat} {v1 : Int32} {M : Mm} {oo : Mm} (h : Tr_endThoseOf n v1 M = some oo) : Fr (fp_Tr_endThoseOf) M oo := by
  unfold Tr_endThoseOf at h
  obtain ⟨y8, _, h⟩ := bnd_s h
  obtain rfl := Option.some.inj h
  try dsimp only [elS]
  repeat' (with_reducible first | exact Fr.rf | refine Fr.I ?_ (by simp [fp_Tr_endThoseOf]) | refine Fr.L ?_ (by simp [fp_Tr_endThoseOf]) | refine Fr.cI ?_ (by intro j; simp [fp_Tr_endThoseOf]) | refine Fr.cL ?_ (by intro j; simp [fp_Tr_endThoseOf]) | (refine Fr.tr ?_ (Fr.mono (fr_St_takeOff (by with_reducible assumption)) mono_Tr_endThoseOf_0); try dsimp only) | (refine Fr.tr ?_ (frl_Tr_endThoseOf_b2 (by with_reducible assumption)); try dsimp only))
theorem mono_Tr_run_0 {o : Nat} : ∀ c j, fp_St_clearDemands 54 c j → fp_Tr_run o c j := fun c j => (fun h => h.elim (fun e => Or.inr (Or.inr (Or.inr (Or.inr (Or.inr (Or.inr (Or.inr (Or.inr (Or.inr (Or.inr (Or.inr (Or.inr (Or.inr (Or.inr (Or.inr (Or.inr (Or.inl e))))))))))))))))) (fun h => h.elim (fun e => Or.inr (Or.inr (Or.inr (Or.inr (Or.inr (Or.inr (Or.inr (Or.inr (Or.inr (Or.inr (Or.inr (Or.inr (Or.inr (Or.inr (Or.inr (Or.inr (Or.inr (Or.inr (Or.inr (Or.inr (Or.inr (Or.inr (Or.inr (Or.inr (Or.inr (Or.inr (Or.inr (Or.inr (Or.inr (Or.inr (Or.inl e))))))))))))))))))))))))))))))) (fun e => Or.inr (Or.inr (Or.inr (Or.inr (Or.inr (Or.inr (Or.inr (Or.inr (Or.inr (Or.inr (Or.inr (Or.inr (Or.inr (Or.inr (Or.inr (Or.inr (Or.inr (Or.inr (Or.inr (Or.inr (Or.inr (Or.inr (Or.inr (Or.inr (Or.inr (Or.inr (Or.inr (Or.inr (Or.inr (Or.inr (Or.inr (Or.inr (Or.inr (Or.inr (Or.inr (Or.inr (Or.inl e)))))))))))))))))))))))))))))))))))))))
theorem mono_Tr_run_1 {o : Nat} : ∀ c j, fp_St_copy 54 o c j → fp_Tr_run o c j := fun c j => (fun h => h.elim (fun e => Or.inr (Or.inr (Or.inr (Or.inr (Or.inr (Or.inr (Or.inr (Or.inr (Or.inr (Or.inr (Or.inr (Or.inr (Or.inr (Or.inl e)))))))))))))) (fun h => h.elim (fun e => Or.inr (Or.inr (Or.inr (Or.inr (Or.inr (Or.inr (Or.inr (Or.inr (Or.inr (Or.inr (Or.inr (Or.inr (Or.inr (Or.inr (Or.inl e))))))))))))))) (fun h => h.elim (fun e => Or.inr (Or.inr (Or.inr (Or.inr (Or.inr (Or.inr (Or.inr (Or.inr (Or.inr (Or.inr (Or.inr (Or.inr (Or.inr (Or.inr (Or.inr (Or.inl e)))))))))))))))) (fun h => h.elim (fun e => Or.inr (Or.inr (Or.inr (Or.inr (Or.inr (Or.inr (Or.inr (Or.inr (Or.inr (Or.inr (Or.inr (Or.inr (Or.inr (Or.inr (Or.inr (Or.inr (Or.inl e))))))))))))))))) (fun h => h.elim (fun e => Or.inr (Or.inr (Or.inr (Or.inr (Or.inr (Or.inr (Or.inr (Or.inr (Or.inr (Or.inr (Or.inr (Or.inr (Or.inr (Or.inr (Or.inr (Or.inr (Or.inr (Or.inl e)))))))))))))))))) (fun h => h.elim (fun e => Or.inr (Or.inr (Or.inr (Or.inr (Or.inr (Or.inr (Or.inr (Or.inr (Or.inr (Or.inr (Or.inr (Or.inr (Or.inr (Or.inr (Or.inr (Or.inr (Or.inr (Or.inr (Or.inl e))))))))))))))))))) (fun h => h.elim (fun e => Or.inr (Or.inr (Or.inr (Or.inr (Or.inr (Or.inr (Or.inr (Or.inr (Or.inr (Or.inr (Or.inr (Or.inr (Or.inr (Or.inr (Or.inr (Or.inr (Or.inr (Or.inr (Or.inr (Or.inl e)))))))))))))))))))) (fun h => h.elim (fun e => Or.inr (Or.inr (Or.inr (Or.inr (Or.inr (Or.inr (Or.inr (Or.inr (Or.inr (Or.inr (Or.inr (Or.inr (Or.inr (Or.inr (Or.inr (Or.inr (Or.inr (Or.inr (Or.inr (Or.inr (Or.inl e))))))))))))))))))))) (fun h => h.elim (fun e => Or.inr (Or.inr (Or.inr (Or.inr (Or.inr (Or.inr (Or.inr (Or.inr (Or.inr (Or.inr (Or.inr (Or.inr (Or.inr (Or.inr (Or.inr (Or.inr (Or.inr (Or.inr (Or.inr (Or.inr (Or.inr (Or.inl e)))))))))))))))))))))) (fun h => h.elim (fun e => Or.inr (Or.inr (Or.inr (Or.inr (Or.inr (Or.inr (Or.inr (Or.inr (Or.inr (Or.inr (Or.inr (Or.inr (Or.inr (Or.inr (Or.inr (Or.inr (Or.inr (Or.inr (Or.inr (Or.inr (Or.inr (Or.inr (Or.inl e))))))))))))))))))))))) (fun h => h.elim (fun e => Or.inr (Or.inr (Or.inr (Or.inr (Or.inr (Or.inr (Or.inr (Or.inr (Or.inr (Or.inr (Or.inr (Or.inr (Or.inr (Or.inr (Or.inr (Or.inr (Or.inr (Or.inr (Or.inr (Or.inr (Or.inr (Or.inr (Or.inr (Or.inl e)))))))))))))))))))))))) (fun h => h.elim (fun e => Or.inr (Or.inr (Or.inr (Or.inr (Or.inr (Or.inr (Or.inr (Or.inr (Or.inr (Or.inr (Or.inr (Or.inr (Or.inr (Or.inr (Or.inr (Or.inr (Or.inr (Or.inr (Or.inr (Or.inr (Or.inr (Or.inr (Or.inr (Or.inr (Or.inl e))))))))))))))))))))))))) (fun h => h.elim (fun e => Or.inr (Or.inr (Or.inr (Or.inr (Or.inr (Or.inr (Or.inr (Or.inr (Or.inr (Or.inr (Or.inr (Or.inr (Or.inr (Or.inr (Or.inr (Or.inr (Or.inr (Or.inr (Or.inr (Or.inr (Or.inr (Or.inr (Or.inr (Or.inr (Or.inr (Or.inl e)))))))))))))))))))))))))) (fun h => h.elim (fun e => Or.inr (Or.inr (Or.inr (Or.inr (Or.inr (Or.inr (Or.inr (Or.inr (Or.inr (Or.inr (Or.inr (Or.inr (Or.inr (Or.inr (Or.inr (Or.inr (Or.inr (Or.inr (Or.inr (Or.inr (Or.inr (Or.inr (Or.inr (Or.inr (Or.inr (Or.inr (Or.inl e))))))))))))))))))))))))))) (fun h => h.elim (fun e => Or.inr (Or.inr (Or.inr (Or.inr (Or.inr (Or.inr (Or.inr (Or.inr (Or.inr (Or.inr (Or.inr (Or.inr (Or.inr (Or.inr (Or.inr (Or.inr (Or.inr (Or.inr (Or.inr (Or.inr (Or.inr (Or.inr (Or.inr (Or.inr (Or.inr (Or.inr (Or.inr (Or.inl e)))))))))))))))))))))))))))) (fun h => h.elim (fun e => Or.inr (Or.inr (Or.inr (Or.inr (Or.inr (Or.inr (Or.inr (Or.inr (Or.inr (Or.inr (Or.inr (Or.inr (Or.inr (Or.inr (Or.inr (Or.inr (Or.inr (Or.inr (Or.inr (Or.inr (Or.inr (Or.inr (Or.inr (Or.inr (Or.inr (Or.inr (Or.inr (Or.inr (Or.inl e))))))))))))))))))))))))))))) (fun h => h.elim (fun e => Or.inr (Or.inr (Or.inr (Or.inr (Or.inr (Or.inr (Or.inr (Or.inr (Or.inr (Or.inr (Or.inr (Or.inr (Or.inr (Or.inr (Or.inr (Or.inr (Or.inr (Or.inr (Or.inr (Or.inr (Or.inr (Or.inr (Or.inr (Or.inr (Or.inr (Or.inr (Or.inr (Or.inr (Or.inr (Or.inl e)))))))))))))))))))))))))))))) (fun h => h.elim (fun e => Or.inr (Or.inr (Or.inr (Or.inr (Or.inr (Or.inr (Or.inr (Or.inr (Or.inr (Or.inr (Or.inr (Or.inr (Or.inr (Or.inr (Or.inr (Or.inr (Or.inr (Or.inr (Or.inr (Or.inr (Or.inr (Or.inr (Or.inr (Or.inr (Or.inr (Or.inr (Or.inr (Or.inr (Or.inr (Or.inr (Or.inl e))))))))))))))))))))))))))))))) (fun h => h.elim (fun e => Or.inr (Or.inr (Or.inr (Or.inr (Or.inr (Or.inr (Or.inr (Or.inr (Or.inr (Or.inr (Or.inr (Or.inr (Or.inr (Or.inr (Or.inr (Or.inr (Or.inr (Or.inr (Or.inr (Or.inr (Or.inr (Or.inr (Or.inr (Or.inr (Or.inr (Or.inr (Or.inr (Or.inr (Or.inr (Or.inr (Or.inr (Or.inl e)))))))))))))))))))))))))))))))) (fun h => h.elim (fun e => Or.inr (Or.inr (Or.inr (Or.inr (Or.inr (Or.inr (Or.inr (Or.inr (Or.inr (Or.inr (Or.inr (Or.inr (Or.inr (Or.inr (Or.inr (Or.inr (Or.inr (Or.inr (Or.inr (Or.inr (Or.inr (Or.inr (Or.inr (Or.inr (Or.inr (Or.inr (Or.inr (Or.inr (Or.inr (Or.inr (Or.inr (Or.inr (Or.inl e))))))))))))))))))))))))))))))))) (fun h => h.elim (fun e => Or.inr (Or.inr (Or.inr (Or.inr (Or.inr (Or.inr (Or.inr (Or.inr (Or.inr (Or.inr (Or.inr (Or.inr (Or.inr (Or.inr (Or.inr (Or.inr (Or.inr (Or.inr (Or.inr (Or.inr (Or.inr (Or.inr (Or.inr (Or.inr (Or.inr (Or.inr (Or.inr (Or.inr (Or.inr (Or.inr (Or.inr (Or.inr (Or.inr (Or.inl e)))))))))))))))))))))))))))))))))) (fun h => h.elim (fun e => Or.inr (Or.inr (Or.inr (Or.inr (Or.inr (Or.inr (Or.inr (Or.inr (Or.inr (Or.inr (Or.inr (Or.inr (Or.inr (Or.inr (Or.inr (Or.inr (Or.inr (Or.inr (Or.inr (Or.inr (Or.inr (Or.inr (Or.inr (Or.inr (Or.inr (Or.inr (Or.inr (Or.inr (Or.inr (Or.inr (Or.inr (Or.inr (Or.inr (Or.inr (Or.inl e))))))))))))))))))))))))))))))))))) (fun h => h.elim (fun e => Or.inr (Or.inr (Or.inr (Or.inr (Or.inr (Or.inr (Or.inr (Or.inr (Or.inr (Or.inr (Or.inr (Or.inr (Or.inr (Or.inr (Or.inr (Or.inr (Or.inr (Or.inr (Or.inr (Or.inr (Or.inr (Or.inr (Or.inr (Or.inr (Or.inr (Or.inr (Or.inr (Or.inr (Or.inr (Or.inr (Or.inr (Or.inr (Or.inr (Or.inr (Or.inr (Or.inl e)))))))))))))))))))))))))))))))))))) (fun e => Or.inr (Or.inr (Or.inr (Or.inr (Or.inr (Or.inr (Or.inr (Or.inr (Or.inr (Or.inr (Or.inr (Or.inr (Or.inr (Or.inr (Or.inr (Or.inr (Or.inr (Or.inr (Or.inr (Or.inr (Or.inr (Or.inr (Or.inr (Or.inr (Or.inr (Or.inr (Or.inr (Or.inr (Or.inr (Or.inr (Or.inr (Or.inr (Or.inr (Or.inr (Or.inr (Or.inr (Or.inl e))))))))))))))))))))))))))))))))))))))))))))))))))))))))))))
theorem mono_Tr_run_2 {o : Nat} : ∀ c j, fp_Tr_askAt c j → fp_Tr_run o c j := fun c j => (fun h => h.elim (fun e => Or.inl e) (fun h => h.elim (fun e => Or.inr (Or.inl e)) (fun h => h.elim (fun e => Or.inr (Or.inr (Or.inl e))) (fun h => h.elim (fun e => Or.inr (Or.inr (Or.inr (Or.inl e)))) (fun h => h.elim (fun e => Or.inr (Or.inr (Or.inr (Or.inr (Or.inl e))))) (fun h => h.elim (fun e => Or.inr (Or.inr (Or.inr (Or.inr (Or.inr (Or.inl e)))))) (fun h => h.elim (fun e => Or.inr (Or.inr (Or.inr (Or.inr (Or.inr (Or.inr (Or.inl e))))))) (fun h => h.elim (fun e => Or.inr (Or.inr (Or.inr (Or.inr (Or.inr (Or.inr (Or.inr (Or.inl e)))))))) (fun h => h.elim (fun e => Or.inr (Or.inr (Or.inr (Or.inr (Or.inr (Or.inr (Or.inr (Or.inr (Or.inl e))))))))) (fun h => h.elim (fun e => Or.inr (Or.inr (Or.inr (Or.inr (Or.inr (Or.inr (Or.inr (Or.inr (Or.inr (Or.inl e)))))))))) (fun h => h.elim (fun e => Or.inr (Or.inr (Or.inr (Or.inr (Or.inr (Or.inr (Or.inr (Or.inr (Or.inr (Or.inr (Or.inl e))))))))))) (fun h => h.elim (fun e => Or.inr (Or.inr (Or.inr (Or.inr (Or.inr (Or.inr (Or.inr (Or.inr (Or.inr (Or.inr (Or.inr (Or.inl e)))))))))))) (fun h => h.elim (fun e => Or.inr (Or.inr (Or.inr (Or.inr (Or.inr (Or.inr (Or.inr (Or.inr (Or.inr (Or.inr (Or.inr (Or.inr (Or.inl e))))))))))))) (fun h => h.elim (fun e => Or.inr (Or.inr (Or.inr (Or.inr (Or.inr (Or.inr (Or.inr (Or.inr (Or.inr (Or.inr (Or.inr (Or.inr (Or.inr (Or.inr (Or.inr (Or.inr (Or.inr (Or.inr (Or.inr (Or.inr (Or.inr (Or.inr (Or.inr (Or.inr (Or.inr (Or.inr (Or.inr (Or.inr (Or.inr (Or.inr (Or.inl e))))))))))))))))))))))))))))))) (fun h => h.elim (fun e => Or.inr (Or.inr (Or.inr (Or.inr (Or.inr (Or.inr (Or.inr (Or.inr (Or.inr (Or.inr (Or.inr (Or.inr (Or.inr (Or.inr (Or.inr (Or.inr (Or.inr (Or.inr (Or.inr (Or.inr (Or.inr (Or.inr (Or.inr (Or.inr (Or.inr (Or.inr (Or.inr (Or.inr (Or.inr (Or.inr (Or.inr (Or.inl e)))))))))))))))))))))))))))))))) (fun h => h.elim (fun e => Or.inr (Or.inr (Or.inr (Or.inr (Or.inr (Or.inr (Or.inr (Or.inr (Or.inr (Or.inr (Or.inr (Or.inr (Or.inr (Or.inr (Or.inr (Or.inr (Or.inr (Or.inr (Or.inr (Or.inr (Or.inr (Or.inr (Or.inr (Or.inr (Or.inr (Or.inr (Or.inr (Or.inr (Or.inr (Or.inr (Or.inr (Or.inr (Or.inl e))))))))))))))))))))))))))))))))) (fun h => h.elim (fun e => Or.inr (Or.inr (Or.inr (Or.inr (Or.inr (Or.inr (Or.inr (Or.inr (Or.inr (Or.inr (Or.inr (Or.inr (Or.inr (Or.inr (Or.inr (Or.inr (Or.inr (Or.inr (Or.inr (Or.inr (Or.inr (Or.inr (Or.inr (Or.inr (Or.inr (Or.inr (Or.inr (Or.inr (Or.inr (Or.inr (Or.inr (Or.inr (Or.inr (Or.inl e)))))))))))))))))))))))))))))))))) (fun h => h.elim (fun e => Or.inr (Or.inr (Or.inr (Or.inr (Or.inr (Or.inr (Or.inr (Or.inr (Or.inr (Or.inr (Or.inr (Or.inr (Or.inr (Or.inr (Or.inr (Or.inr (Or.inr (Or.inr (Or.inr (Or.inr (Or.inr (Or.inr (Or.inr (Or.inr (Or.inr (Or.inr (Or.inr (Or.inr (Or.inr (Or.inr (Or.inr (Or.inr (Or.inr (Or.inr (Or.inl e))))))))))))))))))))))))))))))))))) (fun h => h.elim (fun e => Or.inr (Or.inr (Or.inr (Or.inr (Or.inr (Or.inr (Or.inr (Or.inr (Or.inr (Or.inr (Or.inr (Or.inr (Or.inr (Or.inr (Or.inr (Or.inr (Or.inr (Or.inr (Or.inr (Or.inr (Or.inr (Or.inr (Or.inr (Or.inr (Or.inr (Or.inr (Or.inr (Or.inr (Or.inr (Or.inr (Or.inr (Or.inr (Or.inr (Or.inr (Or.inr (Or.inl e)))))))))))))))))))))))))))))))))))) (fun h => h.elim (fun e => Or.inr (Or.inr (Or.inr (Or.inr (Or.inr (Or.inr (Or.inr (Or.inr (Or.inr (Or.inr (Or.inr (Or.inr (Or.inr (Or.inr (Or.inr (Or.inr (Or.inr (Or.inr (Or.inr (Or.inr (Or.inr (Or.inr (Or.inr (Or.inr (Or.inr (Or.inr (Or.inr (Or.inr (Or.inr (Or.inr (Or.inr (Or.inr (Or.inr (Or.inr (Or.inr (Or.inr (Or.inl e))))))))))))))))))))))))))))))))))))) (fun h => h.elim (fun e => Or.inr (Or.inr (Or.inr (Or.inr (Or.inr (Or.inr (Or.inr (Or.inr (Or.inr (Or.inr (Or.inr (Or.inr (Or.inr (Or.inr (Or.inr (Or.inr (Or.inr (Or.inr (Or.inr (Or.inr (Or.inr (Or.inr (Or.inr (Or.inr (Or.inr (Or.inr (Or.inr (Or.inr (Or.inr (Or.inr (Or.inr (Or.inr (Or.inr (Or.inr (Or.inr (Or.inr (Or.inr (Or.inl e)))))))))))))))))))))))))))))))))))))) (fun h => h.elim (fun e => Or.inr (Or.inr (Or.inr (Or.inr (Or.inr (Or.inr (Or.inr (Or.inr (Or.inr (Or.inr (Or.inr (Or.inr (Or.inr (Or.inr (Or.inr (Or.inr (Or.inr (Or.inr (Or.inr (Or.inr (Or.inr (Or.inr (Or.inr (Or.inr (Or.inr (Or.inr (Or.inr (Or.inr (Or.inr (Or.inr (Or.inr (Or.inr (Or.inr (Or.inr (Or.inr (Or.inr (Or.inr (Or.inr (Or.inl e))))))))))))))))))))))))))))))))))))))) (fun h => h.elim (fun e => Or.inr (Or.inr (Or.inr (Or.inr (Or.inr (Or.inr (Or.inr (Or.inr (Or.inr (Or.inr (Or.inr (Or.inr (Or.inr (Or.inr (Or.inr (Or.inr (Or.inr (Or.inr (Or.inr (Or.inr (Or.inr (Or.inr (Or.inr (Or.inr (Or.inr (Or.inr (Or.inr (Or.inr (Or.inr (Or.inr (Or.inr (Or.inr (Or.inr (Or.inr (Or.inr (Or.inr (Or.inr (Or.inr (Or.inr (Or.inl e)))))))))))))))))))))))))))))))))))))))) (fun h => h.elim (fun e => Or.inr (Or.inr (Or.inr (Or.inr (Or.inr (Or.inr (Or.inr (Or.inr (Or.inr (Or.inr (Or.inr (Or.inr (Or.inr (Or.inr (Or.inr (Or.inr (Or.inr (Or.inr (Or.inr (Or.inr (Or.inr (Or.inr (Or.inr (Or.inr (Or.inr (Or.inr (Or.inr (Or.inr (Or.inr (Or.inr (Or.inr (Or.inr (Or.inr (Or.inr (Or.inr (Or.inr (Or.inr (Or.inr (Or.inr (Or.inr (Or.inl e))))))))))))))))))))))))))))))))))))))))) (fun e => Or.inr (Or.inr (Or.inr (Or.inr (Or.inr (Or.inr (Or.inr (Or.inr (Or.inr (Or.inr (Or.inr (Or.inr (Or.inr (Or.inr (Or.inr (Or.inr (Or.inr (Or.inr (Or.inr (Or.inr (Or.inr (Or.inr (Or.inr (Or.inr (Or.inr (Or.inr (Or.inr (Or.inr (Or.inr (Or.inr (Or.inr (Or.inr (Or.inr (Or.inr (Or.inr (Or.inr (Or.inr (Or.inr (Or.inr (Or.inr (Or.inr (e))))))))))))))))))))))))))))))))))))))))))))))))))))))))))))))))))
theorem mono_Tr_run_3 {o : Nat} : ∀ c j, fp_Tr_endThoseOf c j → fp_Tr_run o c j := fun c j => (fun h => h.elim (fun e => Or.inr (Or.inr (Or.inr (Or.inr (Or.inr (Or.inr (Or.inr (Or.inr (Or.inr (Or.inr (Or.inr (Or.inr (Or.inr (Or.inr (Or.inr (Or.inr (Or.inr (Or.inr (Or.inr (Or.inr (Or.inr (Or.inr (Or.inr (Or.inr (Or.inr (Or.inr (Or.inr (Or.inr (Or.inr (Or.inr (Or.inl e))))))))))))))))))))))))))))))) (fun h => h.elim (fun e => Or.inr (Or.inr (Or.inr (Or.inr (Or.inr (Or.inr (Or.inr (Or.inr (Or.inr (Or.inr (Or.inr (Or.inr (Or.inr (Or.inr (Or.inr (Or.inr (Or.inr (Or.inr (Or.inr (Or.inr (Or.inr (Or.inr (Or.inr (Or.inr (Or.inr (Or.inr (Or.inr (Or.inr (Or.inr (Or.inr (Or.inr (Or.inr (Or.inr (Or.inr (Or.inr (Or.inr (Or.inl e))))))))))))))))))))))))))))))))))))) (fun e => Or.inr (Or.inr (Or.inr (Or.inr (Or.inr (Or.inr (Or.inr (Or.inr (Or.inr (Or.inr (Or.inr (Or.inr (Or.inr (Or.inr (Or.inr (Or.inr (Or.inr (Or.inr (Or.inr (Or.inr (Or.inr (Or.inr (Or.inr (Or.inr (Or.inr (Or.inr (Or.inr (Or.inr (Or.inr (Or.inr (Or.inr (Or.inr (Or.inr (Or.inr (Or.inr (Or.inr (Or.inr (Or.inr (Or.inr (Or.inr (Or.inr (e))))))))))))))))))))))))))))))))))))))))))))
theorem fr_Tr_run_b46 {n : Nat} {c2 : Int32} {c3 : Int32} {c4 : Int32} {v5 : Int32} {M : Mm} {o : Nat} {oo : (Int32 × Mm) ⊕ (Mm)} (h : Tr_run_b46 n c2 c3 c4 v5 M = some oo) : Fr (fp_Tr_run o) M (elS oo (fun s1 => s1.2) (fun x1 => x1)) := by
  unfold Tr_run_b46 at h
  by_cases g0 : c2 ≤ v5
  · have h := (if_pos g0).symm.trans h
    obtain rfl := Option.some.inj h
    try dsimp only [elS]
    repeat' (with_reducible first | exact Fr.rf | refine Fr.I ?_ (by simp [fp_Tr_run]) | refine Fr.L ?_ (by simp [fp_Tr_run]) | refine Fr.cI ?_ (by intro j; simp [fp_Tr_run]) | refine Fr.cL ?_ (by intro j; simp [fp_Tr_run]) | (refine Fr.tr ?_ (Fr.mono (fr_St_clearDemands (by with_reducible assumption)) mono_Tr_run_0); try dsimp only) | (refine Fr.tr ?_ (Fr.mono (fr_St_copy (by with_reducible assumption)) mono_Tr_run_1); try dsimp only) | (refine Fr.tr ?_ (Fr.mono (fr_Tr_askAt (by with_reducible assumption)) mono_Tr_run_2); try dsimp only) | (refine Fr.tr ?_ (Fr.mono (fr_Tr_endThoseOf (by with_reducible assumption)) mono_Tr_run_3); try dsimp only))
  · have h := (if_neg g0).symm.trans h
    obtain ⟨z6, _, h⟩ := bnd_s h
    obtain ⟨z8, _, h⟩ := bnd_s h
    obtain rfl := Option.some.inj h
    try dsimp only [elS]
    repeat' (with_reducible first | exact Fr.rf | refine Fr.I ?_ (by simp [fp_Tr_run]) | refine Fr.L ?_ (by simp [fp_Tr_run]) | refine Fr.cI ?_ (by intro j; simp [fp_Tr_run]) | refine Fr.cL ?_ (by intro j; simp [fp_Tr_run]) | (refine Fr.tr ?_ (Fr.mono (fr_St_clearDemands (by with_reducible assumption)) mono_Tr_run_0); try dsimp only) | (refine Fr.tr ?_ (Fr.mono (fr_St_copy (by with_reducible assumption)) mono_Tr_run_1); try dsimp only) | (refine Fr.tr ?_ (Fr.mono (fr_Tr_askAt (by with_reducible assumption)) mono_Tr_run_2); try dsimp only) | (refine Fr.tr ?_ (Fr.mono (fr_Tr_endThoseOf (by with_reducible assumption)) mono_Tr_run_3); try dsimp only))
theorem frl_Tr_run_b46 {n : Nat} {c2 : Int32} {c3 : Int32} {c4 : Int32}  {o : Nat} {n1 : Nat} {s0 : Int32 × Mm} {y1 : Mm} (h : loop (fun s1 : Int32 × Mm => Tr_run_b46 n c2 c3 c4 s1.1 s1.2) n1 s0 = some y1) : Fr (fp_Tr_run o) s0.2 y1 :=
  loop_inv (P := fun s2 : Int32 × Mm => Fr (fp_Tr_run o) s0.2 s2.2) (E := fun y1 : Mm => Fr (fp_Tr_run o) s0.2 y1) (fun s2 s3 hP hb => hP.tr (fr_Tr_run_b46 hb)) (fun s2 x2 hP hb => hP.tr (fr_Tr_run_b46 hb)) n1 s0 y1 h Fr.rf
theorem fr_Tr_run {n : Nat} {o : Nat} {v2 : Int32} {v3 : Int32} {v4 : Int32} {M : Mm} {oo : Mm} (h : Tr_run n o v2 v3 v4 M = some oo) : Fr (fp_Tr_run o) M oo := by
  unfold Tr_run at h
  obtain ⟨z1, _, h⟩ := bnd_s h
  obtain ⟨z3, _, h⟩ := bnd_s h
  obtain ⟨y10, _, h⟩ := bnd_s h
  obtain rfl := Option.some.inj h
  try dsimp only [elS]
  repeat' (with_reducible first | exact Fr.rf | refine Fr.I ?_ (by simp [fp_Tr_run]) | refine Fr.L ?_ (by simp [fp_Tr_run]) | refine Fr.cI ?_ (by intro j; simp [fp_Tr_run]) | refine Fr.cL ?_ (by intro j; simp [fp_Tr_run]) | (refine Fr.tr ?_ (Fr.mono (fr_St_clearDemands (by with_reducible assumption)) mono_Tr_run_0); try dsimp only) | (refine Fr.tr ?_ (Fr.mono (fr_St_copy (by with_reducible assumption)) mono_Tr_run_1); try dsimp only) | (refine Fr.tr ?_ (Fr.mono (fr_Tr_askAt (by with_reducible assumption)) mono_Tr_run_2); try dsimp only) | (refine Fr.tr ?_ (Fr.mono (fr_Tr_endThoseOf (by with_reducible assumption)) mono_Tr_run_3); try dsimp only) | (refine Fr.tr ?_ (frl_Tr_run_b46 (by with_reducible assumption)); try dsimp only))
theorem mono_Fg_feed_0  : ∀ c j, fp_Tp_append c j → fp_Fg_feed c j := fun c j => (fun h => h.elim (fun e => Or.inl e) (fun e => Or.inr (e)))
theorem fr_Fg_feed {n : Nat} {v1 : Int32} {v2 : Int32} {v3 : Int32} {v4 : Int32} {v5 : Int32} {M : Mm} {oo : Int32 × Mm} (h : Fg_feed n v1 v2 v3 v4 v5 M = some oo) : Fr (fp_Fg_feed) M oo.2 := by
  unfold Fg_feed at h
  by_cases g0 : ((M.1 1 1) + (20 : Int32)) ≤ (240 : Int32)
  · have h := (if_pos g0).symm.trans h
    obtain ⟨z2, _, h⟩ := bnd_s h
    obtain ⟨z4, _, h⟩ := bnd_s h
    obtain ⟨z6, _, h⟩ := bnd_s h
    obtain ⟨z8, _, h⟩ := bnd_s h
    obtain ⟨z10, _, h⟩ := bnd_s h
    obtain rfl := Option.some.inj h
    try dsimp only [elS]
    repeat' (with_reducible first | exact Fr.rf | refine Fr.I ?_ (by simp [fp_Fg_feed]) | refine Fr.L ?_ (by simp [fp_Fg_feed]) | refine Fr.cI ?_ (by intro j; simp [fp_Fg_feed]) | refine Fr.cL ?_ (by intro j; simp [fp_Fg_feed]) | (refine Fr.tr ?_ (Fr.mono (fr_Tp_append (by with_reducible assumption)) mono_Fg_feed_0); try dsimp only))
  · have h := (if_neg g0).symm.trans h
    obtain rfl := Option.some.inj h
    try dsimp only [elS]
    repeat' (with_reducible first | exact Fr.rf | refine Fr.I ?_ (by simp [fp_Fg_feed]) | refine Fr.L ?_ (by simp [fp_Fg_feed]) | refine Fr.cI ?_ (by intro j; simp [fp_Fg_feed]) | refine Fr.cL ?_ (by intro j; simp [fp_Fg_feed]) | (refine Fr.tr ?_ (Fr.mono (fr_Tp_append (by with_reducible assumption)) mono_Fg_feed_0); try dsimp only))
theorem mono_Fg_grid_0  : ∀ c j, fp_Fi_forgetWays c j → fp_Fg_grid c j := fun c j => (fun e => Or.inr (Or.inr (Or.inr (Or.inl e))))
theorem mono_Fg_grid_1  : ∀ c j, fp_Rd_readText c j → fp_Fg_grid c j := fun c j => (fun h => h.elim (fun e => Or.inr (Or.inl e)) (fun h => h.elim (fun e => Or.inr (Or.inr (Or.inl e))) (fun h => h.elim (fun e => Or.inr (Or.inr (Or.inr (Or.inr (Or.inr (Or.inr (Or.inr (Or.inr (Or.inr (Or.inr (Or.inr (Or.inr (Or.inr (Or.inr (Or.inr (Or.inr (Or.inr (Or.inr (Or.inl e))))))))))))))))))) (fun h => h.elim (fun e => Or.inr (Or.inr (Or.inr (Or.inr (Or.inr (Or.inr (Or.inr (Or.inr (Or.inr (Or.inr (Or.inr (Or.inr (Or.inr (Or.inr (Or.inr (Or.inr (Or.inr (Or.inr (Or.inr (Or.inl e)))))))))))))))))))) (fun h => h.elim (fun e => Or.inr (Or.inr (Or.inr (Or.inr (Or.inr (Or.inr (Or.inr (Or.inr (Or.inr (Or.inr (Or.inr (Or.inr (Or.inr (Or.inr (Or.inr (Or.inr (Or.inr (Or.inr (Or.inr (Or.inr (Or.inl e))))))))))))))))))))) (fun h => h.elim (fun e => Or.inr (Or.inr (Or.inr (Or.inr (Or.inr (Or.inr (Or.inr (Or.inr (Or.inr (Or.inr (Or.inr (Or.inr (Or.inr (Or.inr (Or.inr (Or.inr (Or.inr (Or.inr (Or.inr (Or.inr (Or.inr (Or.inl e)))))))))))))))))))))) (fun h => h.elim (fun e => Or.inr (Or.inr (Or.inr (Or.inr (Or.inr (Or.inr (Or.inr (Or.inr (Or.inr (Or.inr (Or.inr (Or.inr (Or.inr (Or.inr (Or.inr (Or.inr (Or.inr (Or.inr (Or.inr (Or.inr (Or.inr (Or.inr (Or.inl e))))))))))))))))))))))) (fun h => h.elim (fun e => Or.inr (Or.inr (Or.inr (Or.inr (Or.inr (Or.inr (Or.inr (Or.inr (Or.inr (Or.inr (Or.inr (Or.inr (Or.inr (Or.inr (Or.inr (Or.inr (Or.inr (Or.inr (Or.inr (Or.inr (Or.inr (Or.inr (Or.inr (Or.inr (Or.inl e))))))))))))))))))))))))) (fun h => h.elim (fun e => Or.inr (Or.inr (Or.inr (Or.inr (Or.inr (Or.inr (Or.inr (Or.inr (Or.inr (Or.inr (Or.inr (Or.inr (Or.inr (Or.inr (Or.inr (Or.inr (Or.inr (Or.inr (Or.inr (Or.inr (Or.inr (Or.inr (Or.inr (Or.inr (Or.inr (Or.inl e)))))))))))))))))))))))))) (fun h => h.elim (fun e => Or.inr (Or.inr (Or.inr (Or.inr (Or.inr (Or.inr (Or.inr (Or.inr (Or.inr (Or.inr (Or.inr (Or.inr (Or.inr (Or.inr (Or.inr (Or.inr (Or.inr (Or.inr (Or.inr (Or.inr (Or.inr (Or.inr (Or.inr (Or.inr (Or.inr (Or.inr (Or.inl e))))))))))))))))))))))))))) (fun h => h.elim (fun e => Or.inr (Or.inr (Or.inr (Or.inr (Or.inr (Or.inr (Or.inr (Or.inr (Or.inr (Or.inr (Or.inr (Or.inr (Or.inr (Or.inr (Or.inr (Or.inr (Or.inr (Or.inr (Or.inr (Or.inr (Or.inr (Or.inr (Or.inr (Or.inr (Or.inr (Or.inr (Or.inr (Or.inl e)))))))))))))))))))))))))))) (fun h => h.elim (fun e => Or.inr (Or.inr (Or.inr (Or.inr (Or.inr (Or.inr (Or.inr (Or.inr (Or.inr (Or.inr (Or.inr (Or.inr (Or.inr (Or.inr (Or.inr (Or.inr (Or.inr (Or.inr (Or.inr (Or.inr (Or.inr (Or.inr (Or.inr (Or.inr (Or.inr (Or.inr (Or.inr (Or.inr (Or.inl e))))))))))))))))))))))))))))) (fun h => h.elim (fun e => Or.inr (Or.inr (Or.inr (Or.inr (Or.inr (Or.inr (Or.inr (Or.inr (Or.inr (Or.inr (Or.inr (Or.inr (Or.inr (Or.inr (Or.inr (Or.inr (Or.inr (Or.inr (Or.inr (Or.inr (Or.inr (Or.inr (Or.inr (Or.inr (Or.inr (Or.inr (Or.inr (Or.inr (Or.inr (Or.inl e)))))))))))))))))))))))))))))) (fun h => h.elim (fun e => Or.inr (Or.inr (Or.inr (Or.inr (Or.inr (Or.inr (Or.inr (Or.inr (Or.inr (Or.inr (Or.inr (Or.inr (Or.inr (Or.inr (Or.inr (Or.inr (Or.inr (Or.inr (Or.inr (Or.inr (Or.inr (Or.inr (Or.inr (Or.inr (Or.inr (Or.inr (Or.inr (Or.inr (Or.inr (Or.inr (Or.inl e))))))))))))))))))))))))))))))) (fun h => h.elim (fun e => Or.inr (Or.inr (Or.inr (Or.inr (Or.inr (Or.inr (Or.inr (Or.inr (Or.inr (Or.inr (Or.inr (Or.inr (Or.inr (Or.inr (Or.inr (Or.inr (Or.inr (Or.inr (Or.inr (Or.inr (Or.inr (Or.inr (Or.inr (Or.inr (Or.inr (Or.inr (Or.inr (Or.inr (Or.inr (Or.inr (Or.inr (Or.inl e)))))))))))))))))))))))))))))))) (fun h => h.elim (fun e => Or.inr (Or.inr (Or.inr (Or.inr (Or.inr (Or.inr (Or.inr (Or.inr (Or.inr (Or.inr (Or.inr (Or.inr (Or.inr (Or.inr (Or.inr (Or.inr (Or.inr (Or.inr (Or.inr (Or.inr (Or.inr (Or.inr (Or.inr (Or.inr (Or.inr (Or.inr (Or.inr (Or.inr (Or.inr (Or.inr (Or.inr (Or.inr (Or.inl e))))))))))))))))))))))))))))))))) (fun e => Or.inr (Or.inr (Or.inr (Or.inr (Or.inr (Or.inr (Or.inr (Or.inr (Or.inr (Or.inr (Or.inr (Or.inr (Or.inr (Or.inr (Or.inr (Or.inr (Or.inr (Or.inr (Or.inr (Or.inr (Or.inr (Or.inr (Or.inr (Or.inr (Or.inr (Or.inr (Or.inr (Or.inr (Or.inr (Or.inr (Or.inr (Or.inr (Or.inr (e))))))))))))))))))))))))))))))))))))))))))))))))))
theorem mono_Fg_grid_2  : ∀ c j, fp_St_beginWith 18 4 c j → fp_Fg_grid c j := fun c j => (fun h => h.elim (fun e => Or.inr (Or.inr (Or.inr (Or.inr (Or.inl e))))) (fun h => h.elim (fun e => Or.inr (Or.inr (Or.inr (Or.inr (Or.inr (Or.inl e)))))) (fun h => h.elim (fun e => Or.inr (Or.inr (Or.inr (Or.inr (Or.inr (Or.inr (Or.inl e))))))) (fun h => h.elim (fun e => Or.inr (Or.inr (Or.inr (Or.inr (Or.inr (Or.inr (Or.inr (Or.inl e)))))))) (fun h => h.elim (fun e => Or.inr (Or.inr (Or.inr (Or.inr (Or.inr (Or.inr (Or.inr (Or.inr (Or.inl e))))))))) (fun h => h.elim (fun e => Or.inr (Or.inr (Or.inr (Or.inr (Or.inr (Or.inr (Or.inr (Or.inr (Or.inr (Or.inl e)))))))))) (fun h => h.elim (fun e => Or.inr (Or.inr (Or.inr (Or.inr (Or.inr (Or.inr (Or.inr (Or.inr (Or.inr (Or.inr (Or.inl e))))))))))) (fun h => h.elim (fun e => Or.inr (Or.inr (Or.inr (Or.inr (Or.inr (Or.inr (Or.inr (Or.inr (Or.inr (Or.inr (Or.inr (Or.inl e)))))))))))) (fun h => h.elim (fun e => Or.inr (Or.inr (Or.inr (Or.inr (Or.inr (Or.inr (Or.inr (Or.inr (Or.inr (Or.inr (Or.inr (Or.inr (Or.inl e))))))))))))) (fun h => h.elim (fun e => Or.inr (Or.inr (Or.inr (Or.inr (Or.inr (Or.inr (Or.inr (Or.inr (Or.inr (Or.inr (Or.inr (Or.inr (Or.inr (Or.inl e)))))))))))))) (fun h => h.elim (fun e => Or.inr (Or.inr (Or.inr (Or.inr (Or.inr (Or.inr (Or.inr (Or.inr (Or.inr (Or.inr (Or.inr (Or.inr (Or.inr (Or.inr (Or.inl e))))))))))))))) (fun h => h.elim (fun e => Or.inr (Or.inr (Or.inr (Or.inr (Or.inr (Or.inr (Or.inr (Or.inr (Or.inr (Or.inr (Or.inr (Or.inr (Or.inr (Or.inr (Or.inr (Or.inl e)))))))))))))))) (fun h => h.elim (fun e => Or.inr (Or.inr (Or.inr (Or.inr (Or.inr (Or.inr (Or.inr (Or.inr (Or.inr (Or.inr (Or.inr (Or.inr (Or.inr (Or.inr (Or.inr (Or.inr (Or.inl e))))))))))))))))) (fun h => h.elim (fun e => Or.inr (Or.inr (Or.inr (Or.inr (Or.inr (Or.inr (Or.inr (Or.inr (Or.inr (Or.inr (Or.inr (Or.inr (Or.inr (Or.inr (Or.inr (Or.inr (Or.inr (Or.inl e)))))))))))))))))) (fun e => Or.inr (Or.inr (Or.inr (Or.inr (Or.inr (Or.inr (Or.inr (Or.inr (Or.inr (Or.inr (Or.inr (Or.inr (Or.inr (Or.inr (Or.inr (Or.inr (Or.inr (Or.inr (Or.inr (Or.inr (Or.inr (Or.inr (Or.inr (Or.inl e))))))))))))))))))))))))))))))))))))))
theorem fr_Fg_grid {n : Nat} {v1 : Int32} {M : Mm} {oo : Int32 × Mm} (h : Fg_grid n v1 M = some oo) : Fr (fp_Fg_grid) M oo.2 := by
  unfold Fg_grid at h
  obtain ⟨z1, _, h⟩ := bnd_s h
  by_cases g0 : z1 = true
  · have h := (if_pos g0).symm.trans h
    obtain ⟨z4, _, h⟩ := bnd_s h
    by_cases g0 : z4.1 < (0 : Int32)
    · have h := (if_pos g0).symm.trans h
      obtain rfl := Option.some.inj h
      try dsimp only [elS]
      repeat' (with_reducible first | exact Fr.rf | refine Fr.I ?_ (by simp [fp_Fg_grid]) | refine Fr.L ?_ (by simp [fp_Fg_grid]) | refine Fr.cI ?_ (by intro j; simp [fp_Fg_grid]) | refine Fr.cL ?_ (by intro j; simp [fp_Fg_grid]) | (refine Fr.tr ?_ (Fr.mono (fr_Fi_forgetWays (by with_reducible assumption)) mono_Fg_grid_0); try dsimp only) | (refine Fr.tr ?_ (Fr.mono (fr_Rd_readText (by with_reducible assumption)) mono_Fg_grid_1); try dsimp only) | (refine Fr.tr ?_ (Fr.mono (fr_St_beginWith (by with_reducible assumption)) mono_Fg_grid_2); try dsimp only))
    · have h := (if_neg g0).symm.trans h
      obtain ⟨z7, _, h⟩ := bnd_s h
      obtain ⟨z9, _, h⟩ := bnd_s h
      obtain rfl := Option.some.inj h
      try dsimp only [elS]
      repeat' (with_reducible first | exact Fr.rf | refine Fr.I ?_ (by simp [fp_Fg_grid]) | refine Fr.L ?_ (by simp [fp_Fg_grid]) | refine Fr.cI ?_ (by intro j; simp [fp_Fg_grid]) | refine Fr.cL ?_ (by intro j; simp [fp_Fg_grid]) | (refine Fr.tr ?_ (Fr.mono (fr_Fi_forgetWays (by with_reducible assumption)) mono_Fg_grid_0); try dsimp only) | (refine Fr.tr ?_ (Fr.mono (fr_Rd_readText (by with_reducible assumption)) mono_Fg_grid_1); try dsimp only) | (refine Fr.tr ?_ (Fr.mono (fr_St_beginWith (by with_reducible assumption)) mono_Fg_grid_2); try dsimp only))
  · have h := (if_neg g0).symm.trans h
    obtain rfl := Option.some.inj h
    try dsimp only [elS]
    repeat' (with_reducible first | exact Fr.rf | refine Fr.I ?_ (by simp [fp_Fg_grid]) | refine Fr.L ?_ (by simp [fp_Fg_grid]) | refine Fr.cI ?_ (by intro j; simp [fp_Fg_grid]) | refine Fr.cL ?_ (by intro j; simp [fp_Fg_grid]) | (refine Fr.tr ?_ (Fr.mono (fr_Fi_forgetWays (by with_reducible assumption)) mono_Fg_grid_0); try dsimp only) | (refine Fr.tr ?_ (Fr.mono (fr_Rd_readText (by with_reducible assumption)) mono_Fg_grid_1); try dsimp only) | (refine Fr.tr ?_ (Fr.mono (fr_St_beginWith (by with_reducible assumption)) mono_Fg_grid_2); try dsimp only))
theorem mono_Fg_ask_0  : ∀ c j, fp_Fi_find 18 c j → fp_Fg_ask c j := fun c j => (fun h => h.elim (fun e => Or.inl e) (fun h => h.elim (fun e => Or.inr (Or.inl e)) (fun h => h.elim (fun e => Or.inr (Or.inr (Or.inl e))) (fun h => h.elim (fun e => Or.inr (Or.inr (Or.inr (Or.inl e)))) (fun h => h.elim (fun e => Or.inr (Or.inr (Or.inr (Or.inr (Or.inl e))))) (fun h => h.elim (fun e => Or.inr (Or.inr (Or.inr (Or.inr (Or.inr (Or.inl e)))))) (fun h => h.elim (fun e => Or.inr (Or.inr (Or.inr (Or.inr (Or.inr (Or.inr (Or.inl e))))))) (fun h => h.elim (fun e => Or.inr (Or.inr (Or.inr (Or.inr (Or.inr (Or.inr (Or.inr (Or.inl e)))))))) (fun h => h.elim (fun e => Or.inr (Or.inr (Or.inr (Or.inr (Or.inr (Or.inr (Or.inr (Or.inr (Or.inl e))))))))) (fun h => h.elim (fun e => Or.inr (Or.inr (Or.inr (Or.inr (Or.inr (Or.inr (Or.inr (Or.inr (Or.inr (Or.inl e)))))))))) (fun h => h.elim (fun e => Or.inr (Or.inr (Or.inr (Or.inr (Or.inr (Or.inr (Or.inr (Or.inr (Or.inr (Or.inr (Or.inl e))))))))))) (fun h => h.elim (fun e => Or.inr (Or.inr (Or.inr (Or.inr (Or.inr (Or.inr (Or.inr (Or.inr (Or.inr (Or.inr (Or.inr (Or.inl e)))))))))))) (fun e => Or.inr (Or.inr (Or.inr (Or.inr (Or.inr (Or.inr (Or.inr (Or.inr (Or.inr (Or.inr (Or.inr (Or.inr (Or.inl e)))))))))))))))))))))))))
theorem mono_Fg_ask_1  : ∀ c j, fp_St_add 18 c j → fp_Fg_ask c j := fun c j => (fun h => h.elim (fun e => Or.inr (Or.inr (Or.inr (Or.inr (Or.inr (Or.inr (Or.inr (Or.inr (Or.inr (Or.inr (Or.inr (Or.inr (Or.inr (Or.inl e)))))))))))))) (fun h => h.elim (fun e => Or.inr (Or.inr (Or.inr (Or.inr (Or.inr (Or.inr (Or.inr (Or.inr (Or.inr (Or.inr (Or.inr (Or.inr (Or.inr (Or.inr (Or.inl e))))))))))))))) (fun h => h.elim (fun e => Or.inr (Or.inr (Or.inr (Or.inr (Or.inr (Or.inr (Or.inr (Or.inr (Or.inr (Or.inr (Or.inr (Or.inr (Or.inr (Or.inr (Or.inr (Or.inl e)))))))))))))))) (fun h => h.elim (fun e => Or.inr (Or.inr (Or.inr (Or.inr (Or.inr (Or.inr (Or.inr (Or.inr (Or.inr (Or.inr (Or.inr (Or.inr (Or.inr (Or.inr (Or.inr (Or.inr (Or.inl e))))))))))))))))) (fun h => h.elim (fun e => Or.inr (Or.inr (Or.inr (Or.inr (Or.inr (Or.inr (Or.inr (Or.inr (Or.inr (Or.inr (Or.inr (Or.inr (Or.inr (Or.inr (Or.inr (Or.inr (Or.inr (Or.inl e)))))))))))))))))) (fun e => Or.inr (Or.inr (Or.inr (Or.inr (Or.inr (Or.inr (Or.inr (Or.inr (Or.inr (Or.inr (Or.inr (Or.inr (Or.inr (Or.inr (Or.inr (Or.inr (Or.inr (Or.inr (Or.inl e))))))))))))))))))))))))
theorem mono_Fg_ask_2  : ∀ c j, fp_St_put 18 c j → fp_Fg_ask c j := fun c j => (fun h => h.elim (fun e => Or.inr (Or.inr (Or.inr (Or.inr (Or.inr (Or.inr (Or.inr (Or.inr (Or.inr (Or.inr (Or.inr (Or.inr (Or.inr (Or.inr (Or.inr (Or.inr (Or.inr (Or.inl e)))))))))))))))))) (fun h => h.elim (fun e => Or.inr (Or.inr (Or.inr (Or.inr (Or.inr (Or.inr (Or.inr (Or.inr (Or.inr (Or.inr (Or.inr (Or.inr (Or.inr (Or.inr (Or.inr (Or.inr (Or.inr (Or.inr (Or.inr (Or.inl e)))))))))))))))))))) (fun h => h.elim (fun e => Or.inr (Or.inr (Or.inr (Or.inr (Or.inr (Or.inr (Or.inr (Or.inr (Or.inr (Or.inr (Or.inr (Or.inr (Or.inr (Or.inr (Or.inr (Or.inr (Or.inr (Or.inr (Or.inr (Or.inr (Or.inl e))))))))))))))))))))) (fun h => h.elim (fun e => Or.inr (Or.inr (Or.inr (Or.inr (Or.inr (Or.inr (Or.inr (Or.inr (Or.inr (Or.inr (Or.inr (Or.inr (Or.inr (Or.inr (Or.inr (Or.inr (Or.inr (Or.inr (Or.inr (Or.inr (Or.inr (Or.inl e)))))))))))))))))))))) (fun h => h.elim (fun e => Or.inr (Or.inr (Or.inr (Or.inr (Or.inr (Or.inr (Or.inr (Or.inr (Or.inr (Or.inr (Or.inr (Or.inr (Or.inr (Or.inr (Or.inr (Or.inr (Or.inr (Or.inr (Or.inr (Or.inr (Or.inr (Or.inr (Or.inl e))))))))))))))))))))))) (fun e => Or.inr (Or.inr (Or.inr (Or.inr (Or.inr (Or.inr (Or.inr (Or.inr (Or.inr (Or.inr (Or.inr (Or.inr (Or.inr (Or.inr (Or.inr (Or.inr (Or.inr (Or.inr (Or.inr (Or.inr (Or.inr (Or.inr (Or.inr (e)))))))))))))))))))))))))))))
theorem fr_Fg_ask {n : Nat} {v1 : Int32} {v2 : Int32} {v3 : Int32} {v4 : Int32} {M : Mm} {oo : Int32 × Mm} (h : Fg_ask n v1 v2 v3 v4 M = some oo) : Fr (fp_Fg_ask) M oo.2 := by
  unfold Fg_ask at h
  obtain ⟨z1, _, h⟩ := bnd_s h
  by_cases g0 : z1 = true
  · have h := (if_pos g0).symm.trans h
    obtain ⟨z4, _, h⟩ := bnd_s h
    by_cases g0 : z4 = true
    · have h := (if_pos g0).symm.trans h
      by_cases g0 : (M.1 18 4) < (40 : Int32)
      · have h := (if_pos g0).symm.trans h
        obtain ⟨z8, _, h⟩ := bnd_s h
        obtain ⟨z10, _, h⟩ := bnd_s h
        by_cases g0 : z10.1 = true
        · have h := (if_pos g0).symm.trans h
          obtain ⟨z13, _, h⟩ := bnd_s h
          obtain rfl := Option.some.inj h
          try dsimp only [elS]
          repeat' (with_reducible first | exact Fr.rf | refine Fr.I ?_ (by simp [fp_Fg_ask]) | refine Fr.L ?_ (by simp [fp_Fg_ask]) | refine Fr.cI ?_ (by intro j; simp [fp_Fg_ask]) | refine Fr.cL ?_ (by intro j; simp [fp_Fg_ask]) | (refine Fr.tr ?_ (Fr.mono (fr_Fi_find (by with_reducible assumption)) mono_Fg_ask_0); try dsimp only) | (refine Fr.tr ?_ (Fr.mono (fr_St_add (by with_reducible assumption)) mono_Fg_ask_1); try dsimp only) | (refine Fr.tr ?_ (Fr.mono (fr_St_put (by with_reducible assumption)) mono_Fg_ask_2); try dsimp only))
        · have h := (if_neg g0).symm.trans h
          obtain rfl := Option.some.inj h
          try dsimp only [elS]
          repeat' (with_reducible first | exact Fr.rf | refine Fr.I ?_ (by simp [fp_Fg_ask]) | refine Fr.L ?_ (by simp [fp_Fg_ask]) | refine Fr.cI ?_ (by intro j; simp [fp_Fg_ask]) | refine Fr.cL ?_ (by intro j; simp [fp_Fg_ask]) | (refine Fr.tr ?_ (Fr.mono (fr_Fi_find (by with_reducible assumption)) mono_Fg_ask_0); try dsimp only) | (refine Fr.tr ?_ (Fr.mono (fr_St_add (by with_reducible assumption)) mono_Fg_ask_1); try dsimp only) | (refine Fr.tr ?_ (Fr.mono (fr_St_put (by with_reducible assumption)) mono_Fg_ask_2); try dsimp only))
      · have h := (if_neg g0).symm.trans h
        obtain rfl := Option.some.inj h
        try dsimp only [elS]
        repeat' (with_reducible first | exact Fr.rf | refine Fr.I ?_ (by simp [fp_Fg_ask]) | refine Fr.L ?_ (by simp [fp_Fg_ask]) | refine Fr.cI ?_ (by intro j; simp [fp_Fg_ask]) | refine Fr.cL ?_ (by intro j; simp [fp_Fg_ask]) | (refine Fr.tr ?_ (Fr.mono (fr_Fi_find (by with_reducible assumption)) mono_Fg_ask_0); try dsimp only) | (refine Fr.tr ?_ (Fr.mono (fr_St_add (by with_reducible assumption)) mono_Fg_ask_1); try dsimp only) | (refine Fr.tr ?_ (Fr.mono (fr_St_put (by with_reducible assumption)) mono_Fg_ask_2); try dsimp only))
    · have h := (if_neg g0).symm.trans h
      obtain rfl := Option.some.inj h
      try dsimp only [elS]
      repeat' (with_reducible first | exact Fr.rf | refine Fr.I ?_ (by simp [fp_Fg_ask]) | refine Fr.L ?_ (by simp [fp_Fg_ask]) | refine Fr.cI ?_ (by intro j; simp [fp_Fg_ask]) | refine Fr.cL ?_ (by intro j; simp [fp_Fg_ask]) | (refine Fr.tr ?_ (Fr.mono (fr_Fi_find (by with_reducible assumption)) mono_Fg_ask_0); try dsimp only) | (refine Fr.tr ?_ (Fr.mono (fr_St_add (by with_reducible assumption)) mono_Fg_ask_1); try dsimp only) | (refine Fr.tr ?_ (Fr.mono (fr_St_put (by with_reducible assumption)) mono_Fg_ask_2); try dsimp only))
  · have h := (if_neg g0).symm.trans h
    obtain rfl := Option.some.inj h
    try dsimp only [elS]
    repeat' (with_reducible first | exact Fr.rf | refine Fr.I ?_ (by simp [fp_Fg_ask]) | refine Fr.L ?_ (by simp [fp_Fg_ask]) | refine Fr.cI ?_ (by intro j; simp [fp_Fg_ask]) | refine Fr.cL ?_ (by intro j; simp [fp_Fg_ask]) | (refine Fr.tr ?_ (Fr.mono (fr_Fi_find (by with_reducible assumption)) mono_Fg_ask_0); try dsimp only) | (refine Fr.tr ?_ (Fr.mono (fr_St_add (by with_reducible assumption)) mono_Fg_ask_1); try dsimp only) | (refine Fr.tr ?_ (Fr.mono (fr_St_put (by with_reducible assumption)) mono_Fg_ask_2); try dsimp only))
theorem mono_Fg_cut_0  : ∀ c j, fp_St_sever 18 c j → fp_Fg_cut c j := fun c j => (fun h => h.elim (fun e => Or.inl e) (fun h => h.elim (fun e => Or.inr (Or.inl e)) (fun e => Or.inr (Or.inr (e)))))
theorem fr_Fg_cut {n : Nat} {v1 : Int32} {M : Mm} {oo : Int32 × Mm} (h : Fg_cut n v1 M = some oo) : Fr (fp_Fg_cut) M oo.2 := by
  unfold Fg_cut at h
  obtain ⟨z1, _, h⟩ := bnd_s h
  by_cases g0 : z1 = true
  · have h := (if_pos g0).symm.trans h
    obtain ⟨z4, _, h⟩ := bnd_s h
    by_cases g0 : z4 = true
    · have h := (if_pos g0).symm.trans h
      obtain ⟨z7, _, h⟩ := bnd_s h
      obtain rfl := Option.some.inj h
      try dsimp only [elS]
      repeat' (with_reducible first | exact Fr.rf | refine Fr.I ?_ (by simp [fp_Fg_cut]) | refine Fr.L ?_ (by simp [fp_Fg_cut]) | refine Fr.cI ?_ (by intro j; simp [fp_Fg_cut]) | refine Fr.cL ?_ (by intro j; simp [fp_Fg_cut]) | (refine Fr.tr ?_ (Fr.mono (fr_St_sever (by with_reducible assumption)) mono_Fg_cut_0); try dsimp only))
    · have h := (if_neg g0).symm.trans h
      obtain rfl := Option.some.inj h
      try dsimp only [elS]
      repeat' (with_reducible first | exact Fr.rf | refine Fr.I ?_ (by simp [fp_Fg_cut]) | refine Fr.L ?_ (by simp [fp_Fg_cut]) | refine Fr.cI ?_ (by intro j; simp [fp_Fg_cut]) | refine Fr.cL ?_ (by intro j; simp [fp_Fg_cut]) | (refine Fr.tr ?_ (Fr.mono (fr_St_sever (by with_reducible assumption)) mono_Fg_cut_0); try dsimp only))
  · have h := (if_neg g0).symm.trans h
    obtain rfl := Option.some.inj h
    try dsimp only [elS]
    repeat' (with_reducible first | exact Fr.rf | refine Fr.I ?_ (by simp [fp_Fg_cut]) | refine Fr.L ?_ (by simp [fp_Fg_cut]) | refine Fr.cI ?_ (by intro j; simp [fp_Fg_cut]) | refine Fr.cL ?_ (by intro j; simp [fp_Fg_cut]) | (refine Fr.tr ?_ (Fr.mono (fr_St_sever (by with_reducible assumption)) mono_Fg_cut_0); try dsimp only))
theorem mono_Fg_drop_0  : ∀ c j, fp_St_takeOff 18 c j → fp_Fg_drop c j := fun c j => (fun h => h.elim (fun e => Or.inl e) (fun e => Or.inr (e)))
theorem fr_Fg_drop {n : Nat} {v1 : Int32} {M : Mm} {oo : Bool × Mm} (h : Fg_drop n v1 M = some oo) : Fr (fp_Fg_drop) M oo.2 := by
  unfold Fg_drop at h
  obtain ⟨z1, _, h⟩ := bnd_s h
  by_cases g0 : z1 = true
  · have h := (if_pos g0).symm.trans h
    obtain ⟨_, h⟩ := grd_s h
    by_cases g0 : (M.1 28 (tn v1)) = (3 : Int32)
    · have h := (if_pos g0).symm.trans h
      obtain rfl := Option.some.inj h
      try dsimp only [elS]
      repeat' (with_reducible first | exact Fr.rf | refine Fr.I ?_ (by simp [fp_Fg_drop]) | refine Fr.L ?_ (by simp [fp_Fg_drop]) | refine Fr.cI ?_ (by intro j; simp [fp_Fg_drop]) | refine Fr.cL ?_ (by intro j; simp [fp_Fg_drop]) | (refine Fr.tr ?_ (Fr.mono (fr_St_takeOff (by with_reducible assumption)) mono_Fg_drop_0); try dsimp only))
    · have h := (if_neg g0).symm.trans h
      obtain ⟨z6, _, h⟩ := bnd_s h
      obtain rfl := Option.some.inj h
      try dsimp only [elS]
      repeat' (with_reducible first | exact Fr.rf | refine Fr.I ?_ (by simp [fp_Fg_drop]) | refine Fr.L ?_ (by simp [fp_Fg_drop]) | refine Fr.cI ?_ (by intro j; simp [fp_Fg_drop]) | refine Fr.cL ?_ (by intro j; simp [fp_Fg_drop]) | (refine Fr.tr ?_ (Fr.mono (fr_St_takeOff (by with_reducible assumption)) mono_Fg_drop_0); try dsimp only))
  · have h := (if_neg g0).symm.trans h
    obtain rfl := Option.some.inj h
    try dsimp only [elS]
    repeat' (with_reducible first | exact Fr.rf | refine Fr.I ?_ (by simp [fp_Fg_drop]) | refine Fr.L ?_ (by simp [fp_Fg_drop]) | refine Fr.cI ?_ (by intro j; simp [fp_Fg_drop]) | refine Fr.cL ?_ (by intro j; simp [fp_Fg_drop]) | (refine Fr.tr ?_ (Fr.mono (fr_St_takeOff (by with_reducible assumption)) mono_Fg_drop_0); try dsimp only))
theorem mono_Fg_jump_0  : ∀ c j, fp_St_move 18 c j → fp_Fg_jump c j := fun c j => (fun h => h.elim (fun e => Or.inl e) (fun h => h.elim (fun e => Or.inr (Or.inl e)) (fun h => h.elim (fun e => Or.inr (Or.inr (Or.inl e))) (fun h => h.elim (fun e => Or.inr (Or.inr (Or.inr (Or.inl e)))) (fun h => h.elim (fun e => Or.inr (Or.inr (Or.inr (Or.inr (Or.inl e))))) (fun e => Or.inr (Or.inr (Or.inr (Or.inr (Or.inr (e)))))))))))
theorem fr_Fg_jump_j29 {M : Mm} {oo : Int32 × Mm} (h : Fg_jump_j29 M = some oo) : Fr (fp_Fg_jump) M oo.2 := by
  unfold Fg_jump_j29 at h
  obtain rfl := Option.some.inj h
  try dsimp only [elS]
  repeat' (with_reducible first | exact Fr.rf | refine Fr.I ?_ (by simp [fp_Fg_jump]) | refine Fr.L ?_ (by simp [fp_Fg_jump]) | refine Fr.cI ?_ (by intro j; simp [fp_Fg_jump]) | refine Fr.cL ?_ (by intro j; simp [fp_Fg_jump]) | (refine Fr.tr ?_ (Fr.mono (fr_St_move (by with_reducible assumption)) mono_Fg_jump_0); try dsimp only))
theorem fr_Fg_jump {n : Nat} {v1 : Int32} {v2 : Int32} {M : Mm} {oo : Int32 × Mm} (h : Fg_jump n v1 v2 M = some oo) : Fr (fp_Fg_jump) M oo.2 := by
  unfold Fg_jump at h
  obtain ⟨z1, _, h⟩ := bnd_s h
  by_cases g0 : z1 = true
  · have h := (if_pos g0).symm.trans h
    by_cases g0 : v2 < (0 : Int32)
    · have h := (if_pos g0).symm.trans h
      refine Fr.tr ?_ (fr_Fg_jump_j29 h)
      try dsimp only [elS]
      repeat' (with_reducible first | exact Fr.rf | refine Fr.I ?_ (by simp [fp_Fg_jump]) | refine Fr.L ?_ (by simp [fp_Fg_jump]) | refine Fr.cI ?_ (by intro j; simp [fp_Fg_jump]) | refine Fr.cL ?_ (by intro j; simp [fp_Fg_jump]) | (refine Fr.tr ?_ (Fr.mono (fr_St_move (by with_reducible assumption)) mono_Fg_jump_0); try dsimp only))
    · have h := (if_neg g0).symm.trans h
      by_cases g0 : v2 < (M.1 19 1)
      · have h := (if_pos g0).symm.trans h
        obtain ⟨_, h⟩ := grd_s h
        by_cases g0 : (v2 + (M.1 32 (tn v1))) ≤ (M.1 19 1)
        · have h := (if_pos g0).symm.trans h
          obtain ⟨z8, _, h⟩ := bnd_s h
          by_cases g0 : ((lushr z8 v2) &&& (1 : Int64)) = (0 : Int64)
          · have h := (if_pos g0).symm.trans h
            obtain rfl := Option.some.inj h
            try dsimp only [elS]
            repeat' (with_reducible first | exact Fr.rf | refine Fr.I ?_ (by simp [fp_Fg_jump]) | refine Fr.L ?_ (by simp [fp_Fg_jump]) | refine Fr.cI ?_ (by intro j; simp [fp_Fg_jump]) | refine Fr.cL ?_ (by intro j; simp [fp_Fg_jump]) | (refine Fr.tr ?_ (Fr.mono (fr_St_move (by with_reducible assumption)) mono_Fg_jump_0); try dsimp only))
          · have h := (if_neg g0).symm.trans h
            obtain ⟨_, h⟩ := grd_s h
            obtain ⟨_, h⟩ := grd_s h
            obtain ⟨z13, _, h⟩ := bnd_s h
            obtain rfl := Option.some.inj h
            try dsimp only [elS]
            repeat' (with_reducible first | exact Fr.rf | refine Fr.I ?_ (by simp [fp_Fg_jump]) | refine Fr.L ?_ (by simp [fp_Fg_jump]) | refine Fr.cI ?_ (by intro j; simp [fp_Fg_jump]) | refine Fr.cL ?_ (by intro j; simp [fp_Fg_jump]) | (refine Fr.tr ?_ (Fr.mono (fr_St_move (by with_reducible assumption)) mono_Fg_jump_0); try dsimp only))
        · have h := (if_neg g0).symm.trans h
          obtain rfl := Option.some.inj h
          try dsimp only [elS]
          repeat' (with_reducible first | exact Fr.rf | refine Fr.I ?_ (by simp [fp_Fg_jump]) | refine Fr.L ?_ (by simp [fp_Fg_jump]) | refine Fr.cI ?_ (by intro j; simp [fp_Fg_jump]) | refine Fr.cL ?_ (by intro j; simp [fp_Fg_jump]) | (refine Fr.tr ?_ (Fr.mono (fr_St_move (by with_reducible assumption)) mono_Fg_jump_0); try dsimp only))
      · have h := (if_neg g0).symm.trans h
        refine Fr.tr ?_ (fr_Fg_jump_j29 h)
        try dsimp only [elS]
        repeat' (with_reducible first | exact Fr.rf | refine Fr.I ?_ (by simp [fp_Fg_jump]) | refine Fr.L ?_ (by simp [fp_Fg_jump]) | refine Fr.cI ?_ (by intro j; simp [fp_Fg_jump]) | refine Fr.cL ?_ (by intro j; simp [fp_Fg_jump]) | (refine Fr.tr ?_ (Fr.mono (fr_St_move (by with_reducible assumption)) mono_Fg_jump_0); try dsimp only))
  · have h := (if_neg g0).symm.trans h
    refine Fr.tr ?_ (fr_Fg_jump_j29 h)
    try dsimp only [elS]
    repeat' (with_reducible first | exact Fr.rf | refine Fr.I ?_ (by simp [fp_Fg_jump]) | refine Fr.L ?_ (by simp [fp_Fg_jump]) | refine Fr.cI ?_ (by intro j; simp [fp_Fg_jump]) | refine Fr.cL ?_ (by intro j; simp [fp_Fg_jump]) | (refine Fr.tr ?_ (Fr.mono (fr_St_move (by with_reducible assumption)) mono_Fg_jump_0); try dsimp only))
