theorem fr_Fm_seed {v1 : Int32} {M : Mm} {oo : Bool × Mm} (h : Fm_seed v1 M = some oo) : Fr (fp_Fm_seed) M oo.2 := by
  unfold Fm_seed at h
  obtain ⟨z1, _, h⟩ := bnd_s h
  by_cases g0 : z1 = true
  · have h := (if_pos g0).symm.trans h
    obtain ⟨_, h⟩ := grd_s h
    obtain rfl := Option.some.inj h
    try dsimp only [elS]
    repeat' (with_reducible first | exact Fr.rf | refine Fr.I ?_ (by simp [fp_Fm_seed]) | refine Fr.L ?_ (by simp [fp_Fm_seed]) | refine Fr.cI ?_ (by intro j; simp [fp_Fm_seed]) | refine Fr.cL ?_ (by intro j; simp [fp_Fm_seed]))
  · have h := (if_neg g0).symm.trans h
    obtain rfl := Option.some.inj h
    try dsimp only [elS]
    repeat' (with_reducible first | exact Fr.rf | refine Fr.I ?_ (by simp [fp_Fm_seed]) | refine Fr.L ?_ (by simp [fp_Fm_seed]) | refine Fr.cI ?_ (by intro j; simp [fp_Fm_seed]) | refine Fr.cL ?_ (by intro j; simp [fp_Fm_seed]))
theorem mono_Fm_keep_0  : ∀ c j, fp_Fm_copies c j → fp_Fm_keep c j := fun c j => (fun e => Or.inr (e))
theorem fr_Fm_keep {n : Nat} {M : Mm} {oo : Int32 × Mm} (h : Fm_keep n M = some oo) : Fr (fp_Fm_keep) M oo.2 := by
  unfold Fm_keep at h
  obtain ⟨z1, _, h⟩ := bnd_s h
  obtain ⟨_, h⟩ := grd_s h
  obtain rfl := Option.some.inj h
  try dsimp only [elS]
  repeat' (with_reducible first | exact Fr.rf | refine Fr.I ?_ (by simp [fp_Fm_keep]) | refine Fr.L ?_ (by simp [fp_Fm_keep]) | refine Fr.cI ?_ (by intro j; simp [fp_Fm_keep]) | refine Fr.cL ?_ (by intro j; simp [fp_Fm_keep]) | (refine Fr.tr ?_ (Fr.mono (fr_Fm_copies (by with_reducible assumption)) mono_Fm_keep_0); try dsimp only))
theorem mono_Fm_undo_0  : ∀ c j, fp_Fm_copies c j → fp_Fm_undo c j := fun c j => (fun e => e)
theorem fr_Fm_undo {n : Nat} {M : Mm} {oo : Bool × Mm} (h : Fm_undo n M = some oo) : Fr (fp_Fm_undo) M oo.2 := by
  unfold Fm_undo at h
  by_cases g0 : (M.1 94 2) = (0 : Int32)
  · have h := (if_pos g0).symm.trans h
    obtain rfl := Option.some.inj h
    try dsimp only [elS]
    repeat' (with_reducible first | exact Fr.rf | refine Fr.I ?_ (by simp [fp_Fm_undo]) | refine Fr.L ?_ (by simp [fp_Fm_undo]) | refine Fr.cI ?_ (by intro j; simp [fp_Fm_undo]) | refine Fr.cL ?_ (by intro j; simp [fp_Fm_undo]) | (refine Fr.tr ?_ (Fr.mono (fr_Fm_copies (by with_reducible assumption)) mono_Fm_undo_0); try dsimp only))
  · have h := (if_neg g0).symm.trans h
    obtain ⟨z2, _, h⟩ := bnd_s h
    obtain rfl := Option.some.inj h
    try dsimp only [elS]
    repeat' (with_reducible first | exact Fr.rf | refine Fr.I ?_ (by simp [fp_Fm_undo]) | refine Fr.L ?_ (by simp [fp_Fm_undo]) | refine Fr.cI ?_ (by intro j; simp [fp_Fm_undo]) | refine Fr.cL ?_ (by intro j; simp [fp_Fm_undo]) | (refine Fr.tr ?_ (Fr.mono (fr_Fm_copies (by with_reducible assumption)) mono_Fm_undo_0); try dsimp only))
theorem fr_Fm_check_j77 {v2 : Int32} {v3 : Int32} {Mc : Mm} {oo : (Int32 × Int32) ⊕ (Int32)} (h : Fm_check_j77 v2 v3 = some oo) : Fr (fp_Fm_check) Mc (elS oo (fun s1 => Mc) (fun x1 => Mc)) := by
  unfold Fm_check_j77 at h
  obtain rfl := Option.some.inj h
  try dsimp only [elS]
  repeat' (with_reducible first | exact Fr.rf | refine Fr.I ?_ (by simp [fp_Fm_check]) | refine Fr.L ?_ (by simp [fp_Fm_check]) | refine Fr.cI ?_ (by intro j; simp [fp_Fm_check]) | refine Fr.cL ?_ (by intro j; simp [fp_Fm_check]))
theorem fr_Fm_check_j75 {v3 : Int32} {Mc : Mm} {oo : (Int32 × Int32) ⊕ (Int32)} (h : Fm_check_j75 v3 = some oo) : Fr (fp_Fm_check) Mc (elS oo (fun s1 => Mc) (fun x1 => Mc)) := by
  unfold Fm_check_j75 at h
  refine Fr.tr ?_ (fr_Fm_check_j77 h)
  try dsimp only [elS]
  repeat' (with_reducible first | exact Fr.rf | refine Fr.I ?_ (by simp [fp_Fm_check]) | refine Fr.L ?_ (by simp [fp_Fm_check]) | refine Fr.cI ?_ (by intro j; simp [fp_Fm_check]) | refine Fr.cL ?_ (by intro j; simp [fp_Fm_check]))
theorem fr_Fm_check_j72 {v2 : Int32} {v3 : Int32} {w0 : Int32} {w1 : Int32} {Mc : Mm} {oo : (Int32 × Int32) ⊕ (Int32)} (h : Fm_check_j72 v2 v3 w0 w1 = some oo) : Fr (fp_Fm_check) Mc (elS oo (fun s1 => Mc) (fun x1 => Mc)) := by
  unfold Fm_check_j72 at h
  by_cases g0 : w1 = w0
  · have h := (if_pos g0).symm.trans h
    refine Fr.tr ?_ (fr_Fm_check_j77 h)
    try dsimp only [elS]
    repeat' (with_reducible first | exact Fr.rf | refine Fr.I ?_ (by simp [fp_Fm_check]) | refine Fr.L ?_ (by simp [fp_Fm_check]) | refine Fr.cI ?_ (by intro j; simp [fp_Fm_check]) | refine Fr.cL ?_ (by intro j; simp [fp_Fm_check]))
  · have h := (if_neg g0).symm.trans h
    refine Fr.tr ?_ (fr_Fm_check_j75 h)
    try dsimp only [elS]
    repeat' (with_reducible first | exact Fr.rf | refine Fr.I ?_ (by simp [fp_Fm_check]) | refine Fr.L ?_ (by simp [fp_Fm_check]) | refine Fr.cI ?_ (by intro j; simp [fp_Fm_check]) | refine Fr.cL ?_ (by intro j; simp [fp_Fm_check]))
theorem fr_Fm_check_b27 {Mc : Mm} {v2 : Int32} {v3 : Int32} {oo : (Int32 × Int32) ⊕ (Int32)} (h : Fm_check_b27 Mc v2 v3 = some oo) : Fr (fp_Fm_check) Mc (elS oo (fun s1 => Mc) (fun x1 => Mc)) := by
  unfold Fm_check_b27 at h
  by_cases g0 : v3 < (0 : Int32)
  · have h := (if_pos g0).symm.trans h
    obtain rfl := Option.some.inj h
    try dsimp only [elS]
    repeat' (with_reducible first | exact Fr.rf | refine Fr.I ?_ (by simp [fp_Fm_check]) | refine Fr.L ?_ (by simp [fp_Fm_check]) | refine Fr.cI ?_ (by intro j; simp [fp_Fm_check]) | refine Fr.cL ?_ (by intro j; simp [fp_Fm_check]))
  · have h := (if_neg g0).symm.trans h
    obtain ⟨_, h⟩ := grd_s h
    by_cases g0 : (Mc.1 95 (tn (7 : Int32))) ≤ v3
    · have h := (if_pos g0).symm.trans h
      refine Fr.tr ?_ (fr_Fm_check_j75 h)
      try dsimp only [elS]
      repeat' (with_reducible first | exact Fr.rf | refine Fr.I ?_ (by simp [fp_Fm_check]) | refine Fr.L ?_ (by simp [fp_Fm_check]) | refine Fr.cI ?_ (by intro j; simp [fp_Fm_check]) | refine Fr.cL ?_ (by intro j; simp [fp_Fm_check]))
    · have h := (if_neg g0).symm.trans h
      obtain ⟨_, h⟩ := grd_s h
      obtain ⟨z9, _, h⟩ := bnd_s h
      by_cases g0 : z9 = true
      · have h := (if_pos g0).symm.trans h
        obtain ⟨z13, _, h⟩ := bnd_s h
        refine Fr.tr ?_ (fr_Fm_check_j72 h)
        try dsimp only [elS]
        repeat' (with_reducible first | exact Fr.rf | refine Fr.I ?_ (by simp [fp_Fm_check]) | refine Fr.L ?_ (by simp [fp_Fm_check]) | refine Fr.cI ?_ (by intro j; simp [fp_Fm_check]) | refine Fr.cL ?_ (by intro j; simp [fp_Fm_check]))
      · have h := (if_neg g0).symm.trans h
        refine Fr.tr ?_ (fr_Fm_check_j72 h)
        try dsimp only [elS]
        repeat' (with_reducible first | exact Fr.rf | refine Fr.I ?_ (by simp [fp_Fm_check]) | refine Fr.L ?_ (by simp [fp_Fm_check]) | refine Fr.cI ?_ (by intro j; simp [fp_Fm_check]) | refine Fr.cL ?_ (by intro j; simp [fp_Fm_check]))
theorem fr_Fm_check {n : Nat} {v1 : Int32} {M : Mm} {oo : Int32 × Mm} (h : Fm_check n v1 M = some oo) : Fr (fp_Fm_check) M oo.2 := by
  unfold Fm_check at h
  obtain ⟨z1, _, h⟩ := bnd_s h
  by_cases g0 : z1 = true
  · have h := (if_pos g0).symm.trans h
    by_cases g0 : v1 ≤ (M.1 94 4)
    · have h := (if_pos g0).symm.trans h
      obtain ⟨y15, _, h⟩ := bnd_s h
      obtain rfl := Option.some.inj h
      try dsimp only [elS]
      repeat' (with_reducible first | exact Fr.rf | refine Fr.I ?_ (by simp [fp_Fm_check]) | refine Fr.L ?_ (by simp [fp_Fm_check]) | refine Fr.cI ?_ (by intro j; simp [fp_Fm_check]) | refine Fr.cL ?_ (by intro j; simp [fp_Fm_check]))
    · have h := (if_neg g0).symm.trans h
      obtain rfl := Option.some.inj h
      try dsimp only [elS]
      repeat' (with_reducible first | exact Fr.rf | refine Fr.I ?_ (by simp [fp_Fm_check]) | refine Fr.L ?_ (by simp [fp_Fm_check]) | refine Fr.cI ?_ (by intro j; simp [fp_Fm_check]) | refine Fr.cL ?_ (by intro j; simp [fp_Fm_check]))
  · have h := (if_neg g0).symm.trans h
    obtain rfl := Option.some.inj h
    try dsimp only [elS]
    repeat' (with_reducible first | exact Fr.rf | refine Fr.I ?_ (by simp [fp_Fm_check]) | refine Fr.L ?_ (by simp [fp_Fm_check]) | refine Fr.cI ?_ (by intro j; simp [fp_Fm_check]) | refine Fr.cL ?_ (by intro j; simp [fp_Fm_check]))
