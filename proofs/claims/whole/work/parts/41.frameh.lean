theorem fr_Fm_wrongAt {v1 : Int32} {v2 : Int32} {M : Mm} {oo : Bool × Mm} (h : Fm_wrongAt v1 v2 M = some oo) : Fr (fp_Fm_wrongAt) M oo.2 := by
  unfold Fm_wrongAt at h
  obtain rfl := Option.some.inj h
  try dsimp only [elS]
  repeat' (with_reducible first | exact Fr.rf | refine Fr.I ?_ (by simp [fp_Fm_wrongAt]) | refine Fr.L ?_ (by simp [fp_Fm_wrongAt]) | refine Fr.cI ?_ (by intro j; simp [fp_Fm_wrongAt]) | refine Fr.cL ?_ (by intro j; simp [fp_Fm_wrongAt]))
theorem mono_Fm_takesSign_0  : ∀ c j, fp_Fm_wrongAt c j → fp_Fm_takesSign c j := fun c j => (fun e => Or.inr (e))
theorem fr_Fm_takesSign {v1 : Int32} {M : Mm} {oo : Bool × Mm} (h : Fm_takesSign v1 M = some oo) : Fr (fp_Fm_takesSign) M oo.2 := by
  unfold Fm_takesSign at h
  obtain ⟨z1, _, h⟩ := bnd_s h
  by_cases g0 : z1 = v1
  · have h := (if_pos g0).symm.trans h
    obtain rfl := Option.some.inj h
    try dsimp only [elS]
    repeat' (with_reducible first | exact Fr.rf | refine Fr.I ?_ (by simp [fp_Fm_takesSign]) | refine Fr.L ?_ (by simp [fp_Fm_takesSign]) | refine Fr.cI ?_ (by intro j; simp [fp_Fm_takesSign]) | refine Fr.cL ?_ (by intro j; simp [fp_Fm_takesSign]) | (refine Fr.tr ?_ (Fr.mono (fr_Fm_wrongAt (by with_reducible assumption)) mono_Fm_takesSign_0); try dsimp only))
  · have h := (if_neg g0).symm.trans h
    obtain ⟨z4, _, h⟩ := bnd_s h
    obtain rfl := Option.some.inj h
    try dsimp only [elS]
    repeat' (with_reducible first | exact Fr.rf | refine Fr.I ?_ (by simp [fp_Fm_takesSign]) | refine Fr.L ?_ (by simp [fp_Fm_takesSign]) | refine Fr.cI ?_ (by intro j; simp [fp_Fm_takesSign]) | refine Fr.cL ?_ (by intro j; simp [fp_Fm_takesSign]) | (refine Fr.tr ?_ (Fr.mono (fr_Fm_wrongAt (by with_reducible assumption)) mono_Fm_takesSign_0); try dsimp only))
theorem fr_Fm_readsWord_j65 {M : Mm} {oo : (Mm) ⊕ (Mm)} (h : Fm_readsWord_j65 M = some oo) : Fr (fp_Fm_readsWord) M (elS oo (fun s1 => s1) (fun x1 => x1)) := by
  unfold Fm_readsWord_j65 at h
  obtain rfl := Option.some.inj h
  try dsimp only [elS]
  repeat' (with_reducible first | exact Fr.rf | refine Fr.I ?_ (by simp [fp_Fm_readsWord]) | refine Fr.L ?_ (by simp [fp_Fm_readsWord]) | refine Fr.cI ?_ (by intro j; simp [fp_Fm_readsWord]) | refine Fr.cL ?_ (by intro j; simp [fp_Fm_readsWord]))
theorem fr_Fm_readsWord_b13 {M : Mm} {oo : (Mm) ⊕ (Mm)} (h : Fm_readsWord_b13 M = some oo) : Fr (fp_Fm_readsWord) M (elS oo (fun s1 => s1) (fun x1 => x1)) := by
  unfold Fm_readsWord_b13 at h
  obtain ⟨z1, _, h⟩ := bnd_s h
  obtain ⟨z3, _, h⟩ := bnd_s h
  by_cases g0 : z3 = true
  · have h := (if_pos g0).symm.trans h
    by_cases g0 : (8 : Int32) ≤ ((M.1 94 5) - (M.1 94 10))
    · have h := (if_pos g0).symm.trans h
      refine Fr.tr ?_ (fr_Fm_readsWord_j65 h)
      try dsimp only [elS]
      repeat' (with_reducible first | exact Fr.rf | refine Fr.I ?_ (by simp [fp_Fm_readsWord]) | refine Fr.L ?_ (by simp [fp_Fm_readsWord]) | refine Fr.cI ?_ (by intro j; simp [fp_Fm_readsWord]) | refine Fr.cL ?_ (by intro j; simp [fp_Fm_readsWord]))
    · have h := (if_neg g0).symm.trans h
      obtain ⟨z7, _, h⟩ := bnd_s h
      refine Fr.tr ?_ (fr_Fm_readsWord_j65 h)
      try dsimp only [elS]
      repeat' (with_reducible first | exact Fr.rf | refine Fr.I ?_ (by simp [fp_Fm_readsWord]) | refine Fr.L ?_ (by simp [fp_Fm_readsWord]) | refine Fr.cI ?_ (by intro j; simp [fp_Fm_readsWord]) | refine Fr.cL ?_ (by intro j; simp [fp_Fm_readsWord]))
  · have h := (if_neg g0).symm.trans h
    obtain rfl := Option.some.inj h
    try dsimp only [elS]
    repeat' (with_reducible first | exact Fr.rf | refine Fr.I ?_ (by simp [fp_Fm_readsWord]) | refine Fr.L ?_ (by simp [fp_Fm_readsWord]) | refine Fr.cI ?_ (by intro j; simp [fp_Fm_readsWord]) | refine Fr.cL ?_ (by intro j; simp [fp_Fm_readsWord]))
theorem frl_Fm_readsWord_b13   {n1 : Nat} {s0 : Mm} {y1 : Mm} (h : loop (fun s1 : Mm => Fm_readsWord_b13 s1) n1 s0 = some y1) : Fr (fp_Fm_readsWord) s0 y1 :=
  loop_inv (P := fun s2 : Mm => Fr (fp_Fm_readsWord) s0 s2) (E := fun y1 : Mm => Fr (fp_Fm_readsWord) s0 y1) (fun s2 s3 hP hb => hP.tr (fr_Fm_readsWord_b13 hb)) (fun s2 x2 hP hb => hP.tr (fr_Fm_readsWord_b13 hb)) n1 s0 y1 h Fr.rf
theorem fr_Fm_readsWord {n : Nat} {M : Mm} {oo : Mm} (h : Fm_readsWord n M = some oo) : Fr (fp_Fm_readsWord) M oo := by
  unfold Fm_readsWord at h
  obtain ⟨y9, _, h⟩ := bnd_s h
  by_cases g0 : ((y9.1 94 5) - (y9.1 94 10)) ≤ (8 : Int32)
  · have h := (if_pos g0).symm.trans h
    obtain rfl := Option.some.inj h
    try dsimp only [elS]
    repeat' (with_reducible first | exact Fr.rf | refine Fr.I ?_ (by simp [fp_Fm_readsWord]) | refine Fr.L ?_ (by simp [fp_Fm_readsWord]) | refine Fr.cI ?_ (by intro j; simp [fp_Fm_readsWord]) | refine Fr.cL ?_ (by intro j; simp [fp_Fm_readsWord]) | (refine Fr.tr ?_ (frl_Fm_readsWord_b13 (by with_reducible assumption)); try dsimp only))
  · have h := (if_neg g0).symm.trans h
    obtain rfl := Option.some.inj h
    try dsimp only [elS]
    repeat' (with_reducible first | exact Fr.rf | refine Fr.I ?_ (by simp [fp_Fm_readsWord]) | refine Fr.L ?_ (by simp [fp_Fm_readsWord]) | refine Fr.cI ?_ (by intro j; simp [fp_Fm_readsWord]) | refine Fr.cL ?_ (by intro j; simp [fp_Fm_readsWord]) | (refine Fr.tr ?_ (frl_Fm_readsWord_b13 (by with_reducible assumption)); try dsimp only))
theorem mono_Fm_readsNumber_0  : ∀ c j, fp_Fm_takesSign c j → fp_Fm_readsNumber c j := fun c j => (fun h => h.elim (fun e => Or.inl e) (fun e => Or.inr (Or.inl e)))
theorem mono_Fm_readsNumber_1  : ∀ c j, fp_Fm_wrongAt c j → fp_Fm_readsNumber c j := fun c j => (fun e => Or.inr (Or.inl e))
theorem fr_Fm_readsNumber_b44 {M : Mm} {oo : (Mm) ⊕ ((Mm) ⊕ (Bool × Mm))} (h : Fm_readsNumber_b44 M = some oo) : Fr (fp_Fm_readsNumber) M (elS oo (fun s1 => s1) (fun y1 => elS y1 (fun x1 => x1) (fun z1 => z1.2))) := by
  unfold Fm_readsNumber_b44 at h
  obtain ⟨z9, _, h⟩ := bnd_s h
  obtain ⟨z11, _, h⟩ := bnd_s h
  by_cases g0 : z11 = true
  · have h := (if_pos g0).symm.trans h
    by_cases g0 : (M.1 94 5) = ((M.1 94 9) + (5 : Int32))
    · have h := (if_pos g0).symm.trans h
      obtain ⟨z17, _, h⟩ := bnd_s h
      obtain rfl := Option.some.inj h
      try dsimp only [elS]
      repeat' (with_reducible first | exact Fr.rf | refine Fr.I ?_ (by simp [fp_Fm_readsNumber]) | refine Fr.L ?_ (by simp [fp_Fm_readsNumber]) | refine Fr.cI ?_ (by intro j; simp [fp_Fm_readsNumber]) | refine Fr.cL ?_ (by intro j; simp [fp_Fm_readsNumber]) | (refine Fr.tr ?_ (Fr.mono (fr_Fm_takesSign (by with_reducible assumption)) mono_Fm_readsNumber_0); try dsimp only) | (refine Fr.tr ?_ (Fr.mono (fr_Fm_wrongAt (by with_reducible assumption)) mono_Fm_readsNumber_1); try dsimp only))
    · have h := (if_neg g0).symm.trans h
      obtain ⟨z15, _, h⟩ := bnd_s h
      obtain rfl := Option.some.inj h
      try dsimp only [elS]
      repeat' (with_reducible first | exact Fr.rf | refine Fr.I ?_ (by simp [fp_Fm_readsNumber]) | refine Fr.L ?_ (by simp [fp_Fm_readsNumber]) | refine Fr.cI ?_ (by intro j; simp [fp_Fm_readsNumber]) | refine Fr.cL ?_ (by intro j; simp [fp_Fm_readsNumber]) | (refine Fr.tr ?_ (Fr.mono (fr_Fm_takesSign (by with_reducible assumption)) mono_Fm_readsNumber_0); try dsimp only) | (refine Fr.tr ?_ (Fr.mono (fr_Fm_wrongAt (by with_reducible assumption)) mono_Fm_readsNumber_1); try dsimp only))
  · have h := (if_neg g0).symm.trans h
    obtain rfl := Option.some.inj h
    try dsimp only [elS]
    repeat' (with_reducible first | exact Fr.rf | refine Fr.I ?_ (by simp [fp_Fm_readsNumber]) | refine Fr.L ?_ (by simp [fp_Fm_readsNumber]) | refine Fr.cI ?_ (by intro j; simp [fp_Fm_readsNumber]) | refine Fr.cL ?_ (by intro j; simp [fp_Fm_readsNumber]) | (refine Fr.tr ?_ (Fr.mono (fr_Fm_takesSign (by with_reducible assumption)) mono_Fm_readsNumber_0); try dsimp only) | (refine Fr.tr ?_ (Fr.mono (fr_Fm_wrongAt (by with_reducible assumption)) mono_Fm_readsNumber_1); try dsimp only))
theorem frl_Fm_readsNumber_b44   {n1 : Nat} {s0 : Mm} {y1 : (Mm) ⊕ (Bool × Mm)} (h : loop (fun s1 : Mm => Fm_readsNumber_b44 s1) n1 s0 = some y1) : Fr (fp_Fm_readsNumber) s0 (elS y1 (fun x1 => x1) (fun z1 => z1.2)) :=
  loop_inv (P := fun s2 : Mm => Fr (fp_Fm_readsNumber) s0 s2) (E := fun y1 : (Mm) ⊕ (Bool × Mm) => Fr (fp_Fm_readsNumber) s0 (elS y1 (fun x1 => x1) (fun z1 => z1.2))) (fun s2 s3 hP hb => hP.tr (fr_Fm_readsNumber_b44 hb)) (fun s2 x2 hP hb => hP.tr (fr_Fm_readsNumber_b44 hb)) n1 s0 y1 h Fr.rf
theorem fr_Fm_readsNumber_j133 {M : Mm} {oo : Bool × Mm} (h : Fm_readsNumber_j133 M = some oo) : Fr (fp_Fm_readsNumber) M oo.2 := by
  unfold Fm_readsNumber_j133 at h
  obtain rfl := Option.some.inj h
  try dsimp only [elS]
  repeat' (with_reducible first | exact Fr.rf | refine Fr.I ?_ (by simp [fp_Fm_readsNumber]) | refine Fr.L ?_ (by simp [fp_Fm_readsNumber]) | refine Fr.cI ?_ (by intro j; simp [fp_Fm_readsNumber]) | refine Fr.cL ?_ (by intro j; simp [fp_Fm_readsNumber]) | (refine Fr.tr ?_ (Fr.mono (fr_Fm_takesSign (by with_reducible assumption)) mono_Fm_readsNumber_0); try dsimp only) | (refine Fr.tr ?_ (Fr.mono (fr_Fm_wrongAt (by with_reducible assumption)) mono_Fm_readsNumber_1); try dsimp only) | (refine Fr.tr ?_ (frl_Fm_readsNumber_b44 (by with_reducible assumption)); try dsimp only))
theorem fr_Fm_readsNumber {n : Nat} {v1 : Int32} {v2 : Int32} {M : Mm} {oo : Bool × Mm} (h : Fm_readsNumber n v1 v2 M = some oo) : Fr (fp_Fm_readsNumber) M oo.2 := by
  unfold Fm_readsNumber at h
  obtain ⟨z1, _, h⟩ := bnd_s h
  by_cases g0 : z1.1 = true
  · have h := (if_pos g0).symm.trans h
    obtain ⟨z4, _, h⟩ := bnd_s h
    obtain ⟨z6, _, h⟩ := bnd_s h
    by_cases g0 : z6 = true
    · have h := (if_pos g0).symm.trans h
      obtain ⟨y19, _, h⟩ := bnd_s h
      cases y19 with
      | inl x20 =>
        obtain ⟨z22, _, h⟩ := bnd_s h
        by_cases g0 : z22 = true
        · have h := (if_pos g0).symm.trans h
          refine Fr.tr ?_ (fr_Fm_readsNumber_j133 h)
          try dsimp only [elS]
          repeat' (with_reducible first | exact Fr.rf | refine Fr.I ?_ (by simp [fp_Fm_readsNumber]) | refine Fr.L ?_ (by simp [fp_Fm_readsNumber]) | refine Fr.cI ?_ (by intro j; simp [fp_Fm_readsNumber]) | refine Fr.cL ?_ (by intro j; simp [fp_Fm_readsNumber]) | (refine Fr.tr ?_ (Fr.mono (fr_Fm_takesSign (by with_reducible assumption)) mono_Fm_readsNumber_0); try dsimp only) | (refine Fr.tr ?_ (Fr.mono (fr_Fm_wrongAt (by with_reducible assumption)) mono_Fm_readsNumber_1); try dsimp only) | (refine Fr.tr ?_ (frl_Fm_readsNumber_b44 (by with_reducible assumption)); try dsimp only))
        · have h := (if_neg g0).symm.trans h
          obtain ⟨z25, _, h⟩ := bnd_s h
          by_cases g0 : z25.1 = true
          · have h := (if_pos g0).symm.trans h
            refine Fr.tr ?_ (fr_Fm_readsNumber_j133 h)
            try dsimp only [elS]
            repeat' (with_reducible first | exact Fr.rf | refine Fr.I ?_ (by simp [fp_Fm_readsNumber]) | refine Fr.L ?_ (by simp [fp_Fm_readsNumber]) | refine Fr.cI ?_ (by intro j; simp [fp_Fm_readsNumber]) | refine Fr.cL ?_ (by intro j; simp [fp_Fm_readsNumber]) | (refine Fr.tr ?_ (Fr.mono (fr_Fm_takesSign (by with_reducible assumption)) mono_Fm_readsNumber_0); try dsimp only) | (refine Fr.tr ?_ (Fr.mono (fr_Fm_wrongAt (by with_reducible assumption)) mono_Fm_readsNumber_1); try dsimp only) | (refine Fr.tr ?_ (frl_Fm_readsNumber_b44 (by with_reducible assumption)); try dsimp only))
          · have h := (if_neg g0).symm.trans h
            obtain rfl := Option.some.inj h
            try dsimp only [elS]
            repeat' (with_reducible first | exact Fr.rf | refine Fr.I ?_ (by simp [fp_Fm_readsNumber]) | refine Fr.L ?_ (by simp [fp_Fm_readsNumber]) | refine Fr.cI ?_ (by intro j; simp [fp_Fm_readsNumber]) | refine Fr.cL ?_ (by intro j; simp [fp_Fm_readsNumber]) | (refine Fr.tr ?_ (Fr.mono (fr_Fm_takesSign (by with_reducible assumption)) mono_Fm_readsNumber_0); try dsimp only) | (refine Fr.tr ?_ (Fr.mono (fr_Fm_wrongAt (by with_reducible assumption)) mono_Fm_readsNumber_1); try dsimp only) | (refine Fr.tr ?_ (frl_Fm_readsNumber_b44 (by with_reducible assumption)); try dsimp only))
      | inr e21 =>
        obtain rfl := Option.some.inj h
        try dsimp only [elS]
        repeat' (with_reducible first | exact Fr.rf | refine Fr.I ?_ (by simp [fp_Fm_readsNumber]) | refine Fr.L ?_ (by simp [fp_Fm_readsNumber]) | refine Fr.cI ?_ (by intro j; simp [fp_Fm_readsNumber]) | refine Fr.cL ?_ (by intro j; simp [fp_Fm_readsNumber]) | (refine Fr.tr ?_ (Fr.mono (fr_Fm_takesSign (by with_reducible assumption)) mono_Fm_readsNumber_0); try dsimp only) | (refine Fr.tr ?_ (Fr.mono (fr_Fm_wrongAt (by with_reducible assumption)) mono_Fm_readsNumber_1); try dsimp only) | (refine Fr.tr ?_ (frl_Fm_readsNumber_b44 (by with_reducible assumption)); try dsimp only))
    · have h := (if_neg g0).symm.trans h
      obtain ⟨z28, _, h⟩ := bnd_s h
      obtain rfl := Option.some.inj h
      try dsimp only [elS]
      repeat' (with_reducible first | exact Fr.rf | refine Fr.I ?_ (by simp [fp_Fm_readsNumber]) | refine Fr.L ?_ (by simp [fp_Fm_readsNumber]) | refine Fr.cI ?_ (by intro j; simp [fp_Fm_readsNumber]) | refine Fr.cL ?_ (by intro j; simp [fp_Fm_readsNumber]) | (refine Fr.tr ?_ (Fr.mono (fr_Fm_takesSign (by with_reducible assumption)) mono_Fm_readsNumber_0); try dsimp only) | (refine Fr.tr ?_ (Fr.mono (fr_Fm_wrongAt (by with_reducible assumption)) mono_Fm_readsNumber_1); try dsimp only) | (refine Fr.tr ?_ (frl_Fm_readsNumber_b44 (by with_reducible assumption)); try dsimp only))
  · have h := (if_neg g0).symm.trans h
    obtain rfl := Option.some.inj h
    try dsimp only [elS]
    repeat' (with_reducible first | exact Fr.rf | refine Fr.I ?_ (by simp [fp_Fm_readsNumber]) | refine Fr.L ?_ (by simp [fp_Fm_readsNumber]) | refine Fr.cI ?_ (by intro j; simp [fp_Fm_readsNumber]) | refine Fr.cL ?_ (by intro j; simp [fp_Fm_readsNumber]) | (refine Fr.tr ?_ (Fr.mono (fr_Fm_takesSign (by with_reducible assumption)) mono_Fm_readsNumber_0); try dsimp only) | (refine Fr.tr ?_ (Fr.mono (fr_Fm_wrongAt (by with_reducible assumption)) mono_Fm_readsNumber_1); try dsimp only) | (refine Fr.tr ?_ (frl_Fm_readsNumber_b44 (by with_reducible assumption)); try dsimp only))
theorem fr_Fm_keepsNumber {v1 : Int32} {M : Mm} {oo : Bool × Mm} (h : Fm_keepsNumber v1 M = some oo) : Fr (fp_Fm_keepsNumber) M oo.2 := by
  unfold Fm_keepsNumber at h
  obtain ⟨_, h⟩ := grd_s h
  obtain rfl := Option.some.inj h
  try dsimp only [elS]
  repeat' (with_reducible first | exact Fr.rf | refine Fr.I ?_ (by simp [fp_Fm_keepsNumber]) | refine Fr.L ?_ (by simp [fp_Fm_keepsNumber]) | refine Fr.cI ?_ (by intro j; simp [fp_Fm_keepsNumber]) | refine Fr.cL ?_ (by intro j; simp [fp_Fm_keepsNumber]))
theorem fr_Fm_beginsText {v1 : Int32} {M : Mm} {oo : Bool × Mm} (h : Fm_beginsText v1 M = some oo) : Fr (fp_Fm_beginsText) M oo.2 := by
  unfold Fm_beginsText at h
  obtain ⟨z1, _, h⟩ := bnd_s h
  by_cases g0 : z1 = true
  · have h := (if_pos g0).symm.trans h
    by_cases g0 : v1 ≤ (M.1 94 4)
    · have h := (if_pos g0).symm.trans h
      obtain rfl := Option.some.inj h
      try dsimp only [elS]
      repeat' (with_reducible first | exact Fr.rf | refine Fr.I ?_ (by simp [fp_Fm_beginsText]) | refine Fr.L ?_ (by simp [fp_Fm_beginsText]) | refine Fr.cI ?_ (by intro j; simp [fp_Fm_beginsText]) | refine Fr.cL ?_ (by intro j; simp [fp_Fm_beginsText]))
    · have h := (if_neg g0).symm.trans h
      obtain rfl := Option.some.inj h
      try dsimp only [elS]
      repeat' (with_reducible first | exact Fr.rf | refine Fr.I ?_ (by simp [fp_Fm_beginsText]) | refine Fr.L ?_ (by simp [fp_Fm_beginsText]) | refine Fr.cI ?_ (by intro j; simp [fp_Fm_beginsText]) | refine Fr.cL ?_ (by intro j; simp [fp_Fm_beginsText]))
  · have h := (if_neg g0).symm.trans h
    obtain rfl := Option.some.inj h
    try dsimp only [elS]
    repeat' (with_reducible first | exact Fr.rf | refine Fr.I ?_ (by simp [fp_Fm_beginsText]) | refine Fr.L ?_ (by simp [fp_Fm_beginsText]) | refine Fr.cI ?_ (by intro j; simp [fp_Fm_beginsText]) | refine Fr.cL ?_ (by intro j; simp [fp_Fm_beginsText]))
theorem mono_Fm_readsLink_0  : ∀ c j, fp_Fm_readsNumber c j → fp_Fm_readsLink c j := fun c j => (fun h => h.elim (fun e => Or.inl e) (fun h => h.elim (fun e => Or.inr (Or.inl e)) (fun h => h.elim (fun e => Or.inr (Or.inr (Or.inl e))) (fun e => Or.inr (Or.inr (Or.inr (Or.inl e)))))))
theorem mono_Fm_readsLink_1  : ∀ c j, fp_Fm_wrongAt c j → fp_Fm_readsLink c j := fun c j => (fun e => Or.inr (Or.inl e))
theorem fr_Fm_readsLink_j109 {M : Mm} {oo : Bool × Mm} (h : Fm_readsLink_j109 M = some oo) : Fr (fp_Fm_readsLink) M oo.2 := by
  unfold Fm_readsLink_j109 at h
  obtain ⟨z14, _, h⟩ := bnd_s h
  obtain rfl := Option.some.inj h
  try dsimp only [elS]
  repeat' (with_reducible first | exact Fr.rf | refine Fr.I ?_ (by simp [fp_Fm_readsLink]) | refine Fr.L ?_ (by simp [fp_Fm_readsLink]) | refine Fr.cI ?_ (by intro j; simp [fp_Fm_readsLink]) | refine Fr.cL ?_ (by intro j; simp [fp_Fm_readsLink]) | (refine Fr.tr ?_ (Fr.mono (fr_Fm_readsNumber (by with_reducible assumption)) mono_Fm_readsLink_0); try dsimp only) | (refine Fr.tr ?_ (Fr.mono (fr_Fm_wrongAt (by with_reducible assumption)) mono_Fm_readsLink_1); try dsimp only))
theorem fr_Fm_readsLink {n : Nat} {M : Mm} {oo : Bool × Mm} (h : Fm_readsLink n M = some oo) : Fr (fp_Fm_readsLink) M oo.2 := by
  unfold Fm_readsLink at h
  obtain ⟨_, h⟩ := grd_s h
  by_cases g0 : (M.1 96 (tn (3 : Int32))) = (14 : Int32)
  · have h := (if_pos g0).symm.trans h
    obtain ⟨z26, _, h⟩ := bnd_s h
    obtain rfl := Option.some.inj h
    try dsimp only [elS]
    repeat' (with_reducible first | exact Fr.rf | refine Fr.I ?_ (by simp [fp_Fm_readsLink]) | refine Fr.L ?_ (by simp [fp_Fm_readsLink]) | refine Fr.cI ?_ (by intro j; simp [fp_Fm_readsLink]) | refine Fr.cL ?_ (by intro j; simp [fp_Fm_readsLink]) | (refine Fr.tr ?_ (Fr.mono (fr_Fm_readsNumber (by with_reducible assumption)) mono_Fm_readsLink_0); try dsimp only) | (refine Fr.tr ?_ (Fr.mono (fr_Fm_wrongAt (by with_reducible assumption)) mono_Fm_readsLink_1); try dsimp only))
  · have h := (if_neg g0).symm.trans h
    obtain ⟨_, h⟩ := grd_s h
    obtain ⟨z4, _, h⟩ := bnd_s h
    by_cases g0 : z4.1 = true
    · have h := (if_pos g0).symm.trans h
      obtain ⟨_, h⟩ := grd_s h
      obtain ⟨_, h⟩ := grd_s h
      obtain ⟨z9, _, h⟩ := bnd_s h
      by_cases g0 : z9.1 = true
      · have h := (if_pos g0).symm.trans h
        obtain ⟨_, h⟩ := grd_s h
        by_cases g0 : (z9.2.1 94 8) = (z9.2.1 96 (tn ((16 : Int32) + (M.1 96 (tn (3 : Int32))))))
        · have h := (if_pos g0).symm.trans h
          refine Fr.tr ?_ (fr_Fm_readsLink_j109 h)
          try dsimp only [elS]
          repeat' (with_reducible first | exact Fr.rf | refine Fr.I ?_ (by simp [fp_Fm_readsLink]) | refine Fr.L ?_ (by simp [fp_Fm_readsLink]) | refine Fr.cI ?_ (by intro j; simp [fp_Fm_readsLink]) | refine Fr.cL ?_ (by intro j; simp [fp_Fm_readsLink]) | (refine Fr.tr ?_ (Fr.mono (fr_Fm_readsNumber (by with_reducible assumption)) mono_Fm_readsLink_0); try dsimp only) | (refine Fr.tr ?_ (Fr.mono (fr_Fm_wrongAt (by with_reducible assumption)) mono_Fm_readsLink_1); try dsimp only))
        · have h := (if_neg g0).symm.trans h
          obtain ⟨_, h⟩ := grd_s h
          obtain ⟨z17, _, h⟩ := bnd_s h
          by_cases g0 : z17 = true
          · have h := (if_pos g0).symm.trans h
            refine Fr.tr ?_ (fr_Fm_readsLink_j109 h)
            try dsimp only [elS]
            repeat' (with_reducible first | exact Fr.rf | refine Fr.I ?_ (by simp [fp_Fm_readsLink]) | refine Fr.L ?_ (by simp [fp_Fm_readsLink]) | refine Fr.cI ?_ (by intro j; simp [fp_Fm_readsLink]) | refine Fr.cL ?_ (by intro j; simp [fp_Fm_readsLink]) | (refine Fr.tr ?_ (Fr.mono (fr_Fm_readsNumber (by with_reducible assumption)) mono_Fm_readsLink_0); try dsimp only) | (refine Fr.tr ?_ (Fr.mono (fr_Fm_wrongAt (by with_reducible assumption)) mono_Fm_readsLink_1); try dsimp only))
          · have h := (if_neg g0).symm.trans h
            obtain ⟨_, h⟩ := grd_s h
            obtain ⟨z21, _, h⟩ := bnd_s h
            by_cases g0 : z21.1 = true
            · have h := (if_pos g0).symm.trans h
              obtain ⟨_, h⟩ := grd_s h
              obtain ⟨_, h⟩ := grd_s h
              obtain rfl := Option.some.inj h
              try dsimp only [elS]
              repeat' (with_reducible first | exact Fr.rf | refine Fr.I ?_ (by simp [fp_Fm_readsLink]) | refine Fr.L ?_ (by simp [fp_Fm_readsLink]) | refine Fr.cI ?_ (by intro j; simp [fp_Fm_readsLink]) | refine Fr.cL ?_ (by intro j; simp [fp_Fm_readsLink]) | (refine Fr.tr ?_ (Fr.mono (fr_Fm_readsNumber (by with_reducible assumption)) mono_Fm_readsLink_0); try dsimp only) | (refine Fr.tr ?_ (Fr.mono (fr_Fm_wrongAt (by with_reducible assumption)) mono_Fm_readsLink_1); try dsimp only))
            · have h := (if_neg g0).symm.trans h
              obtain rfl := Option.some.inj h
              try dsimp only [elS]
              repeat' (with_reducible first | exact Fr.rf | refine Fr.I ?_ (by simp [fp_Fm_readsLink]) | refine Fr.L ?_ (by simp [fp_Fm_readsLink]) | refine Fr.cI ?_ (by intro j; simp [fp_Fm_readsLink]) | refine Fr.cL ?_ (by intro j; simp [fp_Fm_readsLink]) | (refine Fr.tr ?_ (Fr.mono (fr_Fm_readsNumber (by with_reducible assumption)) mono_Fm_readsLink_0); try dsimp only) | (refine Fr.tr ?_ (Fr.mono (fr_Fm_wrongAt (by with_reducible assumption)) mono_Fm_readsLink_1); try dsimp only))
      · have h := (if_neg g0).symm.trans h
        obtain rfl := Option.some.inj h
        try dsimp only [elS]
        repeat' (with_reducible first | exact Fr.rf | refine Fr.I ?_ (by simp [fp_Fm_readsLink]) | refine Fr.L ?_ (by simp [fp_Fm_readsLink]) | refine Fr.cI ?_ (by intro j; simp [fp_Fm_readsLink]) | refine Fr.cL ?_ (by intro j; simp [fp_Fm_readsLink]) | (refine Fr.tr ?_ (Fr.mono (fr_Fm_readsNumber (by with_reducible assumption)) mono_Fm_readsLink_0); try dsimp only) | (refine Fr.tr ?_ (Fr.mono (fr_Fm_wrongAt (by with_reducible assumption)) mono_Fm_readsLink_1); try dsimp only))
    · have h := (if_neg g0).symm.trans h
      obtain rfl := Option.some.inj h
      try dsimp only [elS]
      repeat' (with_reducible first | exact Fr.rf | refine Fr.I ?_ (by simp [fp_Fm_readsLink]) | refine Fr.L ?_ (by simp [fp_Fm_readsLink]) | refine Fr.cI ?_ (by intro j; simp [fp_Fm_readsLink]) | refine Fr.cL ?_ (by intro j; simp [fp_Fm_readsLink]) | (refine Fr.tr ?_ (Fr.mono (fr_Fm_readsNumber (by with_reducible assumption)) mono_Fm_readsLink_0); try dsimp only) | (refine Fr.tr ?_ (Fr.mono (fr_Fm_wrongAt (by with_reducible assumption)) mono_Fm_readsLink_1); try dsimp only))
theorem mono_Fm_readsReach_0  : ∀ c j, fp_Fm_readsNumber c j → fp_Fm_readsReach c j := fun c j => (fun h => h.elim (fun e => Or.inl e) (fun h => h.elim (fun e => Or.inr (Or.inl e)) (fun h => h.elim (fun e => Or.inr (Or.inr (Or.inl e))) (fun e => Or.inr (Or.inr (Or.inr (Or.inl e)))))))
theorem fr_Fm_readsReach_b6 {n : Nat} {v1 : Int32} {v2 : Int32} {M : Mm} {oo : (Int32 × Int32 × Mm) ⊕ ((Mm) ⊕ (Bool × Mm))} (h : Fm_readsReach_b6 n v1 v2 M = some oo) : Fr (fp_Fm_readsReach) M (elS oo (fun s1 => s1.2.2) (fun y1 => elS y1 (fun x1 => x1) (fun z1 => z1.2))) := by
  unfold Fm_readsReach_b6 at h
  by_cases g0 : (4 : Int32) ≤ v2
  · have h := (if_pos g0).symm.trans h
    obtain rfl := Option.some.inj h
    try dsimp only [elS]
    repeat' (with_reducible first | exact Fr.rf | refine Fr.I ?_ (by simp [fp_Fm_readsReach]) | refine Fr.L ?_ (by simp [fp_Fm_readsReach]) | refine Fr.cI ?_ (by intro j; simp [fp_Fm_readsReach]) | refine Fr.cL ?_ (by intro j; simp [fp_Fm_readsReach]) | (refine Fr.tr ?_ (Fr.mono (fr_Fm_readsNumber (by with_reducible assumption)) mono_Fm_readsReach_0); try dsimp only))
  · have h := (if_neg g0).symm.trans h
    obtain ⟨z2, _, h⟩ := bnd_s h
    by_cases g0 : z2.1 = true
    · have h := (if_pos g0).symm.trans h
      obtain ⟨_, h⟩ := grd_s h
      obtain rfl := Option.some.inj h
      try dsimp only [elS]
      repeat' (with_reducible first | exact Fr.rf | refine Fr.I ?_ (by simp [fp_Fm_readsReach]) | refine Fr.L ?_ (by simp [fp_Fm_readsReach]) | refine Fr.cI ?_ (by intro j; simp [fp_Fm_readsReach]) | refine Fr.cL ?_ (by intro j; simp [fp_Fm_readsReach]) | (refine Fr.tr ?_ (Fr.mono (fr_Fm_readsNumber (by with_reducible assumption)) mono_Fm_readsReach_0); try dsimp only))
    · have h := (if_neg g0).symm.trans h
      obtain rfl := Option.some.inj h
      try dsimp only [elS]
      repeat' (with_reducible first | exact Fr.rf | refine Fr.I ?_ (by simp [fp_Fm_readsReach]) | refine Fr.L ?_ (by simp [fp_Fm_readsReach]) | refine Fr.cI ?_ (by intro j; simp [fp_Fm_readsReach]) | refine Fr.cL ?_ (by intro j; simp [fp_Fm_readsReach]) | (refine Fr.tr ?_ (Fr.mono (fr_Fm_readsNumber (by with_reducible assumption)) mono_Fm_readsReach_0); try dsimp only))
theorem frl_Fm_readsReach_b6 {n : Nat}  {n1 : Nat} {s0 : Int32 × Int32 × Mm} {y1 : (Mm) ⊕ (Bool × Mm)} (h : loop (fun s1 : Int32 × Int32 × Mm => Fm_readsReach_b6 n s1.1 s1.2.1 s1.2.2) n1 s0 = some y1) : Fr (fp_Fm_readsReach) s0.2.2 (elS y1 (fun x1 => x1) (fun z1 => z1.2)) :=
  loop_inv (P := fun s2 : Int32 × Int32 × Mm => Fr (fp_Fm_readsReach) s0.2.2 s2.2.2) (E := fun y1 : (Mm) ⊕ (Bool × Mm) => Fr (fp_Fm_readsReach) s0.2.2 (elS y1 (fun x1 => x1) (fun z1 => z1.2))) (fun s2 s3 hP hb => hP.tr (fr_Fm_readsReach_b6 hb)) (fun s2 x2 hP hb => hP.tr (fr_Fm_readsReach_b6 hb)) n1 s0 y1 h Fr.rf
theorem fr_Fm_readsReach {n : Nat} {M : Mm} {oo : Bool × Mm} (h : Fm_readsReach n M = some oo) : Fr (fp_Fm_readsReach) M oo.2 := by
  unfold Fm_readsReach at h
  obtain ⟨y6, _, h⟩ := bnd_s h
  cases y6 with
  | inl x7 =>
    obtain rfl := Option.some.inj h
    try dsimp only [elS]
    repeat' (with_reducible first | exact Fr.rf | refine Fr.I ?_ (by simp [fp_Fm_readsReach]) | refine Fr.L ?_ (by simp [fp_Fm_readsReach]) | refine Fr.cI ?_ (by intro j; simp [fp_Fm_readsReach]) | refine Fr.cL ?_ (by intro j; simp [fp_Fm_readsReach]) | (refine Fr.tr ?_ (Fr.mono (fr_Fm_readsNumber (by with_reducible assumption)) mono_Fm_readsReach_0); try dsimp only) | (refine Fr.tr ?_ (frl_Fm_readsReach_b6 (by with_reducible assumption)); try dsimp only))
  | inr e8 =>
    obtain rfl := Option.some.inj h
    try dsimp only [elS]
    repeat' (with_reducible first | exact Fr.rf | refine Fr.I ?_ (by simp [fp_Fm_readsReach]) | refine Fr.L ?_ (by simp [fp_Fm_readsReach]) | refine Fr.cI ?_ (by intro j; simp [fp_Fm_readsReach]) | refine Fr.cL ?_ (by intro j; simp [fp_Fm_readsReach]) | (refine Fr.tr ?_ (Fr.mono (fr_Fm_readsNumber (by with_reducible assumption)) mono_Fm_readsReach_0); try dsimp only) | (refine Fr.tr ?_ (frl_Fm_readsReach_b6 (by with_reducible assumption)); try dsimp only))
theorem mono_Fm_readsNodes_0  : ∀ c j, fp_Fm_readsNumber c j → fp_Fm_readsNodes c j := fun c j => (fun h => h.elim (fun e => Or.inl e) (fun h => h.elim (fun e => Or.inr (Or.inl e)) (fun h => h.elim (fun e => Or.inr (Or.inr (Or.inl e))) (fun e => Or.inr (Or.inr (Or.inr (Or.inl e)))))))
theorem mono_Fm_readsNodes_1  : ∀ c j, fp_Fm_wrongAt c j → fp_Fm_readsNodes c j := fun c j => (fun e => Or.inr (Or.inl e))
theorem fr_Fm_readsNodes {n : Nat} {M : Mm} {oo : Bool × Mm} (h : Fm_readsNodes n M = some oo) : Fr (fp_Fm_readsNodes) M oo.2 := by
  unfold Fm_readsNodes at h
  obtain ⟨z1, _, h⟩ := bnd_s h
  by_cases g0 : z1.1 = true
  · have h := (if_pos g0).symm.trans h
    obtain ⟨_, h⟩ := grd_s h
    by_cases g0 : (z1.2.1 96 (tn (3 : Int32))) ≤ (0 : Int32)
    · have h := (if_pos g0).symm.trans h
      obtain ⟨_, h⟩ := grd_s h
      obtain rfl := Option.some.inj h
      try dsimp only [elS]
      repeat' (with_reducible first | exact Fr.rf | refine Fr.I ?_ (by simp [fp_Fm_readsNodes]) | refine Fr.L ?_ (by simp [fp_Fm_readsNodes]) | refine Fr.cI ?_ (by intro j; simp [fp_Fm_readsNodes]) | refine Fr.cL ?_ (by intro j; simp [fp_Fm_readsNodes]) | (refine Fr.tr ?_ (Fr.mono (fr_Fm_readsNumber (by with_reducible assumption)) mono_Fm_readsNodes_0); try dsimp only) | (refine Fr.tr ?_ (Fr.mono (fr_Fm_wrongAt (by with_reducible assumption)) mono_Fm_readsNodes_1); try dsimp only))
    · have h := (if_neg g0).symm.trans h
      obtain ⟨z7, _, h⟩ := bnd_s h
      obtain rfl := Option.some.inj h
      try dsimp only [elS]
      repeat' (with_reducible first | exact Fr.rf | refine Fr.I ?_ (by simp [fp_Fm_readsNodes]) | refine Fr.L ?_ (by simp [fp_Fm_readsNodes]) | refine Fr.cI ?_ (by intro j; simp [fp_Fm_readsNodes]) | refine Fr.cL ?_ (by intro j; simp [fp_Fm_readsNodes]) | (refine Fr.tr ?_ (Fr.mono (fr_Fm_readsNumber (by with_reducible assumption)) mono_Fm_readsNodes_0); try dsimp only) | (refine Fr.tr ?_ (Fr.mono (fr_Fm_wrongAt (by with_reducible assumption)) mono_Fm_readsNodes_1); try dsimp only))
  · have h := (if_neg g0).symm.trans h
    obtain rfl := Option.some.inj h
    try dsimp only [elS]
    repeat' (with_reducible first | exact Fr.rf | refine Fr.I ?_ (by simp [fp_Fm_readsNodes]) | refine Fr.L ?_ (by simp [fp_Fm_readsNodes]) | refine Fr.cI ?_ (by intro j; simp [fp_Fm_readsNodes]) | refine Fr.cL ?_ (by intro j; simp [fp_Fm_readsNodes]) | (refine Fr.tr ?_ (Fr.mono (fr_Fm_readsNumber (by with_reducible assumption)) mono_Fm_readsNodes_0); try dsimp only) | (refine Fr.tr ?_ (Fr.mono (fr_Fm_wrongAt (by with_reducible assumption)) mono_Fm_readsNodes_1); try dsimp only))
theorem mono_Fm_readsClause_0  : ∀ c j, fp_Fm_keepsNumber c j → fp_Fm_readsClause c j := fun c j => (fun e => Or.inr (Or.inr (Or.inr (Or.inr (Or.inr (Or.inr (Or.inr (e))))))))
theorem mono_Fm_readsClause_1  : ∀ c j, fp_Fm_readsLink c j → fp_Fm_readsClause c j := fun c j => (fun h => h.elim (fun e => Or.inl e) (fun h => h.elim (fun e => Or.inr (Or.inl e)) (fun h => h.elim (fun e => Or.inr (Or.inr (Or.inl e))) (fun h => h.elim (fun e => Or.inr (Or.inr (Or.inr (Or.inl e)))) (fun e => Or.inr (Or.inr (Or.inr (Or.inr (Or.inr (Or.inr (Or.inr (e))))))))))))
theorem mono_Fm_readsClause_2  : ∀ c j, fp_Fm_readsNodes c j → fp_Fm_readsClause c j := fun c j => (fun h => h.elim (fun e => Or.inl e) (fun h => h.elim (fun e => Or.inr (Or.inl e)) (fun h => h.elim (fun e => Or.inr (Or.inr (Or.inl e))) (fun h => h.elim (fun e => Or.inr (Or.inr (Or.inr (Or.inl e)))) (fun e => Or.inr (Or.inr (Or.inr (Or.inr (Or.inr (Or.inr (Or.inr (e))))))))))))
theorem mono_Fm_readsClause_3  : ∀ c j, fp_Fm_readsNumber c j → fp_Fm_readsClause c j := fun c j => (fun h => h.elim (fun e => Or.inl e) (fun h => h.elim (fun e => Or.inr (Or.inl e)) (fun h => h.elim (fun e => Or.inr (Or.inr (Or.inl e))) (fun e => Or.inr (Or.inr (Or.inr (Or.inl e)))))))
theorem mono_Fm_readsClause_4  : ∀ c j, fp_Fm_readsReach c j → fp_Fm_readsClause c j := fun c j => (fun h => h.elim (fun e => Or.inl e) (fun h => h.elim (fun e => Or.inr (Or.inl e)) (fun h => h.elim (fun e => Or.inr (Or.inr (Or.inl e))) (fun h => h.elim (fun e => Or.inr (Or.inr (Or.inr (Or.inl e)))) (fun e => Or.inr (Or.inr (Or.inr (Or.inr (Or.inr (Or.inr (Or.inr (e))))))))))))
theorem mono_Fm_readsClause_5  : ∀ c j, fp_Fm_readsWord c j → fp_Fm_readsClause c j := fun c j => (fun h => h.elim (fun e => Or.inl e) (fun h => h.elim (fun e => Or.inr (Or.inr (Or.inr (Or.inr (Or.inl e))))) (fun e => Or.inr (Or.inr (Or.inr (Or.inr (Or.inr (Or.inr (Or.inl e)))))))))
theorem mono_Fm_readsClause_6  : ∀ c j, fp_Fm_wrongAt c j → fp_Fm_readsClause c j := fun c j => (fun e => Or.inr (Or.inl e))
theorem fr_Fm_readsClause_j139 {M : Mm} {oo : Bool × Mm} (h : Fm_readsClause_j139 M = some oo) : Fr (fp_Fm_readsClause) M oo.2 := by
  unfold Fm_readsClause_j139 at h
  obtain rfl := Option.some.inj h
  try dsimp only [elS]
  repeat' (with_reducible first | exact Fr.rf | refine Fr.I ?_ (by simp [fp_Fm_readsClause]) | refine Fr.L ?_ (by simp [fp_Fm_readsClause]) | refine Fr.cI ?_ (by intro j; simp [fp_Fm_readsClause]) | refine Fr.cL ?_ (by intro j; simp [fp_Fm_readsClause]) | (refine Fr.tr ?_ (Fr.mono (fr_Fm_keepsNumber (by with_reducible assumption)) mono_Fm_readsClause_0); try dsimp only) | (refine Fr.tr ?_ (Fr.mono (fr_Fm_readsLink (by with_reducible assumption)) mono_Fm_readsClause_1); try dsimp only) | (refine Fr.tr ?_ (Fr.mono (fr_Fm_readsNodes (by with_reducible assumption)) mono_Fm_readsClause_2); try dsimp only) | (refine Fr.tr ?_ (Fr.mono (fr_Fm_readsNumber (by with_reducible assumption)) mono_Fm_readsClause_3); try dsimp only) | (refine Fr.tr ?_ (Fr.mono (fr_Fm_readsReach (by with_reducible assumption)) mono_Fm_readsClause_4); try dsimp only) | (refine Fr.tr ?_ (Fr.mono (fr_Fm_readsWord (by with_reducible assumption)) mono_Fm_readsClause_5); try dsimp only) | (refine Fr.tr ?_ (Fr.mono (fr_Fm_wrongAt (by with_reducible assumption)) mono_Fm_readsClause_6); try dsimp only))
theorem fr_Fm_readsClause {n : Nat} {M : Mm} {oo : Bool × Mm} (h : Fm_readsClause n M = some oo) : Fr (fp_Fm_readsClause) M oo.2 := by
  unfold Fm_readsClause at h
  by_cases g0 : (M.1 94 11) = (24 : Int32)
  · have h := (if_pos g0).symm.trans h
    obtain ⟨z29, _, h⟩ := bnd_s h
    obtain rfl := Option.some.inj h
    try dsimp only [elS]
    repeat' (with_reducible first | exact Fr.rf | refine Fr.I ?_ (by simp [fp_Fm_readsClause]) | refine Fr.L ?_ (by simp [fp_Fm_readsClause]) | refine Fr.cI ?_ (by intro j; simp [fp_Fm_readsClause]) | refine Fr.cL ?_ (by intro j; simp [fp_Fm_readsClause]) | (refine Fr.tr ?_ (Fr.mono (fr_Fm_keepsNumber (by with_reducible assumption)) mono_Fm_readsClause_0); try dsimp only) | (refine Fr.tr ?_ (Fr.mono (fr_Fm_readsLink (by with_reducible assumption)) mono_Fm_readsClause_1); try dsimp only) | (refine Fr.tr ?_ (Fr.mono (fr_Fm_readsNodes (by with_reducible assumption)) mono_Fm_readsClause_2); try dsimp only) | (refine Fr.tr ?_ (Fr.mono (fr_Fm_readsNumber (by with_reducible assumption)) mono_Fm_readsClause_3); try dsimp only) | (refine Fr.tr ?_ (Fr.mono (fr_Fm_readsReach (by with_reducible assumption)) mono_Fm_readsClause_4); try dsimp only) | (refine Fr.tr ?_ (Fr.mono (fr_Fm_readsWord (by with_reducible assumption)) mono_Fm_readsClause_5); try dsimp only) | (refine Fr.tr ?_ (Fr.mono (fr_Fm_wrongAt (by with_reducible assumption)) mono_Fm_readsClause_6); try dsimp only))
  · have h := (if_neg g0).symm.trans h
    obtain ⟨z2, _, h⟩ := bnd_s h
    by_cases g0 : (z2.2 94 12) = (402891 : Int64)
    · have h := (if_pos g0).symm.trans h
      obtain ⟨z27, _, h⟩ := bnd_s h
      obtain rfl := Option.some.inj h
      try dsimp only [elS]
      repeat' (with_reducible first | exact Fr.rf | refine Fr.I ?_ (by simp [fp_Fm_readsClause]) | refine Fr.L ?_ (by simp [fp_Fm_readsClause]) | refine Fr.cI ?_ (by intro j; simp [fp_Fm_readsClause]) | refine Fr.cL ?_ (by intro j; simp [fp_Fm_readsClause]) | (refine Fr.tr ?_ (Fr.mono (fr_Fm_keepsNumber (by with_reducible assumption)) mono_Fm_readsClause_0); try dsimp only) | (refine Fr.tr ?_ (Fr.mono (fr_Fm_readsLink (by with_reducible assumption)) mono_Fm_readsClause_1); try dsimp only) | (refine Fr.tr ?_ (Fr.mono (fr_Fm_readsNodes (by with_reducible assumption)) mono_Fm_readsClause_2); try dsimp only) | (refine Fr.tr ?_ (Fr.mono (fr_Fm_readsNumber (by with_reducible assumption)) mono_Fm_readsClause_3); try dsimp only) | (refine Fr.tr ?_ (Fr.mono (fr_Fm_readsReach (by with_reducible assumption)) mono_Fm_readsClause_4); try dsimp only) | (refine Fr.tr ?_ (Fr.mono (fr_Fm_readsWord (by with_reducible assumption)) mono_Fm_readsClause_5); try dsimp only) | (refine Fr.tr ?_ (Fr.mono (fr_Fm_wrongAt (by with_reducible assumption)) mono_Fm_readsClause_6); try dsimp only))
    · have h := (if_neg g0).symm.trans h
      by_cases g0 : (z2.2 94 12) = (19039336 : Int64)
      · have h := (if_pos g0).symm.trans h
        obtain ⟨z25, _, h⟩ := bnd_s h
        obtain rfl := Option.some.inj h
        try dsimp only [elS]
        repeat' (with_reducible first | exact Fr.rf | refine Fr.I ?_ (by simp [fp_Fm_readsClause]) | refine Fr.L ?_ (by simp [fp_Fm_readsClause]) | refine Fr.cI ?_ (by intro j; simp [fp_Fm_readsClause]) | refine Fr.cL ?_ (by intro j; simp [fp_Fm_readsClause]) | (refine Fr.tr ?_ (Fr.mono (fr_Fm_keepsNumber (by with_reducible assumption)) mono_Fm_readsClause_0); try dsimp only) | (refine Fr.tr ?_ (Fr.mono (fr_Fm_readsLink (by with_reducible assumption)) mono_Fm_readsClause_1); try dsimp only) | (refine Fr.tr ?_ (Fr.mono (fr_Fm_readsNodes (by with_reducible assumption)) mono_Fm_readsClause_2); try dsimp only) | (refine Fr.tr ?_ (Fr.mono (fr_Fm_readsNumber (by with_reducible assumption)) mono_Fm_readsClause_3); try dsimp only) | (refine Fr.tr ?_ (Fr.mono (fr_Fm_readsReach (by with_reducible assumption)) mono_Fm_readsClause_4); try dsimp only) | (refine Fr.tr ?_ (Fr.mono (fr_Fm_readsWord (by with_reducible assumption)) mono_Fm_readsClause_5); try dsimp only) | (refine Fr.tr ?_ (Fr.mono (fr_Fm_wrongAt (by with_reducible assumption)) mono_Fm_readsClause_6); try dsimp only))
      · have h := (if_neg g0).symm.trans h
        by_cases g0 : (z2.2 94 12) = (15175859 : Int64)
        · have h := (if_pos g0).symm.trans h
          obtain ⟨z23, _, h⟩ := bnd_s h
          obtain rfl := Option.some.inj h
          try dsimp only [elS]
          repeat' (with_reducible first | exact Fr.rf | refine Fr.I ?_ (by simp [fp_Fm_readsClause]) | refine Fr.L ?_ (by simp [fp_Fm_readsClause]) | refine Fr.cI ?_ (by intro j; simp [fp_Fm_readsClause]) | refine Fr.cL ?_ (by intro j; simp [fp_Fm_readsClause]) | (refine Fr.tr ?_ (Fr.mono (fr_Fm_keepsNumber (by with_reducible assumption)) mono_Fm_readsClause_0); try dsimp only) | (refine Fr.tr ?_ (Fr.mono (fr_Fm_readsLink (by with_reducible assumption)) mono_Fm_readsClause_1); try dsimp only) | (refine Fr.tr ?_ (Fr.mono (fr_Fm_readsNodes (by with_reducible assumption)) mono_Fm_readsClause_2); try dsimp only) | (refine Fr.tr ?_ (Fr.mono (fr_Fm_readsNumber (by with_reducible assumption)) mono_Fm_readsClause_3); try dsimp only) | (refine Fr.tr ?_ (Fr.mono (fr_Fm_readsReach (by with_reducible assumption)) mono_Fm_readsClause_4); try dsimp only) | (refine Fr.tr ?_ (Fr.mono (fr_Fm_readsWord (by with_reducible assumption)) mono_Fm_readsClause_5); try dsimp only) | (refine Fr.tr ?_ (Fr.mono (fr_Fm_wrongAt (by with_reducible assumption)) mono_Fm_readsClause_6); try dsimp only))
        · have h := (if_neg g0).symm.trans h
          by_cases g0 : (z2.2 94 12) = (20332179 : Int64)
          · have h := (if_pos g0).symm.trans h
            obtain ⟨z17, _, h⟩ := bnd_s h
            by_cases g0 : z17.1 = true
            · have h := (if_pos g0).symm.trans h
              obtain ⟨z20, _, h⟩ := bnd_s h
              by_cases g0 : z20.1 = true
              · have h := (if_pos g0).symm.trans h
                obtain rfl := Option.some.inj h
                try dsimp only [elS]
                repeat' (with_reducible first | exact Fr.rf | refine Fr.I ?_ (by simp [fp_Fm_readsClause]) | refine Fr.L ?_ (by simp [fp_Fm_readsClause]) | refine Fr.cI ?_ (by intro j; simp [fp_Fm_readsClause]) | refine Fr.cL ?_ (by intro j; simp [fp_Fm_readsClause]) | (refine Fr.tr ?_ (Fr.mono (fr_Fm_keepsNumber (by with_reducible assumption)) mono_Fm_readsClause_0); try dsimp only) | (refine Fr.tr ?_ (Fr.mono (fr_Fm_readsLink (by with_reducible assumption)) mono_Fm_readsClause_1); try dsimp only) | (refine Fr.tr ?_ (Fr.mono (fr_Fm_readsNodes (by with_reducible assumption)) mono_Fm_readsClause_2); try dsimp only) | (refine Fr.tr ?_ (Fr.mono (fr_Fm_readsNumber (by with_reducible assumption)) mono_Fm_readsClause_3); try dsimp only) | (refine Fr.tr ?_ (Fr.mono (fr_Fm_readsReach (by with_reducible assumption)) mono_Fm_readsClause_4); try dsimp only) | (refine Fr.tr ?_ (Fr.mono (fr_Fm_readsWord (by with_reducible assumption)) mono_Fm_readsClause_5); try dsimp only) | (refine Fr.tr ?_ (Fr.mono (fr_Fm_wrongAt (by with_reducible assumption)) mono_Fm_readsClause_6); try dsimp only))
              · have h := (if_neg g0).symm.trans h
                obtain rfl := Option.some.inj h
                try dsimp only [elS]
                repeat' (with_reducible first | exact Fr.rf | refine Fr.I ?_ (by simp [fp_Fm_readsClause]) | refine Fr.L ?_ (by simp [fp_Fm_readsClause]) | refine Fr.cI ?_ (by intro j; simp [fp_Fm_readsClause]) | refine Fr.cL ?_ (by intro j; simp [fp_Fm_readsClause]) | (refine Fr.tr ?_ (Fr.mono (fr_Fm_keepsNumber (by with_reducible assumption)) mono_Fm_readsClause_0); try dsimp only) | (refine Fr.tr ?_ (Fr.mono (fr_Fm_readsLink (by with_reducible assumption)) mono_Fm_readsClause_1); try dsimp only) | (refine Fr.tr ?_ (Fr.mono (fr_Fm_readsNodes (by with_reducible assumption)) mono_Fm_readsClause_2); try dsimp only) | (refine Fr.tr ?_ (Fr.mono (fr_Fm_readsNumber (by with_reducible assumption)) mono_Fm_readsClause_3); try dsimp only) | (refine Fr.tr ?_ (Fr.mono (fr_Fm_readsReach (by with_reducible assumption)) mono_Fm_readsClause_4); try dsimp only) | (refine Fr.tr ?_ (Fr.mono (fr_Fm_readsWord (by with_reducible assumption)) mono_Fm_readsClause_5); try dsimp only) | (refine Fr.tr ?_ (Fr.mono (fr_Fm_wrongAt (by with_reducible assumption)) mono_Fm_readsClause_6); try dsimp only))
            · have h := (if_neg g0).symm.trans h
              obtain rfl := Option.some.inj h
              try dsimp only [elS]
              repeat' (with_reducible first | exact Fr.rf | refine Fr.I ?_ (by simp [fp_Fm_readsClause]) | refine Fr.L ?_ (by simp [fp_Fm_readsClause]) | refine Fr.cI ?_ (by intro j; simp [fp_Fm_readsClause]) | refine Fr.cL ?_ (by intro j; simp [fp_Fm_readsClause]) | (refine Fr.tr ?_ (Fr.mono (fr_Fm_keepsNumber (by with_reducible assumption)) mono_Fm_readsClause_0); try dsimp only) | (refine Fr.tr ?_ (Fr.mono (fr_Fm_readsLink (by with_reducible assumption)) mono_Fm_readsClause_1); try dsimp only) | (refine Fr.tr ?_ (Fr.mono (fr_Fm_readsNodes (by with_reducible assumption)) mono_Fm_readsClause_2); try dsimp only) | (refine Fr.tr ?_ (Fr.mono (fr_Fm_readsNumber (by with_reducible assumption)) mono_Fm_readsClause_3); try dsimp only) | (refine Fr.tr ?_ (Fr.mono (fr_Fm_readsReach (by with_reducible assumption)) mono_Fm_readsClause_4); try dsimp only) | (refine Fr.tr ?_ (Fr.mono (fr_Fm_readsWord (by with_reducible assumption)) mono_Fm_readsClause_5); try dsimp only) | (refine Fr.tr ?_ (Fr.mono (fr_Fm_wrongAt (by with_reducible assumption)) mono_Fm_readsClause_6); try dsimp only))
          · have h := (if_neg g0).symm.trans h
            by_cases g0 : (z2.2 94 12) = (2336986286 : Int64)
            · have h := (if_pos g0).symm.trans h
              obtain ⟨z11, _, h⟩ := bnd_s h
              by_cases g0 : z11.1 = true
              · have h := (if_pos g0).symm.trans h
                obtain ⟨z14, _, h⟩ := bnd_s h
                by_cases g0 : z14.1 = true
                · have h := (if_pos g0).symm.trans h
                  obtain rfl := Option.some.inj h
                  try dsimp only [elS]
                  repeat' (with_reducible first | exact Fr.rf | refine Fr.I ?_ (by simp [fp_Fm_readsClause]) | refine Fr.L ?_ (by simp [fp_Fm_readsClause]) | refine Fr.cI ?_ (by intro j; simp [fp_Fm_readsClause]) | refine Fr.cL ?_ (by intro j; simp [fp_Fm_readsClause]) | (refine Fr.tr ?_ (Fr.mono (fr_Fm_keepsNumber (by with_reducible assumption)) mono_Fm_readsClause_0); try dsimp only) | (refine Fr.tr ?_ (Fr.mono (fr_Fm_readsLink (by with_reducible assumption)) mono_Fm_readsClause_1); try dsimp only) | (refine Fr.tr ?_ (Fr.mono (fr_Fm_readsNodes (by with_reducible assumption)) mono_Fm_readsClause_2); try dsimp only) | (refine Fr.tr ?_ (Fr.mono (fr_Fm_readsNumber (by with_reducible assumption)) mono_Fm_readsClause_3); try dsimp only) | (refine Fr.tr ?_ (Fr.mono (fr_Fm_readsReach (by with_reducible assumption)) mono_Fm_readsClause_4); try dsimp only) | (refine Fr.tr ?_ (Fr.mono (fr_Fm_readsWord (by with_reducible assumption)) mono_Fm_readsClause_5); try dsimp only) | (refine Fr.tr ?_ (Fr.mono (fr_Fm_wrongAt (by with_reducible assumption)) mono_Fm_readsClause_6); try dsimp only))
                · have h := (if_neg g0).symm.trans h
                  refine Fr.tr ?_ (fr_Fm_readsClause_j139 h)
                  try dsimp only [elS]
                  repeat' (with_reducible first | exact Fr.rf | refine Fr.I ?_ (by simp [fp_Fm_readsClause]) | refine Fr.L ?_ (by simp [fp_Fm_readsClause]) | refine Fr.cI ?_ (by intro j; simp [fp_Fm_readsClause]) | refine Fr.cL ?_ (by intro j; simp [fp_Fm_readsClause]) | (refine Fr.tr ?_ (Fr.mono (fr_Fm_keepsNumber (by with_reducible assumption)) mono_Fm_readsClause_0); try dsimp only) | (refine Fr.tr ?_ (Fr.mono (fr_Fm_readsLink (by with_reducible assumption)) mono_Fm_readsClause_1); try dsimp only) | (refine Fr.tr ?_ (Fr.mono (fr_Fm_readsNodes (by with_reducible assumption)) mono_Fm_readsClause_2); try dsimp only) | (refine Fr.tr ?_ (Fr.mono (fr_Fm_readsNumber (by with_reducible assumption)) mono_Fm_readsClause_3); try dsimp only) | (refine Fr.tr ?_ (Fr.mono (fr_Fm_readsReach (by with_reducible assumption)) mono_Fm_readsClause_4); try dsimp only) | (refine Fr.tr ?_ (Fr.mono (fr_Fm_readsWord (by with_reducible assumption)) mono_Fm_readsClause_5); try dsimp only) | (refine Fr.tr ?_ (Fr.mono (fr_Fm_wrongAt (by with_reducible assumption)) mono_Fm_readsClause_6); try dsimp only))
              · have h := (if_neg g0).symm.trans h
                refine Fr.tr ?_ (fr_Fm_readsClause_j139 h)
                try dsimp only [elS]
                repeat' (with_reducible first | exact Fr.rf | refine Fr.I ?_ (by simp [fp_Fm_readsClause]) | refine Fr.L ?_ (by simp [fp_Fm_readsClause]) | refine Fr.cI ?_ (by intro j; simp [fp_Fm_readsClause]) | refine Fr.cL ?_ (by intro j; simp [fp_Fm_readsClause]) | (refine Fr.tr ?_ (Fr.mono (fr_Fm_keepsNumber (by with_reducible assumption)) mono_Fm_readsClause_0); try dsimp only) | (refine Fr.tr ?_ (Fr.mono (fr_Fm_readsLink (by with_reducible assumption)) mono_Fm_readsClause_1); try dsimp only) | (refine Fr.tr ?_ (Fr.mono (fr_Fm_readsNodes (by with_reducible assumption)) mono_Fm_readsClause_2); try dsimp only) | (refine Fr.tr ?_ (Fr.mono (fr_Fm_readsNumber (by with_reducible assumption)) mono_Fm_readsClause_3); try dsimp only) | (refine Fr.tr ?_ (Fr.mono (fr_Fm_readsReach (by with_reducible assumption)) mono_Fm_readsClause_4); try dsimp only) | (refine Fr.tr ?_ (Fr.mono (fr_Fm_readsWord (by with_reducible assumption)) mono_Fm_readsClause_5); try dsimp only) | (refine Fr.tr ?_ (Fr.mono (fr_Fm_wrongAt (by with_reducible assumption)) mono_Fm_readsClause_6); try dsimp only))
            · have h := (if_neg g0).symm.trans h
              obtain ⟨z9, _, h⟩ := bnd_s h
              obtain rfl := Option.some.inj h
              try dsimp only [elS]
              repeat' (with_reducible first | exact Fr.rf | refine Fr.I ?_ (by simp [fp_Fm_readsClause]) | refine Fr.L ?_ (by simp [fp_Fm_readsClause]) | refine Fr.cI ?_ (by intro j; simp [fp_Fm_readsClause]) | refine Fr.cL ?_ (by intro j; simp [fp_Fm_readsClause]) | (refine Fr.tr ?_ (Fr.mono (fr_Fm_keepsNumber (by with_reducible assumption)) mono_Fm_readsClause_0); try dsimp only) | (refine Fr.tr ?_ (Fr.mono (fr_Fm_readsLink (by with_reducible assumption)) mono_Fm_readsClause_1); try dsimp only) | (refine Fr.tr ?_ (Fr.mono (fr_Fm_readsNodes (by with_reducible assumption)) mono_Fm_readsClause_2); try dsimp only) | (refine Fr.tr ?_ (Fr.mono (fr_Fm_readsNumber (by with_reducible assumption)) mono_Fm_readsClause_3); try dsimp only) | (refine Fr.tr ?_ (Fr.mono (fr_Fm_readsReach (by with_reducible assumption)) mono_Fm_readsClause_4); try dsimp only) | (refine Fr.tr ?_ (Fr.mono (fr_Fm_readsWord (by with_reducible assumption)) mono_Fm_readsClause_5); try dsimp only) | (refine Fr.tr ?_ (Fr.mono (fr_Fm_wrongAt (by with_reducible assumption)) mono_Fm_readsClause_6); try dsimp only))
theorem mono_Fm_grid_0  : ∀ c j, fp_Fm_begins c j → fp_Fm_grid c j := fun c j => (fun e => Or.inr (Or.inr (Or.inr (Or.inr (Or.inr (Or.inr (Or.inr (Or.inr (Or.inr (Or.inr (e)))))))))))
theorem mono_Fm_grid_1  : ∀ c j, fp_Fm_beginsText c j → fp_Fm_grid c j := fun c j => (fun h => h.elim (fun e => Or.inl e) (fun h => h.elim (fun e => Or.inr (Or.inl e)) (fun h => h.elim (fun e => Or.inr (Or.inr (Or.inl e))) (fun e => Or.inr (Or.inr (Or.inr (Or.inr (Or.inr (Or.inr (Or.inr (Or.inl e)))))))))))
theorem mono_Fm_grid_2  : ∀ c j, fp_Fm_readsClause c j → fp_Fm_grid c j := fun c j => (fun h => h.elim (fun e => Or.inr (Or.inl e)) (fun h => h.elim (fun e => Or.inr (Or.inr (Or.inr (Or.inl e)))) (fun h => h.elim (fun e => Or.inr (Or.inr (Or.inr (Or.inr (Or.inl e))))) (fun h => h.elim (fun e => Or.inr (Or.inr (Or.inr (Or.inr (Or.inr (Or.inl e)))))) (fun h => h.elim (fun e => Or.inr (Or.inr (Or.inr (Or.inr (Or.inr (Or.inr (Or.inl e))))))) (fun h => h.elim (fun e => Or.inr (Or.inr (Or.inr (Or.inr (Or.inr (Or.inr (Or.inr (Or.inl e)))))))) (fun h => h.elim (fun e => Or.inr (Or.inr (Or.inr (Or.inr (Or.inr (Or.inr (Or.inr (Or.inr (Or.inl e))))))))) (fun e => Or.inr (Or.inr (Or.inr (Or.inr (Or.inr (Or.inr (Or.inr (Or.inr (Or.inr (Or.inr (e))))))))))))))))))
theorem mono_Fm_grid_3  : ∀ c j, fp_Fm_takesDraft c j → fp_Fm_grid c j := fun c j => (fun e => Or.inr (Or.inr (Or.inr (Or.inr (Or.inr (Or.inr (Or.inr (Or.inr (Or.inr (Or.inl e))))))))))
theorem mono_Fm_grid_4  : ∀ c j, fp_Fm_takesSign c j → fp_Fm_grid c j := fun c j => (fun h => h.elim (fun e => Or.inr (Or.inl e)) (fun e => Or.inr (Or.inr (Or.inr (Or.inl e)))))
theorem fr_Fm_grid_j55 {w0 : Int32} {M : Mm} {oo : (Int32 × Mm) ⊕ (Int32 × Mm)} (h : Fm_grid_j55 w0 M = some oo) : Fr (fp_Fm_grid) M (elS oo (fun s1 => s1.2) (fun x1 => x1.2)) := by
  unfold Fm_grid_j55 at h
  obtain rfl := Option.some.inj h
  try dsimp only [elS]
  repeat' (with_reducible first | exact Fr.rf | refine Fr.I ?_ (by simp [fp_Fm_grid]) | refine Fr.L ?_ (by simp [fp_Fm_grid]) | refine Fr.cI ?_ (by intro j; simp [fp_Fm_grid]) | refine Fr.cL ?_ (by intro j; simp [fp_Fm_grid]) | (refine Fr.tr ?_ (Fr.mono (fr_Fm_begins (by with_reducible assumption)) mono_Fm_grid_0); try dsimp only) | (refine Fr.tr ?_ (Fr.mono (fr_Fm_beginsText (by with_reducible assumption)) mono_Fm_grid_1); try dsimp only) | (refine Fr.tr ?_ (Fr.mono (fr_Fm_readsClause (by with_reducible assumption)) mono_Fm_grid_2); try dsimp only) | (refine Fr.tr ?_ (Fr.mono (fr_Fm_takesDraft (by with_reducible assumption)) mono_Fm_grid_3); try dsimp only) | (refine Fr.tr ?_ (Fr.mono (fr_Fm_takesSign (by with_reducible assumption)) mono_Fm_grid_4); try dsimp only))
theorem fr_Fm_grid_j54 {M : Mm} {oo : (Int32 × Mm) ⊕ (Int32 × Mm)} (h : Fm_grid_j54 M = some oo) : Fr (fp_Fm_grid) M (elS oo (fun s1 => s1.2) (fun x1 => x1.2)) := by
  unfold Fm_grid_j54 at h
  refine Fr.tr ?_ (fr_Fm_grid_j55 h)
  try dsimp only [elS]
  repeat' (with_reducible first | exact Fr.rf | refine Fr.I ?_ (by simp [fp_Fm_grid]) | refine Fr.L ?_ (by simp [fp_Fm_grid]) | refine Fr.cI ?_ (by intro j; simp [fp_Fm_grid]) | refine Fr.cL ?_ (by intro j; simp [fp_Fm_grid]) | (refine Fr.tr ?_ (Fr.mono (fr_Fm_begins (by with_reducible assumption)) mono_Fm_grid_0); try dsimp only) | (refine Fr.tr ?_ (Fr.mono (fr_Fm_beginsText (by with_reducible assumption)) mono_Fm_grid_1); try dsimp only) | (refine Fr.tr ?_ (Fr.mono (fr_Fm_readsClause (by with_reducible assumption)) mono_Fm_grid_2); try dsimp only) | (refine Fr.tr ?_ (Fr.mono (fr_Fm_takesDraft (by with_reducible assumption)) mono_Fm_grid_3); try dsimp only) | (refine Fr.tr ?_ (Fr.mono (fr_Fm_takesSign (by with_reducible assumption)) mono_Fm_grid_4); try dsimp only))
theorem fr_Fm_grid_b19 {n : Nat} {v2 : Int32} {M : Mm} {oo : (Int32 × Mm) ⊕ (Int32 × Mm)} (h : Fm_grid_b19 n v2 M = some oo) : Fr (fp_Fm_grid) M (elS oo (fun s1 => s1.2) (fun x1 => x1.2)) := by
  unfold Fm_grid_b19 at h
  by_cases g0 : v2 = (0 : Int32)
  · have h := (if_pos g0).symm.trans h
    obtain rfl := Option.some.inj h
    try dsimp only [elS]
    repeat' (with_reducible first | exact Fr.rf | refine Fr.I ?_ (by simp [fp_Fm_grid]) | refine Fr.L ?_ (by simp [fp_Fm_grid]) | refine Fr.cI ?_ (by intro j; simp [fp_Fm_grid]) | refine Fr.cL ?_ (by intro j; simp [fp_Fm_grid]) | (refine Fr.tr ?_ (Fr.mono (fr_Fm_begins (by with_reducible assumption)) mono_Fm_grid_0); try dsimp only) | (refine Fr.tr ?_ (Fr.mono (fr_Fm_beginsText (by with_reducible assumption)) mono_Fm_grid_1); try dsimp only) | (refine Fr.tr ?_ (Fr.mono (fr_Fm_readsClause (by with_reducible assumption)) mono_Fm_grid_2); try dsimp only) | (refine Fr.tr ?_ (Fr.mono (fr_Fm_takesDraft (by with_reducible assumption)) mono_Fm_grid_3); try dsimp only) | (refine Fr.tr ?_ (Fr.mono (fr_Fm_takesSign (by with_reducible assumption)) mono_Fm_grid_4); try dsimp only))
  · have h := (if_neg g0).symm.trans h
    by_cases g0 : (M.1 94 6) ≤ (M.1 94 5)
    · have h := (if_pos g0).symm.trans h
      obtain rfl := Option.some.inj h
      try dsimp only [elS]
      repeat' (with_reducible first | exact Fr.rf | refine Fr.I ?_ (by simp [fp_Fm_grid]) | refine Fr.L ?_ (by simp [fp_Fm_grid]) | refine Fr.cI ?_ (by intro j; simp [fp_Fm_grid]) | refine Fr.cL ?_ (by intro j; simp [fp_Fm_grid]) | (refine Fr.tr ?_ (Fr.mono (fr_Fm_begins (by with_reducible assumption)) mono_Fm_grid_0); try dsimp only) | (refine Fr.tr ?_ (Fr.mono (fr_Fm_beginsText (by with_reducible assumption)) mono_Fm_grid_1); try dsimp only) | (refine Fr.tr ?_ (Fr.mono (fr_Fm_readsClause (by with_reducible assumption)) mono_Fm_grid_2); try dsimp only) | (refine Fr.tr ?_ (Fr.mono (fr_Fm_takesDraft (by with_reducible assumption)) mono_Fm_grid_3); try dsimp only) | (refine Fr.tr ?_ (Fr.mono (fr_Fm_takesSign (by with_reducible assumption)) mono_Fm_grid_4); try dsimp only))
    · have h := (if_neg g0).symm.trans h
      obtain ⟨z10, _, h⟩ := bnd_s h
      by_cases g0 : z10.1 = true
      · have h := (if_pos g0).symm.trans h
        obtain ⟨z13, _, h⟩ := bnd_s h
        by_cases g0 : z13.1 = true
        · have h := (if_pos g0).symm.trans h
          refine Fr.tr ?_ (fr_Fm_grid_j55 h)
          try dsimp only [elS]
          repeat' (with_reducible first | exact Fr.rf | refine Fr.I ?_ (by simp [fp_Fm_grid]) | refine Fr.L ?_ (by simp [fp_Fm_grid]) | refine Fr.cI ?_ (by intro j; simp [fp_Fm_grid]) | refine Fr.cL ?_ (by intro j; simp [fp_Fm_grid]) | (refine Fr.tr ?_ (Fr.mono (fr_Fm_begins (by with_reducible assumption)) mono_Fm_grid_0); try dsimp only) | (refine Fr.tr ?_ (Fr.mono (fr_Fm_beginsText (by with_reducible assumption)) mono_Fm_grid_1); try dsimp only) | (refine Fr.tr ?_ (Fr.mono (fr_Fm_readsClause (by with_reducible assumption)) mono_Fm_grid_2); try dsimp only) | (refine Fr.tr ?_ (Fr.mono (fr_Fm_takesDraft (by with_reducible assumption)) mono_Fm_grid_3); try dsimp only) | (refine Fr.tr ?_ (Fr.mono (fr_Fm_takesSign (by with_reducible assumption)) mono_Fm_grid_4); try dsimp only))
        · have h := (if_neg g0).symm.trans h
          refine Fr.tr ?_ (fr_Fm_grid_j54 h)
          try dsimp only [elS]
          repeat' (with_reducible first | exact Fr.rf | refine Fr.I ?_ (by simp [fp_Fm_grid]) | refine Fr.L ?_ (by simp [fp_Fm_grid]) | refine Fr.cI ?_ (by intro j; simp [fp_Fm_grid]) | refine Fr.cL ?_ (by intro j; simp [fp_Fm_grid]) | (refine Fr.tr ?_ (Fr.mono (fr_Fm_begins (by with_reducible assumption)) mono_Fm_grid_0); try dsimp only) | (refine Fr.tr ?_ (Fr.mono (fr_Fm_beginsText (by with_reducible assumption)) mono_Fm_grid_1); try dsimp only) | (refine Fr.tr ?_ (Fr.mono (fr_Fm_readsClause (by with_reducible assumption)) mono_Fm_grid_2); try dsimp only) | (refine Fr.tr ?_ (Fr.mono (fr_Fm_takesDraft (by with_reducible assumption)) mono_Fm_grid_3); try dsimp only) | (refine Fr.tr ?_ (Fr.mono (fr_Fm_takesSign (by with_reducible assumption)) mono_Fm_grid_4); try dsimp only))
      · have h := (if_neg g0).symm.trans h
        refine Fr.tr ?_ (fr_Fm_grid_j54 h)
        try dsimp only [elS]
        repeat' (with_reducible first | exact Fr.rf | refine Fr.I ?_ (by simp [fp_Fm_grid]) | refine Fr.L ?_ (by simp [fp_Fm_grid]) | refine Fr.cI ?_ (by intro j; simp [fp_Fm_grid]) | refine Fr.cL ?_ (by intro j; simp [fp_Fm_grid]) | (refine Fr.tr ?_ (Fr.mono (fr_Fm_begins (by with_reducible assumption)) mono_Fm_grid_0); try dsimp only) | (refine Fr.tr ?_ (Fr.mono (fr_Fm_beginsText (by with_reducible assumption)) mono_Fm_grid_1); try dsimp only) | (refine Fr.tr ?_ (Fr.mono (fr_Fm_readsClause (by with_reducible assumption)) mono_Fm_grid_2); try dsimp only) | (refine Fr.tr ?_ (Fr.mono (fr_Fm_takesDraft (by with_reducible assumption)) mono_Fm_grid_3); try dsimp only) | (refine Fr.tr ?_ (Fr.mono (fr_Fm_takesSign (by with_reducible assumption)) mono_Fm_grid_4); try dsimp only))
theorem frl_Fm_grid_b19 {n : Nat}  {n1 : Nat} {s0 : Int32 × Mm} {y1 : Int32 × Mm} (h : loop (fun s1 : Int32 × Mm => Fm_grid_b19 n s1.1 s1.2) n1 s0 = some y1) : Fr (fp_Fm_grid) s0.2 y1.2 :=
  loop_inv (P := fun s2 : Int32 × Mm => Fr (fp_Fm_grid) s0.2 s2.2) (E := fun y1 : Int32 × Mm => Fr (fp_Fm_grid) s0.2 y1.2) (fun s2 s3 hP hb => hP.tr (fr_Fm_grid_b19 hb)) (fun s2 x2 hP hb => hP.tr (fr_Fm_grid_b19 hb)) n1 s0 y1 h Fr.rf
theorem fr_Fm_grid_j59 {n : Nat} {v2 : Int32} {M : Mm} {oo : Int32 × Mm} (h : Fm_grid_j59 n v2 M = some oo) : Fr (fp_Fm_grid) M oo.2 := by
  unfold Fm_grid_j59 at h
  by_cases g0 : v2 = (0 : Int32)
  · have h := (if_pos g0).symm.trans h
    obtain rfl := Option.some.inj h
    try dsimp only [elS]
    repeat' (with_reducible first | exact Fr.rf | refine Fr.I ?_ (by simp [fp_Fm_grid]) | refine Fr.L ?_ (by simp [fp_Fm_grid]) | refine Fr.cI ?_ (by intro j; simp [fp_Fm_grid]) | refine Fr.cL ?_ (by intro j; simp [fp_Fm_grid]) | (refine Fr.tr ?_ (Fr.mono (fr_Fm_begins (by with_reducible assumption)) mono_Fm_grid_0); try dsimp only) | (refine Fr.tr ?_ (Fr.mono (fr_Fm_beginsText (by with_reducible assumption)) mono_Fm_grid_1); try dsimp only) | (refine Fr.tr ?_ (Fr.mono (fr_Fm_readsClause (by with_reducible assumption)) mono_Fm_grid_2); try dsimp only) | (refine Fr.tr ?_ (Fr.mono (fr_Fm_takesDraft (by with_reducible assumption)) mono_Fm_grid_3); try dsimp only) | (refine Fr.tr ?_ (Fr.mono (fr_Fm_takesSign (by with_reducible assumption)) mono_Fm_grid_4); try dsimp only) | (refine Fr.tr ?_ (frl_Fm_grid_b19 (by with_reducible assumption)); try dsimp only))
  · have h := (if_neg g0).symm.trans h
    obtain ⟨z18, _, h⟩ := bnd_s h
    obtain ⟨_, h⟩ := grd_s h
    obtain rfl := Option.some.inj h
    try dsimp only [elS]
    repeat' (with_reducible first | exact Fr.rf | refine Fr.I ?_ (by simp [fp_Fm_grid]) | refine Fr.L ?_ (by simp [fp_Fm_grid]) | refine Fr.cI ?_ (by intro j; simp [fp_Fm_grid]) | refine Fr.cL ?_ (by intro j; simp [fp_Fm_grid]) | (refine Fr.tr ?_ (Fr.mono (fr_Fm_begins (by with_reducible assumption)) mono_Fm_grid_0); try dsimp only) | (refine Fr.tr ?_ (Fr.mono (fr_Fm_beginsText (by with_reducible assumption)) mono_Fm_grid_1); try dsimp only) | (refine Fr.tr ?_ (Fr.mono (fr_Fm_readsClause (by with_reducible assumption)) mono_Fm_grid_2); try dsimp only) | (refine Fr.tr ?_ (Fr.mono (fr_Fm_takesDraft (by with_reducible assumption)) mono_Fm_grid_3); try dsimp only) | (refine Fr.tr ?_ (Fr.mono (fr_Fm_takesSign (by with_reducible assumption)) mono_Fm_grid_4); try dsimp only) | (refine Fr.tr ?_ (frl_Fm_grid_b19 (by with_reducible assumption)); try dsimp only))
theorem fr_Fm_grid {n : Nat} {v1 : Int32} {M : Mm} {oo : Int32 × Mm} (h : Fm_grid n v1 M = some oo) : Fr (fp_Fm_grid) M oo.2 := by
  unfold Fm_grid at h
  obtain ⟨z1, _, h⟩ := bnd_s h
  by_cases g0 : z1.1 = true
  · have h := (if_pos g0).symm.trans h
    obtain ⟨z4, _, h⟩ := bnd_s h
    obtain ⟨z6, _, h⟩ := bnd_s h
    obtain ⟨y16, _, h⟩ := bnd_s h
    refine Fr.tr ?_ (fr_Fm_grid_j59 h)
    try dsimp only [elS]
    repeat' (with_reducible first | exact Fr.rf | refine Fr.I ?_ (by simp [fp_Fm_grid]) | refine Fr.L ?_ (by simp [fp_Fm_grid]) | refine Fr.cI ?_ (by intro j; simp [fp_Fm_grid]) | refine Fr.cL ?_ (by intro j; simp [fp_Fm_grid]) | (refine Fr.tr ?_ (Fr.mono (fr_Fm_begins (by with_reducible assumption)) mono_Fm_grid_0); try dsimp only) | (refine Fr.tr ?_ (Fr.mono (fr_Fm_beginsText (by with_reducible assumption)) mono_Fm_grid_1); try dsimp only) | (refine Fr.tr ?_ (Fr.mono (fr_Fm_readsClause (by with_reducible assumption)) mono_Fm_grid_2); try dsimp only) | (refine Fr.tr ?_ (Fr.mono (fr_Fm_takesDraft (by with_reducible assumption)) mono_Fm_grid_3); try dsimp only) | (refine Fr.tr ?_ (Fr.mono (fr_Fm_takesSign (by with_reducible assumption)) mono_Fm_grid_4); try dsimp only) | (refine Fr.tr ?_ (frl_Fm_grid_b19 (by with_reducible assumption)); try dsimp only))
  · have h := (if_neg g0).symm.trans h
    obtain rfl := Option.some.inj h
    try dsimp only [elS]
    repeat' (with_reducible first | exact Fr.rf | refine Fr.I ?_ (by simp [fp_Fm_grid]) | refine Fr.L ?_ (by simp [fp_Fm_grid]) | refine Fr.cI ?_ (by intro j; simp [fp_Fm_grid]) | refine Fr.cL ?_ (by intro j; simp [fp_Fm_grid]) | (refine Fr.tr ?_ (Fr.mono (fr_Fm_begins (by with_reducible assumption)) mono_Fm_grid_0); try dsimp only) | (refine Fr.tr ?_ (Fr.mono (fr_Fm_beginsText (by with_reducible assumption)) mono_Fm_grid_1); try dsimp only) | (refine Fr.tr ?_ (Fr.mono (fr_Fm_readsClause (by with_reducible assumption)) mono_Fm_grid_2); try dsimp only) | (refine Fr.tr ?_ (Fr.mono (fr_Fm_takesDraft (by with_reducible assumption)) mono_Fm_grid_3); try dsimp only) | (refine Fr.tr ?_ (Fr.mono (fr_Fm_takesSign (by with_reducible assumption)) mono_Fm_grid_4); try dsimp only) | (refine Fr.tr ?_ (frl_Fm_grid_b19 (by with_reducible assumption)); try dsimp only))
theorem fr_Fm_changes {b : Nat} {v1 : Int32} {M : Mm} {oo : Mm} (h : Fm_changes b v1 M = some oo) : Fr (fp_Fm_changes b) M oo := by
  unfold Fm_changes at h
  obtain ⟨_, h⟩ := grd_s h
  obtain ⟨_, h⟩ := grd_s h
  obtain ⟨_, h⟩ := grd_s h
  obtain ⟨_, h⟩ := grd_s h
  obtain rfl := Option.some.inj h
  try dsimp only [elS]
  repeat' (with_reducible first | exact Fr.rf | refine Fr.I ?_ (by simp [fp_Fm_changes]) | refine Fr.L ?_ (by simp [fp_Fm_changes]) | refine Fr.cI ?_ (by intro j; simp [fp_Fm_changes]) | refine Fr.cL ?_ (by intro j; simp [fp_Fm_changes]))
