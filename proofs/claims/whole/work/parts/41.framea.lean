theorem fr_Wy_forget_b2 {v1 : Int32} {M : Mm} {oo : (Int32 × Mm) ⊕ (Mm)} (h : Wy_forget_b2 v1 M = some oo) : Fr (fp_Wy_forget) M (elS oo (fun s1 => s1.2) (fun x1 => x1)) := by
  unfold Wy_forget_b2 at h
  by_cases g0 : (64 : Int32) ≤ v1
  · have h := (if_pos g0).symm.trans h
    obtain rfl := Option.some.inj h
    try dsimp only [elS]
    repeat' (with_reducible first | exact Fr.rf | refine Fr.I ?_ (by simp [fp_Wy_forget]) | refine Fr.L ?_ (by simp [fp_Wy_forget]) | refine Fr.cI ?_ (by intro j; simp [fp_Wy_forget]) | refine Fr.cL ?_ (by intro j; simp [fp_Wy_forget]))
  · have h := (if_neg g0).symm.trans h
    obtain ⟨_, h⟩ := grd_s h
    obtain rfl := Option.some.inj h
    try dsimp only [elS]
    repeat' (with_reducible first | exact Fr.rf | refine Fr.I ?_ (by simp [fp_Wy_forget]) | refine Fr.L ?_ (by simp [fp_Wy_forget]) | refine Fr.cI ?_ (by intro j; simp [fp_Wy_forget]) | refine Fr.cL ?_ (by intro j; simp [fp_Wy_forget]))
theorem frl_Wy_forget_b2   {n1 : Nat} {s0 : Int32 × Mm} {y1 : Mm} (h : loop (fun s1 : Int32 × Mm => Wy_forget_b2 s1.1 s1.2) n1 s0 = some y1) : Fr (fp_Wy_forget) s0.2 y1 :=
  loop_inv (P := fun s2 : Int32 × Mm => Fr (fp_Wy_forget) s0.2 s2.2) (E := fun y1 : Mm => Fr (fp_Wy_forget) s0.2 y1) (fun s2 s3 hP hb => hP.tr (fr_Wy_forget_b2 hb)) (fun s2 x2 hP hb => hP.tr (fr_Wy_forget_b2 hb)) n1 s0 y1 h Fr.rf
theorem fr_Wy_forget {n : Nat} {M : Mm} {oo : Mm} (h : Wy_forget n M = some oo) : Fr (fp_Wy_forget) M oo := by
  unfold Wy_forget at h
  obtain ⟨y3, _, h⟩ := bnd_s h
  obtain rfl := Option.some.inj h
  try dsimp only [elS]
  repeat' (with_reducible first | exact Fr.rf | refine Fr.I ?_ (by simp [fp_Wy_forget]) | refine Fr.L ?_ (by simp [fp_Wy_forget]) | refine Fr.cI ?_ (by intro j; simp [fp_Wy_forget]) | refine Fr.cL ?_ (by intro j; simp [fp_Wy_forget]) | (refine Fr.tr ?_ (frl_Wy_forget_b2 (by with_reducible assumption)); try dsimp only))
theorem mono_Fi_forgetWays_0  : ∀ c j, fp_Wy_forget c j → fp_Fi_forgetWays c j := fun c j => (fun e => e)
theorem fr_Fi_forgetWays {n : Nat} {M : Mm} {oo : Mm} (h : Fi_forgetWays n M = some oo) : Fr (fp_Fi_forgetWays) M oo := by
  unfold Fi_forgetWays at h
  obtain ⟨z1, _, h⟩ := bnd_s h
  obtain rfl := Option.some.inj h
  try dsimp only [elS]
  repeat' (with_reducible first | exact Fr.rf | refine Fr.I ?_ (by simp [fp_Fi_forgetWays]) | refine Fr.L ?_ (by simp [fp_Fi_forgetWays]) | refine Fr.cI ?_ (by intro j; simp [fp_Fi_forgetWays]) | refine Fr.cL ?_ (by intro j; simp [fp_Fi_forgetWays]) | (refine Fr.tr ?_ (Fr.mono (fr_Wy_forget (by with_reducible assumption)) mono_Fi_forgetWays_0); try dsimp only))
theorem fr_Fi_choose {v1 : Int32} {v2 : Int32} {v3 : Int32} {v4 : Int32} {M : Mm} {oo : Mm} (h : Fi_choose v1 v2 v3 v4 M = some oo) : Fr (fp_Fi_choose) M oo := by
  unfold Fi_choose at h
  obtain rfl := Option.some.inj h
  try dsimp only [elS]
  repeat' (with_reducible first | exact Fr.rf | refine Fr.I ?_ (by simp [fp_Fi_choose]) | refine Fr.L ?_ (by simp [fp_Fi_choose]) | refine Fr.cI ?_ (by intro j; simp [fp_Fi_choose]) | refine Fr.cL ?_ (by intro j; simp [fp_Fi_choose]))
theorem mono_Fi_weighRows_0 {o : Nat} : ∀ c j, fp_Fi_choose c j → fp_Fi_weighRows o c j := fun c j => (fun h => h.elim (fun e => Or.inl e) (fun h => h.elim (fun e => Or.inr (Or.inl e)) (fun h => h.elim (fun e => Or.inr (Or.inr (Or.inl e))) (fun e => Or.inr (Or.inr (Or.inr (Or.inl e)))))))
theorem fr_Fi_weighRows_j116 {v9 : Int32} {v10 : Int32} {M : Mm} {o : Nat} {oo : (Int32 × Int32 × Mm) ⊕ (Mm)} (h : Fi_weighRows_j116 v9 v10 M = some oo) : Fr (fp_Fi_weighRows o) M (elS oo (fun s1 => s1.2.2) (fun x1 => x1)) := by
  unfold Fi_weighRows_j116 at h
  obtain rfl := Option.some.inj h
  try dsimp only [elS]
  repeat' (with_reducible first | exact Fr.rf | refine Fr.I ?_ (by simp [fp_Fi_weighRows]) | refine Fr.L ?_ (by simp [fp_Fi_weighRows]) | refine Fr.cI ?_ (by intro j; simp [fp_Fi_weighRows]) | refine Fr.cL ?_ (by intro j; simp [fp_Fi_weighRows]) | (refine Fr.tr ?_ (Fr.mono (fr_Fi_choose (by with_reducible assumption)) mono_Fi_weighRows_0); try dsimp only))
theorem fr_Fi_weighRows_j110 {v10 : Int32} {M : Mm} {o : Nat} {oo : (Int32 × Int32 × Mm) ⊕ (Mm)} (h : Fi_weighRows_j110 v10 M = some oo) : Fr (fp_Fi_weighRows o) M (elS oo (fun s1 => s1.2.2) (fun x1 => x1)) := by
  unfold Fi_weighRows_j110 at h
  refine Fr.tr ?_ (fr_Fi_weighRows_j116 h)
  try dsimp only [elS]
  repeat' (with_reducible first | exact Fr.rf | refine Fr.I ?_ (by simp [fp_Fi_weighRows]) | refine Fr.L ?_ (by simp [fp_Fi_weighRows]) | refine Fr.cI ?_ (by intro j; simp [fp_Fi_weighRows]) | refine Fr.cL ?_ (by intro j; simp [fp_Fi_weighRows]) | (refine Fr.tr ?_ (Fr.mono (fr_Fi_choose (by with_reducible assumption)) mono_Fi_weighRows_0); try dsimp only))
theorem fr_Fi_weighRows_j88 {c2 : Int32} {c3 : Int32} {c4 : Int32} {v9 : Int32} {v10 : Int32} {v11 : Int64} {M : Mm} {o : Nat} {oo : (Int32 × Int32 × Mm) ⊕ (Mm)} (h : Fi_weighRows_j88 c2 c3 c4 v9 v10 v11 M = some oo) : Fr (fp_Fi_weighRows o) M (elS oo (fun s1 => s1.2.2) (fun x1 => x1)) := by
  unfold Fi_weighRows_j88 at h
  obtain ⟨z9, _, h⟩ := bnd_s h
  obtain ⟨z11, _, h⟩ := bnd_s h
  refine Fr.tr ?_ (fr_Fi_weighRows_j110 h)
  try dsimp only [elS]
  repeat' (with_reducible first | exact Fr.rf | refine Fr.I ?_ (by simp [fp_Fi_weighRows]) | refine Fr.L ?_ (by simp [fp_Fi_weighRows]) | refine Fr.cI ?_ (by intro j; simp [fp_Fi_weighRows]) | refine Fr.cL ?_ (by intro j; simp [fp_Fi_weighRows]) | (refine Fr.tr ?_ (Fr.mono (fr_Fi_choose (by with_reducible assumption)) mono_Fi_weighRows_0); try dsimp only))
theorem fr_Fi_weighRows_j50 {c2 : Int32} {c3 : Int32} {c4 : Int32} {c5 : Int64} {v9 : Int32} {v10 : Int32} {M : Mm} {o : Nat} {oo : (Int32 × Int32 × Mm) ⊕ (Mm)} (h : Fi_weighRows_j50 c2 c3 c4 c5 v9 v10 M = some oo) : Fr (fp_Fi_weighRows o) M (elS oo (fun s1 => s1.2.2) (fun x1 => x1)) := by
  unfold Fi_weighRows_j50 at h
  obtain ⟨z5, _, h⟩ := bnd_s h
  by_cases g0 : (c5 &&& z5) = (0 : Int64)
  · have h := (if_pos g0).symm.trans h
    refine Fr.tr ?_ (fr_Fi_weighRows_j110 h)
    try dsimp only [elS]
    repeat' (with_reducible first | exact Fr.rf | refine Fr.I ?_ (by simp [fp_Fi_weighRows]) | refine Fr.L ?_ (by simp [fp_Fi_weighRows]) | refine Fr.cI ?_ (by intro j; simp [fp_Fi_weighRows]) | refine Fr.cL ?_ (by intro j; simp [fp_Fi_weighRows]) | (refine Fr.tr ?_ (Fr.mono (fr_Fi_choose (by with_reducible assumption)) mono_Fi_weighRows_0); try dsimp only))
  · have h := (if_neg g0).symm.trans h
    by_cases g0 : (M.1 12 1) < (0 : Int32)
    · have h := (if_pos g0).symm.trans h
      refine Fr.tr ?_ (fr_Fi_weighRows_j88 h)
      try dsimp only [elS]
      repeat' (with_reducible first | exact Fr.rf | refine Fr.I ?_ (by simp [fp_Fi_weighRows]) | refine Fr.L ?_ (by simp [fp_Fi_weighRows]) | refine Fr.cI ?_ (by intro j; simp [fp_Fi_weighRows]) | refine Fr.cL ?_ (by intro j; simp [fp_Fi_weighRows]) | (refine Fr.tr ?_ (Fr.mono (fr_Fi_choose (by with_reducible assumption)) mono_Fi_weighRows_0); try dsimp only))
    · have h := (if_neg g0).symm.trans h
      by_cases g0 : (M.1 12 5) ≤ (v10 - v9)
      · have h := (if_pos g0).symm.trans h
        refine Fr.tr ?_ (fr_Fi_weighRows_j110 h)
        try dsimp only [elS]
        repeat' (with_reducible first | exact Fr.rf | refine Fr.I ?_ (by simp [fp_Fi_weighRows]) | refine Fr.L ?_ (by simp [fp_Fi_weighRows]) | refine Fr.cI ?_ (by intro j; simp [fp_Fi_weighRows]) | refine Fr.cL ?_ (by intro j; simp [fp_Fi_weighRows]) | (refine Fr.tr ?_ (Fr.mono (fr_Fi_choose (by with_reducible assumption)) mono_Fi_weighRows_0); try dsimp only))
      · have h := (if_neg g0).symm.trans h
        refine Fr.tr ?_ (fr_Fi_weighRows_j88 h)
        try dsimp only [elS]
        repeat' (with_reducible first | exact Fr.rf | refine Fr.I ?_ (by simp [fp_Fi_weighRows]) | refine Fr.L ?_ (by simp [fp_Fi_weighRows]) | refine Fr.cI ?_ (by intro j; simp [fp_Fi_weighRows]) | refine Fr.cL ?_ (by intro j; simp [fp_Fi_weighRows]) | (refine Fr.tr ?_ (Fr.mono (fr_Fi_choose (by with_reducible assumption)) mono_Fi_weighRows_0); try dsimp only))
theorem fr_Fi_weighRows_b14 {o : Nat} {c2 : Int32} {c3 : Int32} {c4 : Int32} {c5 : Int64} {c7 : Int64} {v9 : Int32} {v10 : Int32} {M : Mm} {oo : (Int32 × Int32 × Mm) ⊕ (Mm)} (h : Fi_weighRows_b14 o c2 c3 c4 c5 c7 v9 v10 M = some oo) : Fr (fp_Fi_weighRows o) M (elS oo (fun s1 => s1.2.2) (fun x1 => x1)) := by
  unfold Fi_weighRows_b14 at h
  by_cases g0 : (M.1 (o + 1) 1) < v10
  · have h := (if_pos g0).symm.trans h
    obtain rfl := Option.some.inj h
    try dsimp only [elS]
    repeat' (with_reducible first | exact Fr.rf | refine Fr.I ?_ (by simp [fp_Fi_weighRows]) | refine Fr.L ?_ (by simp [fp_Fi_weighRows]) | refine Fr.cI ?_ (by intro j; simp [fp_Fi_weighRows]) | refine Fr.cL ?_ (by intro j; simp [fp_Fi_weighRows]) | (refine Fr.tr ?_ (Fr.mono (fr_Fi_choose (by with_reducible assumption)) mono_Fi_weighRows_0); try dsimp only))
  · have h := (if_neg g0).symm.trans h
    by_cases g0 : v10 = (M.1 (o + 1) 1)
    · have h := (if_pos g0).symm.trans h
      refine Fr.tr ?_ (fr_Fi_weighRows_j50 h)
      try dsimp only [elS]
      repeat' (with_reducible first | exact Fr.rf | refine Fr.I ?_ (by simp [fp_Fi_weighRows]) | refine Fr.L ?_ (by simp [fp_Fi_weighRows]) | refine Fr.cI ?_ (by intro j; simp [fp_Fi_weighRows]) | refine Fr.cL ?_ (by intro j; simp [fp_Fi_weighRows]) | (refine Fr.tr ?_ (Fr.mono (fr_Fi_choose (by with_reducible assumption)) mono_Fi_weighRows_0); try dsimp only))
    · have h := (if_neg g0).symm.trans h
      by_cases g0 : ((lushr c7 v10) &&& (1 : Int64)) = (0 : Int64)
      · have h := (if_pos g0).symm.trans h
        refine Fr.tr ?_ (fr_Fi_weighRows_j116 h)
        try dsimp only [elS]
        repeat' (with_reducible first | exact Fr.rf | refine Fr.I ?_ (by simp [fp_Fi_weighRows]) | refine Fr.L ?_ (by simp [fp_Fi_weighRows]) | refine Fr.cI ?_ (by intro j; simp [fp_Fi_weighRows]) | refine Fr.cL ?_ (by intro j; simp [fp_Fi_weighRows]) | (refine Fr.tr ?_ (Fr.mono (fr_Fi_choose (by with_reducible assumption)) mono_Fi_weighRows_0); try dsimp only))
      · have h := (if_neg g0).symm.trans h
        refine Fr.tr ?_ (fr_Fi_weighRows_j50 h)
        try dsimp only [elS]
        repeat' (with_reducible first | exact Fr.rf | refine Fr.I ?_ (by simp [fp_Fi_weighRows]) | refine Fr.L ?_ (by simp [fp_Fi_weighRows]) | refine Fr.cI ?_ (by intro j; simp [fp_Fi_weighRows]) | refine Fr.cL ?_ (by intro j; simp [fp_Fi_weighRows]) | (refine Fr.tr ?_ (Fr.mono (fr_Fi_choose (by with_reducible assumption)) mono_Fi_weighRows_0); try dsimp only))
theorem frl_Fi_weighRows_b14 {o : Nat} {c2 : Int32} {c3 : Int32} {c4 : Int32} {c5 : Int64} {c7 : Int64}  {n1 : Nat} {s0 : Int32 × Int32 × Mm} {y1 : Mm} (h : loop (fun s1 : Int32 × Int32 × Mm => Fi_weighRows_b14 o c2 c3 c4 c5 c7 s1.1 s1.2.1 s1.2.2) n1 s0 = some y1) : Fr (fp_Fi_weighRows o) s0.2.2 y1 :=
  loop_inv (P := fun s2 : Int32 × Int32 × Mm => Fr (fp_Fi_weighRows o) s0.2.2 s2.2.2) (E := fun y1 : Mm => Fr (fp_Fi_weighRows o) s0.2.2 y1) (fun s2 s3 hP hb => hP.tr (fr_Fi_weighRows_b14 hb)) (fun s2 x2 hP hb => hP.tr (fr_Fi_weighRows_b14 hb)) n1 s0 y1 h Fr.rf
theorem fr_Fi_weighRows {n : Nat} {o : Nat} {v2 : Int32} {v3 : Int32} {v4 : Int32} {v5 : Int64} {M : Mm} {oo : Mm} (h : Fi_weighRows n o v2 v3 v4 v5 M = some oo) : Fr (fp_Fi_weighRows o) M oo := by
  unfold Fi_weighRows at h
  obtain ⟨z1, _, h⟩ := bnd_s h
  obtain ⟨y15, _, h⟩ := bnd_s h
  obtain rfl := Option.some.inj h
  try dsimp only [elS]
  repeat' (with_reducible first | exact Fr.rf | refine Fr.I ?_ (by simp [fp_Fi_weighRows]) | refine Fr.L ?_ (by simp [fp_Fi_weighRows]) | refine Fr.cI ?_ (by intro j; simp [fp_Fi_weighRows]) | refine Fr.cL ?_ (by intro j; simp [fp_Fi_weighRows]) | (refine Fr.tr ?_ (Fr.mono (fr_Fi_choose (by with_reducible assumption)) mono_Fi_weighRows_0); try dsimp only) | (refine Fr.tr ?_ (frl_Fi_weighRows_b14 (by with_reducible assumption)); try dsimp only))
theorem fr_Wy_offer_j144 {v5 : Int32} {M : Mm} {oo : (Int32 × Mm) ⊕ (Int32 × Mm)} (h : Wy_offer_j144 v5 M = some oo) : Fr (fp_Wy_offer) M (elS oo (fun s1 => s1.2) (fun x1 => x1.2)) := by
  unfold Wy_offer_j144 at h
  obtain rfl := Option.some.inj h
  try dsimp only [elS]
  repeat' (with_reducible first | exact Fr.rf | refine Fr.I ?_ (by simp [fp_Wy_offer]) | refine Fr.L ?_ (by simp [fp_Wy_offer]) | refine Fr.cI ?_ (by intro j; simp [fp_Wy_offer]) | refine Fr.cL ?_ (by intro j; simp [fp_Wy_offer]))
theorem fr_Wy_offer_j72 {c4 : Int32} {v5 : Int32} {M : Mm} {oo : (Int32 × Mm) ⊕ (Int32 × Mm)} (h : Wy_offer_j72 c4 v5 M = some oo) : Fr (fp_Wy_offer) M (elS oo (fun s1 => s1.2) (fun x1 => x1.2)) := by
  unfold Wy_offer_j72 at h
  by_cases g0 : (4 : Int32) ≤ v5
  · have h := (if_pos g0).symm.trans h
    refine Fr.tr ?_ (fr_Wy_offer_j144 h)
    try dsimp only [elS]
    repeat' (with_reducible first | exact Fr.rf | refine Fr.I ?_ (by simp [fp_Wy_offer]) | refine Fr.L ?_ (by simp [fp_Wy_offer]) | refine Fr.cI ?_ (by intro j; simp [fp_Wy_offer]) | refine Fr.cL ?_ (by intro j; simp [fp_Wy_offer]))
  · have h := (if_neg g0).symm.trans h
    obtain ⟨_, h⟩ := grd_s h
    obtain ⟨_, h⟩ := grd_s h
    obtain ⟨_, h⟩ := grd_s h
    obtain ⟨_, h⟩ := grd_s h
    obtain ⟨_, h⟩ := grd_s h
    obtain ⟨_, h⟩ := grd_s h
    refine Fr.tr ?_ (fr_Wy_offer_j144 h)
    try dsimp only [elS]
    repeat' (with_reducible first | exact Fr.rf | refine Fr.I ?_ (by simp [fp_Wy_offer]) | refine Fr.L ?_ (by simp [fp_Wy_offer]) | refine Fr.cI ?_ (by intro j; simp [fp_Wy_offer]) | refine Fr.cL ?_ (by intro j; simp [fp_Wy_offer]))
theorem fr_Wy_offer_b19 {c2 : Int32} {c3 : Int32} {c4 : Int32} {v5 : Int32} {M : Mm} {oo : (Int32 × Mm) ⊕ (Int32 × Mm)} (h : Wy_offer_b19 c2 c3 c4 v5 M = some oo) : Fr (fp_Wy_offer) M (elS oo (fun s1 => s1.2) (fun x1 => x1.2)) := by
  unfold Wy_offer_b19 at h
  by_cases g0 : v5 ≤ (0 : Int32)
  · have h := (if_pos g0).symm.trans h
    obtain rfl := Option.some.inj h
    try dsimp only [elS]
    repeat' (with_reducible first | exact Fr.rf | refine Fr.I ?_ (by simp [fp_Wy_offer]) | refine Fr.L ?_ (by simp [fp_Wy_offer]) | refine Fr.cI ?_ (by intro j; simp [fp_Wy_offer]) | refine Fr.cL ?_ (by intro j; simp [fp_Wy_offer]))
  · have h := (if_neg g0).symm.trans h
    obtain ⟨_, h⟩ := grd_s h
    by_cases g0 : c2 < (M.1 17 (tn ((c4 + v5) - (1 : Int32))))
    · have h := (if_pos g0).symm.trans h
      refine Fr.tr ?_ (fr_Wy_offer_j72 h)
      try dsimp only [elS]
      repeat' (with_reducible first | exact Fr.rf | refine Fr.I ?_ (by simp [fp_Wy_offer]) | refine Fr.L ?_ (by simp [fp_Wy_offer]) | refine Fr.cI ?_ (by intro j; simp [fp_Wy_offer]) | refine Fr.cL ?_ (by intro j; simp [fp_Wy_offer]))
    · have h := (if_neg g0).symm.trans h
      obtain ⟨_, h⟩ := grd_s h
      by_cases g0 : c2 = (M.1 17 (tn ((c4 + v5) - (1 : Int32))))
      · have h := (if_pos g0).symm.trans h
        obtain ⟨_, h⟩ := grd_s h
        by_cases g0 : (M.1 115 (tn ((c4 + v5) - (1 : Int32)))) ≤ c3
        · have h := (if_pos g0).symm.trans h
          obtain rfl := Option.some.inj h
          try dsimp only [elS]
          repeat' (with_reducible first | exact Fr.rf | refine Fr.I ?_ (by simp [fp_Wy_offer]) | refine Fr.L ?_ (by simp [fp_Wy_offer]) | refine Fr.cI ?_ (by intro j; simp [fp_Wy_offer]) | refine Fr.cL ?_ (by intro j; simp [fp_Wy_offer]))
        · have h := (if_neg g0).symm.trans h
          refine Fr.tr ?_ (fr_Wy_offer_j72 h)
          try dsimp only [elS]
          repeat' (with_reducible first | exact Fr.rf | refine Fr.I ?_ (by simp [fp_Wy_offer]) | refine Fr.L ?_ (by simp [fp_Wy_offer]) | refine Fr.cI ?_ (by intro j; simp [fp_Wy_offer]) | refine Fr.cL ?_ (by intro j; simp [fp_Wy_offer]))
      · have h := (if_neg g0).symm.trans h
        obtain rfl := Option.some.inj h
        try dsimp only [elS]
        repeat' (with_reducible first | exact Fr.rf | refine Fr.I ?_ (by simp [fp_Wy_offer]) | refine Fr.L ?_ (by simp [fp_Wy_offer]) | refine Fr.cI ?_ (by intro j; simp [fp_Wy_offer]) | refine Fr.cL ?_ (by intro j; simp [fp_Wy_offer]))
theorem frl_Wy_offer_b19 {c2 : Int32} {c3 : Int32} {c4 : Int32}  {n1 : Nat} {s0 : Int32 × Mm} {y1 : Int32 × Mm} (h : loop (fun s1 : Int32 × Mm => Wy_offer_b19 c2 c3 c4 s1.1 s1.2) n1 s0 = some y1) : Fr (fp_Wy_offer) s0.2 y1.2 :=
  loop_inv (P := fun s2 : Int32 × Mm => Fr (fp_Wy_offer) s0.2 s2.2) (E := fun y1 : Int32 × Mm => Fr (fp_Wy_offer) s0.2 y1.2) (fun s2 s3 hP hb => hP.tr (fr_Wy_offer_b19 hb)) (fun s2 x2 hP hb => hP.tr (fr_Wy_offer_b19 hb)) n1 s0 y1 h Fr.rf
theorem fr_Wy_offer_j150 {v1 : Int32} {v2 : Int32} {v3 : Int32} {v4 : Int32} {v5 : Int32} {M : Mm} {oo : Mm} (h : Wy_offer_j150 v1 v2 v3 v4 v5 M = some oo) : Fr (fp_Wy_offer) M oo := by
  unfold Wy_offer_j150 at h
  by_cases g0 : (4 : Int32) ≤ v5
  · have h := (if_pos g0).symm.trans h
    obtain rfl := Option.some.inj h
    try dsimp only [elS]
    repeat' (with_reducible first | exact Fr.rf | refine Fr.I ?_ (by simp [fp_Wy_offer]) | refine Fr.L ?_ (by simp [fp_Wy_offer]) | refine Fr.cI ?_ (by intro j; simp [fp_Wy_offer]) | refine Fr.cL ?_ (by intro j; simp [fp_Wy_offer]) | (refine Fr.tr ?_ (frl_Wy_offer_b19 (by with_reducible assumption)); try dsimp only))
  · have h := (if_neg g0).symm.trans h
    obtain ⟨_, h⟩ := grd_s h
    obtain ⟨_, h⟩ := grd_s h
    obtain ⟨_, h⟩ := grd_s h
    obtain ⟨_, h⟩ := grd_s h
    by_cases g0 : (4 : Int32) ≤ ((up2 (up2 (up2 M.1 16 (tn (v4 + v5)) v1) 17 (tn (v4 + v5)) v2) 115 (tn (v4 + v5)) v3) 14 (tn ((up2 (up2 (up2 M.1 16 (tn (v4 + v5)) v1) 17 (tn (v4 + v5)) v2) 115 (tn (v4 + v5)) v3) 13 5)))
    · have h := (if_pos g0).symm.trans h
      obtain rfl := Option.some.inj h
      try dsimp only [elS]
      repeat' (with_reducible first | exact Fr.rf | refine Fr.I ?_ (by simp [fp_Wy_offer]) | refine Fr.L ?_ (by simp [fp_Wy_offer]) | refine Fr.cI ?_ (by intro j; simp [fp_Wy_offer]) | refine Fr.cL ?_ (by intro j; simp [fp_Wy_offer]) | (refine Fr.tr ?_ (frl_Wy_offer_b19 (by with_reducible assumption)); try dsimp only))
    · have h := (if_neg g0).symm.trans h
      obtain ⟨_, h⟩ := grd_s h
      obtain ⟨_, h⟩ := grd_s h
      obtain rfl := Option.some.inj h
      try dsimp only [elS]
      repeat' (with_reducible first | exact Fr.rf | refine Fr.I ?_ (by simp [fp_Wy_offer]) | refine Fr.L ?_ (by simp [fp_Wy_offer]) | refine Fr.cI ?_ (by intro j; simp [fp_Wy_offer]) | refine Fr.cL ?_ (by intro j; simp [fp_Wy_offer]) | (refine Fr.tr ?_ (frl_Wy_offer_b19 (by with_reducible assumption)); try dsimp only))
theorem fr_Wy_offer {n : Nat} {v1 : Int32} {v2 : Int32} {v3 : Int32} {M : Mm} {oo : Mm} (h : Wy_offer n v1 v2 v3 M = some oo) : Fr (fp_Wy_offer) M oo := by
  unfold Wy_offer at h
  obtain ⟨_, h⟩ := grd_s h
  obtain ⟨y16, _, h⟩ := bnd_s h
  refine Fr.tr ?_ (fr_Wy_offer_j150 h)
  try dsimp only [elS]
  repeat' (with_reducible first | exact Fr.rf | refine Fr.I ?_ (by simp [fp_Wy_offer]) | refine Fr.L ?_ (by simp [fp_Wy_offer]) | refine Fr.cI ?_ (by intro j; simp [fp_Wy_offer]) | refine Fr.cL ?_ (by intro j; simp [fp_Wy_offer]) | (refine Fr.tr ?_ (frl_Wy_offer_b19 (by with_reducible assumption)); try dsimp only))
theorem mono_Wy_walk_0 {o : Nat} : ∀ c j, fp_Wy_offer c j → fp_Wy_walk o c j := fun c j => (fun h => h.elim (fun e => Or.inl e) (fun h => h.elim (fun e => Or.inr (Or.inl e)) (fun h => h.elim (fun e => Or.inr (Or.inr (Or.inl e))) (fun e => Or.inr (Or.inr (Or.inr (e)))))))
theorem fr_Wy_walk_j113 {v7 : Int32} {M : Mm} {o : Nat} {rc : Nat → Int32 → Int32 → Int32 → Int32 → Int32 → Mm → Option Mm} {oo : (Int32 × Mm) ⊕ (Mm)} (hrc : ∀ o2 v2 v3 v4 v5 v6 M z, rc o2 v2 v3 v4 v5 v6 M = some z → Fr (fp_Wy_walk o) M z) (h : Wy_walk_j113 v7 M = some oo) : Fr (fp_Wy_walk o) M (elS oo (fun s1 => s1.2) (fun x1 => x1)) := by
  unfold Wy_walk_j113 at h
  obtain rfl := Option.some.inj h
  try dsimp only [elS]
  repeat' (with_reducible first | exact Fr.rf | refine Fr.I ?_ (by simp [fp_Wy_walk]) | refine Fr.L ?_ (by simp [fp_Wy_walk]) | refine Fr.cI ?_ (by intro j; simp [fp_Wy_walk]) | refine Fr.cL ?_ (by intro j; simp [fp_Wy_walk]) | (refine Fr.tr ?_ (Fr.mono (fr_Wy_offer (by with_reducible assumption)) mono_Wy_walk_0); try dsimp only) | refine Fr.tr ?_ (hrc _ _ _ _ _ _ _ _ (by with_reducible assumption)))
theorem fr_Wy_walk_b30 {o : Nat} {rc : Nat → Int32 → Int32 → Int32 → Int32 → Int32 → Mm → Option Mm} {c2 : Int32} {c3 : Int32} {c4 : Int32} {c5 : Int32} {c6 : Int32} {v7 : Int32} {M : Mm} {oo : (Int32 × Mm) ⊕ (Mm)} (hrc : ∀ o2 v2 v3 v4 v5 v6 M z, rc o2 v2 v3 v4 v5 v6 M = some z → Fr (fp_Wy_walk o) M z) (h : Wy_walk_b30 o rc c2 c3 c4 c5 c6 v7 M = some oo) : Fr (fp_Wy_walk o) M (elS oo (fun s1 => s1.2) (fun x1 => x1)) := by
  unfold Wy_walk_b30 at h
  by_cases g0 : (M.1 o 0) ≤ v7
  · have h := (if_pos g0).symm.trans h
    obtain rfl := Option.some.inj h
    try dsimp only [elS]
    repeat' (with_reducible first | exact Fr.rf | refine Fr.I ?_ (by simp [fp_Wy_walk]) | refine Fr.L ?_ (by simp [fp_Wy_walk]) | refine Fr.cI ?_ (by intro j; simp [fp_Wy_walk]) | refine Fr.cL ?_ (by intro j; simp [fp_Wy_walk]) | (refine Fr.tr ?_ (Fr.mono (fr_Wy_offer (by with_reducible assumption)) mono_Wy_walk_0); try dsimp only) | refine Fr.tr ?_ (hrc _ _ _ _ _ _ _ _ (by with_reducible assumption)))
  · have h := (if_neg g0).symm.trans h
    obtain ⟨_, h⟩ := grd_s h
    by_cases g0 : (M.1 (o + 5) (tn ((c2 * (8 : Int32)) + v7))) < (0 : Int32)
    · have h := (if_pos g0).symm.trans h
      refine Fr.tr ?_ (fr_Wy_walk_j113 hrc h)
      try dsimp only [elS]
      repeat' (with_reducible first | exact Fr.rf | refine Fr.I ?_ (by simp [fp_Wy_walk]) | refine Fr.L ?_ (by simp [fp_Wy_walk]) | refine Fr.cI ?_ (by intro j; simp [fp_Wy_walk]) | refine Fr.cL ?_ (by intro j; simp [fp_Wy_walk]) | (refine Fr.tr ?_ (Fr.mono (fr_Wy_offer (by with_reducible assumption)) mono_Wy_walk_0); try dsimp only) | refine Fr.tr ?_ (hrc _ _ _ _ _ _ _ _ (by with_reducible assumption)))
    · have h := (if_neg g0).symm.trans h
      by_cases g0 : ((ushr (M.1 13 7) (M.1 (o + 5) (tn ((c2 * (8 : Int32)) + v7)))) &&& (1 : Int32)) = (0 : Int32)
      · have h := (if_pos g0).symm.trans h
        refine Fr.tr ?_ (fr_Wy_walk_j113 hrc h)
        try dsimp only [elS]
        repeat' (with_reducible first | exact Fr.rf | refine Fr.I ?_ (by simp [fp_Wy_walk]) | refine Fr.L ?_ (by simp [fp_Wy_walk]) | refine Fr.cI ?_ (by intro j; simp [fp_Wy_walk]) | refine Fr.cL ?_ (by intro j; simp [fp_Wy_walk]) | (refine Fr.tr ?_ (Fr.mono (fr_Wy_offer (by with_reducible assumption)) mono_Wy_walk_0); try dsimp only) | refine Fr.tr ?_ (hrc _ _ _ _ _ _ _ _ (by with_reducible assumption)))
      · have h := (if_neg g0).symm.trans h
        by_cases g0 : ((ushr c3 v7) &&& (1 : Int32)) = (0 : Int32)
        · have h := (if_pos g0).symm.trans h
          obtain ⟨_, h⟩ := grd_s h
          obtain ⟨z9, _, h⟩ := bnd_s h
          refine Fr.tr ?_ (fr_Wy_walk_j113 hrc h)
          try dsimp only [elS]
          repeat' (with_reducible first | exact Fr.rf | refine Fr.I ?_ (by simp [fp_Wy_walk]) | refine Fr.L ?_ (by simp [fp_Wy_walk]) | refine Fr.cI ?_ (by intro j; simp [fp_Wy_walk]) | refine Fr.cL ?_ (by intro j; simp [fp_Wy_walk]) | (refine Fr.tr ?_ (Fr.mono (fr_Wy_offer (by with_reducible assumption)) mono_Wy_walk_0); try dsimp only) | refine Fr.tr ?_ (hrc _ _ _ _ _ _ _ _ (by with_reducible assumption)))
        · have h := (if_neg g0).symm.trans h
          refine Fr.tr ?_ (fr_Wy_walk_j113 hrc h)
          try dsimp only [elS]
          repeat' (with_reducible first | exact Fr.rf | refine Fr.I ?_ (by simp [fp_Wy_walk]) | refine Fr.L ?_ (by simp [fp_Wy_walk]) | refine Fr.cI ?_ (by intro j; simp [fp_Wy_walk]) | refine Fr.cL ?_ (by intro j; simp [fp_Wy_walk]) | (refine Fr.tr ?_ (Fr.mono (fr_Wy_offer (by with_reducible assumption)) mono_Wy_walk_0); try dsimp only) | refine Fr.tr ?_ (hrc _ _ _ _ _ _ _ _ (by with_reducible assumption)))
theorem frl_Wy_walk_b30 {o : Nat} {rc : Nat → Int32 → Int32 → Int32 → Int32 → Int32 → Mm → Option Mm} {c2 : Int32} {c3 : Int32} {c4 : Int32} {c5 : Int32} {c6 : Int32}  {n1 : Nat} {s0 : Int32 × Mm} {y1 : Mm} (hrc : ∀ o2 v2 v3 v4 v5 v6 M z, rc o2 v2 v3 v4 v5 v6 M = some z → Fr (fp_Wy_walk o) M z) (h : loop (fun s1 : Int32 × Mm => Wy_walk_b30 o rc c2 c3 c4 c5 c6 s1.1 s1.2) n1 s0 = some y1) : Fr (fp_Wy_walk o) s0.2 y1 :=
  loop_inv (P := fun s2 : Int32 × Mm => Fr (fp_Wy_walk o) s0.2 s2.2) (E := fun y1 : Mm => Fr (fp_Wy_walk o) s0.2 y1) (fun s2 s3 hP hb => hP.tr (fr_Wy_walk_b30 hrc hb)) (fun s2 x2 hP hb => hP.tr (fr_Wy_walk_b30 hrc hb)) n1 s0 y1 h Fr.rf
theorem fr_Wy_walkB {n : Nat} {o : Nat} {rc : Nat → Int32 → Int32 → Int32 → Int32 → Int32 → Mm → Option Mm} {v2 : Int32} {v3 : Int32} {v4 : Int32} {v5 : Int32} {v6 : Int32} {M : Mm} {oo : Mm} (hrc : ∀ o2 v2 v3 v4 v5 v6 M z, rc o2 v2 v3 v4 v5 v6 M = some z → Fr (fp_Wy_walk o) M z) (h : Wy_walkB n o rc v2 v3 v4 v5 v6 M = some oo) : Fr (fp_Wy_walk o) M oo := by
  unfold Wy_walkB at h
  by_cases g0 : v2 = (M.1 13 6)
  · have h := (if_pos g0).symm.trans h
    obtain ⟨z12, _, h⟩ := bnd_s h
    obtain rfl := Option.some.inj h
    try dsimp only [elS]
    repeat' (with_reducible first | exact Fr.rf | refine Fr.I ?_ (by simp [fp_Wy_walk]) | refine Fr.L ?_ (by simp [fp_Wy_walk]) | refine Fr.cI ?_ (by intro j; simp [fp_Wy_walk]) | refine Fr.cL ?_ (by intro j; simp [fp_Wy_walk]) | (refine Fr.tr ?_ (Fr.mono (fr_Wy_offer (by with_reducible assumption)) mono_Wy_walk_0); try dsimp only) | refine Fr.tr ?_ (hrc _ _ _ _ _ _ _ _ (by with_reducible assumption)) | (refine Fr.tr ?_ (frl_Wy_walk_b30 hrc (by with_reducible assumption)); try dsimp only))
  · have h := (if_neg g0).symm.trans h
    by_cases g0 : v6 < (7 : Int32)
    · have h := (if_pos g0).symm.trans h
      obtain ⟨y11, _, h⟩ := bnd_s h
      obtain rfl := Option.some.inj h
      try dsimp only [elS]
      repeat' (with_reducible first | exact Fr.rf | refine Fr.I ?_ (by simp [fp_Wy_walk]) | refine Fr.L ?_ (by simp [fp_Wy_walk]) | refine Fr.cI ?_ (by intro j; simp [fp_Wy_walk]) | refine Fr.cL ?_ (by intro j; simp [fp_Wy_walk]) | (refine Fr.tr ?_ (Fr.mono (fr_Wy_offer (by with_reducible assumption)) mono_Wy_walk_0); try dsimp only) | refine Fr.tr ?_ (hrc _ _ _ _ _ _ _ _ (by with_reducible assumption)) | (refine Fr.tr ?_ (frl_Wy_walk_b30 hrc (by with_reducible assumption)); try dsimp only))
    · have h := (if_neg g0).symm.trans h
      obtain rfl := Option.some.inj h
      try dsimp only [elS]
      repeat' (with_reducible first | exact Fr.rf | refine Fr.I ?_ (by simp [fp_Wy_walk]) | refine Fr.L ?_ (by simp [fp_Wy_walk]) | refine Fr.cI ?_ (by intro j; simp [fp_Wy_walk]) | refine Fr.cL ?_ (by intro j; simp [fp_Wy_walk]) | (refine Fr.tr ?_ (Fr.mono (fr_Wy_offer (by with_reducible assumption)) mono_Wy_walk_0); try dsimp only) | refine Fr.tr ?_ (hrc _ _ _ _ _ _ _ _ (by with_reducible assumption)) | (refine Fr.tr ?_ (frl_Wy_walk_b30 hrc (by with_reducible assumption)); try dsimp only))
theorem fr_Wy_walk {n : Nat} : ∀ {e o : Nat} {v2 v3 v4 v5 v6 : Int32} {M z : Mm}, Wy_walk n e o v2 v3 v4 v5 v6 M = some z → Fr (fp_Wy_walk o) M z
  | 0, _, _, _, _, _, _, _, _, h => by cases h
  | e + 1, o, v2, v3, v4, v5, v6, M, z, h => fr_Wy_walkB (n := n) (o := o) (rc := Wy_walk n e) (fun o2 _ _ _ _ _ _ _ h2 => show Fr (fp_Wy_walk o2) _ _ from fr_Wy_walk h2) h
theorem mono_Wy_pairOf_0 {o : Nat} : ∀ c j, fp_Wy_walk (o + 1) c j → fp_Wy_pairOf o c j := fun c j => (fun h => h.elim (fun e => Or.inl e) (fun h => h.elim (fun e => Or.inr (Or.inr (Or.inr (Or.inr (Or.inl e))))) (fun h => h.elim (fun e => Or.inr (Or.inr (Or.inr (Or.inr (Or.inr (Or.inr (Or.inl e))))))) (fun e => Or.inr (Or.inr (Or.inr (Or.inr (Or.inr (Or.inr (Or.inr (e)))))))))))
theorem fr_Wy_pairOf_j77 {M : Mm} {o : Nat} {oo : Int32 × Mm} (h : Wy_pairOf_j77 M = some oo) : Fr (fp_Wy_pairOf o) M oo.2 := by
  unfold Wy_pairOf_j77 at h
  obtain rfl := Option.some.inj h
  try dsimp only [elS]
  repeat' (with_reducible first | exact Fr.rf | refine Fr.I ?_ (by simp [fp_Wy_pairOf]) | refine Fr.L ?_ (by simp [fp_Wy_pairOf]) | refine Fr.cI ?_ (by intro j; simp [fp_Wy_pairOf]) | refine Fr.cL ?_ (by intro j; simp [fp_Wy_pairOf]) | (refine Fr.tr ?_ (Fr.mono (fr_Wy_walk (by with_reducible assumption)) mono_Wy_pairOf_0); try dsimp only))
theorem fr_Wy_pairOf {n : Nat} {o : Nat} {v2 : Int32} {v3 : Int32} {M : Mm} {oo : Int32 × Mm} (h : Wy_pairOf n o v2 v3 M = some oo) : Fr (fp_Wy_pairOf o) M oo.2 := by
  unfold Wy_pairOf at h
  obtain ⟨_, h⟩ := grd_s h
  by_cases g0 : ((up2 M.1 13 5 ((v2 * (8 : Int32)) + v3)) 15 (tn ((up2 M.1 13 5 ((v2 * (8 : Int32)) + v3)) 13 5))) = ((up2 M.1 13 5 ((v2 * (8 : Int32)) + v3)) o 1)
  · have h := (if_pos g0).symm.trans h
    refine Fr.tr ?_ (fr_Wy_pairOf_j77 h)
    try dsimp only [elS]
    repeat' (with_reducible first | exact Fr.rf | refine Fr.I ?_ (by simp [fp_Wy_pairOf]) | refine Fr.L ?_ (by simp [fp_Wy_pairOf]) | refine Fr.cI ?_ (by intro j; simp [fp_Wy_pairOf]) | refine Fr.cL ?_ (by intro j; simp [fp_Wy_pairOf]) | (refine Fr.tr ?_ (Fr.mono (fr_Wy_walk (by with_reducible assumption)) mono_Wy_pairOf_0); try dsimp only))
  · have h := (if_neg g0).symm.trans h
    obtain ⟨_, h⟩ := grd_s h
    obtain ⟨_, h⟩ := grd_s h
    obtain ⟨z5, _, h⟩ := bnd_s h
    refine Fr.tr ?_ (fr_Wy_pairOf_j77 h)
    try dsimp only [elS]
    repeat' (with_reducible first | exact Fr.rf | refine Fr.I ?_ (by simp [fp_Wy_pairOf]) | refine Fr.L ?_ (by simp [fp_Wy_pairOf]) | refine Fr.cI ?_ (by intro j; simp [fp_Wy_pairOf]) | refine Fr.cL ?_ (by intro j; simp [fp_Wy_pairOf]) | (refine Fr.tr ?_ (Fr.mono (fr_Wy_walk (by with_reducible assumption)) mono_Wy_pairOf_0); try dsimp only))
theorem mono_Fi_find_0 {o : Nat} : ∀ c j, fp_Fi_choose c j → fp_Fi_find o c j := fun c j => (fun h => h.elim (fun e => Or.inr (Or.inl e)) (fun h => h.elim (fun e => Or.inr (Or.inr (Or.inl e))) (fun h => h.elim (fun e => Or.inr (Or.inr (Or.inr (Or.inl e)))) (fun e => Or.inr (Or.inr (Or.inr (Or.inr (Or.inl e))))))))
theorem mono_Fi_find_1 {o : Nat} : ∀ c j, fp_Fi_weighRows o c j → fp_Fi_find o c j := fun c j => (fun h => h.elim (fun e => Or.inr (Or.inl e)) (fun h => h.elim (fun e => Or.inr (Or.inr (Or.inl e))) (fun h => h.elim (fun e => Or.inr (Or.inr (Or.inr (Or.inl e)))) (fun h => h.elim (fun e => Or.inr (Or.inr (Or.inr (Or.inr (Or.inl e))))) (fun e => Or.inr (Or.inr (Or.inr (Or.inr (Or.inr (Or.inl e))))))))))
theorem mono_Fi_find_2 {o : Nat} : ∀ c j, fp_Wy_pairOf o c j → fp_Fi_find o c j := fun c j => (fun h => h.elim (fun e => Or.inl e) (fun h => h.elim (fun e => Or.inr (Or.inr (Or.inr (Or.inr (Or.inr (Or.inr (Or.inl e))))))) (fun h => h.elim (fun e => Or.inr (Or.inr (Or.inr (Or.inr (Or.inr (Or.inr (Or.inr (Or.inl e)))))))) (fun h => h.elim (fun e => Or.inr (Or.inr (Or.inr (Or.inr (Or.inr (Or.inr (Or.inr (Or.inr (Or.inl e))))))))) (fun h => h.elim (fun e => Or.inr (Or.inr (Or.inr (Or.inr (Or.inr (Or.inr (Or.inr (Or.inr (Or.inr (Or.inl e)))))))))) (fun h => h.elim (fun e => Or.inr (Or.inr (Or.inr (Or.inr (Or.inr (Or.inr (Or.inr (Or.inr (Or.inr (Or.inr (Or.inl e))))))))))) (fun h => h.elim (fun e => Or.inr (Or.inr (Or.inr (Or.inr (Or.inr (Or.inr (Or.inr (Or.inr (Or.inr (Or.inr (Or.inr (Or.inl e)))))))))))) (fun e => Or.inr (Or.inr (Or.inr (Or.inr (Or.inr (Or.inr (Or.inr (Or.inr (Or.inr (Or.inr (Or.inr (Or.inr (e))))))))))))))))))))
theorem fr_Fi_find_j213 {v8 : Int32} {M : Mm} {o : Nat} {oo : (Int32 × Mm) ⊕ (Mm)} (h : Fi_find_j213 v8 M = some oo) : Fr (fp_Fi_find o) M (elS oo (fun s1 => s1.2) (fun x1 => x1)) := by
  unfold Fi_find_j213 at h
  obtain rfl := Option.some.inj h
  try dsimp only [elS]
  repeat' (with_reducible first | exact Fr.rf | refine Fr.I ?_ (by simp [fp_Fi_find]) | refine Fr.L ?_ (by simp [fp_Fi_find]) | refine Fr.cI ?_ (by intro j; simp [fp_Fi_find]) | refine Fr.cL ?_ (by intro j; simp [fp_Fi_find]) | (refine Fr.tr ?_ (Fr.mono (fr_Fi_choose (by with_reducible assumption)) mono_Fi_find_0); try dsimp only) | (refine Fr.tr ?_ (Fr.mono (fr_Fi_weighRows (by with_reducible assumption)) mono_Fi_find_1); try dsimp only) | (refine Fr.tr ?_ (Fr.mono (fr_Wy_pairOf (by with_reducible assumption)) mono_Fi_find_2); try dsimp only))
theorem fr_Fi_find_j201 {v8 : Int32} {v9 : Int32} {v10 : Int32} {v13 : Int32} {M : Mm} {o : Nat} {oo : (Int32 × Mm) ⊕ (Mm)} (h : Fi_find_j201 v8 v9 v10 v13 M = some oo) : Fr (fp_Fi_find o) M (elS oo (fun s1 => s1.2) (fun x1 => x1)) := by
  unfold Fi_find_j201 at h
  obtain ⟨z18, _, h⟩ := bnd_s h
  refine Fr.tr ?_ (fr_Fi_find_j213 h)
  try dsimp only [elS]
  repeat' (with_reducible first | exact Fr.rf | refine Fr.I ?_ (by simp [fp_Fi_find]) | refine Fr.L ?_ (by simp [fp_Fi_find]) | refine Fr.cI ?_ (by intro j; simp [fp_Fi_find]) | refine Fr.cL ?_ (by intro j; simp [fp_Fi_find]) | (refine Fr.tr ?_ (Fr.mono (fr_Fi_choose (by with_reducible assumption)) mono_Fi_find_0); try dsimp only) | (refine Fr.tr ?_ (Fr.mono (fr_Fi_weighRows (by with_reducible assumption)) mono_Fi_find_1); try dsimp only) | (refine Fr.tr ?_ (Fr.mono (fr_Wy_pairOf (by with_reducible assumption)) mono_Fi_find_2); try dsimp only))
theorem fr_Fi_find_j183 {v8 : Int32} {v9 : Int32} {v10 : Int32} {w0 : Int32} {M : Mm} {o : Nat} {oo : (Int32 × Mm) ⊕ (Mm)} (h : Fi_find_j183 v8 v9 v10 w0 M = some oo) : Fr (fp_Fi_find o) M (elS oo (fun s1 => s1.2) (fun x1 => x1)) := by
  unfold Fi_find_j183 at h
  by_cases g0 : (M.1 12 1) < (0 : Int32)
  · have h := (if_pos g0).symm.trans h
    refine Fr.tr ?_ (fr_Fi_find_j201 h)
    try dsimp only [elS]
    repeat' (with_reducible first | exact Fr.rf | refine Fr.I ?_ (by simp [fp_Fi_find]) | refine Fr.L ?_ (by simp [fp_Fi_find]) | refine Fr.cI ?_ (by intro j; simp [fp_Fi_find]) | refine Fr.cL ?_ (by intro j; simp [fp_Fi_find]) | (refine Fr.tr ?_ (Fr.mono (fr_Fi_choose (by with_reducible assumption)) mono_Fi_find_0); try dsimp only) | (refine Fr.tr ?_ (Fr.mono (fr_Fi_weighRows (by with_reducible assumption)) mono_Fi_find_1); try dsimp only) | (refine Fr.tr ?_ (Fr.mono (fr_Wy_pairOf (by with_reducible assumption)) mono_Fi_find_2); try dsimp only))
  · have h := (if_neg g0).symm.trans h
    by_cases g0 : (M.1 12 3) ≤ w0
    · have h := (if_pos g0).symm.trans h
      refine Fr.tr ?_ (fr_Fi_find_j213 h)
      try dsimp only [elS]
      repeat' (with_reducible first | exact Fr.rf | refine Fr.I ?_ (by simp [fp_Fi_find]) | refine Fr.L ?_ (by simp [fp_Fi_find]) | refine Fr.cI ?_ (by intro j; simp [fp_Fi_find]) | refine Fr.cL ?_ (by intro j; simp [fp_Fi_find]) | (refine Fr.tr ?_ (Fr.mono (fr_Fi_choose (by with_reducible assumption)) mono_Fi_find_0); try dsimp only) | (refine Fr.tr ?_ (Fr.mono (fr_Fi_weighRows (by with_reducible assumption)) mono_Fi_find_1); try dsimp only) | (refine Fr.tr ?_ (Fr.mono (fr_Wy_pairOf (by with_reducible assumption)) mono_Fi_find_2); try dsimp only))
    · have h := (if_neg g0).symm.trans h
      refine Fr.tr ?_ (fr_Fi_find_j201 h)
      try dsimp only [elS]
      repeat' (with_reducible first | exact Fr.rf | refine Fr.I ?_ (by simp [fp_Fi_find]) | refine Fr.L ?_ (by simp [fp_Fi_find]) | refine Fr.cI ?_ (by intro j; simp [fp_Fi_find]) | refine Fr.cL ?_ (by intro j; simp [fp_Fi_find]) | (refine Fr.tr ?_ (Fr.mono (fr_Fi_choose (by with_reducible assumption)) mono_Fi_find_0); try dsimp only) | (refine Fr.tr ?_ (Fr.mono (fr_Fi_weighRows (by with_reducible assumption)) mono_Fi_find_1); try dsimp only) | (refine Fr.tr ?_ (Fr.mono (fr_Wy_pairOf (by with_reducible assumption)) mono_Fi_find_2); try dsimp only))
theorem fr_Fi_find_j157 {n : Nat} {c5 : Int32} {v8 : Int32} {v9 : Int32} {v10 : Int32} {v11 : Int64} {M : Mm} {o : Nat} {oo : (Int32 × Mm) ⊕ (Mm)} (h : Fi_find_j157 n c5 v8 v9 v10 v11 M = some oo) : Fr (fp_Fi_find o) M (elS oo (fun s1 => s1.2) (fun x1 => x1)) := by
  unfold Fi_find_j157 at h
  by_cases g0 : v11 = (0 : Int64)
  · have h := (if_pos g0).symm.trans h
    refine Fr.tr ?_ (fr_Fi_find_j213 h)
    try dsimp only [elS]
    repeat' (with_reducible first | exact Fr.rf | refine Fr.I ?_ (by simp [fp_Fi_find]) | refine Fr.L ?_ (by simp [fp_Fi_find]) | refine Fr.cI ?_ (by intro j; simp [fp_Fi_find]) | refine Fr.cL ?_ (by intro j; simp [fp_Fi_find]) | (refine Fr.tr ?_ (Fr.mono (fr_Fi_choose (by with_reducible assumption)) mono_Fi_find_0); try dsimp only) | (refine Fr.tr ?_ (Fr.mono (fr_Fi_weighRows (by with_reducible assumption)) mono_Fi_find_1); try dsimp only) | (refine Fr.tr ?_ (Fr.mono (fr_Wy_pairOf (by with_reducible assumption)) mono_Fi_find_2); try dsimp only))
  · have h := (if_neg g0).symm.trans h
    by_cases g0 : c5 = (3 : Int32)
    · have h := (if_pos g0).symm.trans h
      obtain ⟨z21, _, h⟩ := bnd_s h
      refine Fr.tr ?_ (fr_Fi_find_j183 h)
      try dsimp only [elS]
      repeat' (with_reducible first | exact Fr.rf | refine Fr.I ?_ (by simp [fp_Fi_find]) | refine Fr.L ?_ (by simp [fp_Fi_find]) | refine Fr.cI ?_ (by intro j; simp [fp_Fi_find]) | refine Fr.cL ?_ (by intro j; simp [fp_Fi_find]) | (refine Fr.tr ?_ (Fr.mono (fr_Fi_choose (by with_reducible assumption)) mono_Fi_find_0); try dsimp only) | (refine Fr.tr ?_ (Fr.mono (fr_Fi_weighRows (by with_reducible assumption)) mono_Fi_find_1); try dsimp only) | (refine Fr.tr ?_ (Fr.mono (fr_Wy_pairOf (by with_reducible assumption)) mono_Fi_find_2); try dsimp only))
    · have h := (if_neg g0).symm.trans h
      obtain ⟨z15, _, h⟩ := bnd_s h
      refine Fr.tr ?_ (fr_Fi_find_j183 h)
      try dsimp only [elS]
      repeat' (with_reducible first | exact Fr.rf | refine Fr.I ?_ (by simp [fp_Fi_find]) | refine Fr.L ?_ (by simp [fp_Fi_find]) | refine Fr.cI ?_ (by intro j; simp [fp_Fi_find]) | refine Fr.cL ?_ (by intro j; simp [fp_Fi_find]) | (refine Fr.tr ?_ (Fr.mono (fr_Fi_choose (by with_reducible assumption)) mono_Fi_find_0); try dsimp only) | (refine Fr.tr ?_ (Fr.mono (fr_Fi_weighRows (by with_reducible assumption)) mono_Fi_find_1); try dsimp only) | (refine Fr.tr ?_ (Fr.mono (fr_Wy_pairOf (by with_reducible assumption)) mono_Fi_find_2); try dsimp only))
theorem fr_Fi_find_j126 {n : Nat} {o : Nat} {c5 : Int32} {v8 : Int32} {v9 : Int32} {v10 : Int32} {w0 : Int64} {M : Mm} {oo : (Int32 × Mm) ⊕ (Mm)} (h : Fi_find_j126 n o c5 v8 v9 v10 w0 M = some oo) : Fr (fp_Fi_find o) M (elS oo (fun s1 => s1.2) (fun x1 => x1)) := by
  unfold Fi_find_j126 at h
  by_cases g0 : w0 = (0 : Int64)
  · have h := (if_pos g0).symm.trans h
    refine Fr.tr ?_ (fr_Fi_find_j157 h)
    try dsimp only [elS]
    repeat' (with_reducible first | exact Fr.rf | refine Fr.I ?_ (by simp [fp_Fi_find]) | refine Fr.L ?_ (by simp [fp_Fi_find]) | refine Fr.cI ?_ (by intro j; simp [fp_Fi_find]) | refine Fr.cL ?_ (by intro j; simp [fp_Fi_find]) | (refine Fr.tr ?_ (Fr.mono (fr_Fi_choose (by with_reducible assumption)) mono_Fi_find_0); try dsimp only) | (refine Fr.tr ?_ (Fr.mono (fr_Fi_weighRows (by with_reducible assumption)) mono_Fi_find_1); try dsimp only) | (refine Fr.tr ?_ (Fr.mono (fr_Wy_pairOf (by with_reducible assumption)) mono_Fi_find_2); try dsimp only))
  · have h := (if_neg g0).symm.trans h
    by_cases g0 : c5 = (2 : Int32)
    · have h := (if_pos g0).symm.trans h
      obtain ⟨z24, _, h⟩ := bnd_s h
      refine Fr.tr ?_ (fr_Fi_find_j213 h)
      try dsimp only [elS]
      repeat' (with_reducible first | exact Fr.rf | refine Fr.I ?_ (by simp [fp_Fi_find]) | refine Fr.L ?_ (by simp [fp_Fi_find]) | refine Fr.cI ?_ (by intro j; simp [fp_Fi_find]) | refine Fr.cL ?_ (by intro j; simp [fp_Fi_find]) | (refine Fr.tr ?_ (Fr.mono (fr_Fi_choose (by with_reducible assumption)) mono_Fi_find_0); try dsimp only) | (refine Fr.tr ?_ (Fr.mono (fr_Fi_weighRows (by with_reducible assumption)) mono_Fi_find_1); try dsimp only) | (refine Fr.tr ?_ (Fr.mono (fr_Wy_pairOf (by with_reducible assumption)) mono_Fi_find_2); try dsimp only))
    · have h := (if_neg g0).symm.trans h
      refine Fr.tr ?_ (fr_Fi_find_j157 h)
      try dsimp only [elS]
      repeat' (with_reducible first | exact Fr.rf | refine Fr.I ?_ (by simp [fp_Fi_find]) | refine Fr.L ?_ (by simp [fp_Fi_find]) | refine Fr.cI ?_ (by intro j; simp [fp_Fi_find]) | refine Fr.cL ?_ (by intro j; simp [fp_Fi_find]) | (refine Fr.tr ?_ (Fr.mono (fr_Fi_choose (by with_reducible assumption)) mono_Fi_find_0); try dsimp only) | (refine Fr.tr ?_ (Fr.mono (fr_Fi_weighRows (by with_reducible assumption)) mono_Fi_find_1); try dsimp only) | (refine Fr.tr ?_ (Fr.mono (fr_Wy_pairOf (by with_reducible assumption)) mono_Fi_find_2); try dsimp only))
theorem fr_Fi_find_j65 {n : Nat} {o : Nat} {c4 : Int32} {c5 : Int32} {c6 : Int32} {v8 : Int32} {M : Mm} {oo : (Int32 × Mm) ⊕ (Mm)} (h : Fi_find_j65 n o c4 c5 c6 v8 M = some oo) : Fr (fp_Fi_find o) M (elS oo (fun s1 => s1.2) (fun x1 => x1)) := by
  unfold Fi_find_j65 at h
  obtain ⟨_, h⟩ := grd_s h
  obtain ⟨_, h⟩ := grd_s h
  obtain ⟨z9, _, h⟩ := bnd_s h
  by_cases g0 : z9 ≤ (0 : Int32)
  · have h := (if_pos g0).symm.trans h
    refine Fr.tr ?_ (fr_Fi_find_j126 h)
    try dsimp only [elS]
    repeat' (with_reducible first | exact Fr.rf | refine Fr.I ?_ (by simp [fp_Fi_find]) | refine Fr.L ?_ (by simp [fp_Fi_find]) | refine Fr.cI ?_ (by intro j; simp [fp_Fi_find]) | refine Fr.cL ?_ (by intro j; simp [fp_Fi_find]) | (refine Fr.tr ?_ (Fr.mono (fr_Fi_choose (by with_reducible assumption)) mono_Fi_find_0); try dsimp only) | (refine Fr.tr ?_ (Fr.mono (fr_Fi_weighRows (by with_reducible assumption)) mono_Fi_find_1); try dsimp only) | (refine Fr.tr ?_ (Fr.mono (fr_Wy_pairOf (by with_reducible assumption)) mono_Fi_find_2); try dsimp only))
  · have h := (if_neg g0).symm.trans h
    obtain ⟨z26, _, h⟩ := bnd_s h
    refine Fr.tr ?_ (fr_Fi_find_j126 h)
    try dsimp only [elS]
    repeat' (with_reducible first | exact Fr.rf | refine Fr.I ?_ (by simp [fp_Fi_find]) | refine Fr.L ?_ (by simp [fp_Fi_find]) | refine Fr.cI ?_ (by intro j; simp [fp_Fi_find]) | refine Fr.cL ?_ (by intro j; simp [fp_Fi_find]) | (refine Fr.tr ?_ (Fr.mono (fr_Fi_choose (by with_reducible assumption)) mono_Fi_find_0); try dsimp only) | (refine Fr.tr ?_ (Fr.mono (fr_Fi_weighRows (by with_reducible assumption)) mono_Fi_find_1); try dsimp only) | (refine Fr.tr ?_ (Fr.mono (fr_Wy_pairOf (by with_reducible assumption)) mono_Fi_find_2); try dsimp only))
theorem fr_Fi_find_b38 {n : Nat} {o : Nat} {c4 : Int32} {c5 : Int32} {c6 : Int32} {c7 : Int32} {v8 : Int32} {M : Mm} {oo : (Int32 × Mm) ⊕ (Mm)} (h : Fi_find_b38 n o c4 c5 c6 c7 v8 M = some oo) : Fr (fp_Fi_find o) M (elS oo (fun s1 => s1.2) (fun x1 => x1)) := by
  unfold Fi_find_b38 at h
  obtain ⟨_, h⟩ := grd_s h
  by_cases g0 : (M.1 14 (tn c6)) ≤ v8
  · have h := (if_pos g0).symm.trans h
    obtain rfl := Option.some.inj h
    try dsimp only [elS]
    repeat' (with_reducible first | exact Fr.rf | refine Fr.I ?_ (by simp [fp_Fi_find]) | refine Fr.L ?_ (by simp [fp_Fi_find]) | refine Fr.cI ?_ (by intro j; simp [fp_Fi_find]) | refine Fr.cL ?_ (by intro j; simp [fp_Fi_find]) | (refine Fr.tr ?_ (Fr.mono (fr_Fi_choose (by with_reducible assumption)) mono_Fi_find_0); try dsimp only) | (refine Fr.tr ?_ (Fr.mono (fr_Fi_weighRows (by with_reducible assumption)) mono_Fi_find_1); try dsimp only) | (refine Fr.tr ?_ (Fr.mono (fr_Wy_pairOf (by with_reducible assumption)) mono_Fi_find_2); try dsimp only))
  · have h := (if_neg g0).symm.trans h
    by_cases g0 : c7 = (0 : Int32)
    · have h := (if_pos g0).symm.trans h
      refine Fr.tr ?_ (fr_Fi_find_j65 h)
      try dsimp only [elS]
      repeat' (with_reducible first | exact Fr.rf | refine Fr.I ?_ (by simp [fp_Fi_find]) | refine Fr.L ?_ (by simp [fp_Fi_find]) | refine Fr.cI ?_ (by intro j; simp [fp_Fi_find]) | refine Fr.cL ?_ (by intro j; simp [fp_Fi_find]) | (refine Fr.tr ?_ (Fr.mono (fr_Fi_choose (by with_reducible assumption)) mono_Fi_find_0); try dsimp only) | (refine Fr.tr ?_ (Fr.mono (fr_Fi_weighRows (by with_reducible assumption)) mono_Fi_find_1); try dsimp only) | (refine Fr.tr ?_ (Fr.mono (fr_Wy_pairOf (by with_reducible assumption)) mono_Fi_find_2); try dsimp only))
    · have h := (if_neg g0).symm.trans h
      by_cases g0 : (0 : Int32) ≤ (M.1 12 1)
      · have h := (if_pos g0).symm.trans h
        obtain rfl := Option.some.inj h
        try dsimp only [elS]
        repeat' (with_reducible first | exact Fr.rf | refine Fr.I ?_ (by simp [fp_Fi_find]) | refine Fr.L ?_ (by simp [fp_Fi_find]) | refine Fr.cI ?_ (by intro j; simp [fp_Fi_find]) | refine Fr.cL ?_ (by intro j; simp [fp_Fi_find]) | (refine Fr.tr ?_ (Fr.mono (fr_Fi_choose (by with_reducible assumption)) mono_Fi_find_0); try dsimp only) | (refine Fr.tr ?_ (Fr.mono (fr_Fi_weighRows (by with_reducible assumption)) mono_Fi_find_1); try dsimp only) | (refine Fr.tr ?_ (Fr.mono (fr_Wy_pairOf (by with_reducible assumption)) mono_Fi_find_2); try dsimp only))
      · have h := (if_neg g0).symm.trans h
        refine Fr.tr ?_ (fr_Fi_find_j65 h)
        try dsimp only [elS]
        repeat' (with_reducible first | exact Fr.rf | refine Fr.I ?_ (by simp [fp_Fi_find]) | refine Fr.L ?_ (by simp [fp_Fi_find]) | refine Fr.cI ?_ (by intro j; simp [fp_Fi_find]) | refine Fr.cL ?_ (by intro j; simp [fp_Fi_find]) | (refine Fr.tr ?_ (Fr.mono (fr_Fi_choose (by with_reducible assumption)) mono_Fi_find_0); try dsimp only) | (refine Fr.tr ?_ (Fr.mono (fr_Fi_weighRows (by with_reducible assumption)) mono_Fi_find_1); try dsimp only) | (refine Fr.tr ?_ (Fr.mono (fr_Wy_pairOf (by with_reducible assumption)) mono_Fi_find_2); try dsimp only))
theorem frl_Fi_find_b38 {n : Nat} {o : Nat} {c4 : Int32} {c5 : Int32} {c6 : Int32} {c7 : Int32}  {n1 : Nat} {s0 : Int32 × Mm} {y1 : Mm} (h : loop (fun s1 : Int32 × Mm => Fi_find_b38 n o c4 c5 c6 c7 s1.1 s1.2) n1 s0 = some y1) : Fr (fp_Fi_find o) s0.2 y1 :=
  loop_inv (P := fun s2 : Int32 × Mm => Fr (fp_Fi_find o) s0.2 s2.2) (E := fun y1 : Mm => Fr (fp_Fi_find o) s0.2 y1) (fun s2 s3 hP hb => hP.tr (fr_Fi_find_b38 hb)) (fun s2 x2 hP hb => hP.tr (fr_Fi_find_b38 hb)) n1 s0 y1 h Fr.rf
theorem fr_Fi_find_j219 {M : Mm} {o : Nat} {oo : Bool × Mm} (h : Fi_find_j219 M = some oo) : Fr (fp_Fi_find o) M oo.2 := by
  unfold Fi_find_j219 at h
  by_cases g0 : (M.1 12 1) < (0 : Int32)
  · have h := (if_pos g0).symm.trans h
    obtain rfl := Option.some.inj h
    try dsimp only [elS]
    repeat' (with_reducible first | exact Fr.rf | refine Fr.I ?_ (by simp [fp_Fi_find]) | refine Fr.L ?_ (by simp [fp_Fi_find]) | refine Fr.cI ?_ (by intro j; simp [fp_Fi_find]) | refine Fr.cL ?_ (by intro j; simp [fp_Fi_find]) | (refine Fr.tr ?_ (Fr.mono (fr_Fi_choose (by with_reducible assumption)) mono_Fi_find_0); try dsimp only) | (refine Fr.tr ?_ (Fr.mono (fr_Fi_weighRows (by with_reducible assumption)) mono_Fi_find_1); try dsimp only) | (refine Fr.tr ?_ (Fr.mono (fr_Wy_pairOf (by with_reducible assumption)) mono_Fi_find_2); try dsimp only) | (refine Fr.tr ?_ (frl_Fi_find_b38 (by with_reducible assumption)); try dsimp only))
  · have h := (if_neg g0).symm.trans h
    obtain rfl := Option.some.inj h
    try dsimp only [elS]
    repeat' (with_reducible first | exact Fr.rf | refine Fr.I ?_ (by simp [fp_Fi_find]) | refine Fr.L ?_ (by simp [fp_Fi_find]) | refine Fr.cI ?_ (by intro j; simp [fp_Fi_find]) | refine Fr.cL ?_ (by intro j; simp [fp_Fi_find]) | (refine Fr.tr ?_ (Fr.mono (fr_Fi_choose (by with_reducible assumption)) mono_Fi_find_0); try dsimp only) | (refine Fr.tr ?_ (Fr.mono (fr_Fi_weighRows (by with_reducible assumption)) mono_Fi_find_1); try dsimp only) | (refine Fr.tr ?_ (Fr.mono (fr_Wy_pairOf (by with_reducible assumption)) mono_Fi_find_2); try dsimp only) | (refine Fr.tr ?_ (frl_Fi_find_b38 (by with_reducible assumption)); try dsimp only))
theorem fr_Fi_find_j28 {n : Nat} {o : Nat} {v4 : Int32} {v5 : Int32} {v6 : Int32} {w0 : Int32} {M : Mm} {oo : Bool × Mm} (h : Fi_find_j28 n o v4 v5 v6 w0 M = some oo) : Fr (fp_Fi_find o) M oo.2 := by
  unfold Fi_find_j28 at h
  obtain ⟨y29, _, h⟩ := bnd_s h
  refine Fr.tr ?_ (fr_Fi_find_j219 h)
  try dsimp only [elS]
  repeat' (with_reducible first | exact Fr.rf | refine Fr.I ?_ (by simp [fp_Fi_find]) | refine Fr.L ?_ (by simp [fp_Fi_find]) | refine Fr.cI ?_ (by intro j; simp [fp_Fi_find]) | refine Fr.cL ?_ (by intro j; simp [fp_Fi_find]) | (refine Fr.tr ?_ (Fr.mono (fr_Fi_choose (by with_reducible assumption)) mono_Fi_find_0); try dsimp only) | (refine Fr.tr ?_ (Fr.mono (fr_Fi_weighRows (by with_reducible assumption)) mono_Fi_find_1); try dsimp only) | (refine Fr.tr ?_ (Fr.mono (fr_Wy_pairOf (by with_reducible assumption)) mono_Fi_find_2); try dsimp only) | (refine Fr.tr ?_ (frl_Fi_find_b38 (by with_reducible assumption)); try dsimp only))
theorem fr_Fi_find_j23 {n : Nat} {o : Nat} {v4 : Int32} {v5 : Int32} {v6 : Int32} {M : Mm} {oo : Bool × Mm} (h : Fi_find_j23 n o v4 v5 v6 M = some oo) : Fr (fp_Fi_find o) M oo.2 := by
  unfold Fi_find_j23 at h
  refine Fr.tr ?_ (fr_Fi_find_j28 h)
  try dsimp only [elS]
  repeat' (with_reducible first | exact Fr.rf | refine Fr.I ?_ (by simp [fp_Fi_find]) | refine Fr.L ?_ (by simp [fp_Fi_find]) | refine Fr.cI ?_ (by intro j; simp [fp_Fi_find]) | refine Fr.cL ?_ (by intro j; simp [fp_Fi_find]) | (refine Fr.tr ?_ (Fr.mono (fr_Fi_choose (by with_reducible assumption)) mono_Fi_find_0); try dsimp only) | (refine Fr.tr ?_ (Fr.mono (fr_Fi_weighRows (by with_reducible assumption)) mono_Fi_find_1); try dsimp only) | (refine Fr.tr ?_ (Fr.mono (fr_Wy_pairOf (by with_reducible assumption)) mono_Fi_find_2); try dsimp only) | (refine Fr.tr ?_ (frl_Fi_find_b38 (by with_reducible assumption)); try dsimp only))
theorem fr_Fi_find {n : Nat} {o : Nat} {v2 : Int32} {v3 : Int32} {v4 : Int32} {v5 : Int32} {M : Mm} {oo : Bool × Mm} (h : Fi_find n o v2 v3 v4 v5 M = some oo) : Fr (fp_Fi_find o) M oo.2 := by
  unfold Fi_find at h
  obtain ⟨z1, _, h⟩ := bnd_s h
  by_cases g0 : v5 = (0 : Int32)
  · have h := (if_pos g0).symm.trans h
    refine Fr.tr ?_ (fr_Fi_find_j23 h)
    try dsimp only [elS]
    repeat' (with_reducible first | exact Fr.rf | refine Fr.I ?_ (by simp [fp_Fi_find]) | refine Fr.L ?_ (by simp [fp_Fi_find]) | refine Fr.cI ?_ (by intro j; simp [fp_Fi_find]) | refine Fr.cL ?_ (by intro j; simp [fp_Fi_find]) | (refine Fr.tr ?_ (Fr.mono (fr_Fi_choose (by with_reducible assumption)) mono_Fi_find_0); try dsimp only) | (refine Fr.tr ?_ (Fr.mono (fr_Fi_weighRows (by with_reducible assumption)) mono_Fi_find_1); try dsimp only) | (refine Fr.tr ?_ (Fr.mono (fr_Wy_pairOf (by with_reducible assumption)) mono_Fi_find_2); try dsimp only) | (refine Fr.tr ?_ (frl_Fi_find_b38 (by with_reducible assumption)); try dsimp only))
  · have h := (if_neg g0).symm.trans h
    by_cases g0 : v5 = (3 : Int32)
    · have h := (if_pos g0).symm.trans h
      refine Fr.tr ?_ (fr_Fi_find_j23 h)
      try dsimp only [elS]
      repeat' (with_reducible first | exact Fr.rf | refine Fr.I ?_ (by simp [fp_Fi_find]) | refine Fr.L ?_ (by simp [fp_Fi_find]) | refine Fr.cI ?_ (by intro j; simp [fp_Fi_find]) | refine Fr.cL ?_ (by intro j; simp [fp_Fi_find]) | (refine Fr.tr ?_ (Fr.mono (fr_Fi_choose (by with_reducible assumption)) mono_Fi_find_0); try dsimp only) | (refine Fr.tr ?_ (Fr.mono (fr_Fi_weighRows (by with_reducible assumption)) mono_Fi_find_1); try dsimp only) | (refine Fr.tr ?_ (Fr.mono (fr_Wy_pairOf (by with_reducible assumption)) mono_Fi_find_2); try dsimp only) | (refine Fr.tr ?_ (frl_Fi_find_b38 (by with_reducible assumption)); try dsimp only))
    · have h := (if_neg g0).symm.trans h
      refine Fr.tr ?_ (fr_Fi_find_j28 h)
      try dsimp only [elS]
      repeat' (with_reducible first | exact Fr.rf | refine Fr.I ?_ (by simp [fp_Fi_find]) | refine Fr.L ?_ (by simp [fp_Fi_find]) | refine Fr.cI ?_ (by intro j; simp [fp_Fi_find]) | refine Fr.cL ?_ (by intro j; simp [fp_Fi_find]) | (refine Fr.tr ?_ (Fr.mono (fr_Fi_choose (by with_reducible assumption)) mono_Fi_find_0); try dsimp only) | (refine Fr.tr ?_ (Fr.mono (fr_Fi_weighRows (by with_reducible assumption)) mono_Fi_find_1); try dsimp only) | (refine Fr.tr ?_ (Fr.mono (fr_Wy_pairOf (by with_reducible assumption)) mono_Fi_find_2); try dsimp only) | (refine Fr.tr ?_ (frl_Fi_find_b38 (by with_reducible assumption)); try dsimp only))
theorem fr_Nt_begin_b61 {a : Nat} {v1 : Int32} {M : Mm} {oo : (Int32 × Mm) ⊕ (Mm)} (h : Nt_begin_b61 a v1 M = some oo) : Fr (fp_Nt_begin a) M (elS oo (fun s1 => s1.2) (fun x1 => x1)) := by
  unfold Nt_begin_b61 at h
  by_cases g0 : (64 : Int32) ≤ v1
  · have h := (if_pos g0).symm.trans h
    obtain rfl := Option.some.inj h
    try dsimp only [elS]
    repeat' (with_reducible first | exact Fr.rf | refine Fr.I ?_ (by simp [fp_Nt_begin]) | refine Fr.L ?_ (by simp [fp_Nt_begin]) | refine Fr.cI ?_ (by intro j; simp [fp_Nt_begin]) | refine Fr.cL ?_ (by intro j; simp [fp_Nt_begin]))
  · have h := (if_neg g0).symm.trans h
    obtain ⟨_, h⟩ := grd_s h
    obtain rfl := Option.some.inj h
    try dsimp only [elS]
    repeat' (with_reducible first | exact Fr.rf | refine Fr.I ?_ (by simp [fp_Nt_begin]) | refine Fr.L ?_ (by simp [fp_Nt_begin]) | refine Fr.cI ?_ (by intro j; simp [fp_Nt_begin]) | refine Fr.cL ?_ (by intro j; simp [fp_Nt_begin]))
theorem frl_Nt_begin_b61 {a : Nat}  {n1 : Nat} {s0 : Int32 × Mm} {y1 : Mm} (h : loop (fun s1 : Int32 × Mm => Nt_begin_b61 a s1.1 s1.2) n1 s0 = some y1) : Fr (fp_Nt_begin a) s0.2 y1 :=
  loop_inv (P := fun s2 : Int32 × Mm => Fr (fp_Nt_begin a) s0.2 s2.2) (E := fun y1 : Mm => Fr (fp_Nt_begin a) s0.2 y1) (fun s2 s3 hP hb => hP.tr (fr_Nt_begin_b61 hb)) (fun s2 x2 hP hb => hP.tr (fr_Nt_begin_b61 hb)) n1 s0 y1 h Fr.rf
theorem fr_Nt_begin {n : Nat} {a : Nat} {M : Mm} {oo : Mm} (h : Nt_begin n a M = some oo) : Fr (fp_Nt_begin a) M oo := by
  unfold Nt_begin at h
  obtain ⟨_, h⟩ := grd_s h
  obtain ⟨_, h⟩ := grd_s h
  obtain ⟨_, h⟩ := grd_s h
  obtain ⟨_, h⟩ := grd_s h
  obtain ⟨y7, _, h⟩ := bnd_s h
  obtain rfl := Option.some.inj h
  try dsimp only [elS]
  repeat' (with_reducible first | exact Fr.rf | refine Fr.I ?_ (by simp [fp_Nt_begin]) | refine Fr.L ?_ (by simp [fp_Nt_begin]) | refine Fr.cI ?_ (by intro j; simp [fp_Nt_begin]) | refine Fr.cL ?_ (by intro j; simp [fp_Nt_begin]) | (refine Fr.tr ?_ (frl_Nt_begin_b61 (by with_reducible assumption)); try dsimp only))
theorem fr_Nt_copy {a : Nat} {o : Nat} {M : Mm} {oo : Mm} (h : Nt_copy a o M = some oo) : Fr (fp_Nt_copy a o) M oo := by
  unfold Nt_copy at h
  obtain rfl := Option.some.inj h
  try dsimp only [elS]
  repeat' (with_reducible first | exact Fr.rf | refine Fr.I ?_ (by simp [fp_Nt_copy]) | refine Fr.L ?_ (by simp [fp_Nt_copy]) | refine Fr.cI ?_ (by intro j; simp [fp_Nt_copy]) | refine Fr.cL ?_ (by intro j; simp [fp_Nt_copy]))
theorem fr_Nt_join {a : Nat} {v1 : Int32} {v2 : Int32} {v3 : Int32} {M : Mm} {oo : Mm} (h : Nt_join a v1 v2 v3 M = some oo) : Fr (fp_Nt_join a) M oo := by
  unfold Nt_join at h
  by_cases g0 : (M.1 a 3) < (14 : Int32)
  · have h := (if_pos g0).symm.trans h
    obtain ⟨_, h⟩ := grd_s h
    obtain ⟨_, h⟩ := grd_s h
    obtain ⟨_, h⟩ := grd_s h
    obtain ⟨_, h⟩ := grd_s h
    obtain ⟨_, h⟩ := grd_s h
    obtain rfl := Option.some.inj h
    try dsimp only [elS]
    repeat' (with_reducible first | exact Fr.rf | refine Fr.I ?_ (by simp [fp_Nt_join]) | refine Fr.L ?_ (by simp [fp_Nt_join]) | refine Fr.cI ?_ (by intro j; simp [fp_Nt_join]) | refine Fr.cL ?_ (by intro j; simp [fp_Nt_join]))
  · have h := (if_neg g0).symm.trans h
    obtain rfl := Option.some.inj h
    try dsimp only [elS]
    repeat' (with_reducible first | exact Fr.rf | refine Fr.I ?_ (by simp [fp_Nt_join]) | refine Fr.L ?_ (by simp [fp_Nt_join]) | refine Fr.cI ?_ (by intro j; simp [fp_Nt_join]) | refine Fr.cL ?_ (by intro j; simp [fp_Nt_join]))
theorem fr_Rd_blame {v1 : Int32} {v2 : Int32} {M : Mm} {oo : Mm} (h : Rd_blame v1 v2 M = some oo) : Fr (fp_Rd_blame) M oo := by
  unfold Rd_blame at h
  obtain rfl := Option.some.inj h
  try dsimp only [elS]
  repeat' (with_reducible first | exact Fr.rf | refine Fr.I ?_ (by simp [fp_Rd_blame]) | refine Fr.L ?_ (by simp [fp_Rd_blame]) | refine Fr.cI ?_ (by intro j; simp [fp_Rd_blame]) | refine Fr.cL ?_ (by intro j; simp [fp_Rd_blame]))
