theorem mono_Fm_drop_0  : ∀ c j, fp_Fm_sets c j → fp_Fm_drop c j := fun c j => (fun e => e)
theorem fr_Fm_drop {v1 : Int32} {M : Mm} {oo : Bool × Mm} (h : Fm_drop v1 M = some oo) : Fr (fp_Fm_drop) M oo.2 := by
  unfold Fm_drop at h
  obtain ⟨z1, _, h⟩ := bnd_s h
  by_cases g0 : z1 = true
  · have h := (if_pos g0).symm.trans h
    obtain ⟨z4, _, h⟩ := bnd_s h
    by_cases g0 : z4 = (3 : Int32)
    · have h := (if_pos g0).symm.trans h
      obtain rfl := Option.some.inj h
      try dsimp only [elS]
      repeat' (with_reducible first | exact Fr.rf | refine Fr.I ?_ (by simp [fp_Fm_drop]) | refine Fr.L ?_ (by simp [fp_Fm_drop]) | refine Fr.cI ?_ (by intro j; simp [fp_Fm_drop]) | refine Fr.cL ?_ (by intro j; simp [fp_Fm_drop]) | (refine Fr.tr ?_ (Fr.mono (fr_Fm_sets (by with_reducible assumption)) mono_Fm_drop_0); try dsimp only))
    · have h := (if_neg g0).symm.trans h
      obtain ⟨z7, _, h⟩ := bnd_s h
      obtain rfl := Option.some.inj h
      try dsimp only [elS]
      repeat' (with_reducible first | exact Fr.rf | refine Fr.I ?_ (by simp [fp_Fm_drop]) | refine Fr.L ?_ (by simp [fp_Fm_drop]) | refine Fr.cI ?_ (by intro j; simp [fp_Fm_drop]) | refine Fr.cL ?_ (by intro j; simp [fp_Fm_drop]) | (refine Fr.tr ?_ (Fr.mono (fr_Fm_sets (by with_reducible assumption)) mono_Fm_drop_0); try dsimp only))
  · have h := (if_neg g0).symm.trans h
    obtain rfl := Option.some.inj h
    try dsimp only [elS]
    repeat' (with_reducible first | exact Fr.rf | refine Fr.I ?_ (by simp [fp_Fm_drop]) | refine Fr.L ?_ (by simp [fp_Fm_drop]) | refine Fr.cI ?_ (by intro j; simp [fp_Fm_drop]) | refine Fr.cL ?_ (by intro j; simp [fp_Fm_drop]) | (refine Fr.tr ?_ (Fr.mono (fr_Fm_sets (by with_reducible assumption)) mono_Fm_drop_0); try dsimp only))
theorem mono_Fm_slides_0  : ∀ c j, fp_Fm_sets c j → fp_Fm_slides c j := fun c j => (fun e => e)
theorem fr_Fm_slides {n : Nat} {v1 : Int32} {M : Mm} {oo : Int32 × Mm} (h : Fm_slides n v1 M = some oo) : Fr (fp_Fm_slides) M oo.2 := by
  unfold Fm_slides at h
  obtain ⟨z1, _, h⟩ := bnd_s h
  obtain ⟨z3, _, h⟩ := bnd_s h
  obtain ⟨z5, _, h⟩ := bnd_s h
  obtain ⟨z7, _, h⟩ := bnd_s h
  obtain rfl := Option.some.inj h
  try dsimp only [elS]
  repeat' (with_reducible first | exact Fr.rf | refine Fr.I ?_ (by simp [fp_Fm_slides]) | refine Fr.L ?_ (by simp [fp_Fm_slides]) | refine Fr.cI ?_ (by intro j; simp [fp_Fm_slides]) | refine Fr.cL ?_ (by intro j; simp [fp_Fm_slides]) | (refine Fr.tr ?_ (Fr.mono (fr_Fm_sets (by with_reducible assumption)) mono_Fm_slides_0); try dsimp only))
theorem mono_Fm_slide_0  : ∀ c j, fp_Fm_slides c j → fp_Fm_slide c j := fun c j => (fun e => e)
theorem fr_Fm_slide {n : Nat} {v1 : Int32} {M : Mm} {oo : Int32 × Mm} (h : Fm_slide n v1 M = some oo) : Fr (fp_Fm_slide) M oo.2 := by
  unfold Fm_slide at h
  obtain ⟨z1, _, h⟩ := bnd_s h
  by_cases g0 : z1 = true
  · have h := (if_pos g0).symm.trans h
    obtain ⟨z4, _, h⟩ := bnd_s h
    by_cases g0 : z4 = true
    · have h := (if_pos g0).symm.trans h
      obtain ⟨z7, _, h⟩ := bnd_s h
      obtain rfl := Option.some.inj h
      try dsimp only [elS]
      repeat' (with_reducible first | exact Fr.rf | refine Fr.I ?_ (by simp [fp_Fm_slide]) | refine Fr.L ?_ (by simp [fp_Fm_slide]) | refine Fr.cI ?_ (by intro j; simp [fp_Fm_slide]) | refine Fr.cL ?_ (by intro j; simp [fp_Fm_slide]) | (refine Fr.tr ?_ (Fr.mono (fr_Fm_slides (by with_reducible assumption)) mono_Fm_slide_0); try dsimp only))
    · have h := (if_neg g0).symm.trans h
      obtain rfl := Option.some.inj h
      try dsimp only [elS]
      repeat' (with_reducible first | exact Fr.rf | refine Fr.I ?_ (by simp [fp_Fm_slide]) | refine Fr.L ?_ (by simp [fp_Fm_slide]) | refine Fr.cI ?_ (by intro j; simp [fp_Fm_slide]) | refine Fr.cL ?_ (by intro j; simp [fp_Fm_slide]) | (refine Fr.tr ?_ (Fr.mono (fr_Fm_slides (by with_reducible assumption)) mono_Fm_slide_0); try dsimp only))
  · have h := (if_neg g0).symm.trans h
    obtain rfl := Option.some.inj h
    try dsimp only [elS]
    repeat' (with_reducible first | exact Fr.rf | refine Fr.I ?_ (by simp [fp_Fm_slide]) | refine Fr.L ?_ (by simp [fp_Fm_slide]) | refine Fr.cI ?_ (by intro j; simp [fp_Fm_slide]) | refine Fr.cL ?_ (by intro j; simp [fp_Fm_slide]) | (refine Fr.tr ?_ (Fr.mono (fr_Fm_slides (by with_reducible assumption)) mono_Fm_slide_0); try dsimp only))
theorem mono_Fm_sweep_0  : ∀ c j, fp_Fm_slides c j → fp_Fm_sweep c j := fun c j => (fun e => Or.inr (e))
theorem fr_Fm_sweep_j59 {v1 : Int32} {v3 : Int32} {M : Mm} {oo : (Int32 × Int32 × Mm) ⊕ (Int32 × Mm)} (h : Fm_sweep_j59 v1 v3 M = some oo) : Fr (fp_Fm_sweep) M (elS oo (fun s1 => s1.2.2) (fun x1 => x1.2)) := by
  unfold Fm_sweep_j59 at h
  obtain rfl := Option.some.inj h
  try dsimp only [elS]
  repeat' (with_reducible first | exact Fr.rf | refine Fr.I ?_ (by simp [fp_Fm_sweep]) | refine Fr.L ?_ (by simp [fp_Fm_sweep]) | refine Fr.cI ?_ (by intro j; simp [fp_Fm_sweep]) | refine Fr.cL ?_ (by intro j; simp [fp_Fm_sweep]) | (refine Fr.tr ?_ (Fr.mono (fr_Fm_slides (by with_reducible assumption)) mono_Fm_sweep_0); try dsimp only))
theorem fr_Fm_sweep_b16 {c2 : Int32} {v1 : Int32} {v3 : Int32} {M : Mm} {oo : (Int32 × Int32 × Mm) ⊕ (Int32 × Mm)} (h : Fm_sweep_b16 c2 v1 v3 M = some oo) : Fr (fp_Fm_sweep) M (elS oo (fun s1 => s1.2.2) (fun x1 => x1.2)) := by
  unfold Fm_sweep_b16 at h
  obtain ⟨_, h⟩ := grd_s h
  by_cases g0 : (M.1 95 (tn (7 : Int32))) ≤ v3
  · have h := (if_pos g0).symm.trans h
    obtain rfl := Option.some.inj h
    try dsimp only [elS]
    repeat' (with_reducible first | exact Fr.rf | refine Fr.I ?_ (by simp [fp_Fm_sweep]) | refine Fr.L ?_ (by simp [fp_Fm_sweep]) | refine Fr.cI ?_ (by intro j; simp [fp_Fm_sweep]) | refine Fr.cL ?_ (by intro j; simp [fp_Fm_sweep]) | (refine Fr.tr ?_ (Fr.mono (fr_Fm_slides (by with_reducible assumption)) mono_Fm_sweep_0); try dsimp only))
  · have h := (if_neg g0).symm.trans h
    obtain ⟨z5, _, h⟩ := bnd_s h
    by_cases g0 : z5 = true
    · have h := (if_pos g0).symm.trans h
      obtain ⟨z8, _, h⟩ := bnd_s h
      by_cases g0 : z8 = c2
      · have h := (if_pos g0).symm.trans h
        obtain ⟨_, h⟩ := grd_s h
        refine Fr.tr ?_ (fr_Fm_sweep_j59 h)
        try dsimp only [elS]
        repeat' (with_reducible first | exact Fr.rf | refine Fr.I ?_ (by simp [fp_Fm_sweep]) | refine Fr.L ?_ (by simp [fp_Fm_sweep]) | refine Fr.cI ?_ (by intro j; simp [fp_Fm_sweep]) | refine Fr.cL ?_ (by intro j; simp [fp_Fm_sweep]) | (refine Fr.tr ?_ (Fr.mono (fr_Fm_slides (by with_reducible assumption)) mono_Fm_sweep_0); try dsimp only))
      · have h := (if_neg g0).symm.trans h
        refine Fr.tr ?_ (fr_Fm_sweep_j59 h)
        try dsimp only [elS]
        repeat' (with_reducible first | exact Fr.rf | refine Fr.I ?_ (by simp [fp_Fm_sweep]) | refine Fr.L ?_ (by simp [fp_Fm_sweep]) | refine Fr.cI ?_ (by intro j; simp [fp_Fm_sweep]) | refine Fr.cL ?_ (by intro j; simp [fp_Fm_sweep]) | (refine Fr.tr ?_ (Fr.mono (fr_Fm_slides (by with_reducible assumption)) mono_Fm_sweep_0); try dsimp only))
    · have h := (if_neg g0).symm.trans h
      refine Fr.tr ?_ (fr_Fm_sweep_j59 h)
      try dsimp only [elS]
      repeat' (with_reducible first | exact Fr.rf | refine Fr.I ?_ (by simp [fp_Fm_sweep]) | refine Fr.L ?_ (by simp [fp_Fm_sweep]) | refine Fr.cI ?_ (by intro j; simp [fp_Fm_sweep]) | refine Fr.cL ?_ (by intro j; simp [fp_Fm_sweep]) | (refine Fr.tr ?_ (Fr.mono (fr_Fm_slides (by with_reducible assumption)) mono_Fm_sweep_0); try dsimp only))
theorem frl_Fm_sweep_b16 {c2 : Int32}  {n1 : Nat} {s0 : Int32 × Int32 × Mm} {y1 : Int32 × Mm} (h : loop (fun s1 : Int32 × Int32 × Mm => Fm_sweep_b16 c2 s1.1 s1.2.1 s1.2.2) n1 s0 = some y1) : Fr (fp_Fm_sweep) s0.2.2 y1.2 :=
  loop_inv (P := fun s2 : Int32 × Int32 × Mm => Fr (fp_Fm_sweep) s0.2.2 s2.2.2) (E := fun y1 : Int32 × Mm => Fr (fp_Fm_sweep) s0.2.2 y1.2) (fun s2 s3 hP hb => hP.tr (fr_Fm_sweep_b16 hb)) (fun s2 x2 hP hb => hP.tr (fr_Fm_sweep_b16 hb)) n1 s0 y1 h Fr.rf
theorem fr_Fm_sweep_b4 {n : Nat} {v1 : Int32} {v2 : Int32} {M : Mm} {oo : (Int32 × Int32 × Mm) ⊕ (Int32 × Mm)} (h : Fm_sweep_b4 n v1 v2 M = some oo) : Fr (fp_Fm_sweep) M (elS oo (fun s1 => s1.2.2) (fun x1 => x1.2)) := by
  unfold Fm_sweep_b4 at h
  obtain ⟨_, h⟩ := grd_s h
  by_cases g0 : (M.1 95 (tn (1 : Int32))) ≤ v2
  · have h := (if_pos g0).symm.trans h
    obtain rfl := Option.some.inj h
    try dsimp only [elS]
    repeat' (with_reducible first | exact Fr.rf | refine Fr.I ?_ (by simp [fp_Fm_sweep]) | refine Fr.L ?_ (by simp [fp_Fm_sweep]) | refine Fr.cI ?_ (by intro j; simp [fp_Fm_sweep]) | refine Fr.cL ?_ (by intro j; simp [fp_Fm_sweep]) | (refine Fr.tr ?_ (Fr.mono (fr_Fm_slides (by with_reducible assumption)) mono_Fm_sweep_0); try dsimp only) | (refine Fr.tr ?_ (frl_Fm_sweep_b16 (by with_reducible assumption)); try dsimp only))
  · have h := (if_neg g0).symm.trans h
    obtain ⟨y12, _, h⟩ := bnd_s h
    obtain rfl := Option.some.inj h
    try dsimp only [elS]
    repeat' (with_reducible first | exact Fr.rf | refine Fr.I ?_ (by simp [fp_Fm_sweep]) | refine Fr.L ?_ (by simp [fp_Fm_sweep]) | refine Fr.cI ?_ (by intro j; simp [fp_Fm_sweep]) | refine Fr.cL ?_ (by intro j; simp [fp_Fm_sweep]) | (refine Fr.tr ?_ (Fr.mono (fr_Fm_slides (by with_reducible assumption)) mono_Fm_sweep_0); try dsimp only) | (refine Fr.tr ?_ (frl_Fm_sweep_b16 (by with_reducible assumption)); try dsimp only))
theorem frl_Fm_sweep_b4 {n : Nat}  {n1 : Nat} {s0 : Int32 × Int32 × Mm} {y1 : Int32 × Mm} (h : loop (fun s1 : Int32 × Int32 × Mm => Fm_sweep_b4 n s1.1 s1.2.1 s1.2.2) n1 s0 = some y1) : Fr (fp_Fm_sweep) s0.2.2 y1.2 :=
  loop_inv (P := fun s2 : Int32 × Int32 × Mm => Fr (fp_Fm_sweep) s0.2.2 s2.2.2) (E := fun y1 : Int32 × Mm => Fr (fp_Fm_sweep) s0.2.2 y1.2) (fun s2 s3 hP hb => hP.tr (fr_Fm_sweep_b4 hb)) (fun s2 x2 hP hb => hP.tr (fr_Fm_sweep_b4 hb)) n1 s0 y1 h Fr.rf
theorem fr_Fm_sweep_j97 {v2 : Int32} {v3 : Int32} {M : Mm} {oo : (Int32 × Int32 × Mm) ⊕ (Int32 × Mm)} (h : Fm_sweep_j97 v2 v3 M = some oo) : Fr (fp_Fm_sweep) M (elS oo (fun s1 => s1.2.2) (fun x1 => x1.2)) := by
  unfold Fm_sweep_j97 at h
  obtain rfl := Option.some.inj h
  try dsimp only [elS]
  repeat' (with_reducible first | exact Fr.rf | refine Fr.I ?_ (by simp [fp_Fm_sweep]) | refine Fr.L ?_ (by simp [fp_Fm_sweep]) | refine Fr.cI ?_ (by intro j; simp [fp_Fm_sweep]) | refine Fr.cL ?_ (by intro j; simp [fp_Fm_sweep]) | (refine Fr.tr ?_ (Fr.mono (fr_Fm_slides (by with_reducible assumption)) mono_Fm_sweep_0); try dsimp only) | (refine Fr.tr ?_ (frl_Fm_sweep_b16 (by with_reducible assumption)); try dsimp only) | (refine Fr.tr ?_ (frl_Fm_sweep_b4 (by with_reducible assumption)); try dsimp only))
theorem fr_Fm_sweep_b75 {n : Nat} {c1 : Int32} {v2 : Int32} {v3 : Int32} {M : Mm} {oo : (Int32 × Int32 × Mm) ⊕ (Int32 × Mm)} (h : Fm_sweep_b75 n c1 v2 v3 M = some oo) : Fr (fp_Fm_sweep) M (elS oo (fun s1 => s1.2.2) (fun x1 => x1.2)) := by
  unfold Fm_sweep_b75 at h
  by_cases g0 : c1 ≤ v3
  · have h := (if_pos g0).symm.trans h
    obtain rfl := Option.some.inj h
    try dsimp only [elS]
    repeat' (with_reducible first | exact Fr.rf | refine Fr.I ?_ (by simp [fp_Fm_sweep]) | refine Fr.L ?_ (by simp [fp_Fm_sweep]) | refine Fr.cI ?_ (by intro j; simp [fp_Fm_sweep]) | refine Fr.cL ?_ (by intro j; simp [fp_Fm_sweep]) | (refine Fr.tr ?_ (Fr.mono (fr_Fm_slides (by with_reducible assumption)) mono_Fm_sweep_0); try dsimp only) | (refine Fr.tr ?_ (frl_Fm_sweep_b16 (by with_reducible assumption)); try dsimp only) | (refine Fr.tr ?_ (frl_Fm_sweep_b4 (by with_reducible assumption)); try dsimp only))
  · have h := (if_neg g0).symm.trans h
    obtain ⟨_, h⟩ := grd_s h
    obtain ⟨z16, _, h⟩ := bnd_s h
    by_cases g0 : z16.1 ≤ (0 : Int32)
    · have h := (if_pos g0).symm.trans h
      refine Fr.tr ?_ (fr_Fm_sweep_j97 h)
      try dsimp only [elS]
      repeat' (with_reducible first | exact Fr.rf | refine Fr.I ?_ (by simp [fp_Fm_sweep]) | refine Fr.L ?_ (by simp [fp_Fm_sweep]) | refine Fr.cI ?_ (by intro j; simp [fp_Fm_sweep]) | refine Fr.cL ?_ (by intro j; simp [fp_Fm_sweep]) | (refine Fr.tr ?_ (Fr.mono (fr_Fm_slides (by with_reducible assumption)) mono_Fm_sweep_0); try dsimp only) | (refine Fr.tr ?_ (frl_Fm_sweep_b16 (by with_reducible assumption)); try dsimp only) | (refine Fr.tr ?_ (frl_Fm_sweep_b4 (by with_reducible assumption)); try dsimp only))
    · have h := (if_neg g0).symm.trans h
      refine Fr.tr ?_ (fr_Fm_sweep_j97 h)
      try dsimp only [elS]
      repeat' (with_reducible first | exact Fr.rf | refine Fr.I ?_ (by simp [fp_Fm_sweep]) | refine Fr.L ?_ (by simp [fp_Fm_sweep]) | refine Fr.cI ?_ (by intro j; simp [fp_Fm_sweep]) | refine Fr.cL ?_ (by intro j; simp [fp_Fm_sweep]) | (refine Fr.tr ?_ (Fr.mono (fr_Fm_slides (by with_reducible assumption)) mono_Fm_sweep_0); try dsimp only) | (refine Fr.tr ?_ (frl_Fm_sweep_b16 (by with_reducible assumption)); try dsimp only) | (refine Fr.tr ?_ (frl_Fm_sweep_b4 (by with_reducible assumption)); try dsimp only))
theorem frl_Fm_sweep_b75 {n : Nat} {c1 : Int32}  {n1 : Nat} {s0 : Int32 × Int32 × Mm} {y1 : Int32 × Mm} (h : loop (fun s1 : Int32 × Int32 × Mm => Fm_sweep_b75 n c1 s1.1 s1.2.1 s1.2.2) n1 s0 = some y1) : Fr (fp_Fm_sweep) s0.2.2 y1.2 :=
  loop_inv (P := fun s2 : Int32 × Int32 × Mm => Fr (fp_Fm_sweep) s0.2.2 s2.2.2) (E := fun y1 : Int32 × Mm => Fr (fp_Fm_sweep) s0.2.2 y1.2) (fun s2 s3 hP hb => hP.tr (fr_Fm_sweep_b75 hb)) (fun s2 x2 hP hb => hP.tr (fr_Fm_sweep_b75 hb)) n1 s0 y1 h Fr.rf
theorem fr_Fm_sweep {n : Nat} {M : Mm} {oo : Int32 × Mm} (h : Fm_sweep n M = some oo) : Fr (fp_Fm_sweep) M oo.2 := by
  unfold Fm_sweep at h
  obtain ⟨y13, _, h⟩ := bnd_s h
  obtain ⟨y19, _, h⟩ := bnd_s h
  obtain rfl := Option.some.inj h
  try dsimp only [elS]
  repeat' (with_reducible first | exact Fr.rf | refine Fr.I ?_ (by simp [fp_Fm_sweep]) | refine Fr.L ?_ (by simp [fp_Fm_sweep]) | refine Fr.cI ?_ (by intro j; simp [fp_Fm_sweep]) | refine Fr.cL ?_ (by intro j; simp [fp_Fm_sweep]) | (refine Fr.tr ?_ (Fr.mono (fr_Fm_slides (by with_reducible assumption)) mono_Fm_sweep_0); try dsimp only) | (refine Fr.tr ?_ (frl_Fm_sweep_b16 (by with_reducible assumption)); try dsimp only) | (refine Fr.tr ?_ (frl_Fm_sweep_b4 (by with_reducible assumption)); try dsimp only) | (refine Fr.tr ?_ (frl_Fm_sweep_b75 (by with_reducible assumption)); try dsimp only))
theorem mono_Fm_sweeps_0  : ∀ c j, fp_Fm_sweep c j → fp_Fm_sweeps c j := fun c j => (fun h => h.elim (fun e => Or.inl e) (fun e => Or.inr (e)))
theorem fr_Fm_sweeps_b2 {n : Nat} {v1 : Int32} {M : Mm} {oo : (Int32 × Mm) ⊕ (Int32 × Mm)} (h : Fm_sweeps_b2 n v1 M = some oo) : Fr (fp_Fm_sweeps) M (elS oo (fun s1 => s1.2) (fun x1 => x1.2)) := by
  unfold Fm_sweeps_b2 at h
  obtain ⟨z1, _, h⟩ := bnd_s h
  by_cases g0 : z1.1 ≤ (0 : Int32)
  · have h := (if_pos g0).symm.trans h
    obtain rfl := Option.some.inj h
    try dsimp only [elS]
    repeat' (with_reducible first | exact Fr.rf | refine Fr.I ?_ (by simp [fp_Fm_sweeps]) | refine Fr.L ?_ (by simp [fp_Fm_sweeps]) | refine Fr.cI ?_ (by intro j; simp [fp_Fm_sweeps]) | refine Fr.cL ?_ (by intro j; simp [fp_Fm_sweeps]) | (refine Fr.tr ?_ (Fr.mono (fr_Fm_sweep (by with_reducible assumption)) mono_Fm_sweeps_0); try dsimp only))
  · have h := (if_neg g0).symm.trans h
    obtain rfl := Option.some.inj h
    try dsimp only [elS]
    repeat' (with_reducible first | exact Fr.rf | refine Fr.I ?_ (by simp [fp_Fm_sweeps]) | refine Fr.L ?_ (by simp [fp_Fm_sweeps]) | refine Fr.cI ?_ (by intro j; simp [fp_Fm_sweeps]) | refine Fr.cL ?_ (by intro j; simp [fp_Fm_sweeps]) | (refine Fr.tr ?_ (Fr.mono (fr_Fm_sweep (by with_reducible assumption)) mono_Fm_sweeps_0); try dsimp only))
theorem frl_Fm_sweeps_b2 {n : Nat}  {n1 : Nat} {s0 : Int32 × Mm} {y1 : Int32 × Mm} (h : loop (fun s1 : Int32 × Mm => Fm_sweeps_b2 n s1.1 s1.2) n1 s0 = some y1) : Fr (fp_Fm_sweeps) s0.2 y1.2 :=
  loop_inv (P := fun s2 : Int32 × Mm => Fr (fp_Fm_sweeps) s0.2 s2.2) (E := fun y1 : Int32 × Mm => Fr (fp_Fm_sweeps) s0.2 y1.2) (fun s2 s3 hP hb => hP.tr (fr_Fm_sweeps_b2 hb)) (fun s2 x2 hP hb => hP.tr (fr_Fm_sweeps_b2 hb)) n1 s0 y1 h Fr.rf
theorem fr_Fm_sweeps {n : Nat} {M : Mm} {oo : Int32 × Mm} (h : Fm_sweeps n M = some oo) : Fr (fp_Fm_sweeps) M oo.2 := by
  unfold Fm_sweeps at h
  obtain ⟨y4, _, h⟩ := bnd_s h
  obtain rfl := Option.some.inj h
  try dsimp only [elS]
  repeat' (with_reducible first | exact Fr.rf | refine Fr.I ?_ (by simp [fp_Fm_sweeps]) | refine Fr.L ?_ (by simp [fp_Fm_sweeps]) | refine Fr.cI ?_ (by intro j; simp [fp_Fm_sweeps]) | refine Fr.cL ?_ (by intro j; simp [fp_Fm_sweeps]) | (refine Fr.tr ?_ (Fr.mono (fr_Fm_sweep (by with_reducible assumption)) mono_Fm_sweeps_0); try dsimp only) | (refine Fr.tr ?_ (frl_Fm_sweeps_b2 (by with_reducible assumption)); try dsimp only))
theorem mono_Fm_jump_0  : ∀ c j, fp_Fm_sets c j → fp_Fm_jump c j := fun c j => (fun e => e)
theorem fr_Fm_jump_j37 {M : Mm} {oo : Int32 × Mm} (h : Fm_jump_j37 M = some oo) : Fr (fp_Fm_jump) M oo.2 := by
  unfold Fm_jump_j37 at h
  obtain rfl := Option.some.inj h
  try dsimp only [elS]
  repeat' (with_reducible first | exact Fr.rf | refine Fr.I ?_ (by simp [fp_Fm_jump]) | refine Fr.L ?_ (by simp [fp_Fm_jump]) | refine Fr.cI ?_ (by intro j; simp [fp_Fm_jump]) | refine Fr.cL ?_ (by intro j; simp [fp_Fm_jump]) | (refine Fr.tr ?_ (Fr.mono (fr_Fm_sets (by with_reducible assumption)) mono_Fm_jump_0); try dsimp only))
theorem fr_Fm_jump {n : Nat} {v1 : Int32} {v2 : Int32} {M : Mm} {oo : Int32 × Mm} (h : Fm_jump n v1 v2 M = some oo) : Fr (fp_Fm_jump) M oo.2 := by
  unfold Fm_jump at h
  obtain ⟨z1, _, h⟩ := bnd_s h
  by_cases g0 : z1 = true
  · have h := (if_pos g0).symm.trans h
    obtain ⟨z4, _, h⟩ := bnd_s h
    by_cases g0 : z4 = true
    · have h := (if_pos g0).symm.trans h
      by_cases g0 : v2 < (0 : Int32)
      · have h := (if_pos g0).symm.trans h
        refine Fr.tr ?_ (fr_Fm_jump_j37 h)
        try dsimp only [elS]
        repeat' (with_reducible first | exact Fr.rf | refine Fr.I ?_ (by simp [fp_Fm_jump]) | refine Fr.L ?_ (by simp [fp_Fm_jump]) | refine Fr.cI ?_ (by intro j; simp [fp_Fm_jump]) | refine Fr.cL ?_ (by intro j; simp [fp_Fm_jump]) | (refine Fr.tr ?_ (Fr.mono (fr_Fm_sets (by with_reducible assumption)) mono_Fm_jump_0); try dsimp only))
      · have h := (if_neg g0).symm.trans h
        obtain ⟨_, h⟩ := grd_s h
        obtain ⟨z9, _, h⟩ := bnd_s h
        by_cases g0 : v2 ≤ ((M.1 95 (tn (1 : Int32))) - z9)
        · have h := (if_pos g0).symm.trans h
          obtain ⟨z12, _, h⟩ := bnd_s h
          by_cases g0 : z12 = true
          · have h := (if_pos g0).symm.trans h
            obtain ⟨z15, _, h⟩ := bnd_s h
            obtain ⟨z17, _, h⟩ := bnd_s h
            obtain rfl := Option.some.inj h
            try dsimp only [elS]
            repeat' (with_reducible first | exact Fr.rf | refine Fr.I ?_ (by simp [fp_Fm_jump]) | refine Fr.L ?_ (by simp [fp_Fm_jump]) | refine Fr.cI ?_ (by intro j; simp [fp_Fm_jump]) | refine Fr.cL ?_ (by intro j; simp [fp_Fm_jump]) | (refine Fr.tr ?_ (Fr.mono (fr_Fm_sets (by with_reducible assumption)) mono_Fm_jump_0); try dsimp only))
          · have h := (if_neg g0).symm.trans h
            obtain rfl := Option.some.inj h
            try dsimp only [elS]
            repeat' (with_reducible first | exact Fr.rf | refine Fr.I ?_ (by simp [fp_Fm_jump]) | refine Fr.L ?_ (by simp [fp_Fm_jump]) | refine Fr.cI ?_ (by intro j; simp [fp_Fm_jump]) | refine Fr.cL ?_ (by intro j; simp [fp_Fm_jump]) | (refine Fr.tr ?_ (Fr.mono (fr_Fm_sets (by with_reducible assumption)) mono_Fm_jump_0); try dsimp only))
        · have h := (if_neg g0).symm.trans h
          refine Fr.tr ?_ (fr_Fm_jump_j37 h)
          try dsimp only [elS]
          repeat' (with_reducible first | exact Fr.rf | refine Fr.I ?_ (by simp [fp_Fm_jump]) | refine Fr.L ?_ (by simp [fp_Fm_jump]) | refine Fr.cI ?_ (by intro j; simp [fp_Fm_jump]) | refine Fr.cL ?_ (by intro j; simp [fp_Fm_jump]) | (refine Fr.tr ?_ (Fr.mono (fr_Fm_sets (by with_reducible assumption)) mono_Fm_jump_0); try dsimp only))
    · have h := (if_neg g0).symm.trans h
      refine Fr.tr ?_ (fr_Fm_jump_j37 h)
      try dsimp only [elS]
      repeat' (with_reducible first | exact Fr.rf | refine Fr.I ?_ (by simp [fp_Fm_jump]) | refine Fr.L ?_ (by simp [fp_Fm_jump]) | refine Fr.cI ?_ (by intro j; simp [fp_Fm_jump]) | refine Fr.cL ?_ (by intro j; simp [fp_Fm_jump]) | (refine Fr.tr ?_ (Fr.mono (fr_Fm_sets (by with_reducible assumption)) mono_Fm_jump_0); try dsimp only))
  · have h := (if_neg g0).symm.trans h
    refine Fr.tr ?_ (fr_Fm_jump_j37 h)
    try dsimp only [elS]
    repeat' (with_reducible first | exact Fr.rf | refine Fr.I ?_ (by simp [fp_Fm_jump]) | refine Fr.L ?_ (by simp [fp_Fm_jump]) | refine Fr.cI ?_ (by intro j; simp [fp_Fm_jump]) | refine Fr.cL ?_ (by intro j; simp [fp_Fm_jump]) | (refine Fr.tr ?_ (Fr.mono (fr_Fm_sets (by with_reducible assumption)) mono_Fm_jump_0); try dsimp only))
theorem mono_Fm_cuts_0  : ∀ c j, fp_Fm_sets c j → fp_Fm_cuts c j := fun c j => (fun e => e)
theorem fr_Fm_cuts_j71 {v2 : Int32} {v3 : Int32} {M : Mm} {oo : (Int32 × Int32 × Mm) ⊕ (Int32 × Mm)} (h : Fm_cuts_j71 v2 v3 M = some oo) : Fr (fp_Fm_cuts) M (elS oo (fun s1 => s1.2.2) (fun x1 => x1.2)) := by
  unfold Fm_cuts_j71 at h
  obtain rfl := Option.some.inj h
  try dsimp only [elS]
  repeat' (with_reducible first | exact Fr.rf | refine Fr.I ?_ (by simp [fp_Fm_cuts]) | refine Fr.L ?_ (by simp [fp_Fm_cuts]) | refine Fr.cI ?_ (by intro j; simp [fp_Fm_cuts]) | refine Fr.cL ?_ (by intro j; simp [fp_Fm_cuts]) | (refine Fr.tr ?_ (Fr.mono (fr_Fm_sets (by with_reducible assumption)) mono_Fm_cuts_0); try dsimp only))
theorem fr_Fm_cuts_b24 {c1 : Int32} {v2 : Int32} {v3 : Int32} {M : Mm} {oo : (Int32 × Int32 × Mm) ⊕ (Int32 × Mm)} (h : Fm_cuts_b24 c1 v2 v3 M = some oo) : Fr (fp_Fm_cuts) M (elS oo (fun s1 => s1.2.2) (fun x1 => x1.2)) := by
  unfold Fm_cuts_b24 at h
  obtain ⟨_, h⟩ := grd_s h
  by_cases g0 : (M.1 95 (tn (7 : Int32))) ≤ v3
  · have h := (if_pos g0).symm.trans h
    obtain rfl := Option.some.inj h
    try dsimp only [elS]
    repeat' (with_reducible first | exact Fr.rf | refine Fr.I ?_ (by simp [fp_Fm_cuts]) | refine Fr.L ?_ (by simp [fp_Fm_cuts]) | refine Fr.cI ?_ (by intro j; simp [fp_Fm_cuts]) | refine Fr.cL ?_ (by intro j; simp [fp_Fm_cuts]) | (refine Fr.tr ?_ (Fr.mono (fr_Fm_sets (by with_reducible assumption)) mono_Fm_cuts_0); try dsimp only))
  · have h := (if_neg g0).symm.trans h
    obtain ⟨z5, _, h⟩ := bnd_s h
    by_cases g0 : z5 = true
    · have h := (if_pos g0).symm.trans h
      obtain ⟨z8, _, h⟩ := bnd_s h
      obtain ⟨z10, _, h⟩ := bnd_s h
      by_cases g0 : z10 = true
      · have h := (if_pos g0).symm.trans h
        obtain ⟨z13, _, h⟩ := bnd_s h
        refine Fr.tr ?_ (fr_Fm_cuts_j71 h)
        try dsimp only [elS]
        repeat' (with_reducible first | exact Fr.rf | refine Fr.I ?_ (by simp [fp_Fm_cuts]) | refine Fr.L ?_ (by simp [fp_Fm_cuts]) | refine Fr.cI ?_ (by intro j; simp [fp_Fm_cuts]) | refine Fr.cL ?_ (by intro j; simp [fp_Fm_cuts]) | (refine Fr.tr ?_ (Fr.mono (fr_Fm_sets (by with_reducible assumption)) mono_Fm_cuts_0); try dsimp only))
      · have h := (if_neg g0).symm.trans h
        refine Fr.tr ?_ (fr_Fm_cuts_j71 h)
        try dsimp only [elS]
        repeat' (with_reducible first | exact Fr.rf | refine Fr.I ?_ (by simp [fp_Fm_cuts]) | refine Fr.L ?_ (by simp [fp_Fm_cuts]) | refine Fr.cI ?_ (by intro j; simp [fp_Fm_cuts]) | refine Fr.cL ?_ (by intro j; simp [fp_Fm_cuts]) | (refine Fr.tr ?_ (Fr.mono (fr_Fm_sets (by with_reducible assumption)) mono_Fm_cuts_0); try dsimp only))
    · have h := (if_neg g0).symm.trans h
      refine Fr.tr ?_ (fr_Fm_cuts_j71 h)
      try dsimp only [elS]
      repeat' (with_reducible first | exact Fr.rf | refine Fr.I ?_ (by simp [fp_Fm_cuts]) | refine Fr.L ?_ (by simp [fp_Fm_cuts]) | refine Fr.cI ?_ (by intro j; simp [fp_Fm_cuts]) | refine Fr.cL ?_ (by intro j; simp [fp_Fm_cuts]) | (refine Fr.tr ?_ (Fr.mono (fr_Fm_sets (by with_reducible assumption)) mono_Fm_cuts_0); try dsimp only))
theorem frl_Fm_cuts_b24 {c1 : Int32}  {n1 : Nat} {s0 : Int32 × Int32 × Mm} {y1 : Int32 × Mm} (h : loop (fun s1 : Int32 × Int32 × Mm => Fm_cuts_b24 c1 s1.1 s1.2.1 s1.2.2) n1 s0 = some y1) : Fr (fp_Fm_cuts) s0.2.2 y1.2 :=
  loop_inv (P := fun s2 : Int32 × Int32 × Mm => Fr (fp_Fm_cuts) s0.2.2 s2.2.2) (E := fun y1 : Int32 × Mm => Fr (fp_Fm_cuts) s0.2.2 y1.2) (fun s2 s3 hP hb => hP.tr (fr_Fm_cuts_b24 hb)) (fun s2 x2 hP hb => hP.tr (fr_Fm_cuts_b24 hb)) n1 s0 y1 h Fr.rf
theorem fr_Fm_cuts {n : Nat} {v1 : Int32} {M : Mm} {oo : Int32 × Mm} (h : Fm_cuts n v1 M = some oo) : Fr (fp_Fm_cuts) M oo.2 := by
  unfold Fm_cuts at h
  obtain ⟨_, h⟩ := grd_s h
  obtain ⟨_, h⟩ := grd_s h
  obtain ⟨y15, _, h⟩ := bnd_s h
  obtain rfl := Option.some.inj h
  try dsimp only [elS]
  repeat' (with_reducible first | exact Fr.rf | refine Fr.I ?_ (by simp [fp_Fm_cuts]) | refine Fr.L ?_ (by simp [fp_Fm_cuts]) | refine Fr.cI ?_ (by intro j; simp [fp_Fm_cuts]) | refine Fr.cL ?_ (by intro j; simp [fp_Fm_cuts]) | (refine Fr.tr ?_ (Fr.mono (fr_Fm_sets (by with_reducible assumption)) mono_Fm_cuts_0); try dsimp only) | (refine Fr.tr ?_ (frl_Fm_cuts_b24 (by with_reducible assumption)); try dsimp only))
theorem mono_Fm_cut_0  : ∀ c j, fp_Fm_cuts c j → fp_Fm_cut c j := fun c j => (fun e => e)
theorem fr_Fm_cut {n : Nat} {v1 : Int32} {M : Mm} {oo : Int32 × Mm} (h : Fm_cut n v1 M = some oo) : Fr (fp_Fm_cut) M oo.2 := by
  unfold Fm_cut at h
  obtain ⟨z1, _, h⟩ := bnd_s h
  by_cases g0 : z1 = true
  · have h := (if_pos g0).symm.trans h
    obtain ⟨z4, _, h⟩ := bnd_s h
    by_cases g0 : z4 = true
    · have h := (if_pos g0).symm.trans h
      obtain ⟨z7, _, h⟩ := bnd_s h
      obtain rfl := Option.some.inj h
      try dsimp only [elS]
      repeat' (with_reducible first | exact Fr.rf | refine Fr.I ?_ (by simp [fp_Fm_cut]) | refine Fr.L ?_ (by simp [fp_Fm_cut]) | refine Fr.cI ?_ (by intro j; simp [fp_Fm_cut]) | refine Fr.cL ?_ (by intro j; simp [fp_Fm_cut]) | (refine Fr.tr ?_ (Fr.mono (fr_Fm_cuts (by with_reducible assumption)) mono_Fm_cut_0); try dsimp only))
    · have h := (if_neg g0).symm.trans h
      obtain rfl := Option.some.inj h
      try dsimp only [elS]
      repeat' (with_reducible first | exact Fr.rf | refine Fr.I ?_ (by simp [fp_Fm_cut]) | refine Fr.L ?_ (by simp [fp_Fm_cut]) | refine Fr.cI ?_ (by intro j; simp [fp_Fm_cut]) | refine Fr.cL ?_ (by intro j; simp [fp_Fm_cut]) | (refine Fr.tr ?_ (Fr.mono (fr_Fm_cuts (by with_reducible assumption)) mono_Fm_cut_0); try dsimp only))
  · have h := (if_neg g0).symm.trans h
    obtain rfl := Option.some.inj h
    try dsimp only [elS]
    repeat' (with_reducible first | exact Fr.rf | refine Fr.I ?_ (by simp [fp_Fm_cut]) | refine Fr.L ?_ (by simp [fp_Fm_cut]) | refine Fr.cI ?_ (by intro j; simp [fp_Fm_cut]) | refine Fr.cL ?_ (by intro j; simp [fp_Fm_cut]) | (refine Fr.tr ?_ (Fr.mono (fr_Fm_cuts (by with_reducible assumption)) mono_Fm_cut_0); try dsimp only))
theorem fr_Fm_mend {v1 : Int32} {M : Mm} {oo : Bool × Mm} (h : Fm_mend v1 M = some oo) : Fr (fp_Fm_mend) M oo.2 := by
  unfold Fm_mend at h
  obtain ⟨z1, _, h⟩ := bnd_s h
  by_cases g0 : z1 = true
  · have h := (if_pos g0).symm.trans h
    obtain ⟨z4, _, h⟩ := bnd_s h
    by_cases g0 : z4 = true
    · have h := (if_pos g0).symm.trans h
      obtain rfl := Option.some.inj h
      try dsimp only [elS]
      repeat' (with_reducible first | exact Fr.rf | refine Fr.I ?_ (by simp [fp_Fm_mend]) | refine Fr.L ?_ (by simp [fp_Fm_mend]) | refine Fr.cI ?_ (by intro j; simp [fp_Fm_mend]) | refine Fr.cL ?_ (by intro j; simp [fp_Fm_mend]))
    · have h := (if_neg g0).symm.trans h
      obtain ⟨_, h⟩ := grd_s h
      obtain ⟨_, h⟩ := grd_s h
      obtain rfl := Option.some.inj h
      try dsimp only [elS]
      repeat' (with_reducible first | exact Fr.rf | refine Fr.I ?_ (by simp [fp_Fm_mend]) | refine Fr.L ?_ (by simp [fp_Fm_mend]) | refine Fr.cI ?_ (by intro j; simp [fp_Fm_mend]) | refine Fr.cL ?_ (by intro j; simp [fp_Fm_mend]))
  · have h := (if_neg g0).symm.trans h
    obtain rfl := Option.some.inj h
    try dsimp only [elS]
    repeat' (with_reducible first | exact Fr.rf | refine Fr.I ?_ (by simp [fp_Fm_mend]) | refine Fr.L ?_ (by simp [fp_Fm_mend]) | refine Fr.cI ?_ (by intro j; simp [fp_Fm_mend]) | refine Fr.cL ?_ (by intro j; simp [fp_Fm_mend]))
theorem mono_Fm_relights_0  : ∀ c j, fp_Fm_findsFor c j → fp_Fm_relights c j := fun c j => (fun h => h.elim (fun e => Or.inl e) (fun h => h.elim (fun e => Or.inr (Or.inl e)) (fun h => h.elim (fun e => Or.inr (Or.inr (Or.inl e))) (fun h => h.elim (fun e => Or.inr (Or.inr (Or.inr (Or.inl e)))) (fun h => h.elim (fun e => Or.inr (Or.inr (Or.inr (Or.inr (Or.inl e))))) (fun h => h.elim (fun e => Or.inr (Or.inr (Or.inr (Or.inr (Or.inr (Or.inl e)))))) (fun h => h.elim (fun e => Or.inr (Or.inr (Or.inr (Or.inr (Or.inr (Or.inr (Or.inl e))))))) (fun h => h.elim (fun e => Or.inr (Or.inr (Or.inr (Or.inr (Or.inr (Or.inr (Or.inr (Or.inl e)))))))) (fun h => h.elim (fun e => Or.inr (Or.inr (Or.inr (Or.inr (Or.inr (Or.inr (Or.inr (Or.inr (Or.inr (Or.inl e)))))))))) (fun e => Or.inr (Or.inr (Or.inr (Or.inr (Or.inr (Or.inr (Or.inr (Or.inr (Or.inr (Or.inr (e))))))))))))))))))))
theorem mono_Fm_relights_1  : ∀ c j, fp_Fm_lights c j → fp_Fm_relights c j := fun c j => (fun e => Or.inr (Or.inr (Or.inr (Or.inr (Or.inr (Or.inr (Or.inr (Or.inr (Or.inl e)))))))))
theorem fr_Fm_relights_j63 {v2 : Int32} {v3 : Int32} {M : Mm} {oo : (Int32 × Int32 × Mm) ⊕ (Int32 × Mm)} (h : Fm_relights_j63 v2 v3 M = some oo) : Fr (fp_Fm_relights) M (elS oo (fun s1 => s1.2.2) (fun x1 => x1.2)) := by
  unfold Fm_relights_j63 at h
  obtain rfl := Option.some.inj h
  try dsimp only [elS]
  repeat' (with_reducible first | exact Fr.rf | refine Fr.I ?_ (by simp [fp_Fm_relights]) | refine Fr.L ?_ (by simp [fp_Fm_relights]) | refine Fr.cI ?_ (by intro j; simp [fp_Fm_relights]) | refine Fr.cL ?_ (by intro j; simp [fp_Fm_relights]) | (refine Fr.tr ?_ (Fr.mono (fr_Fm_findsFor (by with_reducible assumption)) mono_Fm_relights_0); try dsimp only) | (refine Fr.tr ?_ (Fr.mono (fr_Fm_lights (by with_reducible assumption)) mono_Fm_relights_1); try dsimp only))
theorem fr_Fm_relights_b4 {n : Nat} {c1 : Int32} {v2 : Int32} {v3 : Int32} {M : Mm} {oo : (Int32 × Int32 × Mm) ⊕ (Int32 × Mm)} (h : Fm_relights_b4 n c1 v2 v3 M = some oo) : Fr (fp_Fm_relights) M (elS oo (fun s1 => s1.2.2) (fun x1 => x1.2)) := by
  unfold Fm_relights_b4 at h
  obtain ⟨_, h⟩ := grd_s h
  by_cases g0 : (M.1 95 (tn (7 : Int32))) ≤ v3
  · have h := (if_pos g0).symm.trans h
    obtain rfl := Option.some.inj h
    try dsimp only [elS]
    repeat' (with_reducible first | exact Fr.rf | refine Fr.I ?_ (by simp [fp_Fm_relights]) | refine Fr.L ?_ (by simp [fp_Fm_relights]) | refine Fr.cI ?_ (by intro j; simp [fp_Fm_relights]) | refine Fr.cL ?_ (by intro j; simp [fp_Fm_relights]) | (refine Fr.tr ?_ (Fr.mono (fr_Fm_findsFor (by with_reducible assumption)) mono_Fm_relights_0); try dsimp only) | (refine Fr.tr ?_ (Fr.mono (fr_Fm_lights (by with_reducible assumption)) mono_Fm_relights_1); try dsimp only))
  · have h := (if_neg g0).symm.trans h
    obtain ⟨z3, _, h⟩ := bnd_s h
    by_cases g0 : z3 = (2 : Int32)
    · have h := (if_pos g0).symm.trans h
      obtain ⟨z6, _, h⟩ := bnd_s h
      obtain ⟨z8, _, h⟩ := bnd_s h
      obtain ⟨z10, _, h⟩ := bnd_s h
      obtain ⟨z12, _, h⟩ := bnd_s h
      by_cases g0 : z12.1 = true
      · have h := (if_pos g0).symm.trans h
        obtain ⟨z15, _, h⟩ := bnd_s h
        refine Fr.tr ?_ (fr_Fm_relights_j63 h)
        try dsimp only [elS]
        repeat' (with_reducible first | exact Fr.rf | refine Fr.I ?_ (by simp [fp_Fm_relights]) | refine Fr.L ?_ (by simp [fp_Fm_relights]) | refine Fr.cI ?_ (by intro j; simp [fp_Fm_relights]) | refine Fr.cL ?_ (by intro j; simp [fp_Fm_relights]) | (refine Fr.tr ?_ (Fr.mono (fr_Fm_findsFor (by with_reducible assumption)) mono_Fm_relights_0); try dsimp only) | (refine Fr.tr ?_ (Fr.mono (fr_Fm_lights (by with_reducible assumption)) mono_Fm_relights_1); try dsimp only))
      · have h := (if_neg g0).symm.trans h
        refine Fr.tr ?_ (fr_Fm_relights_j63 h)
        try dsimp only [elS]
        repeat' (with_reducible first | exact Fr.rf | refine Fr.I ?_ (by simp [fp_Fm_relights]) | refine Fr.L ?_ (by simp [fp_Fm_relights]) | refine Fr.cI ?_ (by intro j; simp [fp_Fm_relights]) | refine Fr.cL ?_ (by intro j; simp [fp_Fm_relights]) | (refine Fr.tr ?_ (Fr.mono (fr_Fm_findsFor (by with_reducible assumption)) mono_Fm_relights_0); try dsimp only) | (refine Fr.tr ?_ (Fr.mono (fr_Fm_lights (by with_reducible assumption)) mono_Fm_relights_1); try dsimp only))
    · have h := (if_neg g0).symm.trans h
      refine Fr.tr ?_ (fr_Fm_relights_j63 h)
      try dsimp only [elS]
      repeat' (with_reducible first | exact Fr.rf | refine Fr.I ?_ (by simp [fp_Fm_relights]) | refine Fr.L ?_ (by simp [fp_Fm_relights]) | refine Fr.cI ?_ (by intro j; simp [fp_Fm_relights]) | refine Fr.cL ?_ (by intro j; simp [fp_Fm_relights]) | (refine Fr.tr ?_ (Fr.mono (fr_Fm_findsFor (by with_reducible assumption)) mono_Fm_relights_0); try dsimp only) | (refine Fr.tr ?_ (Fr.mono (fr_Fm_lights (by with_reducible assumption)) mono_Fm_relights_1); try dsimp only))
theorem frl_Fm_relights_b4 {n : Nat} {c1 : Int32}  {n1 : Nat} {s0 : Int32 × Int32 × Mm} {y1 : Int32 × Mm} (h : loop (fun s1 : Int32 × Int32 × Mm => Fm_relights_b4 n c1 s1.1 s1.2.1 s1.2.2) n1 s0 = some y1) : Fr (fp_Fm_relights) s0.2.2 y1.2 :=
  loop_inv (P := fun s2 : Int32 × Int32 × Mm => Fr (fp_Fm_relights) s0.2.2 s2.2.2) (E := fun y1 : Int32 × Mm => Fr (fp_Fm_relights) s0.2.2 y1.2) (fun s2 s3 hP hb => hP.tr (fr_Fm_relights_b4 hb)) (fun s2 x2 hP hb => hP.tr (fr_Fm_relights_b4 hb)) n1 s0 y1 h Fr.rf
theorem fr_Fm_relights {n : Nat} {v1 : Int32} {M : Mm} {oo : Int32 × Mm} (h : Fm_relights n v1 M = some oo) : Fr (fp_Fm_relights) M oo.2 := by
  unfold Fm_relights at h
  obtain ⟨y17, _, h⟩ := bnd_s h
  obtain rfl := Option.some.inj h
  try dsimp only [elS]
  repeat' (with_reducible first | exact Fr.rf | refine Fr.I ?_ (by simp [fp_Fm_relights]) | refine Fr.L ?_ (by simp [fp_Fm_relights]) | refine Fr.cI ?_ (by intro j; simp [fp_Fm_relights]) | refine Fr.cL ?_ (by intro j; simp [fp_Fm_relights]) | (refine Fr.tr ?_ (Fr.mono (fr_Fm_findsFor (by with_reducible assumption)) mono_Fm_relights_0); try dsimp only) | (refine Fr.tr ?_ (Fr.mono (fr_Fm_lights (by with_reducible assumption)) mono_Fm_relights_1); try dsimp only) | (refine Fr.tr ?_ (frl_Fm_relights_b4 (by with_reducible assumption)); try dsimp only))
theorem mono_Fm_relight_0  : ∀ c j, fp_Fm_relights c j → fp_Fm_relight c j := fun c j => (fun h => h.elim (fun e => Or.inl e) (fun h => h.elim (fun e => Or.inr (Or.inl e)) (fun h => h.elim (fun e => Or.inr (Or.inr (Or.inl e))) (fun h => h.elim (fun e => Or.inr (Or.inr (Or.inr (Or.inl e)))) (fun h => h.elim (fun e => Or.inr (Or.inr (Or.inr (Or.inr (Or.inl e))))) (fun h => h.elim (fun e => Or.inr (Or.inr (Or.inr (Or.inr (Or.inr (Or.inl e)))))) (fun h => h.elim (fun e => Or.inr (Or.inr (Or.inr (Or.inr (Or.inr (Or.inr (Or.inl e))))))) (fun h => h.elim (fun e => Or.inr (Or.inr (Or.inr (Or.inr (Or.inr (Or.inr (Or.inr (Or.inl e)))))))) (fun h => h.elim (fun e => Or.inr (Or.inr (Or.inr (Or.inr (Or.inr (Or.inr (Or.inr (Or.inr (Or.inl e))))))))) (fun h => h.elim (fun e => Or.inr (Or.inr (Or.inr (Or.inr (Or.inr (Or.inr (Or.inr (Or.inr (Or.inr (Or.inl e)))))))))) (fun e => Or.inr (Or.inr (Or.inr (Or.inr (Or.inr (Or.inr (Or.inr (Or.inr (Or.inr (Or.inr (e)))))))))))))))))))))
theorem fr_Fm_relight {n : Nat} {v1 : Int32} {M : Mm} {oo : Int32 × Mm} (h : Fm_relight n v1 M = some oo) : Fr (fp_Fm_relight) M oo.2 := by
  unfold Fm_relight at h
  obtain ⟨z1, _, h⟩ := bnd_s h
  by_cases g0 : z1 = true
  · have h := (if_pos g0).symm.trans h
    obtain ⟨z4, _, h⟩ := bnd_s h
    obtain rfl := Option.some.inj h
    try dsimp only [elS]
    repeat' (with_reducible first | exact Fr.rf | refine Fr.I ?_ (by simp [fp_Fm_relight]) | refine Fr.L ?_ (by simp [fp_Fm_relight]) | refine Fr.cI ?_ (by intro j; simp [fp_Fm_relight]) | refine Fr.cL ?_ (by intro j; simp [fp_Fm_relight]) | (refine Fr.tr ?_ (Fr.mono (fr_Fm_relights (by with_reducible assumption)) mono_Fm_relight_0); try dsimp only))
  · have h := (if_neg g0).symm.trans h
    obtain rfl := Option.some.inj h
    try dsimp only [elS]
    repeat' (with_reducible first | exact Fr.rf | refine Fr.I ?_ (by simp [fp_Fm_relight]) | refine Fr.L ?_ (by simp [fp_Fm_relight]) | refine Fr.cI ?_ (by intro j; simp [fp_Fm_relight]) | refine Fr.cL ?_ (by intro j; simp [fp_Fm_relight]) | (refine Fr.tr ?_ (Fr.mono (fr_Fm_relights (by with_reducible assumption)) mono_Fm_relight_0); try dsimp only))
theorem mono_Fm_aims_0  : ∀ c j, fp_Fm_copies c j → fp_Fm_aims c j := fun c j => (fun e => Or.inr (Or.inr (Or.inr (Or.inr (Or.inr (Or.inr (Or.inr (Or.inr (Or.inr (Or.inr (Or.inr (Or.inr (Or.inr (Or.inr (Or.inr (Or.inr (Or.inr (Or.inr (Or.inl e)))))))))))))))))))
theorem mono_Fm_aims_1  : ∀ c j, fp_Fm_findsFor c j → fp_Fm_aims c j := fun c j => (fun h => h.elim (fun e => Or.inl e) (fun h => h.elim (fun e => Or.inr (Or.inl e)) (fun h => h.elim (fun e => Or.inr (Or.inr (Or.inl e))) (fun h => h.elim (fun e => Or.inr (Or.inr (Or.inr (Or.inl e)))) (fun h => h.elim (fun e => Or.inr (Or.inr (Or.inr (Or.inr (Or.inr (Or.inr (Or.inr (Or.inr (Or.inr (Or.inr (Or.inl e))))))))))) (fun h => h.elim (fun e => Or.inr (Or.inr (Or.inr (Or.inr (Or.inr (Or.inr (Or.inr (Or.inr (Or.inr (Or.inr (Or.inr (Or.inl e)))))))))))) (fun h => h.elim (fun e => Or.inr (Or.inr (Or.inr (Or.inr (Or.inr (Or.inr (Or.inr (Or.inr (Or.inr (Or.inr (Or.inr (Or.inr (Or.inl e))))))))))))) (fun h => h.elim (fun e => Or.inr (Or.inr (Or.inr (Or.inr (Or.inr (Or.inr (Or.inr (Or.inr (Or.inr (Or.inr (Or.inr (Or.inr (Or.inr (Or.inl e)))))))))))))) (fun h => h.elim (fun e => Or.inr (Or.inr (Or.inr (Or.inr (Or.inr (Or.inr (Or.inr (Or.inr (Or.inr (Or.inr (Or.inr (Or.inr (Or.inr (Or.inr (Or.inr (Or.inr (Or.inr (Or.inr (Or.inr (Or.inl e)))))))))))))))))))) (fun e => Or.inr (Or.inr (Or.inr (Or.inr (Or.inr (Or.inr (Or.inr (Or.inr (Or.inr (Or.inr (Or.inr (Or.inr (Or.inr (Or.inr (Or.inr (Or.inr (Or.inr (Or.inr (Or.inr (Or.inr (e))))))))))))))))))))))))))))))
theorem mono_Fm_aims_2  : ∀ c j, fp_Fm_lights c j → fp_Fm_aims c j := fun c j => (fun e => Or.inr (Or.inr (Or.inr (Or.inr (Or.inr (Or.inr (Or.inr (Or.inr (Or.inr (Or.inr (Or.inr (Or.inr (Or.inr (Or.inr (Or.inr (Or.inr (Or.inr (Or.inr (Or.inl e)))))))))))))))))))
theorem mono_Fm_aims_3  : ∀ c j, fp_Fm_sets c j → fp_Fm_aims c j := fun c j => (fun e => Or.inr (Or.inr (Or.inr (Or.inr (Or.inr (Or.inr (Or.inr (Or.inr (Or.inr (Or.inr (Or.inr (Or.inr (Or.inr (Or.inr (Or.inr (Or.inr (Or.inr (Or.inr (Or.inl e)))))))))))))))))))
theorem fr_Fm_aims_j62 {v3 : Int32} {M : Mm} {oo : (Int32 × Mm) ⊕ (Mm)} (h : Fm_aims_j62 v3 M = some oo) : Fr (fp_Fm_aims) M (elS oo (fun s1 => s1.2) (fun x1 => x1)) := by
  unfold Fm_aims_j62 at h
  obtain rfl := Option.some.inj h
  try dsimp only [elS]
  repeat' (with_reducible first | exact Fr.rf | refine Fr.I ?_ (by simp [fp_Fm_aims]) | refine Fr.L ?_ (by simp [fp_Fm_aims]) | refine Fr.cI ?_ (by intro j; simp [fp_Fm_aims]) | refine Fr.cL ?_ (by intro j; simp [fp_Fm_aims]) | (refine Fr.tr ?_ (Fr.mono (fr_Fm_copies (by with_reducible assumption)) mono_Fm_aims_0); try dsimp only) | (refine Fr.tr ?_ (Fr.mono (fr_Fm_findsFor (by with_reducible assumption)) mono_Fm_aims_1); try dsimp only) | (refine Fr.tr ?_ (Fr.mono (fr_Fm_lights (by with_reducible assumption)) mono_Fm_aims_2); try dsimp only) | (refine Fr.tr ?_ (Fr.mono (fr_Fm_sets (by with_reducible assumption)) mono_Fm_aims_3); try dsimp only))
theorem fr_Fm_aims_b15 {v3 : Int32} {M : Mm} {oo : (Int32 × Mm) ⊕ (Mm)} (h : Fm_aims_b15 v3 M = some oo) : Fr (fp_Fm_aims) M (elS oo (fun s1 => s1.2) (fun x1 => x1)) := by
  unfold Fm_aims_b15 at h
  obtain ⟨_, h⟩ := grd_s h
  by_cases g0 : (M.1 95 (tn (7 : Int32))) ≤ v3
  · have h := (if_pos g0).symm.trans h
    obtain rfl := Option.some.inj h
    try dsimp only [elS]
    repeat' (with_reducible first | exact Fr.rf | refine Fr.I ?_ (by simp [fp_Fm_aims]) | refine Fr.L ?_ (by simp [fp_Fm_aims]) | refine Fr.cI ?_ (by intro j; simp [fp_Fm_aims]) | refine Fr.cL ?_ (by intro j; simp [fp_Fm_aims]) | (refine Fr.tr ?_ (Fr.mono (fr_Fm_copies (by with_reducible assumption)) mono_Fm_aims_0); try dsimp only) | (refine Fr.tr ?_ (Fr.mono (fr_Fm_findsFor (by with_reducible assumption)) mono_Fm_aims_1); try dsimp only) | (refine Fr.tr ?_ (Fr.mono (fr_Fm_lights (by with_reducible assumption)) mono_Fm_aims_2); try dsimp only) | (refine Fr.tr ?_ (Fr.mono (fr_Fm_sets (by with_reducible assumption)) mono_Fm_aims_3); try dsimp only))
  · have h := (if_neg g0).symm.trans h
    obtain ⟨_, h⟩ := grd_s h
    obtain ⟨_, h⟩ := grd_s h
    obtain ⟨_, h⟩ := grd_s h
    obtain ⟨z8, _, h⟩ := bnd_s h
    by_cases g0 : z8 = true
    · have h := (if_pos g0).symm.trans h
      obtain ⟨z11, _, h⟩ := bnd_s h
      refine Fr.tr ?_ (fr_Fm_aims_j62 h)
      try dsimp only [elS]
      repeat' (with_reducible first | exact Fr.rf | refine Fr.I ?_ (by simp [fp_Fm_aims]) | refine Fr.L ?_ (by simp [fp_Fm_aims]) | refine Fr.cI ?_ (by intro j; simp [fp_Fm_aims]) | refine Fr.cL ?_ (by intro j; simp [fp_Fm_aims]) | (refine Fr.tr ?_ (Fr.mono (fr_Fm_copies (by with_reducible assumption)) mono_Fm_aims_0); try dsimp only) | (refine Fr.tr ?_ (Fr.mono (fr_Fm_findsFor (by with_reducible assumption)) mono_Fm_aims_1); try dsimp only) | (refine Fr.tr ?_ (Fr.mono (fr_Fm_lights (by with_reducible assumption)) mono_Fm_aims_2); try dsimp only) | (refine Fr.tr ?_ (Fr.mono (fr_Fm_sets (by with_reducible assumption)) mono_Fm_aims_3); try dsimp only))
    · have h := (if_neg g0).symm.trans h
      refine Fr.tr ?_ (fr_Fm_aims_j62 h)
      try dsimp only [elS]
      repeat' (with_reducible first | exact Fr.rf | refine Fr.I ?_ (by simp [fp_Fm_aims]) | refine Fr.L ?_ (by simp [fp_Fm_aims]) | refine Fr.cI ?_ (by intro j; simp [fp_Fm_aims]) | refine Fr.cL ?_ (by intro j; simp [fp_Fm_aims]) | (refine Fr.tr ?_ (Fr.mono (fr_Fm_copies (by with_reducible assumption)) mono_Fm_aims_0); try dsimp only) | (refine Fr.tr ?_ (Fr.mono (fr_Fm_findsFor (by with_reducible assumption)) mono_Fm_aims_1); try dsimp only) | (refine Fr.tr ?_ (Fr.mono (fr_Fm_lights (by with_reducible assumption)) mono_Fm_aims_2); try dsimp only) | (refine Fr.tr ?_ (Fr.mono (fr_Fm_sets (by with_reducible assumption)) mono_Fm_aims_3); try dsimp only))
theorem frl_Fm_aims_b15   {n1 : Nat} {s0 : Int32 × Mm} {y1 : Mm} (h : loop (fun s1 : Int32 × Mm => Fm_aims_b15 s1.1 s1.2) n1 s0 = some y1) : Fr (fp_Fm_aims) s0.2 y1 :=
  loop_inv (P := fun s2 : Int32 × Mm => Fr (fp_Fm_aims) s0.2 s2.2) (E := fun y1 : Mm => Fr (fp_Fm_aims) s0.2 y1) (fun s2 s3 hP hb => hP.tr (fr_Fm_aims_b15 hb)) (fun s2 x2 hP hb => hP.tr (fr_Fm_aims_b15 hb)) n1 s0 y1 h Fr.rf
theorem fr_Fm_aims_j276 {v2 : Int32} {v3 : Int32} {M : Mm} {oo : (Int32 × Int32 × Mm) ⊕ (Int32 × Mm)} (h : Fm_aims_j276 v2 v3 M = some oo) : Fr (fp_Fm_aims) M (elS oo (fun s1 => s1.2.2) (fun x1 => x1.2)) := by
  unfold Fm_aims_j276 at h
  obtain rfl := Option.some.inj h
  try dsimp only [elS]
  repeat' (with_reducible first | exact Fr.rf | refine Fr.I ?_ (by simp [fp_Fm_aims]) | refine Fr.L ?_ (by simp [fp_Fm_aims]) | refine Fr.cI ?_ (by intro j; simp [fp_Fm_aims]) | refine Fr.cL ?_ (by intro j; simp [fp_Fm_aims]) | (refine Fr.tr ?_ (Fr.mono (fr_Fm_copies (by with_reducible assumption)) mono_Fm_aims_0); try dsimp only) | (refine Fr.tr ?_ (Fr.mono (fr_Fm_findsFor (by with_reducible assumption)) mono_Fm_aims_1); try dsimp only) | (refine Fr.tr ?_ (Fr.mono (fr_Fm_lights (by with_reducible assumption)) mono_Fm_aims_2); try dsimp only) | (refine Fr.tr ?_ (Fr.mono (fr_Fm_sets (by with_reducible assumption)) mono_Fm_aims_3); try dsimp only) | (refine Fr.tr ?_ (frl_Fm_aims_b15 (by with_reducible assumption)); try dsimp only))
theorem fr_Fm_aims_j239 {v2 : Int32} {v3 : Int32} {M : Mm} {oo : (Int32 × Int32 × Mm) ⊕ (Int32 × Mm)} (h : Fm_aims_j239 v2 v3 M = some oo) : Fr (fp_Fm_aims) M (elS oo (fun s1 => s1.2.2) (fun x1 => x1.2)) := by
  unfold Fm_aims_j239 at h
  obtain ⟨z39, _, h⟩ := bnd_s h
  obtain ⟨_, h⟩ := grd_s h
  obtain ⟨z42, _, h⟩ := bnd_s h
  obtain ⟨_, h⟩ := grd_s h
  obtain ⟨z45, _, h⟩ := bnd_s h
  obtain ⟨_, h⟩ := grd_s h
  refine Fr.tr ?_ (fr_Fm_aims_j276 h)
  try dsimp only [elS]
  repeat' (with_reducible first | exact Fr.rf | refine Fr.I ?_ (by simp [fp_Fm_aims]) | refine Fr.L ?_ (by simp [fp_Fm_aims]) | refine Fr.cI ?_ (by intro j; simp [fp_Fm_aims]) | refine Fr.cL ?_ (by intro j; simp [fp_Fm_aims]) | (refine Fr.tr ?_ (Fr.mono (fr_Fm_copies (by with_reducible assumption)) mono_Fm_aims_0); try dsimp only) | (refine Fr.tr ?_ (Fr.mono (fr_Fm_findsFor (by with_reducible assumption)) mono_Fm_aims_1); try dsimp only) | (refine Fr.tr ?_ (Fr.mono (fr_Fm_lights (by with_reducible assumption)) mono_Fm_aims_2); try dsimp only) | (refine Fr.tr ?_ (Fr.mono (fr_Fm_sets (by with_reducible assumption)) mono_Fm_aims_3); try dsimp only) | (refine Fr.tr ?_ (frl_Fm_aims_b15 (by with_reducible assumption)); try dsimp only))
theorem fr_Fm_aims_j179 {v2 : Int32} {v3 : Int32} {w0 : Int32} {w1 : Int32} {M : Mm} {oo : (Int32 × Int32 × Mm) ⊕ (Int32 × Mm)} (h : Fm_aims_j179 v2 v3 w0 w1 M = some oo) : Fr (fp_Fm_aims) M (elS oo (fun s1 => s1.2.2) (fun x1 => x1.2)) := by
  unfold Fm_aims_j179 at h
  obtain ⟨_, h⟩ := grd_s h
  obtain ⟨z52, _, h⟩ := bnd_s h
  obtain ⟨_, h⟩ := grd_s h
  by_cases g0 : (z52.1 109 (tn v3)) = (0 : Int32)
  · have h := (if_pos g0).symm.trans h
    refine Fr.tr ?_ (fr_Fm_aims_j239 h)
    try dsimp only [elS]
    repeat' (with_reducible first | exact Fr.rf | refine Fr.I ?_ (by simp [fp_Fm_aims]) | refine Fr.L ?_ (by simp [fp_Fm_aims]) | refine Fr.cI ?_ (by intro j; simp [fp_Fm_aims]) | refine Fr.cL ?_ (by intro j; simp [fp_Fm_aims]) | (refine Fr.tr ?_ (Fr.mono (fr_Fm_copies (by with_reducible assumption)) mono_Fm_aims_0); try dsimp only) | (refine Fr.tr ?_ (Fr.mono (fr_Fm_findsFor (by with_reducible assumption)) mono_Fm_aims_1); try dsimp only) | (refine Fr.tr ?_ (Fr.mono (fr_Fm_lights (by with_reducible assumption)) mono_Fm_aims_2); try dsimp only) | (refine Fr.tr ?_ (Fr.mono (fr_Fm_sets (by with_reducible assumption)) mono_Fm_aims_3); try dsimp only) | (refine Fr.tr ?_ (frl_Fm_aims_b15 (by with_reducible assumption)); try dsimp only))
  · have h := (if_neg g0).symm.trans h
    refine Fr.tr ?_ (fr_Fm_aims_j239 h)
    try dsimp only [elS]
    repeat' (with_reducible first | exact Fr.rf | refine Fr.I ?_ (by simp [fp_Fm_aims]) | refine Fr.L ?_ (by simp [fp_Fm_aims]) | refine Fr.cI ?_ (by intro j; simp [fp_Fm_aims]) | refine Fr.cL ?_ (by intro j; simp [fp_Fm_aims]) | (refine Fr.tr ?_ (Fr.mono (fr_Fm_copies (by with_reducible assumption)) mono_Fm_aims_0); try dsimp only) | (refine Fr.tr ?_ (Fr.mono (fr_Fm_findsFor (by with_reducible assumption)) mono_Fm_aims_1); try dsimp only) | (refine Fr.tr ?_ (Fr.mono (fr_Fm_lights (by with_reducible assumption)) mono_Fm_aims_2); try dsimp only) | (refine Fr.tr ?_ (Fr.mono (fr_Fm_sets (by with_reducible assumption)) mono_Fm_aims_3); try dsimp only) | (refine Fr.tr ?_ (frl_Fm_aims_b15 (by with_reducible assumption)); try dsimp only))
theorem fr_Fm_aims_j174 {v2 : Int32} {v3 : Int32} {w0 : Int32} {M : Mm} {oo : (Int32 × Int32 × Mm) ⊕ (Int32 × Mm)} (h : Fm_aims_j174 v2 v3 w0 M = some oo) : Fr (fp_Fm_aims) M (elS oo (fun s1 => s1.2.2) (fun x1 => x1.2)) := by
  unfold Fm_aims_j174 at h
  refine Fr.tr ?_ (fr_Fm_aims_j179 h)
  try dsimp only [elS]
  repeat' (with_reducible first | exact Fr.rf | refine Fr.I ?_ (by simp [fp_Fm_aims]) | refine Fr.L ?_ (by simp [fp_Fm_aims]) | refine Fr.cI ?_ (by intro j; simp [fp_Fm_aims]) | refine Fr.cL ?_ (by intro j; simp [fp_Fm_aims]) | (refine Fr.tr ?_ (Fr.mono (fr_Fm_copies (by with_reducible assumption)) mono_Fm_aims_0); try dsimp only) | (refine Fr.tr ?_ (Fr.mono (fr_Fm_findsFor (by with_reducible assumption)) mono_Fm_aims_1); try dsimp only) | (refine Fr.tr ?_ (Fr.mono (fr_Fm_lights (by with_reducible assumption)) mono_Fm_aims_2); try dsimp only) | (refine Fr.tr ?_ (Fr.mono (fr_Fm_sets (by with_reducible assumption)) mono_Fm_aims_3); try dsimp only) | (refine Fr.tr ?_ (frl_Fm_aims_b15 (by with_reducible assumption)); try dsimp only))
theorem fr_Fm_aims_b70 {n : Nat} {c1 : Int32} {v2 : Int32} {v3 : Int32} {M : Mm} {oo : (Int32 × Int32 × Mm) ⊕ (Int32 × Mm)} (h : Fm_aims_b70 n c1 v2 v3 M = some oo) : Fr (fp_Fm_aims) M (elS oo (fun s1 => s1.2.2) (fun x1 => x1.2)) := by
  unfold Fm_aims_b70 at h
  obtain ⟨_, h⟩ := grd_s h
  by_cases g0 : (M.1 95 (tn (7 : Int32))) ≤ v3
  · have h := (if_pos g0).symm.trans h
    obtain rfl := Option.some.inj h
    try dsimp only [elS]
    repeat' (with_reducible first | exact Fr.rf | refine Fr.I ?_ (by simp [fp_Fm_aims]) | refine Fr.L ?_ (by simp [fp_Fm_aims]) | refine Fr.cI ?_ (by intro j; simp [fp_Fm_aims]) | refine Fr.cL ?_ (by intro j; simp [fp_Fm_aims]) | (refine Fr.tr ?_ (Fr.mono (fr_Fm_copies (by with_reducible assumption)) mono_Fm_aims_0); try dsimp only) | (refine Fr.tr ?_ (Fr.mono (fr_Fm_findsFor (by with_reducible assumption)) mono_Fm_aims_1); try dsimp only) | (refine Fr.tr ?_ (Fr.mono (fr_Fm_lights (by with_reducible assumption)) mono_Fm_aims_2); try dsimp only) | (refine Fr.tr ?_ (Fr.mono (fr_Fm_sets (by with_reducible assumption)) mono_Fm_aims_3); try dsimp only) | (refine Fr.tr ?_ (frl_Fm_aims_b15 (by with_reducible assumption)); try dsimp only))
  · have h := (if_neg g0).symm.trans h
    by_cases g0 : v2 = (0 : Int32)
    · have h := (if_pos g0).symm.trans h
      obtain rfl := Option.some.inj h
      try dsimp only [elS]
      repeat' (with_reducible first | exact Fr.rf | refine Fr.I ?_ (by simp [fp_Fm_aims]) | refine Fr.L ?_ (by simp [fp_Fm_aims]) | refine Fr.cI ?_ (by intro j; simp [fp_Fm_aims]) | refine Fr.cL ?_ (by intro j; simp [fp_Fm_aims]) | (refine Fr.tr ?_ (Fr.mono (fr_Fm_copies (by with_reducible assumption)) mono_Fm_aims_0); try dsimp only) | (refine Fr.tr ?_ (Fr.mono (fr_Fm_findsFor (by with_reducible assumption)) mono_Fm_aims_1); try dsimp only) | (refine Fr.tr ?_ (Fr.mono (fr_Fm_lights (by with_reducible assumption)) mono_Fm_aims_2); try dsimp only) | (refine Fr.tr ?_ (Fr.mono (fr_Fm_sets (by with_reducible assumption)) mono_Fm_aims_3); try dsimp only) | (refine Fr.tr ?_ (frl_Fm_aims_b15 (by with_reducible assumption)); try dsimp only))
    · have h := (if_neg g0).symm.trans h
      obtain ⟨z17, _, h⟩ := bnd_s h
      by_cases g0 : z17 = (4 : Int32)
      · have h := (if_pos g0).symm.trans h
        obtain ⟨z20, _, h⟩ := bnd_s h
        obtain ⟨z22, _, h⟩ := bnd_s h
        obtain ⟨z24, _, h⟩ := bnd_s h
        obtain ⟨z26, _, h⟩ := bnd_s h
        by_cases g0 : z26.1 = true
        · have h := (if_pos g0).symm.trans h
          obtain ⟨z48, _, h⟩ := bnd_s h
          by_cases g0 : z48 = (z26.2.1 94 21)
          · have h := (if_pos g0).symm.trans h
            obtain ⟨z56, _, h⟩ := bnd_s h
            by_cases g0 : z56 = (z26.2.1 94 22)
            · have h := (if_pos g0).symm.trans h
              obtain ⟨z59, _, h⟩ := bnd_s h
              obtain ⟨_, h⟩ := grd_s h
              by_cases g0 : z59 = (z26.2.1 99 (tn (z26.2.1 94 20)))
              · have h := (if_pos g0).symm.trans h
                refine Fr.tr ?_ (fr_Fm_aims_j179 h)
                try dsimp only [elS]
                repeat' (with_reducible first | exact Fr.rf | refine Fr.I ?_ (by simp [fp_Fm_aims]) | refine Fr.L ?_ (by simp [fp_Fm_aims]) | refine Fr.cI ?_ (by intro j; simp [fp_Fm_aims]) | refine Fr.cL ?_ (by intro j; simp [fp_Fm_aims]) | (refine Fr.tr ?_ (Fr.mono (fr_Fm_copies (by with_reducible assumption)) mono_Fm_aims_0); try dsimp only) | (refine Fr.tr ?_ (Fr.mono (fr_Fm_findsFor (by with_reducible assumption)) mono_Fm_aims_1); try dsimp only) | (refine Fr.tr ?_ (Fr.mono (fr_Fm_lights (by with_reducible assumption)) mono_Fm_aims_2); try dsimp only) | (refine Fr.tr ?_ (Fr.mono (fr_Fm_sets (by with_reducible assumption)) mono_Fm_aims_3); try dsimp only) | (refine Fr.tr ?_ (frl_Fm_aims_b15 (by with_reducible assumption)); try dsimp only))
              · have h := (if_neg g0).symm.trans h
                refine Fr.tr ?_ (fr_Fm_aims_j174 h)
                try dsimp only [elS]
                repeat' (with_reducible first | exact Fr.rf | refine Fr.I ?_ (by simp [fp_Fm_aims]) | refine Fr.L ?_ (by simp [fp_Fm_aims]) | refine Fr.cI ?_ (by intro j; simp [fp_Fm_aims]) | refine Fr.cL ?_ (by intro j; simp [fp_Fm_aims]) | (refine Fr.tr ?_ (Fr.mono (fr_Fm_copies (by with_reducible assumption)) mono_Fm_aims_0); try dsimp only) | (refine Fr.tr ?_ (Fr.mono (fr_Fm_findsFor (by with_reducible assumption)) mono_Fm_aims_1); try dsimp only) | (refine Fr.tr ?_ (Fr.mono (fr_Fm_lights (by with_reducible assumption)) mono_Fm_aims_2); try dsimp only) | (refine Fr.tr ?_ (Fr.mono (fr_Fm_sets (by with_reducible assumption)) mono_Fm_aims_3); try dsimp only) | (refine Fr.tr ?_ (frl_Fm_aims_b15 (by with_reducible assumption)); try dsimp only))
            · have h := (if_neg g0).symm.trans h
              refine Fr.tr ?_ (fr_Fm_aims_j174 h)
              try dsimp only [elS]
              repeat' (with_reducible first | exact Fr.rf | refine Fr.I ?_ (by simp [fp_Fm_aims]) | refine Fr.L ?_ (by simp [fp_Fm_aims]) | refine Fr.cI ?_ (by intro j; simp [fp_Fm_aims]) | refine Fr.cL ?_ (by intro j; simp [fp_Fm_aims]) | (refine Fr.tr ?_ (Fr.mono (fr_Fm_copies (by with_reducible assumption)) mono_Fm_aims_0); try dsimp only) | (refine Fr.tr ?_ (Fr.mono (fr_Fm_findsFor (by with_reducible assumption)) mono_Fm_aims_1); try dsimp only) | (refine Fr.tr ?_ (Fr.mono (fr_Fm_lights (by with_reducible assumption)) mono_Fm_aims_2); try dsimp only) | (refine Fr.tr ?_ (Fr.mono (fr_Fm_sets (by with_reducible assumption)) mono_Fm_aims_3); try dsimp only) | (refine Fr.tr ?_ (frl_Fm_aims_b15 (by with_reducible assumption)); try dsimp only))
          · have h := (if_neg g0).symm.trans h
            refine Fr.tr ?_ (fr_Fm_aims_j174 h)
            try dsimp only [elS]
            repeat' (with_reducible first | exact Fr.rf | refine Fr.I ?_ (by simp [fp_Fm_aims]) | refine Fr.L ?_ (by simp [fp_Fm_aims]) | refine Fr.cI ?_ (by intro j; simp [fp_Fm_aims]) | refine Fr.cL ?_ (by intro j; simp [fp_Fm_aims]) | (refine Fr.tr ?_ (Fr.mono (fr_Fm_copies (by with_reducible assumption)) mono_Fm_aims_0); try dsimp only) | (refine Fr.tr ?_ (Fr.mono (fr_Fm_findsFor (by with_reducible assumption)) mono_Fm_aims_1); try dsimp only) | (refine Fr.tr ?_ (Fr.mono (fr_Fm_lights (by with_reducible assumption)) mono_Fm_aims_2); try dsimp only) | (refine Fr.tr ?_ (Fr.mono (fr_Fm_sets (by with_reducible assumption)) mono_Fm_aims_3); try dsimp only) | (refine Fr.tr ?_ (frl_Fm_aims_b15 (by with_reducible assumption)); try dsimp only))
        · have h := (if_neg g0).symm.trans h
          obtain ⟨z29, _, h⟩ := bnd_s h
          obtain ⟨z31, _, h⟩ := bnd_s h
          obtain ⟨z33, _, h⟩ := bnd_s h
          obtain ⟨z35, _, h⟩ := bnd_s h
          obtain ⟨z37, _, h⟩ := bnd_s h
          refine Fr.tr ?_ (fr_Fm_aims_j239 h)
          try dsimp only [elS]
          repeat' (with_reducible first | exact Fr.rf | refine Fr.I ?_ (by simp [fp_Fm_aims]) | refine Fr.L ?_ (by simp [fp_Fm_aims]) | refine Fr.cI ?_ (by intro j; simp [fp_Fm_aims]) | refine Fr.cL ?_ (by intro j; simp [fp_Fm_aims]) | (refine Fr.tr ?_ (Fr.mono (fr_Fm_copies (by with_reducible assumption)) mono_Fm_aims_0); try dsimp only) | (refine Fr.tr ?_ (Fr.mono (fr_Fm_findsFor (by with_reducible assumption)) mono_Fm_aims_1); try dsimp only) | (refine Fr.tr ?_ (Fr.mono (fr_Fm_lights (by with_reducible assumption)) mono_Fm_aims_2); try dsimp only) | (refine Fr.tr ?_ (Fr.mono (fr_Fm_sets (by with_reducible assumption)) mono_Fm_aims_3); try dsimp only) | (refine Fr.tr ?_ (frl_Fm_aims_b15 (by with_reducible assumption)); try dsimp only))
      · have h := (if_neg g0).symm.trans h
        refine Fr.tr ?_ (fr_Fm_aims_j276 h)
        try dsimp only [elS]
        repeat' (with_reducible first | exact Fr.rf | refine Fr.I ?_ (by simp [fp_Fm_aims]) | refine Fr.L ?_ (by simp [fp_Fm_aims]) | refine Fr.cI ?_ (by intro j; simp [fp_Fm_aims]) | refine Fr.cL ?_ (by intro j; simp [fp_Fm_aims]) | (refine Fr.tr ?_ (Fr.mono (fr_Fm_copies (by with_reducible assumption)) mono_Fm_aims_0); try dsimp only) | (refine Fr.tr ?_ (Fr.mono (fr_Fm_findsFor (by with_reducible assumption)) mono_Fm_aims_1); try dsimp only) | (refine Fr.tr ?_ (Fr.mono (fr_Fm_lights (by with_reducible assumption)) mono_Fm_aims_2); try dsimp only) | (refine Fr.tr ?_ (Fr.mono (fr_Fm_sets (by with_reducible assumption)) mono_Fm_aims_3); try dsimp only) | (refine Fr.tr ?_ (frl_Fm_aims_b15 (by with_reducible assumption)); try dsimp only))
theorem frl_Fm_aims_b70 {n : Nat} {c1 : Int32}  {n1 : Nat} {s0 : Int32 × Int32 × Mm} {y1 : Int32 × Mm} (h : loop (fun s1 : Int32 × Int32 × Mm => Fm_aims_b70 n c1 s1.1 s1.2.1 s1.2.2) n1 s0 = some y1) : Fr (fp_Fm_aims) s0.2.2 y1.2 :=
  loop_inv (P := fun s2 : Int32 × Int32 × Mm => Fr (fp_Fm_aims) s0.2.2 s2.2.2) (E := fun y1 : Int32 × Mm => Fr (fp_Fm_aims) s0.2.2 y1.2) (fun s2 s3 hP hb => hP.tr (fr_Fm_aims_b70 hb)) (fun s2 x2 hP hb => hP.tr (fr_Fm_aims_b70 hb)) n1 s0 y1 h Fr.rf
theorem fr_Fm_aims_j282 {n : Nat} {v2 : Int32} {M : Mm} {oo : Bool × Mm} (h : Fm_aims_j282 n v2 M = some oo) : Fr (fp_Fm_aims) M oo.2 := by
  unfold Fm_aims_j282 at h
  obtain ⟨z64, _, h⟩ := bnd_s h
  obtain ⟨z66, _, h⟩ := bnd_s h
  by_cases g0 : v2 = (0 : Int32)
  · have h := (if_pos g0).symm.trans h
    obtain rfl := Option.some.inj h
    try dsimp only [elS]
    repeat' (with_reducible first | exact Fr.rf | refine Fr.I ?_ (by simp [fp_Fm_aims]) | refine Fr.L ?_ (by simp [fp_Fm_aims]) | refine Fr.cI ?_ (by intro j; simp [fp_Fm_aims]) | refine Fr.cL ?_ (by intro j; simp [fp_Fm_aims]) | (refine Fr.tr ?_ (Fr.mono (fr_Fm_copies (by with_reducible assumption)) mono_Fm_aims_0); try dsimp only) | (refine Fr.tr ?_ (Fr.mono (fr_Fm_findsFor (by with_reducible assumption)) mono_Fm_aims_1); try dsimp only) | (refine Fr.tr ?_ (Fr.mono (fr_Fm_lights (by with_reducible assumption)) mono_Fm_aims_2); try dsimp only) | (refine Fr.tr ?_ (Fr.mono (fr_Fm_sets (by with_reducible assumption)) mono_Fm_aims_3); try dsimp only) | (refine Fr.tr ?_ (frl_Fm_aims_b15 (by with_reducible assumption)); try dsimp only) | (refine Fr.tr ?_ (frl_Fm_aims_b70 (by with_reducible assumption)); try dsimp only))
  · have h := (if_neg g0).symm.trans h
    by_cases g0 : v2 = (1 : Int32)
    · have h := (if_pos g0).symm.trans h
      obtain rfl := Option.some.inj h
      try dsimp only [elS]
      repeat' (with_reducible first | exact Fr.rf | refine Fr.I ?_ (by simp [fp_Fm_aims]) | refine Fr.L ?_ (by simp [fp_Fm_aims]) | refine Fr.cI ?_ (by intro j; simp [fp_Fm_aims]) | refine Fr.cL ?_ (by intro j; simp [fp_Fm_aims]) | (refine Fr.tr ?_ (Fr.mono (fr_Fm_copies (by with_reducible assumption)) mono_Fm_aims_0); try dsimp only) | (refine Fr.tr ?_ (Fr.mono (fr_Fm_findsFor (by with_reducible assumption)) mono_Fm_aims_1); try dsimp only) | (refine Fr.tr ?_ (Fr.mono (fr_Fm_lights (by with_reducible assumption)) mono_Fm_aims_2); try dsimp only) | (refine Fr.tr ?_ (Fr.mono (fr_Fm_sets (by with_reducible assumption)) mono_Fm_aims_3); try dsimp only) | (refine Fr.tr ?_ (frl_Fm_aims_b15 (by with_reducible assumption)); try dsimp only) | (refine Fr.tr ?_ (frl_Fm_aims_b70 (by with_reducible assumption)); try dsimp only))
    · have h := (if_neg g0).symm.trans h
      cases h
theorem fr_Fm_aims {n : Nat} {v1 : Int32} {M : Mm} {oo : Bool × Mm} (h : Fm_aims n v1 M = some oo) : Fr (fp_Fm_aims) M oo.2 := by
  unfold Fm_aims at h
  obtain ⟨z1, _, h⟩ := bnd_s h
  obtain ⟨y13, _, h⟩ := bnd_s h
  obtain ⟨y63, _, h⟩ := bnd_s h
  refine Fr.tr ?_ (fr_Fm_aims_j282 h)
  try dsimp only [elS]
  repeat' (with_reducible first | exact Fr.rf | refine Fr.I ?_ (by simp [fp_Fm_aims]) | refine Fr.L ?_ (by simp [fp_Fm_aims]) | refine Fr.cI ?_ (by intro j; simp [fp_Fm_aims]) | refine Fr.cL ?_ (by intro j; simp [fp_Fm_aims]) | (refine Fr.tr ?_ (Fr.mono (fr_Fm_copies (by with_reducible assumption)) mono_Fm_aims_0); try dsimp only) | (refine Fr.tr ?_ (Fr.mono (fr_Fm_findsFor (by with_reducible assumption)) mono_Fm_aims_1); try dsimp only) | (refine Fr.tr ?_ (Fr.mono (fr_Fm_lights (by with_reducible assumption)) mono_Fm_aims_2); try dsimp only) | (refine Fr.tr ?_ (Fr.mono (fr_Fm_sets (by with_reducible assumption)) mono_Fm_aims_3); try dsimp only) | (refine Fr.tr ?_ (frl_Fm_aims_b15 (by with_reducible assumption)); try dsimp only) | (refine Fr.tr ?_ (frl_Fm_aims_b70 (by with_reducible assumption)); try dsimp only))
