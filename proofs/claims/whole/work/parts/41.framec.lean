theorem fr_Rp_waitAnewFor_j104 {v2 : Int32} {M : Mm} {oo : (Int32 × Mm) ⊕ (Mm)} (h : Rp_waitAnewFor_j104 v2 M = some oo) : Fr (fp_Rp_waitAnewFor) M (elS oo (fun s1 => s1.2) (fun x1 => x1)) := by
  unfold Rp_waitAnewFor_j104 at h
  obtain rfl := Option.some.inj h
  try dsimp only [elS]
  repeat' (with_reducible first | exact Fr.rf | refine Fr.I ?_ (by simp [fp_Rp_waitAnewFor]) | refine Fr.L ?_ (by simp [fp_Rp_waitAnewFor]) | refine Fr.cI ?_ (by intro j; simp [fp_Rp_waitAnewFor]) | refine Fr.cL ?_ (by intro j; simp [fp_Rp_waitAnewFor]))
theorem fr_Rp_waitAnewFor_j103 {v2 : Int32} {w0 : Int64} {w1 : Int32} {M : Mm} {oo : (Int32 × Mm) ⊕ (Mm)} (h : Rp_waitAnewFor_j103 v2 w0 w1 M = some oo) : Fr (fp_Rp_waitAnewFor) M (elS oo (fun s1 => s1.2) (fun x1 => x1)) := by
  unfold Rp_waitAnewFor_j103 at h
  obtain ⟨_, h⟩ := grd_s h
  refine Fr.tr ?_ (fr_Rp_waitAnewFor_j104 h)
  try dsimp only [elS]
  repeat' (with_reducible first | exact Fr.rf | refine Fr.I ?_ (by simp [fp_Rp_waitAnewFor]) | refine Fr.L ?_ (by simp [fp_Rp_waitAnewFor]) | refine Fr.cI ?_ (by intro j; simp [fp_Rp_waitAnewFor]) | refine Fr.cL ?_ (by intro j; simp [fp_Rp_waitAnewFor]))
theorem fr_Rp_waitAnewFor_b2 {c1 : Int32} {v2 : Int32} {M : Mm} {oo : (Int32 × Mm) ⊕ (Mm)} (h : Rp_waitAnewFor_b2 c1 v2 M = some oo) : Fr (fp_Rp_waitAnewFor) M (elS oo (fun s1 => s1.2) (fun x1 => x1)) := by
  unfold Rp_waitAnewFor_b2 at h
  by_cases g0 : (M.1 54 4) ≤ v2
  · have h := (if_pos g0).symm.trans h
    obtain rfl := Option.some.inj h
    try dsimp only [elS]
    repeat' (with_reducible first | exact Fr.rf | refine Fr.I ?_ (by simp [fp_Rp_waitAnewFor]) | refine Fr.L ?_ (by simp [fp_Rp_waitAnewFor]) | refine Fr.cI ?_ (by intro j; simp [fp_Rp_waitAnewFor]) | refine Fr.cL ?_ (by intro j; simp [fp_Rp_waitAnewFor]))
  · have h := (if_neg g0).symm.trans h
    by_cases g0 : v2 = c1
    · have h := (if_pos g0).symm.trans h
      refine Fr.tr ?_ (fr_Rp_waitAnewFor_j104 h)
      try dsimp only [elS]
      repeat' (with_reducible first | exact Fr.rf | refine Fr.I ?_ (by simp [fp_Rp_waitAnewFor]) | refine Fr.L ?_ (by simp [fp_Rp_waitAnewFor]) | refine Fr.cI ?_ (by intro j; simp [fp_Rp_waitAnewFor]) | refine Fr.cL ?_ (by intro j; simp [fp_Rp_waitAnewFor]))
    · have h := (if_neg g0).symm.trans h
      by_cases g0 : ((lushr (M.2 72 3) v2) &&& (1 : Int64)) = (0 : Int64)
      · have h := (if_pos g0).symm.trans h
        refine Fr.tr ?_ (fr_Rp_waitAnewFor_j104 h)
        try dsimp only [elS]
        repeat' (with_reducible first | exact Fr.rf | refine Fr.I ?_ (by simp [fp_Rp_waitAnewFor]) | refine Fr.L ?_ (by simp [fp_Rp_waitAnewFor]) | refine Fr.cI ?_ (by intro j; simp [fp_Rp_waitAnewFor]) | refine Fr.cL ?_ (by intro j; simp [fp_Rp_waitAnewFor]))
      · have h := (if_neg g0).symm.trans h
        obtain ⟨_, h⟩ := grd_s h
        obtain ⟨_, h⟩ := grd_s h
        obtain ⟨_, h⟩ := grd_s h
        obtain ⟨z7, _, h⟩ := bnd_s h
        by_cases g0 : z7 = true
        · have h := (if_pos g0).symm.trans h
          obtain ⟨_, h⟩ := grd_s h
          refine Fr.tr ?_ (fr_Rp_waitAnewFor_j103 h)
          try dsimp only [elS]
          repeat' (with_reducible first | exact Fr.rf | refine Fr.I ?_ (by simp [fp_Rp_waitAnewFor]) | refine Fr.L ?_ (by simp [fp_Rp_waitAnewFor]) | refine Fr.cI ?_ (by intro j; simp [fp_Rp_waitAnewFor]) | refine Fr.cL ?_ (by intro j; simp [fp_Rp_waitAnewFor]))
        · have h := (if_neg g0).symm.trans h
          obtain ⟨_, h⟩ := grd_s h
          refine Fr.tr ?_ (fr_Rp_waitAnewFor_j103 h)
          try dsimp only [elS]
          repeat' (with_reducible first | exact Fr.rf | refine Fr.I ?_ (by simp [fp_Rp_waitAnewFor]) | refine Fr.L ?_ (by simp [fp_Rp_waitAnewFor]) | refine Fr.cI ?_ (by intro j; simp [fp_Rp_waitAnewFor]) | refine Fr.cL ?_ (by intro j; simp [fp_Rp_waitAnewFor]))
theorem frl_Rp_waitAnewFor_b2 {c1 : Int32}  {n1 : Nat} {s0 : Int32 × Mm} {y1 : Mm} (h : loop (fun s1 : Int32 × Mm => Rp_waitAnewFor_b2 c1 s1.1 s1.2) n1 s0 = some y1) : Fr (fp_Rp_waitAnewFor) s0.2 y1 :=
  loop_inv (P := fun s2 : Int32 × Mm => Fr (fp_Rp_waitAnewFor) s0.2 s2.2) (E := fun y1 : Mm => Fr (fp_Rp_waitAnewFor) s0.2 y1) (fun s2 s3 hP hb => hP.tr (fr_Rp_waitAnewFor_b2 hb)) (fun s2 x2 hP hb => hP.tr (fr_Rp_waitAnewFor_b2 hb)) n1 s0 y1 h Fr.rf
theorem fr_Rp_waitAnewFor {n : Nat} {v1 : Int32} {M : Mm} {oo : Mm} (h : Rp_waitAnewFor n v1 M = some oo) : Fr (fp_Rp_waitAnewFor) M oo := by
  unfold Rp_waitAnewFor at h
  obtain ⟨y13, _, h⟩ := bnd_s h
  obtain rfl := Option.some.inj h
  try dsimp only [elS]
  repeat' (with_reducible first | exact Fr.rf | refine Fr.I ?_ (by simp [fp_Rp_waitAnewFor]) | refine Fr.L ?_ (by simp [fp_Rp_waitAnewFor]) | refine Fr.cI ?_ (by intro j; simp [fp_Rp_waitAnewFor]) | refine Fr.cL ?_ (by intro j; simp [fp_Rp_waitAnewFor]) | (refine Fr.tr ?_ (frl_Rp_waitAnewFor_b2 (by with_reducible assumption)); try dsimp only))
theorem fr_St_takeOff_j60 {s : Nat} {v1 : Int32} {v2 : Int32} {M : Mm} {oo : Mm} (h : St_takeOff_j60 s v1 v2 M = some oo) : Fr (fp_St_takeOff s) M oo := by
  unfold St_takeOff_j60 at h
  obtain ⟨_, h⟩ := grd_s h
  obtain rfl := Option.some.inj h
  try dsimp only [elS]
  repeat' (with_reducible first | exact Fr.rf | refine Fr.I ?_ (by simp [fp_St_takeOff]) | refine Fr.L ?_ (by simp [fp_St_takeOff]) | refine Fr.cI ?_ (by intro j; simp [fp_St_takeOff]) | refine Fr.cL ?_ (by intro j; simp [fp_St_takeOff]))
theorem fr_St_takeOff_j54 {v3 : Int32} {M : Mm} {s : Nat} {oo : (Int32 × Mm) ⊕ (Mm)} (h : St_takeOff_j54 v3 M = some oo) : Fr (fp_St_takeOff s) M (elS oo (fun s1 => s1.2) (fun x1 => x1)) := by
  unfold St_takeOff_j54 at h
  obtain rfl := Option.some.inj h
  try dsimp only [elS]
  repeat' (with_reducible first | exact Fr.rf | refine Fr.I ?_ (by simp [fp_St_takeOff]) | refine Fr.L ?_ (by simp [fp_St_takeOff]) | refine Fr.cI ?_ (by intro j; simp [fp_St_takeOff]) | refine Fr.cL ?_ (by intro j; simp [fp_St_takeOff]))
theorem fr_St_takeOff_b11 {s : Nat} {c1 : Int32} {v3 : Int32} {M : Mm} {oo : (Int32 × Mm) ⊕ (Mm)} (h : St_takeOff_b11 s c1 v3 M = some oo) : Fr (fp_St_takeOff s) M (elS oo (fun s1 => s1.2) (fun x1 => x1)) := by
  unfold St_takeOff_b11 at h
  by_cases g0 : (M.1 (s + 1) 3) ≤ v3
  · have h := (if_pos g0).symm.trans h
    obtain rfl := Option.some.inj h
    try dsimp only [elS]
    repeat' (with_reducible first | exact Fr.rf | refine Fr.I ?_ (by simp [fp_St_takeOff]) | refine Fr.L ?_ (by simp [fp_St_takeOff]) | refine Fr.cI ?_ (by intro j; simp [fp_St_takeOff]) | refine Fr.cL ?_ (by intro j; simp [fp_St_takeOff]))
  · have h := (if_neg g0).symm.trans h
    obtain ⟨_, h⟩ := grd_s h
    by_cases g0 : ((ushr (M.1 (s + 12) (tn c1)) v3) &&& (1 : Int32)) = (0 : Int32)
    · have h := (if_pos g0).symm.trans h
      refine Fr.tr ?_ (fr_St_takeOff_j54 h)
      try dsimp only [elS]
      repeat' (with_reducible first | exact Fr.rf | refine Fr.I ?_ (by simp [fp_St_takeOff]) | refine Fr.L ?_ (by simp [fp_St_takeOff]) | refine Fr.cI ?_ (by intro j; simp [fp_St_takeOff]) | refine Fr.cL ?_ (by intro j; simp [fp_St_takeOff]))
    · have h := (if_neg g0).symm.trans h
      obtain ⟨_, h⟩ := grd_s h
      obtain ⟨_, h⟩ := grd_s h
      obtain ⟨_, h⟩ := grd_s h
      refine Fr.tr ?_ (fr_St_takeOff_j54 h)
      try dsimp only [elS]
      repeat' (with_reducible first | exact Fr.rf | refine Fr.I ?_ (by simp [fp_St_takeOff]) | refine Fr.L ?_ (by simp [fp_St_takeOff]) | refine Fr.cI ?_ (by intro j; simp [fp_St_takeOff]) | refine Fr.cL ?_ (by intro j; simp [fp_St_takeOff]))
theorem frl_St_takeOff_b11 {s : Nat} {c1 : Int32}  {n1 : Nat} {s0 : Int32 × Mm} {y1 : Mm} (h : loop (fun s1 : Int32 × Mm => St_takeOff_b11 s c1 s1.1 s1.2) n1 s0 = some y1) : Fr (fp_St_takeOff s) s0.2 y1 :=
  loop_inv (P := fun s2 : Int32 × Mm => Fr (fp_St_takeOff s) s0.2 s2.2) (E := fun y1 : Mm => Fr (fp_St_takeOff s) s0.2 y1) (fun s2 s3 hP hb => hP.tr (fr_St_takeOff_b11 hb)) (fun s2 x2 hP hb => hP.tr (fr_St_takeOff_b11 hb)) n1 s0 y1 h Fr.rf
theorem fr_St_takeOff {n : Nat} {s : Nat} {v1 : Int32} {v2 : Int32} {M : Mm} {oo : Mm} (h : St_takeOff n s v1 v2 M = some oo) : Fr (fp_St_takeOff s) M oo := by
  unfold St_takeOff at h
  obtain ⟨_, h⟩ := grd_s h
  by_cases g0 : (M.1 (s + 10) (tn v1)) = (0 : Int32)
  · have h := (if_pos g0).symm.trans h
    obtain ⟨y10, _, h⟩ := bnd_s h
    refine Fr.tr ?_ (fr_St_takeOff_j60 h)
    try dsimp only [elS]
    repeat' (with_reducible first | exact Fr.rf | refine Fr.I ?_ (by simp [fp_St_takeOff]) | refine Fr.L ?_ (by simp [fp_St_takeOff]) | refine Fr.cI ?_ (by intro j; simp [fp_St_takeOff]) | refine Fr.cL ?_ (by intro j; simp [fp_St_takeOff]) | (refine Fr.tr ?_ (frl_St_takeOff_b11 (by with_reducible assumption)); try dsimp only))
  · have h := (if_neg g0).symm.trans h
    refine Fr.tr ?_ (fr_St_takeOff_j60 h)
    try dsimp only [elS]
    repeat' (with_reducible first | exact Fr.rf | refine Fr.I ?_ (by simp [fp_St_takeOff]) | refine Fr.L ?_ (by simp [fp_St_takeOff]) | refine Fr.cI ?_ (by intro j; simp [fp_St_takeOff]) | refine Fr.cL ?_ (by intro j; simp [fp_St_takeOff]) | (refine Fr.tr ?_ (frl_St_takeOff_b11 (by with_reducible assumption)); try dsimp only))
theorem mono_St_move_0 {s : Nat} : ∀ c j, fp_St_put s c j → fp_St_move s c j := fun c j => (fun h => h.elim (fun e => Or.inl e) (fun h => h.elim (fun e => Or.inr (Or.inl e)) (fun h => h.elim (fun e => Or.inr (Or.inr (Or.inl e))) (fun h => h.elim (fun e => Or.inr (Or.inr (Or.inr (Or.inl e)))) (fun h => h.elim (fun e => Or.inr (Or.inr (Or.inr (Or.inr (Or.inl e))))) (fun e => Or.inr (Or.inr (Or.inr (Or.inr (Or.inr (e)))))))))))
theorem mono_St_move_1 {s : Nat} : ∀ c j, fp_St_takeOff s c j → fp_St_move s c j := fun c j => (fun h => h.elim (fun e => Or.inl e) (fun e => Or.inr (Or.inr (Or.inr (Or.inr (Or.inr (e)))))))
theorem fr_St_move {n : Nat} {s : Nat} {v1 : Int32} {v2 : Int32} {v3 : Int32} {v4 : Int32} {M : Mm} {oo : Mm} (h : St_move n s v1 v2 v3 v4 M = some oo) : Fr (fp_St_move s) M oo := by
  unfold St_move at h
  obtain ⟨z1, _, h⟩ := bnd_s h
  obtain ⟨z3, _, h⟩ := bnd_s h
  obtain rfl := Option.some.inj h
  try dsimp only [elS]
  repeat' (with_reducible first | exact Fr.rf | refine Fr.I ?_ (by simp [fp_St_move]) | refine Fr.L ?_ (by simp [fp_St_move]) | refine Fr.cI ?_ (by intro j; simp [fp_St_move]) | refine Fr.cL ?_ (by intro j; simp [fp_St_move]) | (refine Fr.tr ?_ (Fr.mono (fr_St_put (by with_reducible assumption)) mono_St_move_0); try dsimp only) | (refine Fr.tr ?_ (Fr.mono (fr_St_takeOff (by with_reducible assumption)) mono_St_move_1); try dsimp only))
theorem mono_Rp_carryOut_0  : ∀ c j, fp_Rp_waitAnewFor c j → fp_Rp_carryOut c j := fun c j => (fun e => Or.inr (Or.inr (Or.inr (Or.inr (Or.inr (Or.inr (Or.inr (Or.inr (Or.inl e)))))))))
theorem mono_Rp_carryOut_1  : ∀ c j, fp_St_move 54 c j → fp_Rp_carryOut c j := fun c j => (fun h => h.elim (fun e => Or.inl e) (fun h => h.elim (fun e => Or.inr (Or.inl e)) (fun h => h.elim (fun e => Or.inr (Or.inr (Or.inl e))) (fun h => h.elim (fun e => Or.inr (Or.inr (Or.inr (Or.inl e)))) (fun h => h.elim (fun e => Or.inr (Or.inr (Or.inr (Or.inr (Or.inl e))))) (fun e => Or.inr (Or.inr (Or.inr (Or.inr (Or.inr (Or.inl e)))))))))))
theorem fr_Rp_carryOut_b5 {n : Nat} {v1 : Int32} {M : Mm} {oo : (Int32 × Mm) ⊕ (Mm)} (h : Rp_carryOut_b5 n v1 M = some oo) : Fr (fp_Rp_carryOut) M (elS oo (fun s1 => s1.2) (fun x1 => x1)) := by
  unfold Rp_carryOut_b5 at h
  by_cases g0 : v1 < (0 : Int32)
  · have h := (if_pos g0).symm.trans h
    obtain rfl := Option.some.inj h
    try dsimp only [elS]
    repeat' (with_reducible first | exact Fr.rf | refine Fr.I ?_ (by simp [fp_Rp_carryOut]) | refine Fr.L ?_ (by simp [fp_Rp_carryOut]) | refine Fr.cI ?_ (by intro j; simp [fp_Rp_carryOut]) | refine Fr.cL ?_ (by intro j; simp [fp_Rp_carryOut]) | (refine Fr.tr ?_ (Fr.mono (fr_Rp_waitAnewFor (by with_reducible assumption)) mono_Rp_carryOut_0); try dsimp only) | (refine Fr.tr ?_ (Fr.mono (fr_St_move (by with_reducible assumption)) mono_Rp_carryOut_1); try dsimp only))
  · have h := (if_neg g0).symm.trans h
    by_cases g0 : (40 : Int32) ≤ (M.1 72 7)
    · have h := (if_pos g0).symm.trans h
      obtain rfl := Option.some.inj h
      try dsimp only [elS]
      repeat' (with_reducible first | exact Fr.rf | refine Fr.I ?_ (by simp [fp_Rp_carryOut]) | refine Fr.L ?_ (by simp [fp_Rp_carryOut]) | refine Fr.cI ?_ (by intro j; simp [fp_Rp_carryOut]) | refine Fr.cL ?_ (by intro j; simp [fp_Rp_carryOut]) | (refine Fr.tr ?_ (Fr.mono (fr_Rp_waitAnewFor (by with_reducible assumption)) mono_Rp_carryOut_0); try dsimp only) | (refine Fr.tr ?_ (Fr.mono (fr_St_move (by with_reducible assumption)) mono_Rp_carryOut_1); try dsimp only))
    · have h := (if_neg g0).symm.trans h
      obtain ⟨_, h⟩ := grd_s h
      obtain ⟨_, h⟩ := grd_s h
      obtain ⟨_, h⟩ := grd_s h
      obtain ⟨_, h⟩ := grd_s h
      obtain ⟨z9, _, h⟩ := bnd_s h
      obtain ⟨z11, _, h⟩ := bnd_s h
      obtain ⟨z13, _, h⟩ := bnd_s h
      obtain rfl := Option.some.inj h
      try dsimp only [elS]
      repeat' (with_reducible first | exact Fr.rf | refine Fr.I ?_ (by simp [fp_Rp_carryOut]) | refine Fr.L ?_ (by simp [fp_Rp_carryOut]) | refine Fr.cI ?_ (by intro j; simp [fp_Rp_carryOut]) | refine Fr.cL ?_ (by intro j; simp [fp_Rp_carryOut]) | (refine Fr.tr ?_ (Fr.mono (fr_Rp_waitAnewFor (by with_reducible assumption)) mono_Rp_carryOut_0); try dsimp only) | (refine Fr.tr ?_ (Fr.mono (fr_St_move (by with_reducible assumption)) mono_Rp_carryOut_1); try dsimp only))
theorem frl_Rp_carryOut_b5 {n : Nat}  {n1 : Nat} {s0 : Int32 × Mm} {y1 : Mm} (h : loop (fun s1 : Int32 × Mm => Rp_carryOut_b5 n s1.1 s1.2) n1 s0 = some y1) : Fr (fp_Rp_carryOut) s0.2 y1 :=
  loop_inv (P := fun s2 : Int32 × Mm => Fr (fp_Rp_carryOut) s0.2 s2.2) (E := fun y1 : Mm => Fr (fp_Rp_carryOut) s0.2 y1) (fun s2 s3 hP hb => hP.tr (fr_Rp_carryOut_b5 hb)) (fun s2 x2 hP hb => hP.tr (fr_Rp_carryOut_b5 hb)) n1 s0 y1 h Fr.rf
theorem fr_Rp_carryOut {n : Nat} {M : Mm} {oo : Mm} (h : Rp_carryOut n M = some oo) : Fr (fp_Rp_carryOut) M oo := by
  unfold Rp_carryOut at h
  obtain ⟨z1, _, h⟩ := bnd_s h
  obtain ⟨y15, _, h⟩ := bnd_s h
  obtain rfl := Option.some.inj h
  try dsimp only [elS]
  repeat' (with_reducible first | exact Fr.rf | refine Fr.I ?_ (by simp [fp_Rp_carryOut]) | refine Fr.L ?_ (by simp [fp_Rp_carryOut]) | refine Fr.cI ?_ (by intro j; simp [fp_Rp_carryOut]) | refine Fr.cL ?_ (by intro j; simp [fp_Rp_carryOut]) | (refine Fr.tr ?_ (Fr.mono (fr_Rp_waitAnewFor (by with_reducible assumption)) mono_Rp_carryOut_0); try dsimp only) | (refine Fr.tr ?_ (Fr.mono (fr_St_move (by with_reducible assumption)) mono_Rp_carryOut_1); try dsimp only) | (refine Fr.tr ?_ (frl_Rp_carryOut_b5 (by with_reducible assumption)); try dsimp only))
theorem mono_Rp_parkOne_0  : ∀ c j, fp_Rp_waitAnewFor c j → fp_Rp_parkOne c j := fun c j => (fun e => Or.inr (Or.inr (Or.inr (Or.inr (Or.inr (Or.inr (Or.inr (e))))))))
theorem mono_Rp_parkOne_1  : ∀ c j, fp_St_move 54 c j → fp_Rp_parkOne c j := fun c j => (fun h => h.elim (fun e => Or.inl e) (fun h => h.elim (fun e => Or.inr (Or.inl e)) (fun h => h.elim (fun e => Or.inr (Or.inr (Or.inl e))) (fun h => h.elim (fun e => Or.inr (Or.inr (Or.inr (Or.inl e)))) (fun h => h.elim (fun e => Or.inr (Or.inr (Or.inr (Or.inr (Or.inl e))))) (fun e => Or.inr (Or.inr (Or.inr (Or.inr (Or.inr (Or.inl e)))))))))))
theorem fr_Rp_parkOne_j57 {n : Nat} {v1 : Int32} {w0 : Int64} {Mc : Mm} {oo : (Int32) ⊕ ((Unit) ⊕ (Bool × Mm))} (h : Rp_parkOne_j57 n v1 w0 Mc = some oo) : Fr (fp_Rp_parkOne) Mc (elS oo (fun s1 => Mc) (fun y1 => elS y1 (fun x1 => Mc) (fun z1 => z1.2))) := by
  unfold Rp_parkOne_j57 at h
  by_cases g0 : w0 = (0 : Int64)
  · have h := (if_pos g0).symm.trans h
    obtain rfl := Option.some.inj h
    try dsimp only [elS]
    repeat' (with_reducible first | exact Fr.rf | refine Fr.I ?_ (by simp [fp_Rp_parkOne]) | refine Fr.L ?_ (by simp [fp_Rp_parkOne]) | refine Fr.cI ?_ (by intro j; simp [fp_Rp_parkOne]) | refine Fr.cL ?_ (by intro j; simp [fp_Rp_parkOne]) | (refine Fr.tr ?_ (Fr.mono (fr_Rp_waitAnewFor (by with_reducible assumption)) mono_Rp_parkOne_0); try dsimp only) | (refine Fr.tr ?_ (Fr.mono (fr_St_move (by with_reducible assumption)) mono_Rp_parkOne_1); try dsimp only))
  · have h := (if_neg g0).symm.trans h
    obtain ⟨_, h⟩ := grd_s h
    obtain ⟨z6, _, h⟩ := bnd_s h
    obtain ⟨_, h⟩ := grd_s h
    obtain ⟨z9, _, h⟩ := bnd_s h
    obtain ⟨z11, _, h⟩ := bnd_s h
    obtain rfl := Option.some.inj h
    try dsimp only [elS]
    repeat' (with_reducible first | exact Fr.rf | refine Fr.I ?_ (by simp [fp_Rp_parkOne]) | refine Fr.L ?_ (by simp [fp_Rp_parkOne]) | refine Fr.cI ?_ (by intro j; simp [fp_Rp_parkOne]) | refine Fr.cL ?_ (by intro j; simp [fp_Rp_parkOne]) | (refine Fr.tr ?_ (Fr.mono (fr_Rp_waitAnewFor (by with_reducible assumption)) mono_Rp_parkOne_0); try dsimp only) | (refine Fr.tr ?_ (Fr.mono (fr_St_move (by with_reducible assumption)) mono_Rp_parkOne_1); try dsimp only))
theorem fr_Rp_parkOne_j40 {n : Nat} {v1 : Int32} {w0 : Int32} {Mc : Mm} {oo : (Int32) ⊕ ((Unit) ⊕ (Bool × Mm))} (h : Rp_parkOne_j40 n v1 w0 Mc = some oo) : Fr (fp_Rp_parkOne) Mc (elS oo (fun s1 => Mc) (fun y1 => elS y1 (fun x1 => Mc) (fun z1 => z1.2))) := by
  unfold Rp_parkOne_j40 at h
  by_cases g0 : w0 = (0 : Int32)
  · have h := (if_pos g0).symm.trans h
    refine Fr.tr ?_ (fr_Rp_parkOne_j57 h)
    try dsimp only [elS]
    repeat' (with_reducible first | exact Fr.rf | refine Fr.I ?_ (by simp [fp_Rp_parkOne]) | refine Fr.L ?_ (by simp [fp_Rp_parkOne]) | refine Fr.cI ?_ (by intro j; simp [fp_Rp_parkOne]) | refine Fr.cL ?_ (by intro j; simp [fp_Rp_parkOne]) | (refine Fr.tr ?_ (Fr.mono (fr_Rp_waitAnewFor (by with_reducible assumption)) mono_Rp_parkOne_0); try dsimp only) | (refine Fr.tr ?_ (Fr.mono (fr_St_move (by with_reducible assumption)) mono_Rp_parkOne_1); try dsimp only))
  · have h := (if_neg g0).symm.trans h
    obtain ⟨z13, _, h⟩ := bnd_s h
    refine Fr.tr ?_ (fr_Rp_parkOne_j57 h)
    try dsimp only [elS]
    repeat' (with_reducible first | exact Fr.rf | refine Fr.I ?_ (by simp [fp_Rp_parkOne]) | refine Fr.L ?_ (by simp [fp_Rp_parkOne]) | refine Fr.cI ?_ (by intro j; simp [fp_Rp_parkOne]) | refine Fr.cL ?_ (by intro j; simp [fp_Rp_parkOne]) | (refine Fr.tr ?_ (Fr.mono (fr_Rp_waitAnewFor (by with_reducible assumption)) mono_Rp_parkOne_0); try dsimp only) | (refine Fr.tr ?_ (Fr.mono (fr_St_move (by with_reducible assumption)) mono_Rp_parkOne_1); try dsimp only))
theorem fr_Rp_parkOne_b2 {n : Nat} {Mc : Mm} {v1 : Int32} {oo : (Int32) ⊕ ((Unit) ⊕ (Bool × Mm))} (h : Rp_parkOne_b2 n Mc v1 = some oo) : Fr (fp_Rp_parkOne) Mc (elS oo (fun s1 => Mc) (fun y1 => elS y1 (fun x1 => Mc) (fun z1 => z1.2))) := by
  unfold Rp_parkOne_b2 at h
  by_cases g0 : (Mc.1 54 4) ≤ v1
  · have h := (if_pos g0).symm.trans h
    obtain rfl := Option.some.inj h
    try dsimp only [elS]
    repeat' (with_reducible first | exact Fr.rf | refine Fr.I ?_ (by simp [fp_Rp_parkOne]) | refine Fr.L ?_ (by simp [fp_Rp_parkOne]) | refine Fr.cI ?_ (by intro j; simp [fp_Rp_parkOne]) | refine Fr.cL ?_ (by intro j; simp [fp_Rp_parkOne]) | (refine Fr.tr ?_ (Fr.mono (fr_Rp_waitAnewFor (by with_reducible assumption)) mono_Rp_parkOne_0); try dsimp only) | (refine Fr.tr ?_ (Fr.mono (fr_St_move (by with_reducible assumption)) mono_Rp_parkOne_1); try dsimp only))
  · have h := (if_neg g0).symm.trans h
    by_cases g0 : ((lushr ((Mc.2 72 3) &&& ((Mc.2 72 4) ^^^ (-1 : Int64))) v1) &&& (1 : Int64)) = (0 : Int64)
    · have h := (if_pos g0).symm.trans h
      refine Fr.tr ?_ (fr_Rp_parkOne_j40 h)
      try dsimp only [elS]
      repeat' (with_reducible first | exact Fr.rf | refine Fr.I ?_ (by simp [fp_Rp_parkOne]) | refine Fr.L ?_ (by simp [fp_Rp_parkOne]) | refine Fr.cI ?_ (by intro j; simp [fp_Rp_parkOne]) | refine Fr.cL ?_ (by intro j; simp [fp_Rp_parkOne]) | (refine Fr.tr ?_ (Fr.mono (fr_Rp_waitAnewFor (by with_reducible assumption)) mono_Rp_parkOne_0); try dsimp only) | (refine Fr.tr ?_ (Fr.mono (fr_St_move (by with_reducible assumption)) mono_Rp_parkOne_1); try dsimp only))
    · have h := (if_neg g0).symm.trans h
      refine Fr.tr ?_ (fr_Rp_parkOne_j40 h)
      try dsimp only [elS]
      repeat' (with_reducible first | exact Fr.rf | refine Fr.I ?_ (by simp [fp_Rp_parkOne]) | refine Fr.L ?_ (by simp [fp_Rp_parkOne]) | refine Fr.cI ?_ (by intro j; simp [fp_Rp_parkOne]) | refine Fr.cL ?_ (by intro j; simp [fp_Rp_parkOne]) | (refine Fr.tr ?_ (Fr.mono (fr_Rp_waitAnewFor (by with_reducible assumption)) mono_Rp_parkOne_0); try dsimp only) | (refine Fr.tr ?_ (Fr.mono (fr_St_move (by with_reducible assumption)) mono_Rp_parkOne_1); try dsimp only))
theorem frl_Rp_parkOne_b2 {n : Nat} {Mc : Mm}  {n1 : Nat} {s0 : Int32} {y1 : (Unit) ⊕ (Bool × Mm)} (h : loop (fun s1 : Int32 => Rp_parkOne_b2 n Mc s1) n1 s0 = some y1) : Fr (fp_Rp_parkOne) Mc (elS y1 (fun x1 => Mc) (fun z1 => z1.2)) :=
  loop_inv (P := fun s2 : Int32 => Fr (fp_Rp_parkOne) Mc Mc) (E := fun y1 : (Unit) ⊕ (Bool × Mm) => Fr (fp_Rp_parkOne) Mc (elS y1 (fun x1 => Mc) (fun z1 => z1.2))) (fun _ _ _ _ => Fr.rf) (fun s2 x2 hP hb => hP.tr (fr_Rp_parkOne_b2 hb)) n1 s0 y1 h Fr.rf
theorem fr_Rp_parkOne {n : Nat} {M : Mm} {oo : Bool × Mm} (h : Rp_parkOne n M = some oo) : Fr (fp_Rp_parkOne) M oo.2 := by
  unfold Rp_parkOne at h
  obtain ⟨y15, _, h⟩ := bnd_s h
  cases y15 with
  | inl x16 =>
    obtain rfl := Option.some.inj h
    try dsimp only [elS]
    repeat' (with_reducible first | exact Fr.rf | refine Fr.I ?_ (by simp [fp_Rp_parkOne]) | refine Fr.L ?_ (by simp [fp_Rp_parkOne]) | refine Fr.cI ?_ (by intro j; simp [fp_Rp_parkOne]) | refine Fr.cL ?_ (by intro j; simp [fp_Rp_parkOne]) | (refine Fr.tr ?_ (Fr.mono (fr_Rp_waitAnewFor (by with_reducible assumption)) mono_Rp_parkOne_0); try dsimp only) | (refine Fr.tr ?_ (Fr.mono (fr_St_move (by with_reducible assumption)) mono_Rp_parkOne_1); try dsimp only) | (refine Fr.tr ?_ (frl_Rp_parkOne_b2 (by with_reducible assumption)); try dsimp only))
  | inr e17 =>
    obtain rfl := Option.some.inj h
    try dsimp only [elS]
    repeat' (with_reducible first | exact Fr.rf | refine Fr.I ?_ (by simp [fp_Rp_parkOne]) | refine Fr.L ?_ (by simp [fp_Rp_parkOne]) | refine Fr.cI ?_ (by intro j; simp [fp_Rp_parkOne]) | refine Fr.cL ?_ (by intro j; simp [fp_Rp_parkOne]) | (refine Fr.tr ?_ (Fr.mono (fr_Rp_waitAnewFor (by with_reducible assumption)) mono_Rp_parkOne_0); try dsimp only) | (refine Fr.tr ?_ (Fr.mono (fr_St_move (by with_reducible assumption)) mono_Rp_parkOne_1); try dsimp only) | (refine Fr.tr ?_ (frl_Rp_parkOne_b2 (by with_reducible assumption)); try dsimp only))
theorem mono_Rp_carryOutParking_0  : ∀ c j, fp_Rp_carryOut c j → fp_Rp_carryOutParking c j := fun c j => (fun h => h.elim (fun e => Or.inl e) (fun h => h.elim (fun e => Or.inr (Or.inl e)) (fun h => h.elim (fun e => Or.inr (Or.inr (Or.inl e))) (fun h => h.elim (fun e => Or.inr (Or.inr (Or.inr (Or.inl e)))) (fun h => h.elim (fun e => Or.inr (Or.inr (Or.inr (Or.inr (Or.inl e))))) (fun h => h.elim (fun e => Or.inr (Or.inr (Or.inr (Or.inr (Or.inr (Or.inl e)))))) (fun h => h.elim (fun e => Or.inr (Or.inr (Or.inr (Or.inr (Or.inr (Or.inr (Or.inl e))))))) (fun h => h.elim (fun e => Or.inr (Or.inr (Or.inr (Or.inr (Or.inr (Or.inr (Or.inr (Or.inr (Or.inl e))))))))) (fun h => h.elim (fun e => Or.inr (Or.inr (Or.inr (Or.inr (Or.inr (Or.inr (Or.inr (Or.inr (Or.inr (Or.inl e)))))))))) (fun e => Or.inr (Or.inr (Or.inr (Or.inr (Or.inr (Or.inr (Or.inr (Or.inr (Or.inr (Or.inr (e))))))))))))))))))))
theorem mono_Rp_carryOutParking_1  : ∀ c j, fp_Rp_parkOne c j → fp_Rp_carryOutParking c j := fun c j => (fun h => h.elim (fun e => Or.inl e) (fun h => h.elim (fun e => Or.inr (Or.inl e)) (fun h => h.elim (fun e => Or.inr (Or.inr (Or.inl e))) (fun h => h.elim (fun e => Or.inr (Or.inr (Or.inr (Or.inl e)))) (fun h => h.elim (fun e => Or.inr (Or.inr (Or.inr (Or.inr (Or.inl e))))) (fun h => h.elim (fun e => Or.inr (Or.inr (Or.inr (Or.inr (Or.inr (Or.inl e)))))) (fun h => h.elim (fun e => Or.inr (Or.inr (Or.inr (Or.inr (Or.inr (Or.inr (Or.inr (Or.inl e)))))))) (fun e => Or.inr (Or.inr (Or.inr (Or.inr (Or.inr (Or.inr (Or.inr (Or.inr (Or.inr (Or.inl e)))))))))))))))))
theorem fr_Rp_carryOutParking_b6 {n : Nat} {v1 : Int32} {M : Mm} {oo : (Int32 × Mm) ⊕ (Mm)} (h : Rp_carryOutParking_b6 n v1 M = some oo) : Fr (fp_Rp_carryOutParking) M (elS oo (fun s1 => s1.2) (fun x1 => x1)) := by
  unfold Rp_carryOutParking_b6 at h
  by_cases g0 : (40 : Int32) ≤ v1
  · have h := (if_pos g0).symm.trans h
    obtain rfl := Option.some.inj h
    try dsimp only [elS]
    repeat' (with_reducible first | exact Fr.rf | refine Fr.I ?_ (by simp [fp_Rp_carryOutParking]) | refine Fr.L ?_ (by simp [fp_Rp_carryOutParking]) | refine Fr.cI ?_ (by intro j; simp [fp_Rp_carryOutParking]) | refine Fr.cL ?_ (by intro j; simp [fp_Rp_carryOutParking]) | (refine Fr.tr ?_ (Fr.mono (fr_Rp_carryOut (by with_reducible assumption)) mono_Rp_carryOutParking_0); try dsimp only) | (refine Fr.tr ?_ (Fr.mono (fr_Rp_parkOne (by with_reducible assumption)) mono_Rp_carryOutParking_1); try dsimp only))
  · have h := (if_neg g0).symm.trans h
    by_cases g0 : (M.2 72 3) = (0 : Int64)
    · have h := (if_pos g0).symm.trans h
      obtain rfl := Option.some.inj h
      try dsimp only [elS]
      repeat' (with_reducible first | exact Fr.rf | refine Fr.I ?_ (by simp [fp_Rp_carryOutParking]) | refine Fr.L ?_ (by simp [fp_Rp_carryOutParking]) | refine Fr.cI ?_ (by intro j; simp [fp_Rp_carryOutParking]) | refine Fr.cL ?_ (by intro j; simp [fp_Rp_carryOutParking]) | (refine Fr.tr ?_ (Fr.mono (fr_Rp_carryOut (by with_reducible assumption)) mono_Rp_carryOutParking_0); try dsimp only) | (refine Fr.tr ?_ (Fr.mono (fr_Rp_parkOne (by with_reducible assumption)) mono_Rp_carryOutParking_1); try dsimp only))
    · have h := (if_neg g0).symm.trans h
      obtain ⟨z5, _, h⟩ := bnd_s h
      by_cases g0 : z5.1 = true
      · have h := (if_pos g0).symm.trans h
        obtain ⟨z8, _, h⟩ := bnd_s h
        obtain rfl := Option.some.inj h
        try dsimp only [elS]
        repeat' (with_reducible first | exact Fr.rf | refine Fr.I ?_ (by simp [fp_Rp_carryOutParking]) | refine Fr.L ?_ (by simp [fp_Rp_carryOutParking]) | refine Fr.cI ?_ (by intro j; simp [fp_Rp_carryOutParking]) | refine Fr.cL ?_ (by intro j; simp [fp_Rp_carryOutParking]) | (refine Fr.tr ?_ (Fr.mono (fr_Rp_carryOut (by with_reducible assumption)) mono_Rp_carryOutParking_0); try dsimp only) | (refine Fr.tr ?_ (Fr.mono (fr_Rp_parkOne (by with_reducible assumption)) mono_Rp_carryOutParking_1); try dsimp only))
      · have h := (if_neg g0).symm.trans h
        obtain rfl := Option.some.inj h
        try dsimp only [elS]
        repeat' (with_reducible first | exact Fr.rf | refine Fr.I ?_ (by simp [fp_Rp_carryOutParking]) | refine Fr.L ?_ (by simp [fp_Rp_carryOutParking]) | refine Fr.cI ?_ (by intro j; simp [fp_Rp_carryOutParking]) | refine Fr.cL ?_ (by intro j; simp [fp_Rp_carryOutParking]) | (refine Fr.tr ?_ (Fr.mono (fr_Rp_carryOut (by with_reducible assumption)) mono_Rp_carryOutParking_0); try dsimp only) | (refine Fr.tr ?_ (Fr.mono (fr_Rp_parkOne (by with_reducible assumption)) mono_Rp_carryOutParking_1); try dsimp only))
theorem frl_Rp_carryOutParking_b6 {n : Nat}  {n1 : Nat} {s0 : Int32 × Mm} {y1 : Mm} (h : loop (fun s1 : Int32 × Mm => Rp_carryOutParking_b6 n s1.1 s1.2) n1 s0 = some y1) : Fr (fp_Rp_carryOutParking) s0.2 y1 :=
  loop_inv (P := fun s2 : Int32 × Mm => Fr (fp_Rp_carryOutParking) s0.2 s2.2) (E := fun y1 : Mm => Fr (fp_Rp_carryOutParking) s0.2 y1) (fun s2 s3 hP hb => hP.tr (fr_Rp_carryOutParking_b6 hb)) (fun s2 x2 hP hb => hP.tr (fr_Rp_carryOutParking_b6 hb)) n1 s0 y1 h Fr.rf
theorem fr_Rp_carryOutParking {n : Nat} {M : Mm} {oo : Mm} (h : Rp_carryOutParking n M = some oo) : Fr (fp_Rp_carryOutParking) M oo := by
  unfold Rp_carryOutParking at h
  obtain ⟨z1, _, h⟩ := bnd_s h
  obtain ⟨y10, _, h⟩ := bnd_s h
  obtain rfl := Option.some.inj h
  try dsimp only [elS]
  repeat' (with_reducible first | exact Fr.rf | refine Fr.I ?_ (by simp [fp_Rp_carryOutParking]) | refine Fr.L ?_ (by simp [fp_Rp_carryOutParking]) | refine Fr.cI ?_ (by intro j; simp [fp_Rp_carryOutParking]) | refine Fr.cL ?_ (by intro j; simp [fp_Rp_carryOutParking]) | (refine Fr.tr ?_ (Fr.mono (fr_Rp_carryOut (by with_reducible assumption)) mono_Rp_carryOutParking_0); try dsimp only) | (refine Fr.tr ?_ (Fr.mono (fr_Rp_parkOne (by with_reducible assumption)) mono_Rp_carryOutParking_1); try dsimp only) | (refine Fr.tr ?_ (frl_Rp_carryOutParking_b6 (by with_reducible assumption)); try dsimp only))
theorem fr_Rp_goingRound_j56 {v2 : Int32} {M : Mm} {oo : (Int32 × Mm) ⊕ (Mm)} (h : Rp_goingRound_j56 v2 M = some oo) : Fr (fp_Rp_goingRound) M (elS oo (fun s1 => s1.2) (fun x1 => x1)) := by
  unfold Rp_goingRound_j56 at h
  obtain rfl := Option.some.inj h
  try dsimp only [elS]
  repeat' (with_reducible first | exact Fr.rf | refine Fr.I ?_ (by simp [fp_Rp_goingRound]) | refine Fr.L ?_ (by simp [fp_Rp_goingRound]) | refine Fr.cI ?_ (by intro j; simp [fp_Rp_goingRound]) | refine Fr.cL ?_ (by intro j; simp [fp_Rp_goingRound]))
theorem fr_Rp_goingRound_b15 {c1 : Int32} {v2 : Int32} {M : Mm} {oo : (Int32 × Mm) ⊕ (Mm)} (h : Rp_goingRound_b15 c1 v2 M = some oo) : Fr (fp_Rp_goingRound) M (elS oo (fun s1 => s1.2) (fun x1 => x1)) := by
  unfold Rp_goingRound_b15 at h
  by_cases g0 : (M.1 54 4) ≤ v2
  · have h := (if_pos g0).symm.trans h
    obtain rfl := Option.some.inj h
    try dsimp only [elS]
    repeat' (with_reducible first | exact Fr.rf | refine Fr.I ?_ (by simp [fp_Rp_goingRound]) | refine Fr.L ?_ (by simp [fp_Rp_goingRound]) | refine Fr.cI ?_ (by intro j; simp [fp_Rp_goingRound]) | refine Fr.cL ?_ (by intro j; simp [fp_Rp_goingRound]))
  · have h := (if_neg g0).symm.trans h
    obtain ⟨_, h⟩ := grd_s h
    by_cases g0 : ((lushr (M.2 91 (tn v2)) c1) &&& (1 : Int64)) = (0 : Int64)
    · have h := (if_pos g0).symm.trans h
      refine Fr.tr ?_ (fr_Rp_goingRound_j56 h)
      try dsimp only [elS]
      repeat' (with_reducible first | exact Fr.rf | refine Fr.I ?_ (by simp [fp_Rp_goingRound]) | refine Fr.L ?_ (by simp [fp_Rp_goingRound]) | refine Fr.cI ?_ (by intro j; simp [fp_Rp_goingRound]) | refine Fr.cL ?_ (by intro j; simp [fp_Rp_goingRound]))
    · have h := (if_neg g0).symm.trans h
      obtain ⟨_, h⟩ := grd_s h
      obtain ⟨_, h⟩ := grd_s h
      obtain ⟨_, h⟩ := grd_s h
      refine Fr.tr ?_ (fr_Rp_goingRound_j56 h)
      try dsimp only [elS]
      repeat' (with_reducible first | exact Fr.rf | refine Fr.I ?_ (by simp [fp_Rp_goingRound]) | refine Fr.L ?_ (by simp [fp_Rp_goingRound]) | refine Fr.cI ?_ (by intro j; simp [fp_Rp_goingRound]) | refine Fr.cL ?_ (by intro j; simp [fp_Rp_goingRound]))
theorem frl_Rp_goingRound_b15 {c1 : Int32}  {n1 : Nat} {s0 : Int32 × Mm} {y1 : Mm} (h : loop (fun s1 : Int32 × Mm => Rp_goingRound_b15 c1 s1.1 s1.2) n1 s0 = some y1) : Fr (fp_Rp_goingRound) s0.2 y1 :=
  loop_inv (P := fun s2 : Int32 × Mm => Fr (fp_Rp_goingRound) s0.2 s2.2) (E := fun y1 : Mm => Fr (fp_Rp_goingRound) s0.2 y1) (fun s2 s3 hP hb => hP.tr (fr_Rp_goingRound_b15 hb)) (fun s2 x2 hP hb => hP.tr (fr_Rp_goingRound_b15 hb)) n1 s0 y1 h Fr.rf
theorem fr_Rp_goingRound_b2 {n : Nat} {v1 : Int32} {M : Mm} {oo : (Int32 × Mm) ⊕ (Mm)} (h : Rp_goingRound_b2 n v1 M = some oo) : Fr (fp_Rp_goingRound) M (elS oo (fun s1 => s1.2) (fun x1 => x1)) := by
  unfold Rp_goingRound_b2 at h
  by_cases g0 : (M.1 54 4) ≤ v1
  · have h := (if_pos g0).symm.trans h
    obtain rfl := Option.some.inj h
    try dsimp only [elS]
    repeat' (with_reducible first | exact Fr.rf | refine Fr.I ?_ (by simp [fp_Rp_goingRound]) | refine Fr.L ?_ (by simp [fp_Rp_goingRound]) | refine Fr.cI ?_ (by intro j; simp [fp_Rp_goingRound]) | refine Fr.cL ?_ (by intro j; simp [fp_Rp_goingRound]) | (refine Fr.tr ?_ (frl_Rp_goingRound_b15 (by with_reducible assumption)); try dsimp only))
  · have h := (if_neg g0).symm.trans h
    obtain ⟨y8, _, h⟩ := bnd_s h
    obtain rfl := Option.some.inj h
    try dsimp only [elS]
    repeat' (with_reducible first | exact Fr.rf | refine Fr.I ?_ (by simp [fp_Rp_goingRound]) | refine Fr.L ?_ (by simp [fp_Rp_goingRound]) | refine Fr.cI ?_ (by intro j; simp [fp_Rp_goingRound]) | refine Fr.cL ?_ (by intro j; simp [fp_Rp_goingRound]) | (refine Fr.tr ?_ (frl_Rp_goingRound_b15 (by with_reducible assumption)); try dsimp only))
theorem frl_Rp_goingRound_b2 {n : Nat}  {n1 : Nat} {s0 : Int32 × Mm} {y1 : Mm} (h : loop (fun s1 : Int32 × Mm => Rp_goingRound_b2 n s1.1 s1.2) n1 s0 = some y1) : Fr (fp_Rp_goingRound) s0.2 y1 :=
  loop_inv (P := fun s2 : Int32 × Mm => Fr (fp_Rp_goingRound) s0.2 s2.2) (E := fun y1 : Mm => Fr (fp_Rp_goingRound) s0.2 y1) (fun s2 s3 hP hb => hP.tr (fr_Rp_goingRound_b2 hb)) (fun s2 x2 hP hb => hP.tr (fr_Rp_goingRound_b2 hb)) n1 s0 y1 h Fr.rf
theorem fr_Rp_goingRound_j101 {v1 : Int32} {v2 : Int32} {Mc : Mm} {oo : (Int32 × Int32) ⊕ (Int32)} (h : Rp_goingRound_j101 v1 v2 = some oo) : Fr (fp_Rp_goingRound) Mc (elS oo (fun s1 => Mc) (fun x1 => Mc)) := by
  unfold Rp_goingRound_j101 at h
  obtain rfl := Option.some.inj h
  try dsimp only [elS]
  repeat' (with_reducible first | exact Fr.rf | refine Fr.I ?_ (by simp [fp_Rp_goingRound]) | refine Fr.L ?_ (by simp [fp_Rp_goingRound]) | refine Fr.cI ?_ (by intro j; simp [fp_Rp_goingRound]) | refine Fr.cL ?_ (by intro j; simp [fp_Rp_goingRound]) | (refine Fr.tr ?_ (frl_Rp_goingRound_b15 (by with_reducible assumption)); try dsimp only) | (refine Fr.tr ?_ (frl_Rp_goingRound_b2 (by with_reducible assumption)); try dsimp only))
theorem fr_Rp_goingRound_b72 {Mc : Mm} {v1 : Int32} {v2 : Int32} {oo : (Int32 × Int32) ⊕ (Int32)} (h : Rp_goingRound_b72 Mc v1 v2 = some oo) : Fr (fp_Rp_goingRound) Mc (elS oo (fun s1 => Mc) (fun x1 => Mc)) := by
  unfold Rp_goingRound_b72 at h
  by_cases g0 : (Mc.1 54 4) ≤ v2
  · have h := (if_pos g0).symm.trans h
    obtain rfl := Option.some.inj h
    try dsimp only [elS]
    repeat' (with_reducible first | exact Fr.rf | refine Fr.I ?_ (by simp [fp_Rp_goingRound]) | refine Fr.L ?_ (by simp [fp_Rp_goingRound]) | refine Fr.cI ?_ (by intro j; simp [fp_Rp_goingRound]) | refine Fr.cL ?_ (by intro j; simp [fp_Rp_goingRound]) | (refine Fr.tr ?_ (frl_Rp_goingRound_b15 (by with_reducible assumption)); try dsimp only) | (refine Fr.tr ?_ (frl_Rp_goingRound_b2 (by with_reducible assumption)); try dsimp only))
  · have h := (if_neg g0).symm.trans h
    obtain ⟨_, h⟩ := grd_s h
    by_cases g0 : ((lushr (Mc.2 91 (tn v2)) v2) &&& (1 : Int64)) = (0 : Int64)
    · have h := (if_pos g0).symm.trans h
      refine Fr.tr ?_ (fr_Rp_goingRound_j101 h)
      try dsimp only [elS]
      repeat' (with_reducible first | exact Fr.rf | refine Fr.I ?_ (by simp [fp_Rp_goingRound]) | refine Fr.L ?_ (by simp [fp_Rp_goingRound]) | refine Fr.cI ?_ (by intro j; simp [fp_Rp_goingRound]) | refine Fr.cL ?_ (by intro j; simp [fp_Rp_goingRound]) | (refine Fr.tr ?_ (frl_Rp_goingRound_b15 (by with_reducible assumption)); try dsimp only) | (refine Fr.tr ?_ (frl_Rp_goingRound_b2 (by with_reducible assumption)); try dsimp only))
    · have h := (if_neg g0).symm.trans h
      refine Fr.tr ?_ (fr_Rp_goingRound_j101 h)
      try dsimp only [elS]
      repeat' (with_reducible first | exact Fr.rf | refine Fr.I ?_ (by simp [fp_Rp_goingRound]) | refine Fr.L ?_ (by simp [fp_Rp_goingRound]) | refine Fr.cI ?_ (by intro j; simp [fp_Rp_goingRound]) | refine Fr.cL ?_ (by intro j; simp [fp_Rp_goingRound]) | (refine Fr.tr ?_ (frl_Rp_goingRound_b15 (by with_reducible assumption)); try dsimp only) | (refine Fr.tr ?_ (frl_Rp_goingRound_b2 (by with_reducible assumption)); try dsimp only))
theorem fr_Rp_goingRound {n : Nat} {M : Mm} {oo : Int32 × Mm} (h : Rp_goingRound n M = some oo) : Fr (fp_Rp_goingRound) M oo.2 := by
  unfold Rp_goingRound at h
  obtain ⟨y9, _, h⟩ := bnd_s h
  obtain ⟨y13, _, h⟩ := bnd_s h
  obtain rfl := Option.some.inj h
  try dsimp only [elS]
  repeat' (with_reducible first | exact Fr.rf | refine Fr.I ?_ (by simp [fp_Rp_goingRound]) | refine Fr.L ?_ (by simp [fp_Rp_goingRound]) | refine Fr.cI ?_ (by intro j; simp [fp_Rp_goingRound]) | refine Fr.cL ?_ (by intro j; simp [fp_Rp_goingRound]) | (refine Fr.tr ?_ (frl_Rp_goingRound_b15 (by with_reducible assumption)); try dsimp only) | (refine Fr.tr ?_ (frl_Rp_goingRound_b2 (by with_reducible assumption)); try dsimp only))
theorem mono_St_clearDemands_0 {s : Nat} : ∀ c j, fp_St_clearSlots s c j → fp_St_clearDemands s c j := fun c j => (fun e => Or.inr (Or.inr (e)))
theorem fr_St_clearDemands_b7 {s : Nat} {v1 : Int32} {M : Mm} {oo : (Int32 × Mm) ⊕ (Mm)} (h : St_clearDemands_b7 s v1 M = some oo) : Fr (fp_St_clearDemands s) M (elS oo (fun s1 => s1.2) (fun x1 => x1)) := by
  unfold St_clearDemands_b7 at h
  by_cases g0 : (40 : Int32) ≤ v1
  · have h := (if_pos g0).symm.trans h
    obtain rfl := Option.some.inj h
    try dsimp only [elS]
    repeat' (with_reducible first | exact Fr.rf | refine Fr.I ?_ (by simp [fp_St_clearDemands]) | refine Fr.L ?_ (by simp [fp_St_clearDemands]) | refine Fr.cI ?_ (by intro j; simp [fp_St_clearDemands]) | refine Fr.cL ?_ (by intro j; simp [fp_St_clearDemands]) | (refine Fr.tr ?_ (Fr.mono (fr_St_clearSlots (by with_reducible assumption)) mono_St_clearDemands_0); try dsimp only))
  · have h := (if_neg g0).symm.trans h
    obtain ⟨_, h⟩ := grd_s h
    obtain rfl := Option.some.inj h
    try dsimp only [elS]
    repeat' (with_reducible first | exact Fr.rf | refine Fr.I ?_ (by simp [fp_St_clearDemands]) | refine Fr.L ?_ (by simp [fp_St_clearDemands]) | refine Fr.cI ?_ (by intro j; simp [fp_St_clearDemands]) | refine Fr.cL ?_ (by intro j; simp [fp_St_clearDemands]) | (refine Fr.tr ?_ (Fr.mono (fr_St_clearSlots (by with_reducible assumption)) mono_St_clearDemands_0); try dsimp only))
theorem frl_St_clearDemands_b7 {s : Nat}  {n1 : Nat} {s0 : Int32 × Mm} {y1 : Mm} (h : loop (fun s1 : Int32 × Mm => St_clearDemands_b7 s s1.1 s1.2) n1 s0 = some y1) : Fr (fp_St_clearDemands s) s0.2 y1 :=
  loop_inv (P := fun s2 : Int32 × Mm => Fr (fp_St_clearDemands s) s0.2 s2.2) (E := fun y1 : Mm => Fr (fp_St_clearDemands s) s0.2 y1) (fun s2 s3 hP hb => hP.tr (fr_St_clearDemands_b7 hb)) (fun s2 x2 hP hb => hP.tr (fr_St_clearDemands_b7 hb)) n1 s0 y1 h Fr.rf
theorem fr_St_clearDemands {n : Nat} {s : Nat} {M : Mm} {oo : Mm} (h : St_clearDemands n s M = some oo) : Fr (fp_St_clearDemands s) M oo := by
  unfold St_clearDemands at h
  obtain ⟨y3, _, h⟩ := bnd_s h
  obtain ⟨z4, _, h⟩ := bnd_s h
  obtain rfl := Option.some.inj h
  try dsimp only [elS]
  repeat' (with_reducible first | exact Fr.rf | refine Fr.I ?_ (by simp [fp_St_clearDemands]) | refine Fr.L ?_ (by simp [fp_St_clearDemands]) | refine Fr.cI ?_ (by intro j; simp [fp_St_clearDemands]) | refine Fr.cL ?_ (by intro j; simp [fp_St_clearDemands]) | (refine Fr.tr ?_ (Fr.mono (fr_St_clearSlots (by with_reducible assumption)) mono_St_clearDemands_0); try dsimp only) | (refine Fr.tr ?_ (frl_St_clearDemands_b7 (by with_reducible assumption)); try dsimp only))
theorem mono_St_beginWith_0 {s : Nat} {o : Nat} : ∀ c j, fp_Nt_copy (s + 1) o c j → fp_St_beginWith s o c j := fun c j => (fun h => h.elim (fun e => Or.inr (Or.inr (Or.inr (Or.inl e)))) (fun h => h.elim (fun e => Or.inr (Or.inr (Or.inr (Or.inr (Or.inl e))))) (fun h => h.elim (fun e => Or.inr (Or.inr (Or.inr (Or.inr (Or.inr (Or.inl e)))))) (fun h => h.elim (fun e => Or.inr (Or.inr (Or.inr (Or.inr (Or.inr (Or.inr (Or.inl e))))))) (fun h => h.elim (fun e => Or.inr (Or.inr (Or.inr (Or.inr (Or.inr (Or.inr (Or.inr (Or.inl e)))))))) (fun h => h.elim (fun e => Or.inr (Or.inr (Or.inr (Or.inr (Or.inr (Or.inr (Or.inr (Or.inr (Or.inl e))))))))) (fun h => h.elim (fun e => Or.inr (Or.inr (Or.inr (Or.inr (Or.inr (Or.inr (Or.inr (Or.inr (Or.inr (Or.inl e)))))))))) (fun h => h.elim (fun e => Or.inr (Or.inr (Or.inr (Or.inr (Or.inr (Or.inr (Or.inr (Or.inr (Or.inr (Or.inr (Or.inl e))))))))))) (fun h => h.elim (fun e => Or.inr (Or.inr (Or.inr (Or.inr (Or.inr (Or.inr (Or.inr (Or.inr (Or.inr (Or.inr (Or.inr (Or.inl e)))))))))))) (fun e => Or.inr (Or.inr (Or.inr (Or.inr (Or.inr (Or.inr (Or.inr (Or.inr (Or.inr (Or.inr (Or.inr (Or.inr (Or.inl e))))))))))))))))))))))
theorem mono_St_beginWith_1 {s : Nat} {o : Nat} : ∀ c j, fp_St_clearDemands s c j → fp_St_beginWith s o c j := fun c j => (fun h => h.elim (fun e => Or.inr (Or.inr (Or.inl e))) (fun h => h.elim (fun e => Or.inr (Or.inr (Or.inr (Or.inr (Or.inr (Or.inr (Or.inr (Or.inr (Or.inr (Or.inr (Or.inr (Or.inr (Or.inr (Or.inl e)))))))))))))) (fun e => Or.inr (Or.inr (Or.inr (Or.inr (Or.inr (Or.inr (Or.inr (Or.inr (Or.inr (Or.inr (Or.inr (Or.inr (Or.inr (Or.inr (e)))))))))))))))))
theorem fr_St_beginWith {n : Nat} {s : Nat} {o : Nat} {M : Mm} {oo : Mm} (h : St_beginWith n s o M = some oo) : Fr (fp_St_beginWith s o) M oo := by
  unfold St_beginWith at h
  obtain ⟨z1, _, h⟩ := bnd_s h
  obtain ⟨z3, _, h⟩ := bnd_s h
  obtain rfl := Option.some.inj h
  try dsimp only [elS]
  repeat' (with_reducible first | exact Fr.rf | refine Fr.I ?_ (by simp [fp_St_beginWith]) | refine Fr.L ?_ (by simp [fp_St_beginWith]) | refine Fr.cI ?_ (by intro j; simp [fp_St_beginWith]) | refine Fr.cL ?_ (by intro j; simp [fp_St_beginWith]) | (refine Fr.tr ?_ (Fr.mono (fr_Nt_copy (by with_reducible assumption)) mono_St_beginWith_0); try dsimp only) | (refine Fr.tr ?_ (Fr.mono (fr_St_clearDemands (by with_reducible assumption)) mono_St_beginWith_1); try dsimp only))
theorem fr_St_add {s : Nat} {v1 : Int32} {v2 : Int32} {v3 : Int32} {M : Mm} {oo : Int32 × Mm} (h : St_add s v1 v2 v3 M = some oo) : Fr (fp_St_add s) M oo.2 := by
  unfold St_add at h
  obtain ⟨_, h⟩ := grd_s h
  obtain ⟨_, h⟩ := grd_s h
  obtain ⟨_, h⟩ := grd_s h
  obtain ⟨_, h⟩ := grd_s h
  obtain ⟨_, h⟩ := grd_s h
  obtain rfl := Option.some.inj h
  try dsimp only [elS]
  repeat' (with_reducible first | exact Fr.rf | refine Fr.I ?_ (by simp [fp_St_add]) | refine Fr.L ?_ (by simp [fp_St_add]) | refine Fr.cI ?_ (by intro j; simp [fp_St_add]) | refine Fr.cL ?_ (by intro j; simp [fp_St_add]))
theorem fr_St_orderByFirst_j79 {v1 : Int32} {v2 : Int32} {M : Mm} {s : Nat} {oo : (Int32 × Int32 × Mm) ⊕ (Int32 × Mm)} (h : St_orderByFirst_j79 v1 v2 M = some oo) : Fr (fp_St_orderByFirst s) M (elS oo (fun s1 => s1.2.2) (fun x1 => x1.2)) := by
  unfold St_orderByFirst_j79 at h
  obtain rfl := Option.some.inj h
  try dsimp only [elS]
  repeat' (with_reducible first | exact Fr.rf | refine Fr.I ?_ (by simp [fp_St_orderByFirst]) | refine Fr.L ?_ (by simp [fp_St_orderByFirst]) | refine Fr.cI ?_ (by intro j; simp [fp_St_orderByFirst]) | refine Fr.cL ?_ (by intro j; simp [fp_St_orderByFirst]))
theorem fr_St_orderByFirst_b23 {s : Nat} {c2 : Int32} {v3 : Int32} {M : Mm} {oo : (Int32 × Mm) ⊕ (Int32 × Mm)} (h : St_orderByFirst_b23 s c2 v3 M = some oo) : Fr (fp_St_orderByFirst s) M (elS oo (fun s1 => s1.2) (fun x1 => x1.2)) := by
  unfold St_orderByFirst_b23 at h
  by_cases g0 : v3 ≤ (0 : Int32)
  · have h := (if_pos g0).symm.trans h
    obtain rfl := Option.some.inj h
    try dsimp only [elS]
    repeat' (with_reducible first | exact Fr.rf | refine Fr.I ?_ (by simp [fp_St_orderByFirst]) | refine Fr.L ?_ (by simp [fp_St_orderByFirst]) | refine Fr.cI ?_ (by intro j; simp [fp_St_orderByFirst]) | refine Fr.cL ?_ (by intro j; simp [fp_St_orderByFirst]))
  · have h := (if_neg g0).symm.trans h
    obtain ⟨_, h⟩ := grd_s h
    obtain ⟨_, h⟩ := grd_s h
    obtain ⟨_, h⟩ := grd_s h
    by_cases g0 : (M.1 (s + 13) (tn (M.1 (s + 17) (tn (v3 - (1 : Int32)))))) ≤ (M.1 (s + 13) (tn c2))
    · have h := (if_pos g0).symm.trans h
      obtain rfl := Option.some.inj h
      try dsimp only [elS]
      repeat' (with_reducible first | exact Fr.rf | refine Fr.I ?_ (by simp [fp_St_orderByFirst]) | refine Fr.L ?_ (by simp [fp_St_orderByFirst]) | refine Fr.cI ?_ (by intro j; simp [fp_St_orderByFirst]) | refine Fr.cL ?_ (by intro j; simp [fp_St_orderByFirst]))
    · have h := (if_neg g0).symm.trans h
      obtain ⟨_, h⟩ := grd_s h
      obtain ⟨_, h⟩ := grd_s h
      obtain rfl := Option.some.inj h
      try dsimp only [elS]
      repeat' (with_reducible first | exact Fr.rf | refine Fr.I ?_ (by simp [fp_St_orderByFirst]) | refine Fr.L ?_ (by simp [fp_St_orderByFirst]) | refine Fr.cI ?_ (by intro j; simp [fp_St_orderByFirst]) | refine Fr.cL ?_ (by intro j; simp [fp_St_orderByFirst]))
theorem frl_St_orderByFirst_b23 {s : Nat} {c2 : Int32}  {n1 : Nat} {s0 : Int32 × Mm} {y1 : Int32 × Mm} (h : loop (fun s1 : Int32 × Mm => St_orderByFirst_b23 s c2 s1.1 s1.2) n1 s0 = some y1) : Fr (fp_St_orderByFirst s) s0.2 y1.2 :=
  loop_inv (P := fun s2 : Int32 × Mm => Fr (fp_St_orderByFirst s) s0.2 s2.2) (E := fun y1 : Int32 × Mm => Fr (fp_St_orderByFirst s) s0.2 y1.2) (fun s2 s3 hP hb => hP.tr (fr_St_orderByFirst_b23 hb)) (fun s2 x2 hP hb => hP.tr (fr_St_orderByFirst_b23 hb)) n1 s0 y1 h Fr.rf
theorem fr_St_orderByFirst_j69 {s : Nat} {v1 : Int32} {v2 : Int32} {v3 : Int32} {M : Mm} {oo : (Int32 × Int32 × Mm) ⊕ (Int32 × Mm)} (h : St_orderByFirst_j69 s v1 v2 v3 M = some oo) : Fr (fp_St_orderByFirst s) M (elS oo (fun s1 => s1.2.2) (fun x1 => x1.2)) := by
  unfold St_orderByFirst_j69 at h
  obtain ⟨_, h⟩ := grd_s h
  refine Fr.tr ?_ (fr_St_orderByFirst_j79 h)
  try dsimp only [elS]
  repeat' (with_reducible first | exact Fr.rf | refine Fr.I ?_ (by simp [fp_St_orderByFirst]) | refine Fr.L ?_ (by simp [fp_St_orderByFirst]) | refine Fr.cI ?_ (by intro j; simp [fp_St_orderByFirst]) | refine Fr.cL ?_ (by intro j; simp [fp_St_orderByFirst]) | (refine Fr.tr ?_ (frl_St_orderByFirst_b23 (by with_reducible assumption)); try dsimp only))
theorem fr_St_orderByFirst_b4 {n : Nat} {s : Nat} {v1 : Int32} {v2 : Int32} {M : Mm} {oo : (Int32 × Int32 × Mm) ⊕ (Int32 × Mm)} (h : St_orderByFirst_b4 n s v1 v2 M = some oo) : Fr (fp_St_orderByFirst s) M (elS oo (fun s1 => s1.2.2) (fun x1 => x1.2)) := by
  unfold St_orderByFirst_b4 at h
  by_cases g0 : (M.1 s 4) ≤ v2
  · have h := (if_pos g0).symm.trans h
    obtain rfl := Option.some.inj h
    try dsimp only [elS]
    repeat' (with_reducible first | exact Fr.rf | refine Fr.I ?_ (by simp [fp_St_orderByFirst]) | refine Fr.L ?_ (by simp [fp_St_orderByFirst]) | refine Fr.cI ?_ (by intro j; simp [fp_St_orderByFirst]) | refine Fr.cL ?_ (by intro j; simp [fp_St_orderByFirst]) | (refine Fr.tr ?_ (frl_St_orderByFirst_b23 (by with_reducible assumption)); try dsimp only))
  · have h := (if_neg g0).symm.trans h
    obtain ⟨_, h⟩ := grd_s h
    by_cases g0 : (M.1 (s + 10) (tn v2)) = (0 : Int32)
    · have h := (if_pos g0).symm.trans h
      obtain ⟨y11, _, h⟩ := bnd_s h
      refine Fr.tr ?_ (fr_St_orderByFirst_j69 h)
      try dsimp only [elS]
      repeat' (with_reducible first | exact Fr.rf | refine Fr.I ?_ (by simp [fp_St_orderByFirst]) | refine Fr.L ?_ (by simp [fp_St_orderByFirst]) | refine Fr.cI ?_ (by intro j; simp [fp_St_orderByFirst]) | refine Fr.cL ?_ (by intro j; simp [fp_St_orderByFirst]) | (refine Fr.tr ?_ (frl_St_orderByFirst_b23 (by with_reducible assumption)); try dsimp only))
    · have h := (if_neg g0).symm.trans h
      refine Fr.tr ?_ (fr_St_orderByFirst_j79 h)
      try dsimp only [elS]
      repeat' (with_reducible first | exact Fr.rf | refine Fr.I ?_ (by simp [fp_St_orderByFirst]) | refine Fr.L ?_ (by simp [fp_St_orderByFirst]) | refine Fr.cI ?_ (by intro j; simp [fp_St_orderByFirst]) | refine Fr.cL ?_ (by intro j; simp [fp_St_orderByFirst]) | (refine Fr.tr ?_ (frl_St_orderByFirst_b23 (by with_reducible assumption)); try dsimp only))
theorem frl_St_orderByFirst_b4 {n : Nat} {s : Nat}  {n1 : Nat} {s0 : Int32 × Int32 × Mm} {y1 : Int32 × Mm} (h : loop (fun s1 : Int32 × Int32 × Mm => St_orderByFirst_b4 n s s1.1 s1.2.1 s1.2.2) n1 s0 = some y1) : Fr (fp_St_orderByFirst s) s0.2.2 y1.2 :=
  loop_inv (P := fun s2 : Int32 × Int32 × Mm => Fr (fp_St_orderByFirst s) s0.2.2 s2.2.2) (E := fun y1 : Int32 × Mm => Fr (fp_St_orderByFirst s) s0.2.2 y1.2) (fun s2 s3 hP hb => hP.tr (fr_St_orderByFirst_b4 hb)) (fun s2 x2 hP hb => hP.tr (fr_St_orderByFirst_b4 hb)) n1 s0 y1 h Fr.rf
theorem fr_St_orderByFirst {n : Nat} {s : Nat} {M : Mm} {oo : Int32 × Mm} (h : St_orderByFirst n s M = some oo) : Fr (fp_St_orderByFirst s) M oo.2 := by
  unfold St_orderByFirst at h
  obtain ⟨y13, _, h⟩ := bnd_s h
  obtain rfl := Option.some.inj h
  try dsimp only [elS]
  repeat' (with_reducible first | exact Fr.rf | refine Fr.I ?_ (by simp [fp_St_orderByFirst]) | refine Fr.L ?_ (by simp [fp_St_orderByFirst]) | refine Fr.cI ?_ (by intro j; simp [fp_St_orderByFirst]) | refine Fr.cL ?_ (by intro j; simp [fp_St_orderByFirst]) | (refine Fr.tr ?_ (frl_St_orderByFirst_b23 (by with_reducible assumption)); try dsimp only) | (refine Fr.tr ?_ (frl_St_orderByFirst_b4 (by with_reducible assumption)); try dsimp only))
theorem mono_St_sever_0 {s : Nat} : ∀ c j, fp_St_takeOff s c j → fp_St_sever s c j := fun c j => (fun h => h.elim (fun e => Or.inr (Or.inl e)) (fun e => Or.inr (Or.inr (e))))
theorem fr_St_sever_j57 {v2 : Int32} {v3 : Int32} {M : Mm} {s : Nat} {oo : (Int32 × Int32 × Mm) ⊕ (Int32 × Mm)} (h : St_sever_j57 v2 v3 M = some oo) : Fr (fp_St_sever s) M (elS oo (fun s1 => s1.2.2) (fun x1 => x1.2)) := by
  unfold St_sever_j57 at h
  obtain rfl := Option.some.inj h
  try dsimp only [elS]
  repeat' (with_reducible first | exact Fr.rf | refine Fr.I ?_ (by simp [fp_St_sever]) | refine Fr.L ?_ (by simp [fp_St_sever]) | refine Fr.cI ?_ (by intro j; simp [fp_St_sever]) | refine Fr.cL ?_ (by intro j; simp [fp_St_sever]) | (refine Fr.tr ?_ (Fr.mono (fr_St_takeOff (by with_reducible assumption)) mono_St_sever_0); try dsimp only))
theorem fr_St_sever_b18 {n : Nat} {s : Nat} {c1 : Int32} {v2 : Int32} {v3 : Int32} {M : Mm} {oo : (Int32 × Int32 × Mm) ⊕ (Int32 × Mm)} (h : St_sever_b18 n s c1 v2 v3 M = some oo) : Fr (fp_St_sever s) M (elS oo (fun s1 => s1.2.2) (fun x1 => x1.2)) := by
  unfold St_sever_b18 at h
  by_cases g0 : (M.1 s 4) ≤ v3
  · have h := (if_pos g0).symm.trans h
    obtain rfl := Option.some.inj h
    try dsimp only [elS]
    repeat' (with_reducible first | exact Fr.rf | refine Fr.I ?_ (by simp [fp_St_sever]) | refine Fr.L ?_ (by simp [fp_St_sever]) | refine Fr.cI ?_ (by intro j; simp [fp_St_sever]) | refine Fr.cL ?_ (by intro j; simp [fp_St_sever]) | (refine Fr.tr ?_ (Fr.mono (fr_St_takeOff (by with_reducible assumption)) mono_St_sever_0); try dsimp only))
  · have h := (if_neg g0).symm.trans h
    obtain ⟨_, h⟩ := grd_s h
    by_cases g0 : (M.1 (s + 10) (tn v3)) = (0 : Int32)
    · have h := (if_pos g0).symm.trans h
      obtain ⟨_, h⟩ := grd_s h
      by_cases g0 : ((ushr (M.1 (s + 12) (tn v3)) c1) &&& (1 : Int32)) = (0 : Int32)
      · have h := (if_pos g0).symm.trans h
        refine Fr.tr ?_ (fr_St_sever_j57 h)
        try dsimp only [elS]
        repeat' (with_reducible first | exact Fr.rf | refine Fr.I ?_ (by simp [fp_St_sever]) | refine Fr.L ?_ (by simp [fp_St_sever]) | refine Fr.cI ?_ (by intro j; simp [fp_St_sever]) | refine Fr.cL ?_ (by intro j; simp [fp_St_sever]) | (refine Fr.tr ?_ (Fr.mono (fr_St_takeOff (by with_reducible assumption)) mono_St_sever_0); try dsimp only))
      · have h := (if_neg g0).symm.trans h
        obtain ⟨z6, _, h⟩ := bnd_s h
        refine Fr.tr ?_ (fr_St_sever_j57 h)
        try dsimp only [elS]
        repeat' (with_reducible first | exact Fr.rf | refine Fr.I ?_ (by simp [fp_St_sever]) | refine Fr.L ?_ (by simp [fp_St_sever]) | refine Fr.cI ?_ (by intro j; simp [fp_St_sever]) | refine Fr.cL ?_ (by intro j; simp [fp_St_sever]) | (refine Fr.tr ?_ (Fr.mono (fr_St_takeOff (by with_reducible assumption)) mono_St_sever_0); try dsimp only))
    · have h := (if_neg g0).symm.trans h
      refine Fr.tr ?_ (fr_St_sever_j57 h)
      try dsimp only [elS]
      repeat' (with_reducible first | exact Fr.rf | refine Fr.I ?_ (by simp [fp_St_sever]) | refine Fr.L ?_ (by simp [fp_St_sever]) | refine Fr.cI ?_ (by intro j; simp [fp_St_sever]) | refine Fr.cL ?_ (by intro j; simp [fp_St_sever]) | (refine Fr.tr ?_ (Fr.mono (fr_St_takeOff (by with_reducible assumption)) mono_St_sever_0); try dsimp only))
theorem frl_St_sever_b18 {n : Nat} {s : Nat} {c1 : Int32}  {n1 : Nat} {s0 : Int32 × Int32 × Mm} {y1 : Int32 × Mm} (h : loop (fun s1 : Int32 × Int32 × Mm => St_sever_b18 n s c1 s1.1 s1.2.1 s1.2.2) n1 s0 = some y1) : Fr (fp_St_sever s) s0.2.2 y1.2 :=
  loop_inv (P := fun s2 : Int32 × Int32 × Mm => Fr (fp_St_sever s) s0.2.2 s2.2.2) (E := fun y1 : Int32 × Mm => Fr (fp_St_sever s) s0.2.2 y1.2) (fun s2 s3 hP hb => hP.tr (fr_St_sever_b18 hb)) (fun s2 x2 hP hb => hP.tr (fr_St_sever_b18 hb)) n1 s0 y1 h Fr.rf
theorem fr_St_sever {n : Nat} {s : Nat} {v1 : Int32} {M : Mm} {oo : Int32 × Mm} (h : St_sever n s v1 M = some oo) : Fr (fp_St_sever s) M oo.2 := by
  unfold St_sever at h
  obtain ⟨y8, _, h⟩ := bnd_s h
  obtain rfl := Option.some.inj h
  try dsimp only [elS]
  repeat' (with_reducible first | exact Fr.rf | refine Fr.I ?_ (by simp [fp_St_sever]) | refine Fr.L ?_ (by simp [fp_St_sever]) | refine Fr.cI ?_ (by intro j; simp [fp_St_sever]) | refine Fr.cL ?_ (by intro j; simp [fp_St_sever]) | (refine Fr.tr ?_ (Fr.mono (fr_St_takeOff (by with_reducible assumption)) mono_St_sever_0); try dsimp only) | (refine Fr.tr ?_ (frl_St_sever_b18 (by with_reducible assumption)); try dsimp only))
