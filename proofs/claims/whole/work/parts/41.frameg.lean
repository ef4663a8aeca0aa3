theorem mono_Fg_greatestFitting_0  : ∀ c j, fp_Fi_find 54 c j → fp_Fg_greatestFitting c j := fun c j => (fun h => h.elim (fun e => Or.inl e) (fun h => h.elim (fun e => Or.inr (Or.inl e)) (fun h => h.elim (fun e => Or.inr (Or.inr (Or.inl e))) (fun h => h.elim (fun e => Or.inr (Or.inr (Or.inr (Or.inl e)))) (fun h => h.elim (fun e => Or.inr (Or.inr (Or.inr (Or.inr (Or.inl e))))) (fun h => h.elim (fun e => Or.inr (Or.inr (Or.inr (Or.inr (Or.inr (Or.inl e)))))) (fun h => h.elim (fun e => Or.inr (Or.inr (Or.inr (Or.inr (Or.inr (Or.inr (Or.inl e))))))) (fun h => h.elim (fun e => Or.inr (Or.inr (Or.inr (Or.inr (Or.inr (Or.inr (Or.inr (Or.inl e)))))))) (fun h => h.elim (fun e => Or.inr (Or.inr (Or.inr (Or.inr (Or.inr (Or.inr (Or.inr (Or.inr (Or.inl e))))))))) (fun h => h.elim (fun e => Or.inr (Or.inr (Or.inr (Or.inr (Or.inr (Or.inr (Or.inr (Or.inr (Or.inr (Or.inl e)))))))))) (fun h => h.elim (fun e => Or.inr (Or.inr (Or.inr (Or.inr (Or.inr (Or.inr (Or.inr (Or.inr (Or.inr (Or.inr (Or.inl e))))))))))) (fun h => h.elim (fun e => Or.inr (Or.inr (Or.inr (Or.inr (Or.inr (Or.inr (Or.inr (Or.inr (Or.inr (Or.inr (Or.inr (Or.inl e)))))))))))) (fun e => Or.inr (Or.inr (Or.inr (Or.inr (Or.inr (Or.inr (Or.inr (Or.inr (Or.inr (Or.inr (Or.inr (Or.inr (e)))))))))))))))))))))))))
theorem fr_Fg_greatestFitting_b3 {n : Nat} {c1 : Int32} {c2 : Int32} {c4 : Int32} {v5 : Int32} {M : Mm} {oo : (Int32 × Mm) ⊕ ((Mm) ⊕ (Int32 × Mm))} (h : Fg_greatestFitting_b3 n c1 c2 c4 v5 M = some oo) : Fr (fp_Fg_greatestFitting) M (elS oo (fun s1 => s1.2) (fun y1 => elS y1 (fun x1 => x1) (fun z1 => z1.2))) := by
  unfold Fg_greatestFitting_b3 at h
  by_cases g0 : v5 ≤ (0 : Int32)
  · have h := (if_pos g0).symm.trans h
    obtain rfl := Option.some.inj h
    try dsimp only [elS]
    repeat' (with_reducible first | exact Fr.rf | refine Fr.I ?_ (by simp [fp_Fg_greatestFitting]) | refine Fr.L ?_ (by simp [fp_Fg_greatestFitting]) | refine Fr.cI ?_ (by intro j; simp [fp_Fg_greatestFitting]) | refine Fr.cL ?_ (by intro j; simp [fp_Fg_greatestFitting]) | (refine Fr.tr ?_ (Fr.mono (fr_Fi_find (by with_reducible assumption)) mono_Fg_greatestFitting_0); try dsimp only))
  · have h := (if_neg g0).symm.trans h
    obtain ⟨z2, _, h⟩ := bnd_s h
    by_cases g0 : z2.1 = true
    · have h := (if_pos g0).symm.trans h
      obtain rfl := Option.some.inj h
      try dsimp only [elS]
      repeat' (with_reducible first | exact Fr.rf | refine Fr.I ?_ (by simp [fp_Fg_greatestFitting]) | refine Fr.L ?_ (by simp [fp_Fg_greatestFitting]) | refine Fr.cI ?_ (by intro j; simp [fp_Fg_greatestFitting]) | refine Fr.cL ?_ (by intro j; simp [fp_Fg_greatestFitting]) | (refine Fr.tr ?_ (Fr.mono (fr_Fi_find (by with_reducible assumption)) mono_Fg_greatestFitting_0); try dsimp only))
    · have h := (if_neg g0).symm.trans h
      obtain rfl := Option.some.inj h
      try dsimp only [elS]
      repeat' (with_reducible first | exact Fr.rf | refine Fr.I ?_ (by simp [fp_Fg_greatestFitting]) | refine Fr.L ?_ (by simp [fp_Fg_greatestFitting]) | refine Fr.cI ?_ (by intro j; simp [fp_Fg_greatestFitting]) | refine Fr.cL ?_ (by intro j; simp [fp_Fg_greatestFitting]) | (refine Fr.tr ?_ (Fr.mono (fr_Fi_find (by with_reducible assumption)) mono_Fg_greatestFitting_0); try dsimp only))
theorem frl_Fg_greatestFitting_b3 {n : Nat} {c1 : Int32} {c2 : Int32} {c4 : Int32}  {n1 : Nat} {s0 : Int32 × Mm} {y1 : (Mm) ⊕ (Int32 × Mm)} (h : loop (fun s1 : Int32 × Mm => Fg_greatestFitting_b3 n c1 c2 c4 s1.1 s1.2) n1 s0 = some y1) : Fr (fp_Fg_greatestFitting) s0.2 (elS y1 (fun x1 => x1) (fun z1 => z1.2)) :=
  loop_inv (P := fun s2 : Int32 × Mm => Fr (fp_Fg_greatestFitting) s0.2 s2.2) (E := fun y1 : (Mm) ⊕ (Int32 × Mm) => Fr (fp_Fg_greatestFitting) s0.2 (elS y1 (fun x1 => x1) (fun z1 => z1.2))) (fun s2 s3 hP hb => hP.tr (fr_Fg_greatestFitting_b3 hb)) (fun s2 x2 hP hb => hP.tr (fr_Fg_greatestFitting_b3 hb)) n1 s0 y1 h Fr.rf
theorem fr_Fg_greatestFitting {n : Nat} {v1 : Int32} {v2 : Int32} {v3 : Int32} {v4 : Int32} {M : Mm} {oo : Int32 × Mm} (h : Fg_greatestFitting n v1 v2 v3 v4 M = some oo) : Fr (fp_Fg_greatestFitting) M oo.2 := by
  unfold Fg_greatestFitting at h
  obtain ⟨y5, _, h⟩ := bnd_s h
  cases y5 with
  | inl x6 =>
    obtain rfl := Option.some.inj h
    try dsimp only [elS]
    repeat' (with_reducible first | exact Fr.rf | refine Fr.I ?_ (by simp [fp_Fg_greatestFitting]) | refine Fr.L ?_ (by simp [fp_Fg_greatestFitting]) | refine Fr.cI ?_ (by intro j; simp [fp_Fg_greatestFitting]) | refine Fr.cL ?_ (by intro j; simp [fp_Fg_greatestFitting]) | (refine Fr.tr ?_ (Fr.mono (fr_Fi_find (by with_reducible assumption)) mono_Fg_greatestFitting_0); try dsimp only) | (refine Fr.tr ?_ (frl_Fg_greatestFitting_b3 (by with_reducible assumption)); try dsimp only))
  | inr e7 =>
    obtain rfl := Option.some.inj h
    try dsimp only [elS]
    repeat' (with_reducible first | exact Fr.rf | refine Fr.I ?_ (by simp [fp_Fg_greatestFitting]) | refine Fr.L ?_ (by simp [fp_Fg_greatestFitting]) | refine Fr.cI ?_ (by intro j; simp [fp_Fg_greatestFitting]) | refine Fr.cL ?_ (by intro j; simp [fp_Fg_greatestFitting]) | (refine Fr.tr ?_ (Fr.mono (fr_Fi_find (by with_reducible assumption)) mono_Fg_greatestFitting_0); try dsimp only) | (refine Fr.tr ?_ (frl_Fg_greatestFitting_b3 (by with_reducible assumption)); try dsimp only))
theorem mono_Fg_parts_0  : ∀ c j, fp_Fg_greatestFitting c j → fp_Fg_parts c j := fun c j => (fun h => h.elim (fun e => Or.inl e) (fun h => h.elim (fun e => Or.inr (Or.inl e)) (fun h => h.elim (fun e => Or.inr (Or.inr (Or.inl e))) (fun h => h.elim (fun e => Or.inr (Or.inr (Or.inr (Or.inl e)))) (fun h => h.elim (fun e => Or.inr (Or.inr (Or.inr (Or.inr (Or.inl e))))) (fun h => h.elim (fun e => Or.inr (Or.inr (Or.inr (Or.inr (Or.inr (Or.inl e)))))) (fun h => h.elim (fun e => Or.inr (Or.inr (Or.inr (Or.inr (Or.inr (Or.inr (Or.inl e))))))) (fun h => h.elim (fun e => Or.inr (Or.inr (Or.inr (Or.inr (Or.inr (Or.inr (Or.inr (Or.inl e)))))))) (fun h => h.elim (fun e => Or.inr (Or.inr (Or.inr (Or.inr (Or.inr (Or.inr (Or.inr (Or.inr (Or.inl e))))))))) (fun h => h.elim (fun e => Or.inr (Or.inr (Or.inr (Or.inr (Or.inr (Or.inr (Or.inr (Or.inr (Or.inr (Or.inl e)))))))))) (fun h => h.elim (fun e => Or.inr (Or.inr (Or.inr (Or.inr (Or.inr (Or.inr (Or.inr (Or.inr (Or.inr (Or.inr (Or.inl e))))))))))) (fun h => h.elim (fun e => Or.inr (Or.inr (Or.inr (Or.inr (Or.inr (Or.inr (Or.inr (Or.inr (Or.inr (Or.inr (Or.inr (Or.inl e)))))))))))) (fun e => Or.inr (Or.inr (Or.inr (Or.inr (Or.inr (Or.inr (Or.inr (Or.inr (Or.inr (Or.inr (Or.inr (Or.inr (Or.inl e)))))))))))))))))))))))))
theorem mono_Fg_parts_1  : ∀ c j, fp_St_copy 54 18 c j → fp_Fg_parts c j := fun c j => (fun h => h.elim (fun e => Or.inr (Or.inr (Or.inr (Or.inr (Or.inr (Or.inr (Or.inr (Or.inr (Or.inr (Or.inr (Or.inr (Or.inr (Or.inr (Or.inl e)))))))))))))) (fun h => h.elim (fun e => Or.inr (Or.inr (Or.inr (Or.inr (Or.inr (Or.inr (Or.inr (Or.inr (Or.inr (Or.inr (Or.inr (Or.inr (Or.inr (Or.inr (Or.inl e))))))))))))))) (fun h => h.elim (fun e => Or.inr (Or.inr (Or.inr (Or.inr (Or.inr (Or.inr (Or.inr (Or.inr (Or.inr (Or.inr (Or.inr (Or.inr (Or.inr (Or.inr (Or.inr (Or.inl e)))))))))))))))) (fun h => h.elim (fun e => Or.inr (Or.inr (Or.inr (Or.inr (Or.inr (Or.inr (Or.inr (Or.inr (Or.inr (Or.inr (Or.inr (Or.inr (Or.inr (Or.inr (Or.inr (Or.inr (Or.inl e))))))))))))))))) (fun h => h.elim (fun e => Or.inr (Or.inr (Or.inr (Or.inr (Or.inr (Or.inr (Or.inr (Or.inr (Or.inr (Or.inr (Or.inr (Or.inr (Or.inr (Or.inr (Or.inr (Or.inr (Or.inr (Or.inl e)))))))))))))))))) (fun h => h.elim (fun e => Or.inr (Or.inr (Or.inr (Or.inr (Or.inr (Or.inr (Or.inr (Or.inr (Or.inr (Or.inr (Or.inr (Or.inr (Or.inr (Or.inr (Or.inr (Or.inr (Or.inr (Or.inr (Or.inl e))))))))))))))))))) (fun h => h.elim (fun e => Or.inr (Or.inr (Or.inr (Or.inr (Or.inr (Or.inr (Or.inr (Or.inr (Or.inr (Or.inr (Or.inr (Or.inr (Or.inr (Or.inr (Or.inr (Or.inr (Or.inr (Or.inr (Or.inr (Or.inl e)))))))))))))))))))) (fun h => h.elim (fun e => Or.inr (Or.inr (Or.inr (Or.inr (Or.inr (Or.inr (Or.inr (Or.inr (Or.inr (Or.inr (Or.inr (Or.inr (Or.inr (Or.inr (Or.inr (Or.inr (Or.inr (Or.inr (Or.inr (Or.inr (Or.inl e))))))))))))))))))))) (fun h => h.elim (fun e => Or.inr (Or.inr (Or.inr (Or.inr (Or.inr (Or.inr (Or.inr (Or.inr (Or.inr (Or.inr (Or.inr (Or.inr (Or.inr (Or.inr (Or.inr (Or.inr (Or.inr (Or.inr (Or.inr (Or.inr (Or.inr (Or.inl e)))))))))))))))))))))) (fun h => h.elim (fun e => Or.inr (Or.inr (Or.inr (Or.inr (Or.inr (Or.inr (Or.inr (Or.inr (Or.inr (Or.inr (Or.inr (Or.inr (Or.inr (Or.inr (Or.inr (Or.inr (Or.inr (Or.inr (Or.inr (Or.inr (Or.inr (Or.inr (Or.inl e))))))))))))))))))))))) (fun h => h.elim (fun e => Or.inr (Or.inr (Or.inr (Or.inr (Or.inr (Or.inr (Or.inr (Or.inr (Or.inr (Or.inr (Or.inr (Or.inr (Or.inr (Or.inr (Or.inr (Or.inr (Or.inr (Or.inr (Or.inr (Or.inr (Or.inr (Or.inr (Or.inr (Or.inl e)))))))))))))))))))))))) (fun h => h.elim (fun e => Or.inr (Or.inr (Or.inr (Or.inr (Or.inr (Or.inr (Or.inr (Or.inr (Or.inr (Or.inr (Or.inr (Or.inr (Or.inr (Or.inr (Or.inr (Or.inr (Or.inr (Or.inr (Or.inr (Or.inr (Or.inr (Or.inr (Or.inr (Or.inr (Or.inl e))))))))))))))))))))))))) (fun h => h.elim (fun e => Or.inr (Or.inr (Or.inr (Or.inr (Or.inr (Or.inr (Or.inr (Or.inr (Or.inr (Or.inr (Or.inr (Or.inr (Or.inr (Or.inr (Or.inr (Or.inr (Or.inr (Or.inr (Or.inr (Or.inr (Or.inr (Or.inr (Or.inr (Or.inr (Or.inr (Or.inl e)))))))))))))))))))))))))) (fun h => h.elim (fun e => Or.inr (Or.inr (Or.inr (Or.inr (Or.inr (Or.inr (Or.inr (Or.inr (Or.inr (Or.inr (Or.inr (Or.inr (Or.inr (Or.inr (Or.inr (Or.inr (Or.inr (Or.inr (Or.inr (Or.inr (Or.inr (Or.inr (Or.inr (Or.inr (Or.inr (Or.inr (Or.inl e))))))))))))))))))))))))))) (fun h => h.elim (fun e => Or.inr (Or.inr (Or.inr (Or.inr (Or.inr (Or.inr (Or.inr (Or.inr (Or.inr (Or.inr (Or.inr (Or.inr (Or.inr (Or.inr (Or.inr (Or.inr (Or.inr (Or.inr (Or.inr (Or.inr (Or.inr (Or.inr (Or.inr (Or.inr (Or.inr (Or.inr (Or.inr (Or.inl e)))))))))))))))))))))))))))) (fun h => h.elim (fun e => Or.inr (Or.inr (Or.inr (Or.inr (Or.inr (Or.inr (Or.inr (Or.inr (Or.inr (Or.inr (Or.inr (Or.inr (Or.inr (Or.inr (Or.inr (Or.inr (Or.inr (Or.inr (Or.inr (Or.inr (Or.inr (Or.inr (Or.inr (Or.inr (Or.inr (Or.inr (Or.inr (Or.inr (Or.inl e))))))))))))))))))))))))))))) (fun h => h.elim (fun e => Or.inr (Or.inr (Or.inr (Or.inr (Or.inr (Or.inr (Or.inr (Or.inr (Or.inr (Or.inr (Or.inr (Or.inr (Or.inr (Or.inr (Or.inr (Or.inr (Or.inr (Or.inr (Or.inr (Or.inr (Or.inr (Or.inr (Or.inr (Or.inr (Or.inr (Or.inr (Or.inr (Or.inr (Or.inr (Or.inl e)))))))))))))))))))))))))))))) (fun h => h.elim (fun e => Or.inr (Or.inr (Or.inr (Or.inr (Or.inr (Or.inr (Or.inr (Or.inr (Or.inr (Or.inr (Or.inr (Or.inr (Or.inr (Or.inr (Or.inr (Or.inr (Or.inr (Or.inr (Or.inr (Or.inr (Or.inr (Or.inr (Or.inr (Or.inr (Or.inr (Or.inr (Or.inr (Or.inr (Or.inr (Or.inr (Or.inl e))))))))))))))))))))))))))))))) (fun h => h.elim (fun e => Or.inr (Or.inr (Or.inr (Or.inr (Or.inr (Or.inr (Or.inr (Or.inr (Or.inr (Or.inr (Or.inr (Or.inr (Or.inr (Or.inr (Or.inr (Or.inr (Or.inr (Or.inr (Or.inr (Or.inr (Or.inr (Or.inr (Or.inr (Or.inr (Or.inr (Or.inr (Or.inr (Or.inr (Or.inr (Or.inr (Or.inr (Or.inl e)))))))))))))))))))))))))))))))) (fun h => h.elim (fun e => Or.inr (Or.inr (Or.inr (Or.inr (Or.inr (Or.inr (Or.inr (Or.inr (Or.inr (Or.inr (Or.inr (Or.inr (Or.inr (Or.inr (Or.inr (Or.inr (Or.inr (Or.inr (Or.inr (Or.inr (Or.inr (Or.inr (Or.inr (Or.inr (Or.inr (Or.inr (Or.inr (Or.inr (Or.inr (Or.inr (Or.inr (Or.inr (Or.inl e))))))))))))))))))))))))))))))))) (fun h => h.elim (fun e => Or.inr (Or.inr (Or.inr (Or.inr (Or.inr (Or.inr (Or.inr (Or.inr (Or.inr (Or.inr (Or.inr (Or.inr (Or.inr (Or.inr (Or.inr (Or.inr (Or.inr (Or.inr (Or.inr (Or.inr (Or.inr (Or.inr (Or.inr (Or.inr (Or.inr (Or.inr (Or.inr (Or.inr (Or.inr (Or.inr (Or.inr (Or.inr (Or.inr (Or.inl e)))))))))))))))))))))))))))))))))) (fun h => h.elim (fun e => Or.inr (Or.inr (Or.inr (Or.inr (Or.inr (Or.inr (Or.inr (Or.inr (Or.inr (Or.inr (Or.inr (Or.inr (Or.inr (Or.inr (Or.inr (Or.inr (Or.inr (Or.inr (Or.inr (Or.inr (Or.inr (Or.inr (Or.inr (Or.inr (Or.inr (Or.inr (Or.inr (Or.inr (Or.inr (Or.inr (Or.inr (Or.inr (Or.inr (Or.inr (Or.inl e))))))))))))))))))))))))))))))))))) (fun h => h.elim (fun e => Or.inr (Or.inr (Or.inr (Or.inr (Or.inr (Or.inr (Or.inr (Or.inr (Or.inr (Or.inr (Or.inr (Or.inr (Or.inr (Or.inr (Or.inr (Or.inr (Or.inr (Or.inr (Or.inr (Or.inr (Or.inr (Or.inr (Or.inr (Or.inr (Or.inr (Or.inr (Or.inr (Or.inr (Or.inr (Or.inr (Or.inr (Or.inr (Or.inr (Or.inr (Or.inr (Or.inl e)))))))))))))))))))))))))))))))))))) (fun e => Or.inr (Or.inr (Or.inr (Or.inr (Or.inr (Or.inr (Or.inr (Or.inr (Or.inr (Or.inr (Or.inr (Or.inr (Or.inr (Or.inr (Or.inr (Or.inr (Or.inr (Or.inr (Or.inr (Or.inr (Or.inr (Or.inr (Or.inr (Or.inr (Or.inr (Or.inr (Or.inr (Or.inr (Or.inr (Or.inr (Or.inr (Or.inr (Or.inr (Or.inr (Or.inr (Or.inr (e))))))))))))))))))))))))))))))))))))))))))))))))))))))))))))
theorem mono_Fg_parts_2  : ∀ c j, fp_St_fill 54 c j → fp_Fg_parts c j := fun c j => (fun e => Or.inr (Or.inr (Or.inr (Or.inr (Or.inr (Or.inr (Or.inr (Or.inr (Or.inr (Or.inr (Or.inr (Or.inr (Or.inr (Or.inr (Or.inr (Or.inr (Or.inr (Or.inr (Or.inr (Or.inr (Or.inr (Or.inr (Or.inr (Or.inr (Or.inr (Or.inr (Or.inr (Or.inr (Or.inr (Or.inr (Or.inr (Or.inr (Or.inr (Or.inr (Or.inr (Or.inr (e)))))))))))))))))))))))))))))))))))))
theorem fr_Fg_parts_b40 {n : Nat} {c1 : Int32} {c2 : Int32} {c4 : Int32} {v5 : Int32} {v6 : Int32} {v7 : Int32} {M : Mm} {oo : (Int32 × Int32 × Int32 × Mm) ⊕ ((Int32 × Int32 × Mm) ⊕ (Int32 × Mm))} (h : Fg_parts_b40 n c1 c2 c4 v5 v6 v7 M = some oo) : Fr (fp_Fg_parts) M (elS oo (fun s1 => s1.2.2.2) (fun y1 => elS y1 (fun x1 => x1.2.2) (fun z1 => z1.2))) := by
  unfold Fg_parts_b40 at h
  by_cases g0 : v5 ≤ (0 : Int32)
  · have h := (if_pos g0).symm.trans h
    obtain rfl := Option.some.inj h
    try dsimp only [elS]
    repeat' (with_reducible first | exact Fr.rf | refine Fr.I ?_ (by simp [fp_Fg_parts]) | refine Fr.L ?_ (by simp [fp_Fg_parts]) | refine Fr.cI ?_ (by intro j; simp [fp_Fg_parts]) | refine Fr.cL ?_ (by intro j; simp [fp_Fg_parts]) | (refine Fr.tr ?_ (Fr.mono (fr_Fg_greatestFitting (by with_reducible assumption)) mono_Fg_parts_0); try dsimp only) | (refine Fr.tr ?_ (Fr.mono (fr_St_copy (by with_reducible assumption)) mono_Fg_parts_1); try dsimp only) | (refine Fr.tr ?_ (Fr.mono (fr_St_fill (by with_reducible assumption)) mono_Fg_parts_2); try dsimp only))
  · have h := (if_neg g0).symm.trans h
    by_cases g0 : (20 : Int32) ≤ v7
    · have h := (if_pos g0).symm.trans h
      obtain rfl := Option.some.inj h
      try dsimp only [elS]
      repeat' (with_reducible first | exact Fr.rf | refine Fr.I ?_ (by simp [fp_Fg_parts]) | refine Fr.L ?_ (by simp [fp_Fg_parts]) | refine Fr.cI ?_ (by intro j; simp [fp_Fg_parts]) | refine Fr.cL ?_ (by intro j; simp [fp_Fg_parts]) | (refine Fr.tr ?_ (Fr.mono (fr_Fg_greatestFitting (by with_reducible assumption)) mono_Fg_parts_0); try dsimp only) | (refine Fr.tr ?_ (Fr.mono (fr_St_copy (by with_reducible assumption)) mono_Fg_parts_1); try dsimp only) | (refine Fr.tr ?_ (Fr.mono (fr_St_fill (by with_reducible assumption)) mono_Fg_parts_2); try dsimp only))
    · have h := (if_neg g0).symm.trans h
      obtain ⟨z11, _, h⟩ := bnd_s h
      by_cases g0 : z11.1 = (0 : Int32)
      · have h := (if_pos g0).symm.trans h
        obtain rfl := Option.some.inj h
        try dsimp only [elS]
        repeat' (with_reducible first | exact Fr.rf | refine Fr.I ?_ (by simp [fp_Fg_parts]) | refine Fr.L ?_ (by simp [fp_Fg_parts]) | refine Fr.cI ?_ (by intro j; simp [fp_Fg_parts]) | refine Fr.cL ?_ (by intro j; simp [fp_Fg_parts]) | (refine Fr.tr ?_ (Fr.mono (fr_Fg_greatestFitting (by with_reducible assumption)) mono_Fg_parts_0); try dsimp only) | (refine Fr.tr ?_ (Fr.mono (fr_St_copy (by with_reducible assumption)) mono_Fg_parts_1); try dsimp only) | (refine Fr.tr ?_ (Fr.mono (fr_St_fill (by with_reducible assumption)) mono_Fg_parts_2); try dsimp only))
      · have h := (if_neg g0).symm.trans h
        obtain ⟨z14, _, h⟩ := bnd_s h
        obtain ⟨z16, _, h⟩ := bnd_s h
        obtain rfl := Option.some.inj h
        try dsimp only [elS]
        repeat' (with_reducible first | exact Fr.rf | refine Fr.I ?_ (by simp [fp_Fg_parts]) | refine Fr.L ?_ (by simp [fp_Fg_parts]) | refine Fr.cI ?_ (by intro j; simp [fp_Fg_parts]) | refine Fr.cL ?_ (by intro j; simp [fp_Fg_parts]) | (refine Fr.tr ?_ (Fr.mono (fr_Fg_greatestFitting (by with_reducible assumption)) mono_Fg_parts_0); try dsimp only) | (refine Fr.tr ?_ (Fr.mono (fr_St_copy (by with_reducible assumption)) mono_Fg_parts_1); try dsimp only) | (refine Fr.tr ?_ (Fr.mono (fr_St_fill (by with_reducible assumption)) mono_Fg_parts_2); try dsimp only))
theorem frl_Fg_parts_b40 {n : Nat} {c1 : Int32} {c2 : Int32} {c4 : Int32}  {n1 : Nat} {s0 : Int32 × Int32 × Int32 × Mm} {y1 : (Int32 × Int32 × Mm) ⊕ (Int32 × Mm)} (h : loop (fun s1 : Int32 × Int32 × Int32 × Mm => Fg_parts_b40 n c1 c2 c4 s1.1 s1.2.1 s1.2.2.1 s1.2.2.2) n1 s0 = some y1) : Fr (fp_Fg_parts) s0.2.2.2 (elS y1 (fun x1 => x1.2.2) (fun z1 => z1.2)) :=
  loop_inv (P := fun s2 : Int32 × Int32 × Int32 × Mm => Fr (fp_Fg_parts) s0.2.2.2 s2.2.2.2) (E := fun y1 : (Int32 × Int32 × Mm) ⊕ (Int32 × Mm) => Fr (fp_Fg_parts) s0.2.2.2 (elS y1 (fun x1 => x1.2.2) (fun z1 => z1.2))) (fun s2 s3 hP hb => hP.tr (fr_Fg_parts_b40 hb)) (fun s2 x2 hP hb => hP.tr (fr_Fg_parts_b40 hb)) n1 s0 y1 h Fr.rf
theorem fr_Fg_parts_j129 {v5 : Int32} {v7 : Int32} {M : Mm} {oo : Int32 × Mm} (h : Fg_parts_j129 v5 v7 M = some oo) : Fr (fp_Fg_parts) M oo.2 := by
  unfold Fg_parts_j129 at h
  by_cases g0 : v5 ≤ (0 : Int32)
  · have h := (if_pos g0).symm.trans h
    obtain rfl := Option.some.inj h
    try dsimp only [elS]
    repeat' (with_reducible first | exact Fr.rf | refine Fr.I ?_ (by simp [fp_Fg_parts]) | refine Fr.L ?_ (by simp [fp_Fg_parts]) | refine Fr.cI ?_ (by intro j; simp [fp_Fg_parts]) | refine Fr.cL ?_ (by intro j; simp [fp_Fg_parts]) | (refine Fr.tr ?_ (Fr.mono (fr_Fg_greatestFitting (by with_reducible assumption)) mono_Fg_parts_0); try dsimp only) | (refine Fr.tr ?_ (Fr.mono (fr_St_copy (by with_reducible assumption)) mono_Fg_parts_1); try dsimp only) | (refine Fr.tr ?_ (Fr.mono (fr_St_fill (by with_reducible assumption)) mono_Fg_parts_2); try dsimp only) | (refine Fr.tr ?_ (frl_Fg_parts_b40 (by with_reducible assumption)); try dsimp only))
  · have h := (if_neg g0).symm.trans h
    obtain rfl := Option.some.inj h
    try dsimp only [elS]
    repeat' (with_reducible first | exact Fr.rf | refine Fr.I ?_ (by simp [fp_Fg_parts]) | refine Fr.L ?_ (by simp [fp_Fg_parts]) | refine Fr.cI ?_ (by intro j; simp [fp_Fg_parts]) | refine Fr.cL ?_ (by intro j; simp [fp_Fg_parts]) | (refine Fr.tr ?_ (Fr.mono (fr_Fg_greatestFitting (by with_reducible assumption)) mono_Fg_parts_0); try dsimp only) | (refine Fr.tr ?_ (Fr.mono (fr_St_copy (by with_reducible assumption)) mono_Fg_parts_1); try dsimp only) | (refine Fr.tr ?_ (Fr.mono (fr_St_fill (by with_reducible assumption)) mono_Fg_parts_2); try dsimp only) | (refine Fr.tr ?_ (frl_Fg_parts_b40 (by with_reducible assumption)); try dsimp only))
theorem fr_Fg_parts {n : Nat} {v1 : Int32} {v2 : Int32} {v3 : Int32} {v4 : Int32} {M : Mm} {oo : Int32 × Mm} (h : Fg_parts n v1 v2 v3 v4 M = some oo) : Fr (fp_Fg_parts) M oo.2 := by
  unfold Fg_parts at h
  obtain ⟨z1, _, h⟩ := bnd_s h
  by_cases g0 : z1 = true
  · have h := (if_pos g0).symm.trans h
    obtain ⟨z4, _, h⟩ := bnd_s h
    by_cases g0 : z4 = true
    · have h := (if_pos g0).symm.trans h
      obtain ⟨z7, _, h⟩ := bnd_s h
      obtain ⟨y18, _, h⟩ := bnd_s h
      cases y18 with
      | inl x19 =>
        refine Fr.tr ?_ (fr_Fg_parts_j129 h)
        try dsimp only [elS]
        repeat' (with_reducible first | exact Fr.rf | refine Fr.I ?_ (by simp [fp_Fg_parts]) | refine Fr.L ?_ (by simp [fp_Fg_parts]) | refine Fr.cI ?_ (by intro j; simp [fp_Fg_parts]) | refine Fr.cL ?_ (by intro j; simp [fp_Fg_parts]) | (refine Fr.tr ?_ (Fr.mono (fr_Fg_greatestFitting (by with_reducible assumption)) mono_Fg_parts_0); try dsimp only) | (refine Fr.tr ?_ (Fr.mono (fr_St_copy (by with_reducible assumption)) mono_Fg_parts_1); try dsimp only) | (refine Fr.tr ?_ (Fr.mono (fr_St_fill (by with_reducible assumption)) mono_Fg_parts_2); try dsimp only) | (refine Fr.tr ?_ (frl_Fg_parts_b40 (by with_reducible assumption)); try dsimp only))
      | inr e20 =>
        obtain rfl := Option.some.inj h
        try dsimp only [elS]
        repeat' (with_reducible first | exact Fr.rf | refine Fr.I ?_ (by simp [fp_Fg_parts]) | refine Fr.L ?_ (by simp [fp_Fg_parts]) | refine Fr.cI ?_ (by intro j; simp [fp_Fg_parts]) | refine Fr.cL ?_ (by intro j; simp [fp_Fg_parts]) | (refine Fr.tr ?_ (Fr.mono (fr_Fg_greatestFitting (by with_reducible assumption)) mono_Fg_parts_0); try dsimp only) | (refine Fr.tr ?_ (Fr.mono (fr_St_copy (by with_reducible assumption)) mono_Fg_parts_1); try dsimp only) | (refine Fr.tr ?_ (Fr.mono (fr_St_fill (by with_reducible assumption)) mono_Fg_parts_2); try dsimp only) | (refine Fr.tr ?_ (frl_Fg_parts_b40 (by with_reducible assumption)); try dsimp only))
    · have h := (if_neg g0).symm.trans h
      obtain rfl := Option.some.inj h
      try dsimp only [elS]
      repeat' (with_reducible first | exact Fr.rf | refine Fr.I ?_ (by simp [fp_Fg_parts]) | refine Fr.L ?_ (by simp [fp_Fg_parts]) | refine Fr.cI ?_ (by intro j; simp [fp_Fg_parts]) | refine Fr.cL ?_ (by intro j; simp [fp_Fg_parts]) | (refine Fr.tr ?_ (Fr.mono (fr_Fg_greatestFitting (by with_reducible assumption)) mono_Fg_parts_0); try dsimp only) | (refine Fr.tr ?_ (Fr.mono (fr_St_copy (by with_reducible assumption)) mono_Fg_parts_1); try dsimp only) | (refine Fr.tr ?_ (Fr.mono (fr_St_fill (by with_reducible assumption)) mono_Fg_parts_2); try dsimp only) | (refine Fr.tr ?_ (frl_Fg_parts_b40 (by with_reducible assumption)); try dsimp only))
  · have h := (if_neg g0).symm.trans h
    obtain rfl := Option.some.inj h
    try dsimp only [elS]
    repeat' (with_reducible first | exact Fr.rf | refine Fr.I ?_ (by simp [fp_Fg_parts]) | refine Fr.L ?_ (by simp [fp_Fg_parts]) | refine Fr.cI ?_ (by intro j; simp [fp_Fg_parts]) | refine Fr.cL ?_ (by intro j; simp [fp_Fg_parts]) | (refine Fr.tr ?_ (Fr.mono (fr_Fg_greatestFitting (by with_reducible assumption)) mono_Fg_parts_0); try dsimp only) | (refine Fr.tr ?_ (Fr.mono (fr_St_copy (by with_reducible assumption)) mono_Fg_parts_1); try dsimp only) | (refine Fr.tr ?_ (Fr.mono (fr_St_fill (by with_reducible assumption)) mono_Fg_parts_2); try dsimp only) | (refine Fr.tr ?_ (frl_Fg_parts_b40 (by with_reducible assumption)); try dsimp only))
theorem mono_Fg_more_0  : ∀ c j, fp_Fi_find 54 c j → fp_Fg_more c j := fun c j => (fun h => h.elim (fun e => Or.inl e) (fun h => h.elim (fun e => Or.inr (Or.inl e)) (fun h => h.elim (fun e => Or.inr (Or.inr (Or.inl e))) (fun h => h.elim (fun e => Or.inr (Or.inr (Or.inr (Or.inl e)))) (fun h => h.elim (fun e => Or.inr (Or.inr (Or.inr (Or.inr (Or.inl e))))) (fun h => h.elim (fun e => Or.inr (Or.inr (Or.inr (Or.inr (Or.inr (Or.inl e)))))) (fun h => h.elim (fun e => Or.inr (Or.inr (Or.inr (Or.inr (Or.inr (Or.inr (Or.inl e))))))) (fun h => h.elim (fun e => Or.inr (Or.inr (Or.inr (Or.inr (Or.inr (Or.inr (Or.inr (Or.inl e)))))))) (fun h => h.elim (fun e => Or.inr (Or.inr (Or.inr (Or.inr (Or.inr (Or.inr (Or.inr (Or.inr (Or.inl e))))))))) (fun h => h.elim (fun e => Or.inr (Or.inr (Or.inr (Or.inr (Or.inr (Or.inr (Or.inr (Or.inr (Or.inr (Or.inl e)))))))))) (fun h => h.elim (fun e => Or.inr (Or.inr (Or.inr (Or.inr (Or.inr (Or.inr (Or.inr (Or.inr (Or.inr (Or.inr (Or.inl e))))))))))) (fun h => h.elim (fun e => Or.inr (Or.inr (Or.inr (Or.inr (Or.inr (Or.inr (Or.inr (Or.inr (Or.inr (Or.inr (Or.inr (Or.inl e)))))))))))) (fun e => Or.inr (Or.inr (Or.inr (Or.inr (Or.inr (Or.inr (Or.inr (Or.inr (Or.inr (Or.inr (Or.inr (Or.inr (Or.inl e)))))))))))))))))))))))))
theorem mono_Fg_more_1  : ∀ c j, fp_St_copy 54 18 c j → fp_Fg_more c j := fun c j => (fun h => h.elim (fun e => Or.inr (Or.inr (Or.inr (Or.inr (Or.inr (Or.inr (Or.inr (Or.inr (Or.inr (Or.inr (Or.inr (Or.inr (Or.inr (Or.inl e)))))))))))))) (fun h => h.elim (fun e => Or.inr (Or.inr (Or.inr (Or.inr (Or.inr (Or.inr (Or.inr (Or.inr (Or.inr (Or.inr (Or.inr (Or.inr (Or.inr (Or.inr (Or.inl e))))))))))))))) (fun h => h.elim (fun e => Or.inr (Or.inr (Or.inr (Or.inr (Or.inr (Or.inr (Or.inr (Or.inr (Or.inr (Or.inr (Or.inr (Or.inr (Or.inr (Or.inr (Or.inr (Or.inl e)))))))))))))))) (fun h => h.elim (fun e => Or.inr (Or.inr (Or.inr (Or.inr (Or.inr (Or.inr (Or.inr (Or.inr (Or.inr (Or.inr (Or.inr (Or.inr (Or.inr (Or.inr (Or.inr (Or.inr (Or.inl e))))))))))))))))) (fun h => h.elim (fun e => Or.inr (Or.inr (Or.inr (Or.inr (Or.inr (Or.inr (Or.inr (Or.inr (Or.inr (Or.inr (Or.inr (Or.inr (Or.inr (Or.inr (Or.inr (Or.inr (Or.inr (Or.inl e)))))))))))))))))) (fun h => h.elim (fun e => Or.inr (Or.inr (Or.inr (Or.inr (Or.inr (Or.inr (Or.inr (Or.inr (Or.inr (Or.inr (Or.inr (Or.inr (Or.inr (Or.inr (Or.inr (Or.inr (Or.inr (Or.inr (Or.inl e))))))))))))))))))) (fun h => h.elim (fun e => Or.inr (Or.inr (Or.inr (Or.inr (Or.inr (Or.inr (Or.inr (Or.inr (Or.inr (Or.inr (Or.inr (Or.inr (Or.inr (Or.inr (Or.inr (Or.inr (Or.inr (Or.inr (Or.inr (Or.inl e)))))))))))))))))))) (fun h => h.elim (fun e => Or.inr (Or.inr (Or.inr (Or.inr (Or.inr (Or.inr (Or.inr (Or.inr (Or.inr (Or.inr (Or.inr (Or.inr (Or.inr (Or.inr (Or.inr (Or.inr (Or.inr (Or.inr (Or.inr (Or.inr (Or.inl e))))))))))))))))))))) (fun h => h.elim (fun e => Or.inr (Or.inr (Or.inr (Or.inr (Or.inr (Or.inr (Or.inr (Or.inr (Or.inr (Or.inr (Or.inr (Or.inr (Or.inr (Or.inr (Or.inr (Or.inr (Or.inr (Or.inr (Or.inr (Or.inr (Or.inr (Or.inl e)))))))))))))))))))))) (fun h => h.elim (fun e => Or.inr (Or.inr (Or.inr (Or.inr (Or.inr (Or.inr (Or.inr (Or.inr (Or.inr (Or.inr (Or.inr (Or.inr (Or.inr (Or.inr (Or.inr (Or.inr (Or.inr (Or.inr (Or.inr (Or.inr (Or.inr (Or.inr (Or.inl e))))))))))))))))))))))) (fun h => h.elim (fun e => Or.inr (Or.inr (Or.inr (Or.inr (Or.inr (Or.inr (Or.inr (Or.inr (Or.inr (Or.inr (Or.inr (Or.inr (Or.inr (Or.inr (Or.inr (Or.inr (Or.inr (Or.inr (Or.inr (Or.inr (Or.inr (Or.inr (Or.inr (Or.inl e)))))))))))))))))))))))) (fun h => h.elim (fun e => Or.inr (Or.inr (Or.inr (Or.inr (Or.inr (Or.inr (Or.inr (Or.inr (Or.inr (Or.inr (Or.inr (Or.inr (Or.inr (Or.inr (Or.inr (Or.inr (Or.inr (Or.inr (Or.inr (Or.inr (Or.inr (Or.inr (Or.inr (Or.inr (Or.inl e))))))))))))))))))))))))) (fun h => h.elim (fun e => Or.inr (Or.inr (Or.inr (Or.inr (Or.inr (Or.inr (Or.inr (Or.inr (Or.inr (Or.inr (Or.inr (Or.inr (Or.inr (Or.inr (Or.inr (Or.inr (Or.inr (Or.inr (Or.inr (Or.inr (Or.inr (Or.inr (Or.inr (Or.inr (Or.inr (Or.inl e)))))))))))))))))))))))))) (fun h => h.elim (fun e => Or.inr (Or.inr (Or.inr (Or.inr (Or.inr (Or.inr (Or.inr (Or.inr (Or.inr (Or.inr (Or.inr (Or.inr (Or.inr (Or.inr (Or.inr (Or.inr (Or.inr (Or.inr (Or.inr (Or.inr (Or.inr (Or.inr (Or.inr (Or.inr (Or.inr (Or.inr (Or.inl e))))))))))))))))))))))))))) (fun h => h.elim (fun e => Or.inr (Or.inr (Or.inr (Or.inr (Or.inr (Or.inr (Or.inr (Or.inr (Or.inr (Or.inr (Or.inr (Or.inr (Or.inr (Or.inr (Or.inr (Or.inr (Or.inr (Or.inr (Or.inr (Or.inr (Or.inr (Or.inr (Or.inr (Or.inr (Or.inr (Or.inr (Or.inr (Or.inl e)))))))))))))))))))))))))))) (fun h => h.elim (fun e => Or.inr (Or.inr (Or.inr (Or.inr (Or.inr (Or.inr (Or.inr (Or.inr (Or.inr (Or.inr (Or.inr (Or.inr (Or.inr (Or.inr (Or.inr (Or.inr (Or.inr (Or.inr (Or.inr (Or.inr (Or.inr (Or.inr (Or.inr (Or.inr (Or.inr (Or.inr (Or.inr (Or.inr (Or.inl e))))))))))))))))))))))))))))) (fun h => h.elim (fun e => Or.inr (Or.inr (Or.inr (Or.inr (Or.inr (Or.inr (Or.inr (Or.inr (Or.inr (Or.inr (Or.inr (Or.inr (Or.inr (Or.inr (Or.inr (Or.inr (Or.inr (Or.inr (Or.inr (Or.inr (Or.inr (Or.inr (Or.inr (Or.inr (Or.inr (Or.inr (Or.inr (Or.inr (Or.inr (Or.inl e)))))))))))))))))))))))))))))) (fun h => h.elim (fun e => Or.inr (Or.inr (Or.inr (Or.inr (Or.inr (Or.inr (Or.inr (Or.inr (Or.inr (Or.inr (Or.inr (Or.inr (Or.inr (Or.inr (Or.inr (Or.inr (Or.inr (Or.inr (Or.inr (Or.inr (Or.inr (Or.inr (Or.inr (Or.inr (Or.inr (Or.inr (Or.inr (Or.inr (Or.inr (Or.inr (Or.inl e))))))))))))))))))))))))))))))) (fun h => h.elim (fun e => Or.inr (Or.inr (Or.inr (Or.inr (Or.inr (Or.inr (Or.inr (Or.inr (Or.inr (Or.inr (Or.inr (Or.inr (Or.inr (Or.inr (Or.inr (Or.inr (Or.inr (Or.inr (Or.inr (Or.inr (Or.inr (Or.inr (Or.inr (Or.inr (Or.inr (Or.inr (Or.inr (Or.inr (Or.inr (Or.inr (Or.inr (Or.inl e)))))))))))))))))))))))))))))))) (fun h => h.elim (fun e => Or.inr (Or.inr (Or.inr (Or.inr (Or.inr (Or.inr (Or.inr (Or.inr (Or.inr (Or.inr (Or.inr (Or.inr (Or.inr (Or.inr (Or.inr (Or.inr (Or.inr (Or.inr (Or.inr (Or.inr (Or.inr (Or.inr (Or.inr (Or.inr (Or.inr (Or.inr (Or.inr (Or.inr (Or.inr (Or.inr (Or.inr (Or.inr (Or.inl e))))))))))))))))))))))))))))))))) (fun h => h.elim (fun e => Or.inr (Or.inr (Or.inr (Or.inr (Or.inr (Or.inr (Or.inr (Or.inr (Or.inr (Or.inr (Or.inr (Or.inr (Or.inr (Or.inr (Or.inr (Or.inr (Or.inr (Or.inr (Or.inr (Or.inr (Or.inr (Or.inr (Or.inr (Or.inr (Or.inr (Or.inr (Or.inr (Or.inr (Or.inr (Or.inr (Or.inr (Or.inr (Or.inr (Or.inl e)))))))))))))))))))))))))))))))))) (fun h => h.elim (fun e => Or.inr (Or.inr (Or.inr (Or.inr (Or.inr (Or.inr (Or.inr (Or.inr (Or.inr (Or.inr (Or.inr (Or.inr (Or.inr (Or.inr (Or.inr (Or.inr (Or.inr (Or.inr (Or.inr (Or.inr (Or.inr (Or.inr (Or.inr (Or.inr (Or.inr (Or.inr (Or.inr (Or.inr (Or.inr (Or.inr (Or.inr (Or.inr (Or.inr (Or.inr (Or.inl e))))))))))))))))))))))))))))))))))) (fun h => h.elim (fun e => Or.inr (Or.inr (Or.inr (Or.inr (Or.inr (Or.inr (Or.inr (Or.inr (Or.inr (Or.inr (Or.inr (Or.inr (Or.inr (Or.inr (Or.inr (Or.inr (Or.inr (Or.inr (Or.inr (Or.inr (Or.inr (Or.inr (Or.inr (Or.inr (Or.inr (Or.inr (Or.inr (Or.inr (Or.inr (Or.inr (Or.inr (Or.inr (Or.inr (Or.inr (Or.inr (Or.inl e)))))))))))))))))))))))))))))))))))) (fun e => Or.inr (Or.inr (Or.inr (Or.inr (Or.inr (Or.inr (Or.inr (Or.inr (Or.inr (Or.inr (Or.inr (Or.inr (Or.inr (Or.inr (Or.inr (Or.inr (Or.inr (Or.inr (Or.inr (Or.inr (Or.inr (Or.inr (Or.inr (Or.inr (Or.inr (Or.inr (Or.inr (Or.inr (Or.inr (Or.inr (Or.inr (Or.inr (Or.inr (Or.inr (Or.inr (Or.inr (e))))))))))))))))))))))))))))))))))))))))))))))))))))))))))))
theorem mono_Fg_more_2  : ∀ c j, fp_St_fill 54 c j → fp_Fg_more c j := fun c j => (fun e => Or.inr (Or.inr (Or.inr (Or.inr (Or.inr (Or.inr (Or.inr (Or.inr (Or.inr (Or.inr (Or.inr (Or.inr (Or.inr (Or.inr (Or.inr (Or.inr (Or.inr (Or.inr (Or.inr (Or.inr (Or.inr (Or.inr (Or.inr (Or.inr (Or.inr (Or.inr (Or.inr (Or.inr (Or.inr (Or.inr (Or.inr (Or.inr (Or.inr (Or.inr (Or.inr (Or.inr (e)))))))))))))))))))))))))))))))))))))
theorem fr_Fg_more_b39 {n : Nat} {c1 : Int32} {c2 : Int32} {c3 : Int32} {c4 : Int32} {c5 : Int32} {v6 : Int32} {M : Mm} {oo : (Int32 × Mm) ⊕ (Int32 × Mm)} (h : Fg_more_b39 n c1 c2 c3 c4 c5 v6 M = some oo) : Fr (fp_Fg_more) M (elS oo (fun s1 => s1.2) (fun x1 => x1.2)) := by
  unfold Fg_more_b39 at h
  by_cases g0 : c5 ≤ v6
  · have h := (if_pos g0).symm.trans h
    obtain rfl := Option.some.inj h
    try dsimp only [elS]
    repeat' (with_reducible first | exact Fr.rf | refine Fr.I ?_ (by simp [fp_Fg_more]) | refine Fr.L ?_ (by simp [fp_Fg_more]) | refine Fr.cI ?_ (by intro j; simp [fp_Fg_more]) | refine Fr.cL ?_ (by intro j; simp [fp_Fg_more]) | (refine Fr.tr ?_ (Fr.mono (fr_Fi_find (by with_reducible assumption)) mono_Fg_more_0); try dsimp only) | (refine Fr.tr ?_ (Fr.mono (fr_St_copy (by with_reducible assumption)) mono_Fg_more_1); try dsimp only) | (refine Fr.tr ?_ (Fr.mono (fr_St_fill (by with_reducible assumption)) mono_Fg_more_2); try dsimp only))
  · have h := (if_neg g0).symm.trans h
    obtain ⟨z10, _, h⟩ := bnd_s h
    by_cases g0 : z10.1 = true
    · have h := (if_pos g0).symm.trans h
      obtain ⟨z13, _, h⟩ := bnd_s h
      obtain ⟨z15, _, h⟩ := bnd_s h
      obtain rfl := Option.some.inj h
      try dsimp only [elS]
      repeat' (with_reducible first | exact Fr.rf | refine Fr.I ?_ (by simp [fp_Fg_more]) | refine Fr.L ?_ (by simp [fp_Fg_more]) | refine Fr.cI ?_ (by intro j; simp [fp_Fg_more]) | refine Fr.cL ?_ (by intro j; simp [fp_Fg_more]) | (refine Fr.tr ?_ (Fr.mono (fr_Fi_find (by with_reducible assumption)) mono_Fg_more_0); try dsimp only) | (refine Fr.tr ?_ (Fr.mono (fr_St_copy (by with_reducible assumption)) mono_Fg_more_1); try dsimp only) | (refine Fr.tr ?_ (Fr.mono (fr_St_fill (by with_reducible assumption)) mono_Fg_more_2); try dsimp only))
    · have h := (if_neg g0).symm.trans h
      obtain rfl := Option.some.inj h
      try dsimp only [elS]
      repeat' (with_reducible first | exact Fr.rf | refine Fr.I ?_ (by simp [fp_Fg_more]) | refine Fr.L ?_ (by simp [fp_Fg_more]) | refine Fr.cI ?_ (by intro j; simp [fp_Fg_more]) | refine Fr.cL ?_ (by intro j; simp [fp_Fg_more]) | (refine Fr.tr ?_ (Fr.mono (fr_Fi_find (by with_reducible assumption)) mono_Fg_more_0); try dsimp only) | (refine Fr.tr ?_ (Fr.mono (fr_St_copy (by with_reducible assumption)) mono_Fg_more_1); try dsimp only) | (refine Fr.tr ?_ (Fr.mono (fr_St_fill (by with_reducible assumption)) mono_Fg_more_2); try dsimp only))
theorem frl_Fg_more_b39 {n : Nat} {c1 : Int32} {c2 : Int32} {c3 : Int32} {c4 : Int32} {c5 : Int32}  {n1 : Nat} {s0 : Int32 × Mm} {y1 : Int32 × Mm} (h : loop (fun s1 : Int32 × Mm => Fg_more_b39 n c1 c2 c3 c4 c5 s1.1 s1.2) n1 s0 = some y1) : Fr (fp_Fg_more) s0.2 y1.2 :=
  loop_inv (P := fun s2 : Int32 × Mm => Fr (fp_Fg_more) s0.2 s2.2) (E := fun y1 : Int32 × Mm => Fr (fp_Fg_more) s0.2 y1.2) (fun s2 s3 hP hb => hP.tr (fr_Fg_more_b39 hb)) (fun s2 x2 hP hb => hP.tr (fr_Fg_more_b39 hb)) n1 s0 y1 h Fr.rf
theorem fr_Fg_more {n : Nat} {v1 : Int32} {v2 : Int32} {v3 : Int32} {v4 : Int32} {M : Mm} {oo : Int32 × Mm} (h : Fg_more n v1 v2 v3 v4 M = some oo) : Fr (fp_Fg_more) M oo.2 := by
  unfold Fg_more at h
  obtain ⟨z1, _, h⟩ := bnd_s h
  by_cases g0 : z1 = true
  · have h := (if_pos g0).symm.trans h
    obtain ⟨z4, _, h⟩ := bnd_s h
    by_cases g0 : z4 = true
    · have h := (if_pos g0).symm.trans h
      obtain ⟨z7, _, h⟩ := bnd_s h
      obtain ⟨y17, _, h⟩ := bnd_s h
      obtain rfl := Option.some.inj h
      try dsimp only [elS]
      repeat' (with_reducible first | exact Fr.rf | refine Fr.I ?_ (by simp [fp_Fg_more]) | refine Fr.L ?_ (by simp [fp_Fg_more]) | refine Fr.cI ?_ (by intro j; simp [fp_Fg_more]) | refine Fr.cL ?_ (by intro j; simp [fp_Fg_more]) | (refine Fr.tr ?_ (Fr.mono (fr_Fi_find (by with_reducible assumption)) mono_Fg_more_0); try dsimp only) | (refine Fr.tr ?_ (Fr.mono (fr_St_copy (by with_reducible assumption)) mono_Fg_more_1); try dsimp only) | (refine Fr.tr ?_ (Fr.mono (fr_St_fill (by with_reducible assumption)) mono_Fg_more_2); try dsimp only) | (refine Fr.tr ?_ (frl_Fg_more_b39 (by with_reducible assumption)); try dsimp only))
    · have h := (if_neg g0).symm.trans h
      obtain rfl := Option.some.inj h
      try dsimp only [elS]
      repeat' (with_reducible first | exact Fr.rf | refine Fr.I ?_ (by simp [fp_Fg_more]) | refine Fr.L ?_ (by simp [fp_Fg_more]) | refine Fr.cI ?_ (by intro j; simp [fp_Fg_more]) | refine Fr.cL ?_ (by intro j; simp [fp_Fg_more]) | (refine Fr.tr ?_ (Fr.mono (fr_Fi_find (by with_reducible assumption)) mono_Fg_more_0); try dsimp only) | (refine Fr.tr ?_ (Fr.mono (fr_St_copy (by with_reducible assumption)) mono_Fg_more_1); try dsimp only) | (refine Fr.tr ?_ (Fr.mono (fr_St_fill (by with_reducible assumption)) mono_Fg_more_2); try dsimp only) | (refine Fr.tr ?_ (frl_Fg_more_b39 (by with_reducible assumption)); try dsimp only))
  · have h := (if_neg g0).symm.trans h
    obtain rfl := Option.some.inj h
    try dsimp only [elS]
    repeat' (with_reducible first | exact Fr.rf | refine Fr.I ?_ (by simp [fp_Fg_more]) | refine Fr.L ?_ (by simp [fp_Fg_more]) | refine Fr.cI ?_ (by intro j; simp [fp_Fg_more]) | refine Fr.cL ?_ (by intro j; simp [fp_Fg_more]) | (refine Fr.tr ?_ (Fr.mono (fr_Fi_find (by with_reducible assumption)) mono_Fg_more_0); try dsimp only) | (refine Fr.tr ?_ (Fr.mono (fr_St_copy (by with_reducible assumption)) mono_Fg_more_1); try dsimp only) | (refine Fr.tr ?_ (Fr.mono (fr_St_fill (by with_reducible assumption)) mono_Fg_more_2); try dsimp only) | (refine Fr.tr ?_ (frl_Fg_more_b39 (by with_reducible assumption)); try dsimp only))
theorem mono_Fg_keep_0  : ∀ c j, fp_St_copy 36 18 c j → fp_Fg_keep c j := fun c j => (fun h => h.elim (fun e => Or.inr (Or.inl e)) (fun h => h.elim (fun e => Or.inr (Or.inr (Or.inl e))) (fun h => h.elim (fun e => Or.inr (Or.inr (Or.inr (Or.inl e)))) (fun h => h.elim (fun e => Or.inr (Or.inr (Or.inr (Or.inr (Or.inl e))))) (fun h => h.elim (fun e => Or.inr (Or.inr (Or.inr (Or.inr (Or.inr (Or.inl e)))))) (fun h => h.elim (fun e => Or.inr (Or.inr (Or.inr (Or.inr (Or.inr (Or.inr (Or.inl e))))))) (fun h => h.elim (fun e => Or.inr (Or.inr (Or.inr (Or.inr (Or.inr (Or.inr (Or.inr (Or.inl e)))))))) (fun h => h.elim (fun e => Or.inr (Or.inr (Or.inr (Or.inr (Or.inr (Or.inr (Or.inr (Or.inr (Or.inl e))))))))) (fun h => h.elim (fun e => Or.inr (Or.inr (Or.inr (Or.inr (Or.inr (Or.inr (Or.inr (Or.inr (Or.inr (Or.inl e)))))))))) (fun h => h.elim (fun e => Or.inr (Or.inr (Or.inr (Or.inr (Or.inr (Or.inr (Or.inr (Or.inr (Or.inr (Or.inr (Or.inl e))))))))))) (fun h => h.elim (fun e => Or.inr (Or.inr (Or.inr (Or.inr (Or.inr (Or.inr (Or.inr (Or.inr (Or.inr (Or.inr (Or.inr (Or.inl e)))))))))))) (fun h => h.elim (fun e => Or.inr (Or.inr (Or.inr (Or.inr (Or.inr (Or.inr (Or.inr (Or.inr (Or.inr (Or.inr (Or.inr (Or.inr (Or.inl e))))))))))))) (fun h => h.elim (fun e => Or.inr (Or.inr (Or.inr (Or.inr (Or.inr (Or.inr (Or.inr (Or.inr (Or.inr (Or.inr (Or.inr (Or.inr (Or.inr (Or.inl e)))))))))))))) (fun h => h.elim (fun e => Or.inr (Or.inr (Or.inr (Or.inr (Or.inr (Or.inr (Or.inr (Or.inr (Or.inr (Or.inr (Or.inr (Or.inr (Or.inr (Or.inr (Or.inl e))))))))))))))) (fun h => h.elim (fun e => Or.inr (Or.inr (Or.inr (Or.inr (Or.inr (Or.inr (Or.inr (Or.inr (Or.inr (Or.inr (Or.inr (Or.inr (Or.inr (Or.inr (Or.inr (Or.inl e)))))))))))))))) (fun h => h.elim (fun e => Or.inr (Or.inr (Or.inr (Or.inr (Or.inr (Or.inr (Or.inr (Or.inr (Or.inr (Or.inr (Or.inr (Or.inr (Or.inr (Or.inr (Or.inr (Or.inr (Or.inl e))))))))))))))))) (fun h => h.elim (fun e => Or.inr (Or.inr (Or.inr (Or.inr (Or.inr (Or.inr (Or.inr (Or.inr (Or.inr (Or.inr (Or.inr (Or.inr (Or.inr (Or.inr (Or.inr (Or.inr (Or.inr (Or.inl e)))))))))))))))))) (fun h => h.elim (fun e => Or.inr (Or.inr (Or.inr (Or.inr (Or.inr (Or.inr (Or.inr (Or.inr (Or.inr (Or.inr (Or.inr (Or.inr (Or.inr (Or.inr (Or.inr (Or.inr (Or.inr (Or.inr (Or.inl e))))))))))))))))))) (fun h => h.elim (fun e => Or.inr (Or.inr (Or.inr (Or.inr (Or.inr (Or.inr (Or.inr (Or.inr (Or.inr (Or.inr (Or.inr (Or.inr (Or.inr (Or.inr (Or.inr (Or.inr (Or.inr (Or.inr (Or.inr (Or.inl e)))))))))))))))))))) (fun h => h.elim (fun e => Or.inr (Or.inr (Or.inr (Or.inr (Or.inr (Or.inr (Or.inr (Or.inr (Or.inr (Or.inr (Or.inr (Or.inr (Or.inr (Or.inr (Or.inr (Or.inr (Or.inr (Or.inr (Or.inr (Or.inr (Or.inl e))))))))))))))))))))) (fun h => h.elim (fun e => Or.inr (Or.inr (Or.inr (Or.inr (Or.inr (Or.inr (Or.inr (Or.inr (Or.inr (Or.inr (Or.inr (Or.inr (Or.inr (Or.inr (Or.inr (Or.inr (Or.inr (Or.inr (Or.inr (Or.inr (Or.inr (Or.inl e)))))))))))))))))))))) (fun h => h.elim (fun e => Or.inr (Or.inr (Or.inr (Or.inr (Or.inr (Or.inr (Or.inr (Or.inr (Or.inr (Or.inr (Or.inr (Or.inr (Or.inr (Or.inr (Or.inr (Or.inr (Or.inr (Or.inr (Or.inr (Or.inr (Or.inr (Or.inr (Or.inl e))))))))))))))))))))))) (fun h => h.elim (fun e => Or.inr (Or.inr (Or.inr (Or.inr (Or.inr (Or.inr (Or.inr (Or.inr (Or.inr (Or.inr (Or.inr (Or.inr (Or.inr (Or.inr (Or.inr (Or.inr (Or.inr (Or.inr (Or.inr (Or.inr (Or.inr (Or.inr (Or.inr (Or.inl e)))))))))))))))))))))))) (fun e => Or.inr (Or.inr (Or.inr (Or.inr (Or.inr (Or.inr (Or.inr (Or.inr (Or.inr (Or.inr (Or.inr (Or.inr (Or.inr (Or.inr (Or.inr (Or.inr (Or.inr (Or.inr (Or.inr (Or.inr (Or.inr (Or.inr (Or.inr (Or.inr (e))))))))))))))))))))))))))))))))))))))))))))))))
theorem fr_Fg_keep {M : Mm} {oo : Int32 × Mm} (h : Fg_keep M = some oo) : Fr (fp_Fg_keep) M oo.2 := by
  unfold Fg_keep at h
  obtain ⟨z1, _, h⟩ := bnd_s h
  obtain rfl := Option.some.inj h
  try dsimp only [elS]
  repeat' (with_reducible first | exact Fr.rf | refine Fr.I ?_ (by simp [fp_Fg_keep]) | refine Fr.L ?_ (by simp [fp_Fg_keep]) | refine Fr.cI ?_ (by intro j; simp [fp_Fg_keep]) | refine Fr.cL ?_ (by intro j; simp [fp_Fg_keep]) | (refine Fr.tr ?_ (Fr.mono (fr_St_copy (by with_reducible assumption)) mono_Fg_keep_0); try dsimp only))
theorem mono_Fg_undo_0  : ∀ c j, fp_Fi_forgetWays c j → fp_Fg_undo c j := fun c j => (fun e => Or.inl e)
theorem mono_Fg_undo_1  : ∀ c j, fp_St_copy 18 36 c j → fp_Fg_undo c j := fun c j => (fun h => h.elim (fun e => Or.inr (Or.inl e)) (fun h => h.elim (fun e => Or.inr (Or.inr (Or.inl e))) (fun h => h.elim (fun e => Or.inr (Or.inr (Or.inr (Or.inl e)))) (fun h => h.elim (fun e => Or.inr (Or.inr (Or.inr (Or.inr (Or.inl e))))) (fun h => h.elim (fun e => Or.inr (Or.inr (Or.inr (Or.inr (Or.inr (Or.inl e)))))) (fun h => h.elim (fun e => Or.inr (Or.inr (Or.inr (Or.inr (Or.inr (Or.inr (Or.inl e))))))) (fun h => h.elim (fun e => Or.inr (Or.inr (Or.inr (Or.inr (Or.inr (Or.inr (Or.inr (Or.inl e)))))))) (fun h => h.elim (fun e => Or.inr (Or.inr (Or.inr (Or.inr (Or.inr (Or.inr (Or.inr (Or.inr (Or.inl e))))))))) (fun h => h.elim (fun e => Or.inr (Or.inr (Or.inr (Or.inr (Or.inr (Or.inr (Or.inr (Or.inr (Or.inr (Or.inl e)))))))))) (fun h => h.elim (fun e => Or.inr (Or.inr (Or.inr (Or.inr (Or.inr (Or.inr (Or.inr (Or.inr (Or.inr (Or.inr (Or.inl e))))))))))) (fun h => h.elim (fun e => Or.inr (Or.inr (Or.inr (Or.inr (Or.inr (Or.inr (Or.inr (Or.inr (Or.inr (Or.inr (Or.inr (Or.inl e)))))))))))) (fun h => h.elim (fun e => Or.inr (Or.inr (Or.inr (Or.inr (Or.inr (Or.inr (Or.inr (Or.inr (Or.inr (Or.inr (Or.inr (Or.inr (Or.inl e))))))))))))) (fun h => h.elim (fun e => Or.inr (Or.inr (Or.inr (Or.inr (Or.inr (Or.inr (Or.inr (Or.inr (Or.inr (Or.inr (Or.inr (Or.inr (Or.inr (Or.inl e)))))))))))))) (fun h => h.elim (fun e => Or.inr (Or.inr (Or.inr (Or.inr (Or.inr (Or.inr (Or.inr (Or.inr (Or.inr (Or.inr (Or.inr (Or.inr (Or.inr (Or.inr (Or.inl e))))))))))))))) (fun h => h.elim (fun e => Or.inr (Or.inr (Or.inr (Or.inr (Or.inr (Or.inr (Or.inr (Or.inr (Or.inr (Or.inr (Or.inr (Or.inr (Or.inr (Or.inr (Or.inr (Or.inl e)))))))))))))))) (fun h => h.elim (fun e => Or.inr (Or.inr (Or.inr (Or.inr (Or.inr (Or.inr (Or.inr (Or.inr (Or.inr (Or.inr (Or.inr (Or.inr (Or.inr (Or.inr (Or.inr (Or.inr (Or.inl e))))))))))))))))) (fun h => h.elim (fun e => Or.inr (Or.inr (Or.inr (Or.inr (Or.inr (Or.inr (Or.inr (Or.inr (Or.inr (Or.inr (Or.inr (Or.inr (Or.inr (Or.inr (Or.inr (Or.inr (Or.inr (Or.inl e)))))))))))))))))) (fun h => h.elim (fun e => Or.inr (Or.inr (Or.inr (Or.inr (Or.inr (Or.inr (Or.inr (Or.inr (Or.inr (Or.inr (Or.inr (Or.inr (Or.inr (Or.inr (Or.inr (Or.inr (Or.inr (Or.inr (Or.inl e))))))))))))))))))) (fun h => h.elim (fun e => Or.inr (Or.inr (Or.inr (Or.inr (Or.inr (Or.inr (Or.inr (Or.inr (Or.inr (Or.inr (Or.inr (Or.inr (Or.inr (Or.inr (Or.inr (Or.inr (Or.inr (Or.inr (Or.inr (Or.inl e)))))))))))))))))))) (fun h => h.elim (fun e => Or.inr (Or.inr (Or.inr (Or.inr (Or.inr (Or.inr (Or.inr (Or.inr (Or.inr (Or.inr (Or.inr (Or.inr (Or.inr (Or.inr (Or.inr (Or.inr (Or.inr (Or.inr (Or.inr (Or.inr (Or.inl e))))))))))))))))))))) (fun h => h.elim (fun e => Or.inr (Or.inr (Or.inr (Or.inr (Or.inr (Or.inr (Or.inr (Or.inr (Or.inr (Or.inr (Or.inr (Or.inr (Or.inr (Or.inr (Or.inr (Or.inr (Or.inr (Or.inr (Or.inr (Or.inr (Or.inr (Or.inl e)))))))))))))))))))))) (fun h => h.elim (fun e => Or.inr (Or.inr (Or.inr (Or.inr (Or.inr (Or.inr (Or.inr (Or.inr (Or.inr (Or.inr (Or.inr (Or.inr (Or.inr (Or.inr (Or.inr (Or.inr (Or.inr (Or.inr (Or.inr (Or.inr (Or.inr (Or.inr (Or.inl e))))))))))))))))))))))) (fun h => h.elim (fun e => Or.inr (Or.inr (Or.inr (Or.inr (Or.inr (Or.inr (Or.inr (Or.inr (Or.inr (Or.inr (Or.inr (Or.inr (Or.inr (Or.inr (Or.inr (Or.inr (Or.inr (Or.inr (Or.inr (Or.inr (Or.inr (Or.inr (Or.inr (Or.inl e)))))))))))))))))))))))) (fun e => Or.inr (Or.inr (Or.inr (Or.inr (Or.inr (Or.inr (Or.inr (Or.inr (Or.inr (Or.inr (Or.inr (Or.inr (Or.inr (Or.inr (Or.inr (Or.inr (Or.inr (Or.inr (Or.inr (Or.inr (Or.inr (Or.inr (Or.inr (Or.inr (e))))))))))))))))))))))))))))))))))))))))))))))))
theorem fr_Fg_undo {n : Nat} {M : Mm} {oo : Bool × Mm} (h : Fg_undo n M = some oo) : Fr (fp_Fg_undo) M oo.2 := by
  unfold Fg_undo at h
  by_cases g0 : (M.1 0 8) = (0 : Int32)
  · have h := (if_pos g0).symm.trans h
    obtain rfl := Option.some.inj h
    try dsimp only [elS]
    repeat' (with_reducible first | exact Fr.rf | refine Fr.I ?_ (by simp [fp_Fg_undo]) | refine Fr.L ?_ (by simp [fp_Fg_undo]) | refine Fr.cI ?_ (by intro j; simp [fp_Fg_undo]) | refine Fr.cL ?_ (by intro j; simp [fp_Fg_undo]) | (refine Fr.tr ?_ (Fr.mono (fr_Fi_forgetWays (by with_reducible assumption)) mono_Fg_undo_0); try dsimp only) | (refine Fr.tr ?_ (Fr.mono (fr_St_copy (by with_reducible assumption)) mono_Fg_undo_1); try dsimp only))
  · have h := (if_neg g0).symm.trans h
    obtain ⟨z2, _, h⟩ := bnd_s h
    obtain ⟨z4, _, h⟩ := bnd_s h
    obtain rfl := Option.some.inj h
    try dsimp only [elS]
    repeat' (with_reducible first | exact Fr.rf | refine Fr.I ?_ (by simp [fp_Fg_undo]) | refine Fr.L ?_ (by simp [fp_Fg_undo]) | refine Fr.cI ?_ (by intro j; simp [fp_Fg_undo]) | refine Fr.cL ?_ (by intro j; simp [fp_Fg_undo]) | (refine Fr.tr ?_ (Fr.mono (fr_Fi_forgetWays (by with_reducible assumption)) mono_Fg_undo_0); try dsimp only) | (refine Fr.tr ?_ (Fr.mono (fr_St_copy (by with_reducible assumption)) mono_Fg_undo_1); try dsimp only))
theorem fr_Fg_check_b34 {c1 : Int32} {Mc : Mm} {v2 : Int32} {oo : (Int32) ⊕ ((Unit) ⊕ (Int32 × Mm))} (h : Fg_check_b34 c1 Mc v2 = some oo) : Fr (fp_Fg_check) Mc (elS oo (fun s1 => Mc) (fun y1 => elS y1 (fun x1 => Mc) (fun z1 => z1.2))) := by
  unfold Fg_check_b34 at h
  by_cases g0 : c1 ≤ v2
  · have h := (if_pos g0).symm.trans h
    obtain rfl := Option.some.inj h
    try dsimp only [elS]
    repeat' (with_reducible first | exact Fr.rf | refine Fr.I ?_ (by simp [fp_Fg_check]) | refine Fr.L ?_ (by simp [fp_Fg_check]) | refine Fr.cI ?_ (by intro j; simp [fp_Fg_check]) | refine Fr.cL ?_ (by intro j; simp [fp_Fg_check]))
  · have h := (if_neg g0).symm.trans h
    by_cases g0 : (Mc.1 18 4) ≤ v2
    · have h := (if_pos g0).symm.trans h
      obtain rfl := Option.some.inj h
      try dsimp only [elS]
      repeat' (with_reducible first | exact Fr.rf | refine Fr.I ?_ (by simp [fp_Fg_check]) | refine Fr.L ?_ (by simp [fp_Fg_check]) | refine Fr.cI ?_ (by intro j; simp [fp_Fg_check]) | refine Fr.cL ?_ (by intro j; simp [fp_Fg_check]))
    · have h := (if_neg g0).symm.trans h
      obtain ⟨_, h⟩ := grd_s h
      obtain ⟨z7, _, h⟩ := bnd_s h
      by_cases g0 : (Mc.1 2 (tn v2)) = z7
      · have h := (if_pos g0).symm.trans h
        obtain rfl := Option.some.inj h
        try dsimp only [elS]
        repeat' (with_reducible first | exact Fr.rf | refine Fr.I ?_ (by simp [fp_Fg_check]) | refine Fr.L ?_ (by simp [fp_Fg_check]) | refine Fr.cI ?_ (by intro j; simp [fp_Fg_check]) | refine Fr.cL ?_ (by intro j; simp [fp_Fg_check]))
      · have h := (if_neg g0).symm.trans h
        obtain rfl := Option.some.inj h
        try dsimp only [elS]
        repeat' (with_reducible first | exact Fr.rf | refine Fr.I ?_ (by simp [fp_Fg_check]) | refine Fr.L ?_ (by simp [fp_Fg_check]) | refine Fr.cI ?_ (by intro j; simp [fp_Fg_check]) | refine Fr.cL ?_ (by intro j; simp [fp_Fg_check]))
theorem frl_Fg_check_b34 {c1 : Int32} {Mc : Mm}  {n1 : Nat} {s0 : Int32} {y1 : (Unit) ⊕ (Int32 × Mm)} (h : loop (fun s1 : Int32 => Fg_check_b34 c1 Mc s1) n1 s0 = some y1) : Fr (fp_Fg_check) Mc (elS y1 (fun x1 => Mc) (fun z1 => z1.2)) :=
  loop_inv (P := fun s2 : Int32 => Fr (fp_Fg_check) Mc Mc) (E := fun y1 : (Unit) ⊕ (Int32 × Mm) => Fr (fp_Fg_check) Mc (elS y1 (fun x1 => Mc) (fun z1 => z1.2))) (fun _ _ _ _ => Fr.rf) (fun s2 x2 hP hb => hP.tr (fr_Fg_check_b34 hb)) n1 s0 y1 h Fr.rf
theorem fr_Fg_check {n : Nat} {v1 : Int32} {M : Mm} {oo : Int32 × Mm} (h : Fg_check n v1 M = some oo) : Fr (fp_Fg_check) M oo.2 := by
  unfold Fg_check at h
  by_cases g0 : v1 < (0 : Int32)
  · have h := (if_pos g0).symm.trans h
    obtain rfl := Option.some.inj h
    try dsimp only [elS]
    repeat' (with_reducible first | exact Fr.rf | refine Fr.I ?_ (by simp [fp_Fg_check]) | refine Fr.L ?_ (by simp [fp_Fg_check]) | refine Fr.cI ?_ (by intro j; simp [fp_Fg_check]) | refine Fr.cL ?_ (by intro j; simp [fp_Fg_check]) | (refine Fr.tr ?_ (frl_Fg_check_b34 (by with_reducible assumption)); try dsimp only))
  · have h := (if_neg g0).symm.trans h
    by_cases g0 : (40 : Int32) < v1
    · have h := (if_pos g0).symm.trans h
      obtain rfl := Option.some.inj h
      try dsimp only [elS]
      repeat' (with_reducible first | exact Fr.rf | refine Fr.I ?_ (by simp [fp_Fg_check]) | refine Fr.L ?_ (by simp [fp_Fg_check]) | refine Fr.cI ?_ (by intro j; simp [fp_Fg_check]) | refine Fr.cL ?_ (by intro j; simp [fp_Fg_check]) | (refine Fr.tr ?_ (frl_Fg_check_b34 (by with_reducible assumption)); try dsimp only))
    · have h := (if_neg g0).symm.trans h
      by_cases g0 : v1 ≤ (M.1 1 1)
      · have h := (if_pos g0).symm.trans h
        obtain ⟨y10, _, h⟩ := bnd_s h
        cases y10 with
        | inl x11 =>
          obtain rfl := Option.some.inj h
          try dsimp only [elS]
          repeat' (with_reducible first | exact Fr.rf | refine Fr.I ?_ (by simp [fp_Fg_check]) | refine Fr.L ?_ (by simp [fp_Fg_check]) | refine Fr.cI ?_ (by intro j; simp [fp_Fg_check]) | refine Fr.cL ?_ (by intro j; simp [fp_Fg_check]) | (refine Fr.tr ?_ (frl_Fg_check_b34 (by with_reducible assumption)); try dsimp only))
        | inr e12 =>
          obtain rfl := Option.some.inj h
          try dsimp only [elS]
          repeat' (with_reducible first | exact Fr.rf | refine Fr.I ?_ (by simp [fp_Fg_check]) | refine Fr.L ?_ (by simp [fp_Fg_check]) | refine Fr.cI ?_ (by intro j; simp [fp_Fg_check]) | refine Fr.cL ?_ (by intro j; simp [fp_Fg_check]) | (refine Fr.tr ?_ (frl_Fg_check_b34 (by with_reducible assumption)); try dsimp only))
      · have h := (if_neg g0).symm.trans h
        obtain rfl := Option.some.inj h
        try dsimp only [elS]
        repeat' (with_reducible first | exact Fr.rf | refine Fr.I ?_ (by simp [fp_Fg_check]) | refine Fr.L ?_ (by simp [fp_Fg_check]) | refine Fr.cI ?_ (by intro j; simp [fp_Fg_check]) | refine Fr.cL ?_ (by intro j; simp [fp_Fg_check]) | (refine Fr.tr ?_ (frl_Fg_check_b34 (by with_reducible assumption)); try dsimp only))
theorem fr_Fm_begins_b2 {v1 : Int32} {M : Mm} {oo : (Int32 × Mm) ⊕ (Mm)} (h : Fm_begins_b2 v1 M = some oo) : Fr (fp_Fm_begins) M (elS oo (fun s1 => s1.2) (fun x1 => x1)) := by
  unfold Fm_begins_b2 at h
  by_cases g0 : (64 : Int32) ≤ v1
  · have h := (if_pos g0).symm.trans h
    obtain rfl := Option.some.inj h
    try dsimp only [elS]
    repeat' (with_reducible first | exact Fr.rf | refine Fr.I ?_ (by simp [fp_Fm_begins]) | refine Fr.L ?_ (by simp [fp_Fm_begins]) | refine Fr.cI ?_ (by intro j; simp [fp_Fm_begins]) | refine Fr.cL ?_ (by intro j; simp [fp_Fm_begins]))
  · have h := (if_neg g0).symm.trans h
    obtain ⟨_, h⟩ := grd_s h
    obtain rfl := Option.some.inj h
    try dsimp only [elS]
    repeat' (with_reducible first | exact Fr.rf | refine Fr.I ?_ (by simp [fp_Fm_begins]) | refine Fr.L ?_ (by simp [fp_Fm_begins]) | refine Fr.cI ?_ (by intro j; simp [fp_Fm_begins]) | refine Fr.cL ?_ (by intro j; simp [fp_Fm_begins]))
theorem frl_Fm_begins_b2   {n1 : Nat} {s0 : Int32 × Mm} {y1 : Mm} (h : loop (fun s1 : Int32 × Mm => Fm_begins_b2 s1.1 s1.2) n1 s0 = some y1) : Fr (fp_Fm_begins) s0.2 y1 :=
  loop_inv (P := fun s2 : Int32 × Mm => Fr (fp_Fm_begins) s0.2 s2.2) (E := fun y1 : Mm => Fr (fp_Fm_begins) s0.2 y1) (fun s2 s3 hP hb => hP.tr (fr_Fm_begins_b2 hb)) (fun s2 x2 hP hb => hP.tr (fr_Fm_begins_b2 hb)) n1 s0 y1 h Fr.rf
theorem fr_Fm_begins {n : Nat} {M : Mm} {oo : Mm} (h : Fm_begins n M = some oo) : Fr (fp_Fm_begins) M oo := by
  unfold Fm_begins at h
  obtain ⟨y3, _, h⟩ := bnd_s h
  obtain ⟨_, h⟩ := grd_s h
  obtain ⟨_, h⟩ := grd_s h
  obtain ⟨_, h⟩ := grd_s h
  obtain ⟨_, h⟩ := grd_s h
  obtain ⟨_, h⟩ := grd_s h
  obtain ⟨_, h⟩ := grd_s h
  obtain ⟨_, h⟩ := grd_s h
  obtain rfl := Option.some.inj h
  try dsimp only [elS]
  repeat' (with_reducible first | exact Fr.rf | refine Fr.I ?_ (by simp [fp_Fm_begins]) | refine Fr.L ?_ (by simp [fp_Fm_begins]) | refine Fr.cI ?_ (by intro j; simp [fp_Fm_begins]) | refine Fr.cL ?_ (by intro j; simp [fp_Fm_begins]) | (refine Fr.tr ?_ (frl_Fm_begins_b2 (by with_reducible assumption)); try dsimp only))
theorem fr_Fm_takesDraft_j26 {v1 : Int32} {M : Mm} {oo : (Int32 × Mm) ⊕ (Mm)} (h : Fm_takesDraft_j26 v1 M = some oo) : Fr (fp_Fm_takesDraft) M (elS oo (fun s1 => s1.2) (fun x1 => x1)) := by
  unfold Fm_takesDraft_j26 at h
  obtain rfl := Option.some.inj h
  try dsimp only [elS]
  repeat' (with_reducible first | exact Fr.rf | refine Fr.I ?_ (by simp [fp_Fm_takesDraft]) | refine Fr.L ?_ (by simp [fp_Fm_takesDraft]) | refine Fr.cI ?_ (by intro j; simp [fp_Fm_takesDraft]) | refine Fr.cL ?_ (by intro j; simp [fp_Fm_takesDraft]))
theorem fr_Fm_takesDraft_b2 {v1 : Int32} {M : Mm} {oo : (Int32 × Mm) ⊕ (Mm)} (h : Fm_takesDraft_b2 v1 M = some oo) : Fr (fp_Fm_takesDraft) M (elS oo (fun s1 => s1.2) (fun x1 => x1)) := by
  unfold Fm_takesDraft_b2 at h
  by_cases g0 : (64 : Int32) ≤ v1
  · have h := (if_pos g0).symm.trans h
    obtain rfl := Option.some.inj h
    try dsimp only [elS]
    repeat' (with_reducible first | exact Fr.rf | refine Fr.I ?_ (by simp [fp_Fm_takesDraft]) | refine Fr.L ?_ (by simp [fp_Fm_takesDraft]) | refine Fr.cI ?_ (by intro j; simp [fp_Fm_takesDraft]) | refine Fr.cL ?_ (by intro j; simp [fp_Fm_takesDraft]))
  · have h := (if_neg g0).symm.trans h
    by_cases g0 : v1 = (6 : Int32)
    · have h := (if_pos g0).symm.trans h
      refine Fr.tr ?_ (fr_Fm_takesDraft_j26 h)
      try dsimp only [elS]
      repeat' (with_reducible first | exact Fr.rf | refine Fr.I ?_ (by simp [fp_Fm_takesDraft]) | refine Fr.L ?_ (by simp [fp_Fm_takesDraft]) | refine Fr.cI ?_ (by intro j; simp [fp_Fm_takesDraft]) | refine Fr.cL ?_ (by intro j; simp [fp_Fm_takesDraft]))
    · have h := (if_neg g0).symm.trans h
      obtain ⟨_, h⟩ := grd_s h
      obtain ⟨_, h⟩ := grd_s h
      refine Fr.tr ?_ (fr_Fm_takesDraft_j26 h)
      try dsimp only [elS]
      repeat' (with_reducible first | exact Fr.rf | refine Fr.I ?_ (by simp [fp_Fm_takesDraft]) | refine Fr.L ?_ (by simp [fp_Fm_takesDraft]) | refine Fr.cI ?_ (by intro j; simp [fp_Fm_takesDraft]) | refine Fr.cL ?_ (by intro j; simp [fp_Fm_takesDraft]))
theorem frl_Fm_takesDraft_b2   {n1 : Nat} {s0 : Int32 × Mm} {y1 : Mm} (h : loop (fun s1 : Int32 × Mm => Fm_takesDraft_b2 s1.1 s1.2) n1 s0 = some y1) : Fr (fp_Fm_takesDraft) s0.2 y1 :=
  loop_inv (P := fun s2 : Int32 × Mm => Fr (fp_Fm_takesDraft) s0.2 s2.2) (E := fun y1 : Mm => Fr (fp_Fm_takesDraft) s0.2 y1) (fun s2 s3 hP hb => hP.tr (fr_Fm_takesDraft_b2 hb)) (fun s2 x2 hP hb => hP.tr (fr_Fm_takesDraft_b2 hb)) n1 s0 y1 h Fr.rf
theorem fr_Fm_takesDraft {n : Nat} {M : Mm} {oo : Mm} (h : Fm_takesDraft n M = some oo) : Fr (fp_Fm_takesDraft) M oo := by
  unfold Fm_takesDraft at h
  obtain ⟨y5, _, h⟩ := bnd_s h
  obtain ⟨_, h⟩ := grd_s h
  obtain ⟨_, h⟩ := grd_s h
  obtain rfl := Option.some.inj h
  try dsimp only [elS]
  repeat' (with_reducible first | exact Fr.rf | refine Fr.I ?_ (by simp [fp_Fm_takesDraft]) | refine Fr.L ?_ (by simp [fp_Fm_takesDraft]) | refine Fr.cI ?_ (by intro j; simp [fp_Fm_takesDraft]) | refine Fr.cL ?_ (by intro j; simp [fp_Fm_takesDraft]) | (refine Fr.tr ?_ (frl_Fm_takesDraft_b2 (by with_reducible assumption)); try dsimp only))
theorem fr_Fm_copies_b2 {c1 : Int32} {c2 : Int32} {v3 : Int32} {M : Mm} {oo : (Int32 × Mm) ⊕ (Mm)} (h : Fm_copies_b2 c1 c2 v3 M = some oo) : Fr (fp_Fm_copies) M (elS oo (fun s1 => s1.2) (fun x1 => x1)) := by
  unfold Fm_copies_b2 at h
  by_cases g0 : (3064 : Int32) ≤ v3
  · have h := (if_pos g0).symm.trans h
    obtain rfl := Option.some.inj h
    try dsimp only [elS]
    repeat' (with_reducible first | exact Fr.rf | refine Fr.I ?_ (by simp [fp_Fm_copies]) | refine Fr.L ?_ (by simp [fp_Fm_copies]) | refine Fr.cI ?_ (by intro j; simp [fp_Fm_copies]) | refine Fr.cL ?_ (by intro j; simp [fp_Fm_copies]))
  · have h := (if_neg g0).symm.trans h
    obtain ⟨_, h⟩ := grd_s h
    obtain ⟨_, h⟩ := grd_s h
    obtain rfl := Option.some.inj h
    try dsimp only [elS]
    repeat' (with_reducible first | exact Fr.rf | refine Fr.I ?_ (by simp [fp_Fm_copies]) | refine Fr.L ?_ (by simp [fp_Fm_copies]) | refine Fr.cI ?_ (by intro j; simp [fp_Fm_copies]) | refine Fr.cL ?_ (by intro j; simp [fp_Fm_copies]))
theorem frl_Fm_copies_b2 {c1 : Int32} {c2 : Int32}  {n1 : Nat} {s0 : Int32 × Mm} {y1 : Mm} (h : loop (fun s1 : Int32 × Mm => Fm_copies_b2 c1 c2 s1.1 s1.2) n1 s0 = some y1) : Fr (fp_Fm_copies) s0.2 y1 :=
  loop_inv (P := fun s2 : Int32 × Mm => Fr (fp_Fm_copies) s0.2 s2.2) (E := fun y1 : Mm => Fr (fp_Fm_copies) s0.2 y1) (fun s2 s3 hP hb => hP.tr (fr_Fm_copies_b2 hb)) (fun s2 x2 hP hb => hP.tr (fr_Fm_copies_b2 hb)) n1 s0 y1 h Fr.rf
theorem fr_Fm_copies {n : Nat} {v1 : Int32} {v2 : Int32} {M : Mm} {oo : Mm} (h : Fm_copies n v1 v2 M = some oo) : Fr (fp_Fm_copies) M oo := by
  unfold Fm_copies at h
  obtain ⟨y4, _, h⟩ := bnd_s h
  obtain rfl := Option.some.inj h
  try dsimp only [elS]
  repeat' (with_reducible first | exact Fr.rf | refine Fr.I ?_ (by simp [fp_Fm_copies]) | refine Fr.L ?_ (by simp [fp_Fm_copies]) | refine Fr.cI ?_ (by intro j; simp [fp_Fm_copies]) | refine Fr.cL ?_ (by intro j; simp [fp_Fm_copies]) | (refine Fr.tr ?_ (frl_Fm_copies_b2 (by with_reducible assumption)); try dsimp only))
theorem fr_Fm_sets {v1 : Int32} {v2 : Int32} {v3 : Int32} {M : Mm} {oo : Mm} (h : Fm_sets v1 v2 v3 M = some oo) : Fr (fp_Fm_sets) M oo := by
  unfold Fm_sets at h
  obtain ⟨_, h⟩ := grd_s h
  obtain rfl := Option.some.inj h
  try dsimp only [elS]
  repeat' (with_reducible first | exact Fr.rf | refine Fr.I ?_ (by simp [fp_Fm_sets]) | refine Fr.L ?_ (by simp [fp_Fm_sets]) | refine Fr.cI ?_ (by intro j; simp [fp_Fm_sets]) | refine Fr.cL ?_ (by intro j; simp [fp_Fm_sets]))
theorem fr_Fm_types_b2 {c1 : Int32} {v2 : Int32} {M : Mm} {oo : (Int32 × Mm) ⊕ (Mm)} (h : Fm_types_b2 c1 v2 M = some oo) : Fr (fp_Fm_types) M (elS oo (fun s1 => s1.2) (fun x1 => x1)) := by
  unfold Fm_types_b2 at h
  by_cases g0 : v2 < (0 : Int32)
  · have h := (if_pos g0).symm.trans h
    obtain rfl := Option.some.inj h
    try dsimp only [elS]
    repeat' (with_reducible first | exact Fr.rf | refine Fr.I ?_ (by simp [fp_Fm_types]) | refine Fr.L ?_ (by simp [fp_Fm_types]) | refine Fr.cI ?_ (by intro j; simp [fp_Fm_types]) | refine Fr.cL ?_ (by intro j; simp [fp_Fm_types]))
  · have h := (if_neg g0).symm.trans h
    obtain ⟨_, h⟩ := grd_s h
    obtain rfl := Option.some.inj h
    try dsimp only [elS]
    repeat' (with_reducible first | exact Fr.rf | refine Fr.I ?_ (by simp [fp_Fm_types]) | refine Fr.L ?_ (by simp [fp_Fm_types]) | refine Fr.cI ?_ (by intro j; simp [fp_Fm_types]) | refine Fr.cL ?_ (by intro j; simp [fp_Fm_types]))
theorem frl_Fm_types_b2 {c1 : Int32}  {n1 : Nat} {s0 : Int32 × Mm} {y1 : Mm} (h : loop (fun s1 : Int32 × Mm => Fm_types_b2 c1 s1.1 s1.2) n1 s0 = some y1) : Fr (fp_Fm_types) s0.2 y1 :=
  loop_inv (P := fun s2 : Int32 × Mm => Fr (fp_Fm_types) s0.2 s2.2) (E := fun y1 : Mm => Fr (fp_Fm_types) s0.2 y1) (fun s2 s3 hP hb => hP.tr (fr_Fm_types_b2 hb)) (fun s2 x2 hP hb => hP.tr (fr_Fm_types_b2 hb)) n1 s0 y1 h Fr.rf
theorem fr_Fm_types {n : Nat} {v1 : Int32} {M : Mm} {oo : Mm} (h : Fm_types n v1 M = some oo) : Fr (fp_Fm_types) M oo := by
  unfold Fm_types at h
  obtain ⟨y3, _, h⟩ := bnd_s h
  obtain rfl := Option.some.inj h
  try dsimp only [elS]
  repeat' (with_reducible first | exact Fr.rf | refine Fr.I ?_ (by simp [fp_Fm_types]) | refine Fr.L ?_ (by simp [fp_Fm_types]) | refine Fr.cI ?_ (by intro j; simp [fp_Fm_types]) | refine Fr.cL ?_ (by intro j; simp [fp_Fm_types]) | (refine Fr.tr ?_ (frl_Fm_types_b2 (by with_reducible assumption)); try dsimp only))
theorem mono_Fm_feed_0  : ∀ c j, fp_Fm_types c j → fp_Fm_feed c j := fun c j => (fun h => h.elim (fun e => Or.inl e) (fun e => Or.inr (e)))
theorem fr_Fm_feed {n : Nat} {v1 : Int32} {v2 : Int32} {v3 : Int32} {v4 : Int32} {v5 : Int32} {M : Mm} {oo : Int32 × Mm} (h : Fm_feed n v1 v2 v3 v4 v5 M = some oo) : Fr (fp_Fm_feed) M oo.2 := by
  unfold Fm_feed at h
  by_cases g0 : ((M.1 94 4) + (20 : Int32)) ≤ (240 : Int32)
  · have h := (if_pos g0).symm.trans h
    obtain ⟨z2, _, h⟩ := bnd_s h
    obtain ⟨z4, _, h⟩ := bnd_s h
    obtain ⟨z6, _, h⟩ := bnd_s h
    obtain ⟨z8, _, h⟩ := bnd_s h
    obtain ⟨z10, _, h⟩ := bnd_s h
    obtain rfl := Option.some.inj h
    try dsimp only [elS]
    repeat' (with_reducible first | exact Fr.rf | refine Fr.I ?_ (by simp [fp_Fm_feed]) | refine Fr.L ?_ (by simp [fp_Fm_feed]) | refine Fr.cI ?_ (by intro j; simp [fp_Fm_feed]) | refine Fr.cL ?_ (by intro j; simp [fp_Fm_feed]) | (refine Fr.tr ?_ (Fr.mono (fr_Fm_types (by with_reducible assumption)) mono_Fm_feed_0); try dsimp only))
  · have h := (if_neg g0).symm.trans h
    obtain rfl := Option.some.inj h
    try dsimp only [elS]
    repeat' (with_reducible first | exact Fr.rf | refine Fr.I ?_ (by simp [fp_Fm_feed]) | refine Fr.L ?_ (by simp [fp_Fm_feed]) | refine Fr.cI ?_ (by intro j; simp [fp_Fm_feed]) | refine Fr.cL ?_ (by intro j; simp [fp_Fm_feed]) | (refine Fr.tr ?_ (Fr.mono (fr_Fm_types (by with_reducible assumption)) mono_Fm_feed_0); try dsimp only))
