/-! THE CLAIM OUT OF ONE WALK OF THE LAW'S BODY. Your part is whole_start (and what it stands on); all else here is the same for every law, but numbers. -/
def R_law : String := "FlexGridLaw"
def lw_P (b : Addr) (xs : List Int32) (args : Array Value) (s : State) : Prop := args = #[.ref b] ∧ s.IntsAt b xs ∧ xs.length ≤ 3072 ∧ (Jvm.Cond.and given_1 narrow_1).before args s = true
def lw_Q (_ : Array Value) (s : State) (o : Outcome) (t : State) : Prop := o = .returned (some (.int 1)) ∧ Framed s o t [] 600000 7302250
def lw_Z (below : List Frame) (a : Array Value) (s : State) : State → Prop := fun t => ∃ o, t.status = .running ∧ Ended t below o ∧ lw_Q a s o t
/-- the law's own end, with 1 on the stack, nothing written that was there before, its room as the claim has it -/
theorem lw_ret {p : Program} {l : Launch} {e : Env} {s : State} {m : MethodId} {below : List Frame} {meth : Method} {c : Code} {b : Nat} (hx : p.tables.exec = Jvm.exec) (hb : c.code = code) (hr : meth.sig.returnType = ret) (hlocks : meth.locks = false) {pc : Nat} {H : Heap} {ls : Array Slot} (hdg : decode code pc = .ok (.ireturn, 1)) : W p l e room_1 s m #[Value.ref b] below meth c H [] 600000 7302250 (lw_Z below #[Value.ref b] s) (F0 m pc ls [.int 1]) := by
  intro T hT X
  obtain ⟨fs, hret, hrun, hended, hW, hframe⟩ := X.leave (v := some (.int 1)) (hlocks := hlocks) (fun h => by rw [hr] at h; cases h)
  have hmeth' : T.vm.method? m = some meth := X.method'
  refine ⟨T.setFrames fs, ?_, .returned (some (.int 1)), hrun, hended, rfl, ⟨_, rfl⟩, hW, hframe⟩
  jvm_step X.here [X.here.top, hx, hb, hdg, hmeth', hr, ret, narrow_b1]
  (try refine ⟨rfl, ?_⟩); (try refine ⟨rfl, ?_⟩)
  first | (intro acts; rw [hret _ acts rfl rfl rfl]) | rw [hret _ _ rfl rfl rfl]
  exact Steps.refl _
/-- what holds at the law's entry: the machine, the code, the tables' words (any of lw_tbl by 'hts w (by decide +kernel)'), the script of L ints xs at the cell b, what the Statement gives of the start (any of its parts by flat_of_before) -/
def lw_At (p : Program) (s : State) (m : MethodId) (meth : Method) (c : Code) (b L : Nat) (xs : Nat → Int32) : Prop :=
  p.tables.exec = Jvm.exec ∧ c.code = code ∧ meth.sig.returnType = ret ∧ c.maxLocals = 4 ∧ s.vm.findClass R_law = some m.cls ∧ (∀ w ∈ lw_tbl, w.before #[Value.ref b] s = true) ∧ va_X b L xs s s.heap ∧ b < s.heap.size ∧ meth.locks = false ∧ (Jvm.Cond.and given_1 narrow_1).before #[Value.ref b] s = true

/-! the shape when all is made -/
def chF (L : List (Nat × Nat × Nat)) (R : Nat → Nat → Option Nat) : Nat → Nat → Option Nat := L.foldl (fun R q => up2 R q.1 q.2.1 (some q.2.2)) R
theorem chF_out : ∀ (L : List (Nat × Nat × Nat)) (R : Nat → Nat → Option Nat) (a j : Nat), (∀ q ∈ L, ¬ (q.1 = a ∧ q.2.1 = j)) → chF L R a j = R a j
  | [], _, _, _, _ => rfl
  | q :: L, R, a, j, h => by
    have h1 := chF_out L (up2 R q.1 q.2.1 (some q.2.2)) a j (fun x hx => h x (List.mem_cons_of_mem _ hx))
    have h2 : up2 R q.1 q.2.1 (some q.2.2) a j = R a j := if_neg (fun e => h q List.mem_cons_self ⟨e.1.symm, e.2.symm⟩)
    exact h1.trans h2
theorem lookup_no {β : Type} : ∀ (L : List (Nat × β)) (a : Nat), (∀ q ∈ L, q.1 ≠ a) → L.lookup a = none
  | [], _, _ => rfl
  | (k, v) :: L, a, h => by
    have h1 : (a == k) = false := by simpa using fun e : a = k => h (k, v) List.mem_cons_self e.symm
    simp only [List.lookup, h1]
    exact lookup_no L a (fun q hq => h q (List.mem_cons_of_mem _ hq))
def chL1 : List (Nat × Nat × Nat) := [(1, 0, 2), (0, 0, 1), (4, 5, 5), (4, 6, 6), (4, 7, 7), (4, 8, 8), (4, 9, 9), (3, 1, 4), (3, 2, 10), (3, 3, 11), (3, 0, 1), (0, 1, 3), (13, 0, 14), (13, 1, 15), (13, 2, 16), (13, 3, 17), (13, 4, 115), (12, 0, 13), (0, 2, 12), (19, 5, 20), (19, 6, 21), (19, 7, 22), (19, 8, 23), (19, 9, 24), (18, 0, 19), (18, 5, 25), (18, 6, 26), (18, 7, 27), (18, 8, 28), (18, 9, 29), (18, 10, 30), (18, 11, 31), (18, 12, 32), (18, 13, 33), (18, 14, 34), (18, 15, 35), (0, 3, 18), (37, 5, 38), (37, 6, 39), (37, 7, 40), (37, 8, 41), (37, 9, 42), (36, 0, 37), (36, 5, 43), (36, 6, 44), (36, 7, 45), (36, 8, 46), (36, 9, 47), (36, 10, 48), (36, 11, 49), (36, 12, 50), (36, 13, 51), (36, 14, 52), (36, 15, 53), (0, 4, 36), (55, 5, 56), (55, 6, 57), (55, 7, 58), (55, 8, 59), (55, 9, 60), (54, 0, 55), (54, 5, 61), (54, 6, 62), (54, 7, 63), (54, 8, 64), (54, 9, 65), (54, 10, 66), (54, 11, 67), (54, 12, 68), (54, 13, 69), (54, 14, 70), (54, 15, 71), (0, 5, 54), (74, 5, 75), (74, 6, 76), (74, 7, 77), (74, 8, 78), (74, 9, 79), (73, 0, 74), (73, 5, 80), (73, 6, 81), (73, 7, 82), (73, 8, 83), (73, 9, 84), (73, 10, 85), (73, 11, 86), (73, 12, 87), (73, 13, 88), (73, 14, 89), (73, 15, 90), (72, 1, 73), (72, 5, 91), (72, 6, 92), (72, 0, 54), (72, 2, 12), (0, 6, 72), (93, 0, 54), (93, 1, 12), (0, 7, 93)]
def chL2 : List (Nat × Nat × Nat) := [(94, 0, 95), (94, 1, 96), (94, 3, 97), (94, 13, 98), (94, 14, 99), (94, 15, 100), (94, 16, 101), (94, 17, 102), (94, 18, 103), (94, 23, 104), (94, 24, 105), (94, 25, 106), (94, 26, 107), (94, 27, 108), (94, 28, 109), (94, 29, 110), (94, 30, 111), (94, 35, 112), (94, 40, 113), (94, 41, 114)]
def R0 : Nat → Nat → Option Nat := fun _ _ => none
theorem ch_in : ∀ q ∈ chL1 ++ chL2, chF chL2 (chF chL1 R0) q.1 q.2.1 = some q.2.2 ∧ rfF q.1 q.2.1 = some q.2.2 := by decide +kernel
theorem rf_in : ∀ p ∈ rfT, ∀ q ∈ p.2, (p.1, q.1, q.2) ∈ chL1 ++ chL2 := by decide +kernel
theorem lookup_in {β : Type} : ∀ (L : List (Nat × β)) (a : Nat) (v : β), L.lookup a = some v → (a, v) ∈ L
  | [], _, _, h => by cases h
  | (k, w) :: L, a, v, h => by
    simp only [List.lookup] at h
    split at h
    · next e =>
      have e2 : a = k := by simpa using e
      cases h
      rw [e2]
      exact List.mem_cons_self
    · exact List.mem_cons_of_mem _ (lookup_in L a v h)
theorem ch_rf : chF chL2 (chF chL1 R0) = rfF := by
  funext a j
  by_cases h : ∃ q ∈ chL1 ++ chL2, q.1 = a ∧ q.2.1 = j
  · obtain ⟨q, hq, rfl, rfl⟩ := h
    rw [(ch_in q hq).1, (ch_in q hq).2]
  · have hn : ∀ q ∈ chL1 ++ chL2, ¬ (q.1 = a ∧ q.2.1 = j) := fun q hq e => h ⟨q, hq, e⟩
    rw [chF_out chL2 _ a j (fun q hq => hn q (List.mem_append_right _ hq)), chF_out chL1 _ a j (fun q hq => hn q (List.mem_append_left _ hq))]
    show none = (rfT.lookup a).bind (fun r => r.lookup j)
    cases hl : rfT.lookup a with
    | none => rfl
    | some r =>
      cases hl2 : r.lookup j with
      | none => exact hl2.symm
      | some v => exact absurd ⟨rfl, rfl⟩ (hn (a, j, v) (rf_in (a, r) (lookup_in _ _ _ hl) (j, v) (lookup_in _ _ _ hl2)))
theorem in_all : ∀ c, c < 10 → Cond.instantiable (RN c) (NF c) ∈ lwG
  | 0, _ => in0
  | 1, _ => in1
  | 2, _ => in2
  | 3, _ => in3
  | 4, _ => in4
  | 5, _ => in5
  | 6, _ => in6
  | 7, _ => in7
  | 8, _ => in8
  | 9, _ => in9
  | n + 10, h => absurd h (by omega)
def nrw : List Cond := flatC (Jvm.Cond.and given_1 narrow_1)
theorem nw_of0 {α : Type} {ps : List Nat} {L : List α} {f : α → Cond} (h : ps.map (fun i => nrw[i]?) = L.map (fun q => some (f q))) {q : α} (hq : q ∈ L) : f q ∈ nrw := by
  have h1 : some (f q) ∈ L.map (fun q => some (f q)) := List.mem_map.mpr ⟨q, hq, rfl⟩
  rw [← h] at h1
  obtain ⟨i, -, hi⟩ := List.mem_map.mp h1
  exact List.mem_of_getElem? hi
theorem nw_a0 : Cond.arrayOf (.static "FlexGrid$Reader" "GRID_NUMBERS" "[I") .int ∈ nrw := List.mem_of_getElem? (i := 5) (by decide +kernel)
theorem nw_l0 : Cond.eq (.length (.static "FlexGrid$Reader" "GRID_NUMBERS" "[I")) (.int (Int32.ofNat 5)) ∈ nrw := List.mem_of_getElem? (i := 6) (by decide +kernel)
theorem nwe_0 : ([7, 8, 9, 10, 11] : List Nat).map (fun i => nrw[i]?) = (List.range 5).map (fun q => some (Cond.eq (.elem (.static "FlexGrid$Reader" "GRID_NUMBERS" "[I") (.int (Int32.ofNat q))) (.int ((stT 0).getD q 0)))) := by decide +kernel
theorem nw_e0 (i : Nat) (hi : i < 5) : Cond.eq (.elem (.static "FlexGrid$Reader" "GRID_NUMBERS" "[I") (.int (Int32.ofNat i))) (.int ((stT 0).getD i 0)) ∈ nrw := nw_of0 (f := fun q => Cond.eq (.elem (.static "FlexGrid$Reader" "GRID_NUMBERS" "[I") (.int (Int32.ofNat q))) (.int ((stT 0).getD q 0))) nwe_0 (List.mem_range.mpr hi)
theorem nw_s0 : Cond.laysStatic "FlexGrid$Reader" "GRID_NUMBERS" "[I" ∈ lw_tbl := List.mem_of_getElem? (i := 541) (by decide +kernel)
theorem nw_a1 : Cond.arrayOf (.static "FlexGrid$Reader" "STEP_NUMBERS" "[I") .int ∈ nrw := List.mem_of_getElem? (i := 13) (by decide +kernel)
theorem nw_l1 : Cond.eq (.length (.static "FlexGrid$Reader" "STEP_NUMBERS" "[I")) (.int (Int32.ofNat 11)) ∈ nrw := List.mem_of_getElem? (i := 14) (by decide +kernel)
theorem nwe_1 : ([15, 16, 17, 18, 19, 20, 21, 22, 23, 24, 25] : List Nat).map (fun i => nrw[i]?) = (List.range 11).map (fun q => some (Cond.eq (.elem (.static "FlexGrid$Reader" "STEP_NUMBERS" "[I") (.int (Int32.ofNat q))) (.int ((stT 1).getD q 0)))) := by decide +kernel
theorem nw_e1 (i : Nat) (hi : i < 11) : Cond.eq (.elem (.static "FlexGrid$Reader" "STEP_NUMBERS" "[I") (.int (Int32.ofNat i))) (.int ((stT 1).getD i 0)) ∈ nrw := nw_of0 (f := fun q => Cond.eq (.elem (.static "FlexGrid$Reader" "STEP_NUMBERS" "[I") (.int (Int32.ofNat q))) (.int ((stT 1).getD q 0))) nwe_1 (List.mem_range.mpr hi)
theorem nw_s1 : Cond.laysStatic "FlexGrid$Reader" "STEP_NUMBERS" "[I" ∈ lw_tbl := List.mem_of_getElem? (i := 543) (by decide +kernel)
theorem nw_a2 : Cond.arrayOf (.static "FlexGrid$Reader" "STEP_RULE" "[I") .int ∈ nrw := List.mem_of_getElem? (i := 32) (by decide +kernel)
theorem nw_l2 : Cond.eq (.length (.static "FlexGrid$Reader" "STEP_RULE" "[I")) (.int (Int32.ofNat 11)) ∈ nrw := List.mem_of_getElem? (i := 33) (by decide +kernel)
theorem nwe_2 : ([34, 35, 36, 37, 38, 39, 40, 41, 42, 43, 44] : List Nat).map (fun i => nrw[i]?) = (List.range 11).map (fun q => some (Cond.eq (.elem (.static "FlexGrid$Reader" "STEP_RULE" "[I") (.int (Int32.ofNat q))) (.int ((stT 2).getD q 0)))) := by decide +kernel
theorem nw_e2 (i : Nat) (hi : i < 11) : Cond.eq (.elem (.static "FlexGrid$Reader" "STEP_RULE" "[I") (.int (Int32.ofNat i))) (.int ((stT 2).getD i 0)) ∈ nrw := nw_of0 (f := fun q => Cond.eq (.elem (.static "FlexGrid$Reader" "STEP_RULE" "[I") (.int (Int32.ofNat q))) (.int ((stT 2).getD q 0))) nwe_2 (List.mem_range.mpr hi)
theorem nw_s2 : Cond.laysStatic "FlexGrid$Reader" "STEP_RULE" "[I" ∈ lw_tbl := List.mem_of_getElem? (i := 647) (by decide +kernel)
theorem nw_cs : Cond.eq (.static "java/lang/String" "COMPACT_STRINGS" "Z") (.int 1) ∈ nrw := by decide +kernel
theorem nw_csl : Cond.laysStatic "java/lang/String" "COMPACT_STRINGS" "Z" ∈ lw_tbl := List.mem_of_getElem? (i := 579) (by decide +kernel)
theorem nw_fm : Cond.isRef (.static "jdk/internal/util/Preconditions" "SIOOBE_FORMATTER" "Ljava/util/function/BiFunction;") ∈ nrw := by decide +kernel
theorem nw_fml : Cond.laysStatic "jdk/internal/util/Preconditions" "SIOOBE_FORMATTER" "Ljava/util/function/BiFunction;" ∈ lw_tbl := List.mem_of_getElem? (i := 595) (by decide +kernel)
def strT (i : Nat) : Term := .string "FlexGrid$Reader" (strI.getD i 0)
theorem nwp_x : ([45, 54, 64, 77, 89, 101, 113, 127, 143, 160, 177, 194, 213, 236, 257, 280] : List Nat).map (fun i => nrw[i]?) = (List.range 16 : List Nat).map (fun q => some (Cond.exactly (strT q) "java/lang/String")) := by decide +kernel
theorem nwp_c : ([46, 55, 65, 78, 90, 102, 114, 128, 144, 161, 178, 195, 214, 237, 258, 281] : List Nat).map (fun i => nrw[i]?) = (List.range 16 : List Nat).map (fun q => some (Cond.eq (.field (strT q) "java/lang/String" "coder" "B") (.int 0))) := by decide +kernel
theorem nwp_v : ([47, 56, 66, 79, 91, 103, 115, 129, 145, 162, 179, 196, 215, 238, 259, 282] : List Nat).map (fun i => nrw[i]?) = (List.range 16 : List Nat).map (fun q => some (Cond.arrayOf (.field (strT q) "java/lang/String" "value" "[B") .byte)) := by decide +kernel
theorem nwp_n : ([48, 57, 67, 80, 92, 104, 116, 130, 146, 163, 180, 197, 216, 239, 260, 283] : List Nat).map (fun i => nrw[i]?) = (List.range 16 : List Nat).map (fun q => some (Cond.eq (.length (.field (strT q) "java/lang/String" "value" "[B")) (.int (Int32.ofNat (strL.getD q 0))))) := by decide +kernel
def prs : List (Nat × Nat) := [(0, 1), (0, 2), (0, 3), (0, 4), (0, 5), (0, 6), (0, 7), (0, 8), (0, 9), (0, 10), (0, 11), (0, 12), (0, 13), (0, 14), (0, 15), (1, 2), (1, 3), (1, 4), (1, 5), (1, 6), (1, 7), (1, 8), (1, 9), (1, 10), (1, 11), (1, 12), (1, 13), (1, 14), (1, 15), (2, 3), (2, 4), (2, 5), (2, 6), (2, 7), (2, 8), (2, 9), (2, 10), (2, 11), (2, 12), (2, 13), (2, 14), (2, 15), (3, 4), (3, 5), (3, 6), (3, 7), (3, 8), (3, 9), (3, 10), (3, 11), (3, 12), (3, 13), (3, 14), (3, 15), (4, 5), (4, 6), (4, 7), (4, 8), (4, 9), (4, 10), (4, 11), (4, 12), (4, 13), (4, 14), (4, 15), (5, 6), (5, 7), (5, 8), (5, 9), (5, 10), (5, 11), (5, 12), (5, 13), (5, 14), (5, 15), (6, 7), (6, 8), (6, 9), (6, 10), (6, 11), (6, 12), (6, 13), (6, 14), (6, 15), (7, 8), (7, 9), (7, 10), (7, 11), (7, 12), (7, 13), (7, 14), (7, 15), (8, 9), (8, 10), (8, 11), (8, 12), (8, 13), (8, 14), (8, 15), (9, 10), (9, 11), (9, 12), (9, 13), (9, 14), (9, 15), (10, 11), (10, 12), (10, 13), (10, 14), (10, 15), (11, 12), (11, 13), (11, 14), (11, 15), (12, 13), (12, 14), (12, 15), (13, 14), (13, 15), (14, 15)]
def bps : List (Nat × Nat) := [(0, 0), (0, 1), (0, 2), (0, 3), (0, 4), (1, 0), (1, 1), (1, 2), (1, 3), (1, 4), (2, 0), (2, 1), (2, 2), (2, 3), (2, 4), (2, 5), (2, 6), (3, 0), (3, 1), (3, 2), (3, 3), (3, 4), (4, 0), (4, 1), (4, 2), (4, 3), (5, 0), (5, 1), (5, 2), (6, 0), (6, 1), (6, 2), (6, 3), (7, 0), (7, 1), (7, 2), (7, 3), (7, 4), (8, 0), (8, 1), (8, 2), (8, 3), (8, 4), (9, 0), (9, 1), (9, 2), (9, 3), (10, 0), (10, 1), (10, 2), (11, 0), (11, 1), (11, 2), (11, 3), (12, 0), (12, 1), (12, 2), (12, 3), (12, 4), (12, 5), (12, 6), (13, 0), (13, 1), (13, 2), (13, 3), (14, 0), (14, 1), (14, 2), (14, 3), (14, 4), (15, 0), (15, 1), (15, 2), (15, 3), (15, 4)]
theorem nwp_d : ([63, 75, 86, 97, 108, 121, 136, 152, 168, 184, 202, 224, 244, 266, 289, 76, 87, 98, 109, 122, 137, 153, 169, 185, 203, 225, 245, 267, 290, 88, 99, 110, 123, 138, 154, 170, 186, 204, 226, 246, 268, 291, 100, 111, 124, 139, 155, 171, 187, 205, 227, 247, 269, 292, 112, 125, 140, 156, 172, 188, 206, 228, 248, 270, 293, 126, 141, 157, 173, 189, 207, 229, 249, 271, 294, 142, 158, 174, 190, 208, 230, 250, 272, 295, 159, 175, 191, 209, 231, 251, 273, 296, 176, 192, 210, 232, 252, 274, 297, 193, 211, 233, 253, 275, 298, 212, 234, 254, 276, 299, 235, 255, 277, 300, 256, 278, 301, 279, 302, 303] : List Nat).map (fun i => nrw[i]?) = (prs : List (Nat × Nat)).map (fun q => some (Cond.not (Cond.eq (strT q.1) (strT q.2)))) := by decide +kernel
theorem nwp_b : ([49, 50, 51, 52, 53, 58, 59, 60, 61, 62, 68, 69, 70, 71, 72, 73, 74, 81, 82, 83, 84, 85, 93, 94, 95, 96, 105, 106, 107, 117, 118, 119, 120, 131, 132, 133, 134, 135, 147, 148, 149, 150, 151, 164, 165, 166, 167, 181, 182, 183, 198, 199, 200, 201, 217, 218, 219, 220, 221, 222, 223, 240, 241, 242, 243, 261, 262, 263, 264, 265, 284, 285, 286, 287, 288] : List Nat).map (fun i => nrw[i]?) = (bps : List (Nat × Nat)).map (fun q => some (Cond.eq (.elem (.field (strT q.1) "java/lang/String" "value" "[B") (.int (Int32.ofNat q.2))) (.int ((strB.getD q.1 []).getD q.2 0)))) := by decide +kernel
theorem nw_of {α : Type} {ps : List Nat} {L : List α} {f : α → Cond} (h : ps.map (fun i => nrw[i]?) = L.map (fun q => some (f q))) {q : α} (hq : q ∈ L) : f q ∈ nrw := by
  have h1 : some (f q) ∈ L.map (fun q => some (f q)) := List.mem_map.mpr ⟨q, hq, rfl⟩
  rw [← h] at h1
  obtain ⟨i, -, hi⟩ := List.mem_map.mp h1
  exact List.mem_of_getElem? hi
theorem nw_x (i : Nat) (hi : i < 16) : Cond.exactly (strT i) "java/lang/String" ∈ nrw := nw_of (f := fun q => Cond.exactly (strT q) "java/lang/String") nwp_x (List.mem_range.mpr hi)
theorem nw_c (i : Nat) (hi : i < 16) : Cond.eq (.field (strT i) "java/lang/String" "coder" "B") (.int 0) ∈ nrw := nw_of (f := fun q => Cond.eq (.field (strT q) "java/lang/String" "coder" "B") (.int 0)) nwp_c (List.mem_range.mpr hi)
theorem nw_v (i : Nat) (hi : i < 16) : Cond.arrayOf (.field (strT i) "java/lang/String" "value" "[B") .byte ∈ nrw := nw_of (f := fun q => Cond.arrayOf (.field (strT q) "java/lang/String" "value" "[B") .byte) nwp_v (List.mem_range.mpr hi)
theorem nw_n (i : Nat) (hi : i < 16) : Cond.eq (.length (.field (strT i) "java/lang/String" "value" "[B")) (.int (Int32.ofNat (strL.getD i 0))) ∈ nrw := nw_of (f := fun q => Cond.eq (.length (.field (strT q) "java/lang/String" "value" "[B")) (.int (Int32.ofNat (strL.getD q 0)))) nwp_n (List.mem_range.mpr hi)
theorem bps_in : ∀ i, i < 16 → ∀ j, j < strL.getD i 0 → (i, j) ∈ bps := by decide +kernel
theorem prs_in0 : ∀ i, i < 16 → ∀ j, j < 16 → (¬ i < j ∨ (i, j) ∈ prs) := by decide +kernel
theorem prs_in (i : Nat) (hi : i < 16) (j : Nat) (hj : j < 16) (h : i < j) : (i, j) ∈ prs := (prs_in0 i hi j hj).resolve_left (fun q => q h)
theorem nw_b (i : Nat) (hi : i < 16) (j : Nat) (hj : j < strL.getD i 0) : Cond.eq (.elem (.field (strT i) "java/lang/String" "value" "[B") (.int (Int32.ofNat j))) (.int ((strB.getD i []).getD j 0)) ∈ nrw := nw_of (f := fun q : Nat × Nat => Cond.eq (.elem (.field (strT q.1) "java/lang/String" "value" "[B") (.int (Int32.ofNat q.2))) (.int ((strB.getD q.1 []).getD q.2 0))) nwp_b (bps_in i hi j hj)
theorem nw_d (i : Nat) (hi : i < 16) (j : Nat) (hj : j < 16) (hn : i ≠ j) : (Cond.not (Cond.eq (strT i) (strT j)) ∈ nrw ∨ Cond.not (Cond.eq (strT j) (strT i)) ∈ nrw) := by
  rcases Nat.lt_or_gt_of_ne hn with h | h
  · exact Or.inl (nw_of (f := fun q : Nat × Nat => Cond.not (Cond.eq (strT q.1) (strT q.2))) nwp_d (prs_in i hi j hj h))
  · exact Or.inr (nw_of (f := fun q : Nat × Nat => Cond.not (Cond.eq (strT q.1) (strT q.2))) nwp_d (prs_in j hj i hi h))
theorem nw_r : ∀ i, i < 16 → Cond.stringRef "FlexGrid$Reader" (strI.getD i 0) (strX.getD i "") ∈ tables_1 := by decide +kernel
theorem nw_nest : ∀ q ∈ nests, Cond.methodLinkNest (RN q.1) q.2.1 q.2.2 RX8 ∈ tables_1 := by decide +kernel
theorem strL_small : ∀ i, i < 16 → strL.getD i 0 < 2 ^ 31 := by decide +kernel
def M0 : Mm := (fun _ _ => 0, fun _ _ => 0)
/-- what the statement rests on, of the functions alone: for every script there is enough fuel, and they say true -/
def PURE : Prop := ∀ (L : Nat) (xs : Nat → Int32), L ≤ 3072 → ∃ (n : Nat) (z1 z2 : Mm) (z : Bool × Mm), Fg_init0 n M0 = some z1 ∧ Fm_init94 n z1 = some z2 ∧ La_law n L xs z2 = some z ∧ z.1 = true
theorem arr_of {s : State} {args : Array Value} {ty : FieldType} (h : (Cond.arrayClass ty).before args s = true) (ho : ∀ c, ty ≠ .object c) : ∃ cA, ArrOfT s cA ty ∧ va_RA s cA ty := by
  obtain ⟨c, k, comp, h1, h2, h3⟩ := Cond.arrayClass_spec h
  refine ⟨c, fun n z => ⟨fun k h => (by cases h), k, h2, comp, h3⟩, ?_⟩
  cases ty with
  | object c => exact absurd rfl (ho c)
  | _ => exact h1
set_option maxHeartbeats 4000000 in
set_option maxRecDepth 100000 in
theorem whole_start_of (hP : PURE) {p : Program} {e : Env} {s : State} {m : MethodId} {below : List Frame} {meth : Method} {c : Code} (l : Launch) {b L : Nat} {xs : Nat → Int32} (hL : L ≤ 3072) (C0 : lw_At p s m meth c b L xs) : W p l e room_1 s m #[Value.ref b] below meth c s.heap [] 0 0 (lw_Z below #[Value.ref b] s) (entryFrame m ([Value.ref b] : List Value).toArray 4) := by
  obtain ⟨hx, hb, hr, hml, hown, hts, hX, hbl, hlocks, hgv⟩ := id C0
  have htg : ∀ w ∈ lwG, w.before #[Value.ref b] s = true := fun w h => hts w (List.mem_filter.mp h).1
  have hs : ∀ w ∈ nrw, w.before #[Value.ref b] s = true := flat_of_before _ hgv
  have hA : ∀ a : Nat, a < s.heap.size → ¬ (fun q : Nat => s.heap.size ≤ q) a := fun a ha => Nat.not_le.mpr ha
  have hk : ∀ c, c < 10 → ∃ (cC : ClassId) (iS : Nat → Nat), u_Kn s (RN c) (TN c) (NF c) cC iS := fun c hc => u_known htg (cls_ok c hc).1 (htg _ (in_all c hc))
  obtain ⟨dC, dI, hD⟩ : ∃ (dC : Nat → ClassId) (dI : Nat → Nat → Nat), ∀ c, c < 10 → u_Kn s (RN c) (TN c) (NF c) (dC c) (dI c) := by
    refine ⟨fun c => if h : c < 10 then (hk c h).choose else 0, fun c => if h : c < 10 then (hk c h).choose_spec.choose else fun _ => 0, fun c hc => ?_⟩
    simp only [dif_pos hc]
    exact (hk c hc).choose_spec.choose_spec
  obtain ⟨cI, aI, rI⟩ := arr_of (htg _ ac_int) (fun _ h => by cases h)
  obtain ⟨cJ, aJ, rJ⟩ := arr_of (htg _ ac_long) (fun _ h => by cases h)
  obtain ⟨cB, aB, rB⟩ := arr_of (htg _ ac_byte) (fun _ h => by cases h)
  obtain ⟨cZ, aZ, rZ⟩ := arr_of (htg _ ac_boolean) (fun _ h => by cases h)
  obtain ⟨t0, e0, T0⟩ := va_Tof (N := 5) (f := fun i => .int ((stT 0).getD i 0)) (A := fun q : Nat => s.heap.size ≤ q) (by decide) (hs _ nw_a0) (va_eqt (hs _ nw_l0)) (fun j hj => va_eqt (hs _ (nw_e0 j hj))) hA
  obtain ⟨t1, e1, T1⟩ := va_Tof (N := 11) (f := fun i => .int ((stT 1).getD i 0)) (A := fun q : Nat => s.heap.size ≤ q) (by decide) (hs _ nw_a1) (va_eqt (hs _ nw_l1)) (fun j hj => va_eqt (hs _ (nw_e1 j hj))) hA
  obtain ⟨t2, e2, T2⟩ := va_Tof (N := 11) (f := fun i => .int ((stT 2).getD i 0)) (A := fun q : Nat => s.heap.size ≤ q) (by decide) (hs _ nw_a2) (va_eqt (hs _ nw_l2)) (fun j hj => va_eqt (hs _ (nw_e2 j hj))) hA
  have Z0 := va_Zof (hts _ nw_s0) (htg _ ini2) e0 hA
  have Z1 := va_Zof (hts _ nw_s1) (htg _ ini2) e1 hA
  have Z2 := va_Zof (hts _ nw_s2) (htg _ ini2) e2 hA
  have ZC := va_Zof (hts _ nw_csl) (htg _ ini13) (va_eqi (hs _ nw_cs)) hA
  have ZF := va_Zqof (hts _ nw_fml) (htg _ ini15) (hs _ nw_fm) hA
  obtain ⟨adK, adV, hV, hE⟩ := vk_Sof (N := 16) (tm := strT) (len := strL) (byt := strB) (A := fun q : Nat => s.heap.size ≤ q) strL_small (fun i hi => hs _ (nw_x i hi)) (fun i hi => hs _ (nw_c i hi)) (fun i hi => hs _ (nw_v i hi)) (fun i hi => hs _ (nw_n i hi)) (fun i hi j hj => hs _ (nw_b i hi j hj)) (fun i j hi hj hn => (nw_d i hi j hj hn).imp (hs _) (hs _)) hA
  obtain ⟨tF, ZF'⟩ : ∃ tF : Nat, va_Z "jdk/internal/util/Preconditions" "SIOOBE_FORMATTER" "Ljava/util/function/BiFunction;" (.ref tF) (fun q : Nat => s.heap.size ≤ q) s s.heap ∨ va_Z "jdk/internal/util/Preconditions" "SIOOBE_FORMATTER" "Ljava/util/function/BiFunction;" .null (fun q : Nat => s.heap.size ≤ q) s s.heap := by
    rcases ZF with h | ⟨t, h⟩
    · exact ⟨0, Or.inr h⟩
    · exact ⟨t, Or.inl h⟩
  obtain ⟨sa, q0, q1, q2, q8, q9, qK, qV⟩ : ∃ sa : Nat → Nat, sa 0 = t0 ∧ sa 1 = t1 ∧ sa 2 = t2 ∧ sa 8 = tF ∧ sa 9 = b ∧ (∀ j, j < 16 → sa (10 + j) = adK j) ∧ ∀ j, j < 16 → sa (30 + j) = adV j := by
    refine ⟨fun j => if j = 0 then t0 else if j = 1 then t1 else if j = 2 then t2 else if j = 8 then tF else if j = 9 then b else if j < 30 then adK (j - 10) else adV (j - 30), rfl, rfl, rfl, rfl, rfl, fun j hj => ?_, fun j hj => ?_⟩
    · simp only [show ¬ 10 + j = 0 by omega, show ¬ 10 + j = 1 by omega, show ¬ 10 + j = 2 by omega, show ¬ 10 + j = 8 by omega, show ¬ 10 + j = 9 by omega, show 10 + j < 30 by omega, if_true, if_false, show 10 + j - 10 = j by omega]
    · simp only [show ¬ 30 + j = 0 by omega, show ¬ 30 + j = 1 by omega, show ¬ 30 + j = 2 by omega, show ¬ 30 + j = 8 by omega, show ¬ 30 + j = 9 by omega, show ¬ 30 + j < 30 by omega, if_false, show 30 + j - 30 = j by omega]
  obtain ⟨G, hG1, hG2, g10, g11, g12, g13, hG4⟩ : ∃ G : Gm, G.1 = s.heap ∧ G.2.1 = (dC, dI) ∧ G.2.2.1 10 = cI ∧ G.2.2.1 11 = cJ ∧ G.2.2.1 12 = cB ∧ G.2.2.1 13 = cZ ∧ G.2.2.2 = sa := ⟨(s.heap, (dC, dI), fun k => if k = 10 then cI else if k = 11 then cJ else if k = 12 then cB else cZ, sa), rfl, rfl, rfl, rfl, rfl, rfl, rfl⟩
  have hgA : gA G = fun q : Nat => s.heap.size ≤ q := by unfold gA; rw [hG1]
  have hK : KF G s := by
    refine ⟨⟨fun c q hq => ?_, fun k q hq => ?_⟩, fun q hq => va_Nw.of rfl (hts _ (List.mem_append_right _ (nw_nest q hq))), fun j hj => ?_, ?_, fun j hj => ?_, ?_, ?_⟩
    · have hc : c < 10 := (List.getElem?_eq_some_iff.mp hq).1
      obtain ⟨-, c2, -⟩ := cls_ok c hc
      rw [c2] at hq
      cases hq
      rw [hG2]
      exact hD c hc
    · rw [tyL, g10, g11, g12, g13] at hq
      match k, hq with
      | 0, hq => cases hq; exact ⟨aI, rI⟩
      | 1, hq => cases hq; exact ⟨aJ, rJ⟩
      | 2, hq => cases hq; exact ⟨aB, rB⟩
      | 3, hq => cases hq; exact ⟨aZ, rZ⟩
      | k + 4, hq => simp at hq
    · rw [hgA, hG1, hG4]
      match j, hj with
      | 0, _ => rw [q0]; exact ⟨Z0, T0⟩
      | 1, _ => rw [q1]; exact ⟨Z1, T1⟩
      | 2, _ => rw [q2]; exact ⟨Z2, T2⟩
      | j + 3, hj => exact absurd hj (by omega)
    · rw [hgA, hG1, hG4]
      refine ⟨fun i hi => ?_, fun i j hi hj hij => hV.2 i j hi hj (by rw [← qK i hi, ← qK j hj]; exact hij)⟩
      have h1 := hV.1 i hi
      rw [← qK i hi, ← qV i hi] at h1
      exact h1
    · rw [hG4, qK j hj]
      exact vk_R.of (hts _ (List.mem_append_right _ (nw_r j hj))) (hE j hj)
    · rw [hgA, hG1]; exact ZC
    · rw [hgA, hG1, hG4, q8]; exact ZF'
  let S0 : Sg := (R0, 0, 0)
  let X : Cx := (p, l, e, room_1, s, m, #[Value.ref b], below, meth, c, S0)
  have hXK : XK G X 12 cL_law 4 18 := ⟨hx, hb, hml, hown, htg, hK, ⟨Nat.le_of_ble_eq_true rfl, Nat.le_of_ble_eq_true rfl⟩, by rw [hG1]; rfl, fun q _ => by rw [hG1]⟩
  have hXS : XR X SS := ⟨Nat.le_of_ble_eq_true rfl, Nat.le_of_ble_eq_true rfl⟩
  obtain ⟨n, z1, z2, z, p1, p2, p3, p4⟩ := hP L xs hL
  have hret : ∀ (pc : Nat) (L : List Value) (M : Mm), decode cL_law pc = .ok (.ireturn, 1) → WR G X (lw_Z below #[Value.ref b] s) pc L [.int 1] M SS := by
    intro pc L M hd ls H locs hL hR hz
    refine va_forget (fun q hq => ?_) ?_
    · have := hR.2.1.2.2 q hq
      rw [hgA] at this
      exact this
    · refine W.widen (k := 600000) (n := 7302250) (Nat.le_of_ble_eq_true rfl) (Nat.le_of_ble_eq_true rfl) ?_
      exact lw_ret hx hb hr hlocks hd
  have hxs : va_X (G.2.2.2 9) L xs X.2.2.2.2.1 G.1 ∧ G.2.2.2 9 < G.1.size := by
    rw [hG4, q9, hG1]
    exact ⟨hX, hbl⟩
  have hF0 : fr 0 M0 R0 := fun _ _ => ⟨fun _ => rfl, fun _ => rfl, fun _ => rfl⟩
  have hw : WR G X (lw_Z below #[Value.ref b] s) 0 [.ref (1000 + 9), vU, vU, vU] [] M0 S0 := by
    refine r_new (ci := 8) hXK dL_law_0 cl_12_7 in8 ini8 rfl (by decide) (hF0 0 (Nat.le_refl 0)) (by decide) (xr_le hXS ⟨by decide, by decide⟩) ?_
    show WR G X _ 3 [.ref (1000 + 9), vU, vU, vU] [.ref 0] M0 (R0, 1, 9)
    refine r_dup hXK dL_law_3 rfl ?_
    refine r_callI (As := []) (S1 := (chF chL1 R0, 95, 3705)) hXK dL_law_4 mk_Fg_init mc_Fg_init ml_12_9 rfl rfl rfl (Nat.le_of_ble_eq_true rfl) (Nat.le_of_ble_eq_true rfl) (xr_le hXS ⟨Nat.le_of_ble_eq_true rfl, Nat.le_of_ble_eq_true rfl⟩) (ok_Fg_init0 (d := 13) n M0 (fr_up (by decide) hF0) p1) ?_
    refine r_astore_n (L1 := [.ref (1000 + 9), .ref 0, vU, vU]) hXK dL_law_7 (Nat.le_of_ble_eq_true rfl) rfl ?_
    have hF1 : fr 95 z1 (chF chL1 R0) := fr_Fg_init0 (fr_up (by decide) hF0) p1
    refine r_new (ci := 9) hXK dL_law_8 cl_12_10 in9 ini9 rfl (by decide) (hF1 94 (Nat.le_of_ble_eq_true rfl)) (Nat.le_of_ble_eq_true rfl) (xr_le hXS ⟨Nat.le_of_ble_eq_true rfl, Nat.le_of_ble_eq_true rfl⟩) ?_
    show WR G X _ 11 [.ref (1000 + 9), .ref 0, vU, vU] [.ref 94] z1 (chF chL1 R0, 96, 3750)
    refine r_dup hXK dL_law_11 rfl ?_
    refine r_callI (As := []) (S1 := SS) hXK dL_law_12 mk_Fm_init mc_Fm_init ml_12_12 rfl rfl rfl (Nat.le_of_ble_eq_true rfl) (Nat.le_of_ble_eq_true rfl) hXS (ok_Fm_init94 (d := 16) n z1 (fr_up (by decide) hF1) (by show (chF chL2 (chF chL1 R0), 116, 18388) = SS; rw [ch_rf]; rfl) p2) ?_
    refine r_astore_n (L1 := [.ref (1000 + 9), .ref 0, .ref 94, vU]) hXK dL_law_15 (Nat.le_of_ble_eq_true rfl) rfl ?_
    exact ok_La_law (d := 1) n L xs z2 hL hxs hXK hret hXS p4 p3
  rw [lg_entry_eq]
  have hent := lv_entry ([Value.ref b]) (n := 4) (Nat.le_of_ble_eq_true rfl)
  have had : ad G (1000 + 9) = b := by rw [ad_st, hG4, q9]
  have hLR : LRep G ((lg_sl ([Value.ref b]) ++ List.replicate (4 - (lg_sl ([Value.ref b])).length) Slot.unset).toArray) [.ref (1000 + 9), vU, vU, vU] := by
    refine ⟨by rw [hent.1]; rfl, hent.2.1, fun i v hi hu => ?_⟩
    match i, hi with
    | 0, hi =>
      simp at hi
      subst hi
      have := hent.2.2 (0, .ref b) (by simp [lv_args])
      simp only [cv, had]
      exact this
    | 1, hi => simp at hi; exact absurd hi.symm hu
    | 2, hi => simp at hi; exact absurd hi.symm hu
    | 3, hi => simp at hi; exact absurd hi.symm hu
    | i + 4, hi => simp at hi
  have hRep : Rep G M0 S0 s.heap [] := ⟨fun k q h => by simp [wrl, S0] at h, by rw [hG1]; exact va_S.rf, by decide⟩
  have := hw _ s.heap [] hLR hRep ⟨Nat.le_refl _, Nat.le_refl _⟩
  exact this
