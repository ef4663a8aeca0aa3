/-- the words that stay, whatever is called -/
def lwG : List Cond := lw_tbl.filter goodWord
theorem lwG_at {w : Cond} (i : Nat) (h : lw_tbl[i]? = some w) (g : goodWord w = true) : w ∈ lwG := List.mem_filter.mpr ⟨List.mem_of_getElem? h, g⟩
theorem lwG_1 {w : Cond} (i : Nat) (h : tables_1_1[i]? = some w) (g : goodWord w = true) : w ∈ lwG := List.mem_filter.mpr ⟨List.mem_append_right _ (List.mem_append_left _ (List.mem_of_getElem? h)), g⟩
theorem lwG_2 {w : Cond} (i : Nat) (h : tables_1_2[i]? = some w) (g : goodWord w = true) : w ∈ lwG := List.mem_filter.mpr ⟨List.mem_append_right _ (List.mem_append_right _ (List.mem_append_left _ (List.mem_of_getElem? h))), g⟩
theorem lwG_3 {w : Cond} (i : Nat) (h : tables_1_3[i]? = some w) (g : goodWord w = true) : w ∈ lwG := List.mem_filter.mpr ⟨List.mem_append_right _ (List.mem_append_right _ (List.mem_append_right _ (List.mem_append_left _ (List.mem_of_getElem? h)))), g⟩
theorem lwG_4 {w : Cond} (i : Nat) (h : tables_1_4[i]? = some w) (g : goodWord w = true) : w ∈ lwG := List.mem_filter.mpr ⟨List.mem_append_right _ (List.mem_append_right _ (List.mem_append_right _ (List.mem_append_right _ (List.mem_append_left _ (List.mem_of_getElem? h))))), g⟩
theorem lwG_5 {w : Cond} (i : Nat) (h : tables_1_5[i]? = some w) (g : goodWord w = true) : w ∈ lwG := List.mem_filter.mpr ⟨List.mem_append_right _ (List.mem_append_right _ (List.mem_append_right _ (List.mem_append_right _ (List.mem_append_right _ (List.mem_append_left _ (List.mem_of_getElem? h)))))), g⟩
theorem lwG_6 {w : Cond} (i : Nat) (h : tables_1_6[i]? = some w) (g : goodWord w = true) : w ∈ lwG := List.mem_filter.mpr ⟨List.mem_append_right _ (List.mem_append_right _ (List.mem_append_right _ (List.mem_append_right _ (List.mem_append_right _ (List.mem_append_right _ (List.mem_append_left _ (List.mem_of_getElem? h))))))), g⟩
theorem lwG_7 {w : Cond} (i : Nat) (h : tables_1_7[i]? = some w) (g : goodWord w = true) : w ∈ lwG := List.mem_filter.mpr ⟨List.mem_append_right _ (List.mem_append_right _ (List.mem_append_right _ (List.mem_append_right _ (List.mem_append_right _ (List.mem_append_right _ (List.mem_append_right _ (List.mem_append_left _ (List.mem_of_getElem? h)))))))), g⟩
theorem lwG_8 {w : Cond} (i : Nat) (h : tables_1_8[i]? = some w) (g : goodWord w = true) : w ∈ lwG := List.mem_filter.mpr ⟨List.mem_append_right _ (List.mem_append_right _ (List.mem_append_right _ (List.mem_append_right _ (List.mem_append_right _ (List.mem_append_right _ (List.mem_append_right _ (List.mem_append_right _ (List.mem_of_getElem? h)))))))), g⟩
theorem lwG_0 {w : Cond} (i : Nat) (h : (k2_sels lw_privs)[i]? = some w) (g : goodWord w = true) : w ∈ lwG := List.mem_filter.mpr ⟨List.mem_append_left _ (List.mem_of_getElem? h), g⟩
theorem lwG_in {ws : List Cond} (ps : List Nat) (hp : ws = ps.filterMap (fun i => lw_tbl[i]?)) (h : ws.all goodWord = true) : ∀ w ∈ ws, w ∈ lwG := fun w hw => by
  refine List.mem_filter.mpr ⟨?_, List.all_eq_true.mp h w hw⟩
  rw [hp] at hw
  obtain ⟨i, -, hi⟩ := List.mem_filterMap.mp hw
  exact List.mem_of_getElem? hi
/-! the world of the program: cells by number in the order of their making, one memory of ints and one of longs -/
abbrev vwCl : List vw_C := [(RX0, TX0, 6), (RX1, TX1, 10), (RX2, TX2, 9), (RX3, TX3, 8), (RX4, TX4, 16), (RX5, TX5, 2), (RX6, TX6, 7), (RX7, TX7, 8), (RX8, TX8, 9), (RX9, TX9, 45)]
abbrev Mm : Type := (Nat → Nat → Int32) × (Nat → Nat → Int64)
abbrev Sg : Type := (Nat → Nat → Option Nat) × Nat × Nat
abbrev MD : Type := MethodName × ByteArray × Nat × Option FieldType × Nat × Nat
abbrev Gm : Type := Heap × va_G × (Nat → ClassId) × (Nat → Nat)
abbrev Cx : Type := Program × Launch × Env × Room × State × MethodId × Array Value × List Frame × Method × Code × Sg
def RN : Nat → String := fun i => match i with
  | 0 => RX0
  | 1 => RX1
  | 2 => RX2
  | 3 => RX3
  | 4 => RX4
  | 5 => RX5
  | 6 => RX6
  | 7 => RX7
  | 8 => RX8
  | 9 => RX9
  | 10 => RJ6
  | 11 => RJ13
  | 13 => RJ0
  | 14 => RJ1
  | 15 => RJ3
  | _ => RL
def TN : Nat → u_T := fun i => match i with
  | 0 => TX0
  | 1 => TX1
  | 2 => TX2
  | 3 => TX3
  | 4 => TX4
  | 5 => TX5
  | 6 => TX6
  | 7 => TX7
  | 8 => TX8
  | _ => TX9
def TyN : Nat → Nat → FieldType := fun i => match i with
  | 0 => tyX0
  | 1 => tyX1
  | 2 => tyX2
  | 3 => tyX3
  | 4 => tyX4
  | 5 => tyX5
  | 6 => tyX6
  | 7 => tyX7
  | 8 => tyX8
  | _ => tyX9
def NF : Nat → Nat := fun i => match i with
  | 0 => 6
  | 1 => 10
  | 2 => 9
  | 3 => 8
  | 4 => 16
  | 5 => 2
  | 6 => 7
  | 7 => 8
  | 8 => 9
  | _ => 45
def kdT : List Nat := [8, 5, 10, 2, 1, 10, 10, 10, 10, 10, 10, 10, 0, 7, 10, 10, 10, 10, 4, 1, 10, 10, 10, 10, 10, 10, 10, 10, 10, 10, 10, 10, 10, 11, 11, 10, 4, 1, 10, 10, 10, 10, 10, 10, 10, 10, 10, 10, 10, 10, 10, 11, 11, 10, 4, 1, 10, 10, 10, 10, 10, 10, 10, 10, 10, 10, 10, 10, 10, 11, 11, 10, 3, 4, 1, 10, 10, 10, 10, 10, 10, 10, 10, 10, 10, 10, 10, 10, 11, 11, 10, 11, 10, 6, 9, 10, 10, 12, 10, 10, 10, 10, 10, 10, 10, 10, 10, 10, 10, 13, 13, 13, 13, 11, 10, 10]
def lnT : List Nat := [0, 0, 240, 0, 0, 4, 14, 14, 14, 64, 24, 96, 0, 0, 64, 64, 256, 256, 0, 0, 4, 14, 14, 14, 64, 40, 40, 40, 40, 40, 40, 40, 40, 40, 14, 40, 0, 0, 4, 14, 14, 14, 64, 40, 40, 40, 40, 40, 40, 40, 40, 40, 14, 40, 0, 0, 4, 14, 14, 14, 64, 40, 40, 40, 40, 40, 40, 40, 40, 40, 14, 40, 0, 0, 0, 4, 14, 14, 14, 64, 40, 40, 40, 40, 40, 40, 40, 40, 40, 14, 40, 40, 40, 0, 0, 12256, 64, 240, 5, 5, 5, 5, 9, 9, 40, 40, 40, 40, 40, 40, 40, 40, 1600, 24, 96, 256]
def kd (k : Nat) : Nat := kdT.getD k 99
def ln (k : Nat) : Nat := lnT.getD k 0
def vU : Value := .retAddr 0
def up2 {α : Type} (f : Nat → Nat → α) (a j : Nat) (v : α) : Nat → Nat → α := fun b i => if b = a ∧ i = j then v else f b i
def fv (M : Mm) (S : Sg) (ci a j : Nat) : Value := match TyN ci j with
  | .long => .long (M.2 a j)
  | .object _ => (match S.1 a j with | some b => .ref b | none => .null)
  | .array _ => (match S.1 a j with | some b => .ref b | none => .null)
  | _ => .int (M.1 a j)
/-- cells are told by numbers of our own; place pl k in the order of their making is cell k, cell vi i is made i-th -/
def pl (k : Nat) : Nat := if k < 18 then k else if k < 115 then k + 1 else if k = 115 then 18 else k
def vi (i : Nat) : Nat := if i < 18 then i else if i = 18 then 115 else if i < 116 then i - 1 else i
theorem pl_vi (i : Nat) : pl (vi i) = i := by
  unfold pl vi
  repeat' split
  all_goals omega
theorem vi_pl (k : Nat) : vi (pl k) = k := by
  unfold pl vi
  repeat' split
  all_goals omega
theorem pl_inj {a b : Nat} (h : pl a = pl b) : a = b := by rw [← vi_pl a, h, vi_pl]
theorem pl_lt {k : Nat} (h : pl k < 1000) : k < 1000 := by
  unfold pl at h
  repeat' split at h
  all_goals omega
def ad (G : Gm) (k : Nat) : Nat := if k < 1000 then G.1.size + pl k else G.2.2.2 (k - 1000)
def cv (G : Gm) : Value → Value
  | .ref k => .ref (ad G k)
  | v => v
def enE (G : Gm) (M : Mm) (S : Sg) (k : Nat) : va_E :=
  if kd k < 10 then .inr (kd k, (List.range (NF (kd k))).map (fun j => cv G (fv M S (kd k) k j)))
  else if kd k = 11 then .inl (G.2.2.1 11, ln k, .inr (.inl (M.2 k)))
  else .inl (G.2.2.1 (kd k), ln k, .inl (M.1 k))
def wrl (G : Gm) (M : Mm) (S : Sg) : va_W := (List.range S.2.1).map (fun i => (G.1.size + i, enE G M S (vi i)))
def gA (G : Gm) : Nat → Prop := fun q => G.1.size ≤ q
def tyL (G : Gm) : List (ClassId × FieldType) := [(G.2.2.1 10, .int), (G.2.2.1 11, .long), (G.2.2.1 12, .byte), (G.2.2.1 13, .boolean)]
def Rep (G : Gm) (M : Mm) (S : Sg) (H : Heap) (locs : List Loc) : Prop :=
  va_P G.2.1 vwCl (wrl G M S) H ∧ va_S (gA G) G.1 H locs ∧ S.2.1 < 1000
def LRep (G : Gm) (ls : Array Slot) (L : List Value) : Prop :=
  ls.size = L.length ∧ lv_wf ls ∧ ∀ (i : Nat) (v : Value), L[i]? = some v → v ≠ vU → ls[i]? = some (.val (cv G v))
def lst1 : List Value → Nat → Value → List Value
  | [], _, _ => []
  | _ :: t, 0, v => v :: t
  | w :: t, 1, v => (if w.category = 2 then vU else w) :: lst1 t 0 v
  | w :: t, i + 2, v => w :: lst1 t (i + 1) v
def lst2 : List Value → Nat → Value → List Value
  | [], _, _ => []
  | _ :: [], 0, v => [v]
  | _ :: _ :: t, 0, v => v :: vU :: t
  | w :: t, 1, v => (if w.category = 2 then vU else w) :: lst2 t 0 v
  | w :: t, i + 2, v => w :: lst2 t (i + 1) v
def entL : List Value → List Value
  | [] => []
  | v :: t => if v.category = 2 then v :: vU :: entL t else v :: entL t
def padL (av : List Value) (n : Nat) : List Value := entL av ++ List.replicate (n - (entL av).length) vU
/-! words of the tables -/
def FL (own idx ci j : Nat) : Prop := Cond.fieldLink (RN own) idx (RN ci) (TN ci j).2.1 (TN ci j).2.2.1 ∈ lwG
def KI (own idx : Nat) (v : Int32) : Prop := Cond.constant (RN own) idx v ∈ lwG
def KL (own idx : Nat) (v : Int64) : Prop := Cond.constantLong (RN own) idx v ∈ lwG
def ML (own idx : Nat) (md : MD) : Prop := Cond.methodLink (RN own) idx md.1 ∈ lwG
def nests : List (Nat × Nat × MethodName) := [(8, 9, yX5_init), (8, 27, yX0_init), (8, 34, yX4_init), (3, 11, yX4_init), (4, 116, yX8_rowStarts), (0, 88, yX8_span), (0, 74, yX8_lowest), (0, 70, yX8_highest), (4, 88, yX8_span), (4, 141, yX8_highest), (3, 133, yX8_lowest)]
def MN (own idx : Nat) (md : MD) : Prop := (own, idx, md.1) ∈ nests
def mOK (md : MD) : Prop := Cond.code md.1 md.2.1 md.2.2.1 md.2.2.2.1 ∈ lwG ∧ Cond.initialized (RN md.2.2.2.2.1) ∈ lwG ∧ md.1.cls = RN md.2.2.2.2.1 ∧ plainName md.1.cls = true ∧ (md.1.cls ≠ "java/lang/invoke/MethodHandle" ∧ md.1.cls ≠ "java/lang/invoke/VarHandle") ∧ (parseMethodDescriptor md.1.desc).map (fun d => d.parameters.length) = some md.2.2.2.2.2 ∧ md.2.2.1 ≤ 40
def mI (md : MD) : Prop := Cond.instanceMethod md.1 ∈ lwG ∧ Cond.selects (RN md.2.2.2.2.1) md.1 md.1 ∈ lwG
def mS (md : MD) : Prop := Cond.static md.1 ∈ lwG
def mC (md : MD) : Prop := Cond.instanceMethod md.1 ∈ lwG ∧ md.1.name = "<init>" ∧ md.2.2.2.1 = none
def wsm (md : MD) : List Cond := Cond.code md.1 md.2.1 md.2.2.1 md.2.2.2.1 :: lwG
/-! what the tables say at a state: classes, array classes -/
/-- static arrays and String constants: nobody writes them -/
def stN : Nat → String := fun j => match j with | 0 => "GRID_NUMBERS" | 1 => "STEP_NUMBERS" | _ => "STEP_RULE"
def stT : Nat → List Int32 := fun j => match j with | 0 => [1, 1, 1, 4, 3] | 1 => [4, 1, 1, 0, 2, 1, 1, 1, 1, 2, 1] | _ => [3, -1, -1, -1, -1, -1, -1, 0, 0, -1, -1]
def strI : List Nat := [133, 134, 135, 136, 137, 139, 141, 143, 145, 147, 149, 151, 153, 155, 157, 159]
def strX : List String := ["nodes", "slots", "between", "reach", "link", "ask", "drop", "slide", "sweep", "jump", "cut", "mend", "relight", "plan", "lasts", "ticks"]
def strL : List Nat := [5, 5, 7, 5, 4, 3, 4, 5, 5, 4, 3, 4, 7, 4, 5, 5]
def strB : List (List Int32) := [[110, 111, 100, 101, 115], [115, 108, 111, 116, 115], [98, 101, 116, 119, 101, 101, 110], [114, 101, 97, 99, 104], [108, 105, 110, 107], [97, 115, 107], [100, 114, 111, 112], [115, 108, 105, 100, 101], [115, 119, 101, 101, 112], [106, 117, 109, 112], [99, 117, 116], [109, 101, 110, 100], [114, 101, 108, 105, 103, 104, 116], [112, 108, 97, 110], [108, 97, 115, 116, 115], [116, 105, 99, 107, 115]]
def KS (G : Gm) (U : State) : Prop :=
  (∀ j, j < 3 → va_Z "FlexGrid$Reader" (stN j) "[I" (.ref (G.2.2.2 j)) (gA G) U G.1 ∧ va_T .int (G.2.2.2 j) (stT j).length (fun i => .int ((stT j).getD i 0)) (gA G) U G.1) ∧
  vk_S 16 strL strB (fun j => G.2.2.2 (10 + j)) (fun j => G.2.2.2 (30 + j)) (gA G) U G.1 ∧ (∀ j, j < 16 → vk_R "FlexGrid$Reader" (strI.getD j 0) (strX.getD j "") (G.2.2.2 (10 + j)) U) ∧
  va_Z "java/lang/String" "COMPACT_STRINGS" "Z" (.int 1) (gA G) U G.1 ∧
  (va_Z "jdk/internal/util/Preconditions" "SIOOBE_FORMATTER" "Ljava/util/function/BiFunction;" (.ref (G.2.2.2 8)) (gA G) U G.1 ∨ va_Z "jdk/internal/util/Preconditions" "SIOOBE_FORMATTER" "Ljava/util/function/BiFunction;" .null (gA G) U G.1)
def KN (U : State) : Prop := ∀ q ∈ nests, va_Nw (.methodLinkNest (RN q.1) q.2.1 q.2.2 RX8) U
def KF (G : Gm) (U : State) : Prop := va_K G.2.1 vwCl (tyL G) U ∧ KN U ∧ KS G U
theorem KF.warm {G : Gm} {s U : State} (hW : s.WarmedH U.vm) (h : KF G s) : KF G U :=
  ⟨va_K.moved hW.alike h.1, fun q hq => va_Nw.warmM hW (h.2.1 q hq), fun j hj => ⟨(h.2.2.1 j hj).1.moved hW.alike, (h.2.2.1 j hj).2.moved hW.alike⟩, h.2.2.2.1.moved hW.alike, fun j hj => (h.2.2.2.2.1 j hj).warm hW, h.2.2.2.2.2.1.moved hW.alike, h.2.2.2.2.2.2.imp (fun q => q.moved hW.alike) (fun q => q.moved hW.alike)⟩
theorem KF.same {G : Gm} {s U : State} (hv : s.vm = U.vm) (h : KF G s) : KF G U := by
  have hA : s.vm.Alike U.vm := by rw [hv]; exact Vm.Alike.refl _
  exact ⟨va_K.moved hA h.1, fun q hq => va_Nw.same rfl hv (h.2.1 q hq), fun j hj => ⟨(h.2.2.1 j hj).1.moved hA, (h.2.2.1 j hj).2.moved hA⟩, h.2.2.2.1.moved hA, fun j hj => vk_R.same hv.symm (h.2.2.2.2.1 j hj), h.2.2.2.2.2.1.moved hA, h.2.2.2.2.2.2.imp (fun q => q.moved hA) (fun q => q.moved hA)⟩
def rmd (d : Nat) (S S' : Sg) : Room := { frames := d + 1, cells := S'.2.1 - S.2.1, slots := S'.2.2 - S.2.2, locals := 64 * (d + 1) }
def qM (G : Gm) (r : Option Value) (M : Mm) (S : Sg) : Array Value → State → Outcome → State → Prop := fun _ _ o t => o = .returned (r.map (cv G)) ∧ Rep G M S t.heap []
def CK (G : Gm) (l : Launch) (d : Nat) (md : MD) (av : List Value) (M : Mm) (S : Sg) (r : Option Value) (M' : Mm) (S' : Sg) : Prop :=
  S.2.1 ≤ S'.2.1 ∧ S.2.2 ≤ S'.2.2 ∧ Met l md.1 (wsm md) (rmd d S S') (fun v U => v = (av.map (cv G)).toArray ∧ (Rep G M S U.heap [] ∧ U.heap.size = G.1.size + S.2.1) ∧ KF G U) (qM G r M' S') (S'.2.1 - S.2.1) (S'.2.2 - S.2.2) (gA G)
/-! a place in a method's body -/
def xS (X : Cx) : Sg := X.2.2.2.2.2.2.2.2.2.2
def XR (X : Cx) (S : Sg) : Prop := S.2.1 - (xS X).2.1 ≤ X.2.2.2.1.cells ∧ S.2.2 - (xS X).2.2 ≤ X.2.2.2.1.slots
def XT (X : Cx) (rt : Option FieldType) (nm : String) : Prop := X.2.2.2.2.2.2.2.2.1.sig.returnType = rt ∧ X.2.2.2.2.2.2.2.2.1.locks = false ∧ X.2.2.2.2.2.2.2.2.1.name = nm
def WR (G : Gm) (X : Cx) (Q : State → Prop) (pc : Nat) (L st : List Value) (M : Mm) (S : Sg) : Prop :=
  ∀ (ls : Array Slot) (H : Heap) (locs : List Loc), LRep G ls L → Rep G M S H locs → (xS X).2.1 ≤ S.2.1 ∧ (xS X).2.2 ≤ S.2.2 →
    W X.1 X.2.1 X.2.2.1 X.2.2.2.1 X.2.2.2.2.1 X.2.2.2.2.2.1 X.2.2.2.2.2.2.1 X.2.2.2.2.2.2.2.1 X.2.2.2.2.2.2.2.2.1 X.2.2.2.2.2.2.2.2.2.1 H locs (S.2.1 - (xS X).2.1) (S.2.2 - (xS X).2.2) Q (F0 X.2.2.2.2.2.1 pc ls (st.map (cv G)))
def xs_ (X : Cx) : State := X.2.2.2.2.1
def xa_ (X : Cx) : Array Value := X.2.2.2.2.2.2.1
def XK (G : Gm) (X : Cx) (own : Nat) (cc : ByteArray) (nL d : Nat) : Prop :=
  X.1.tables.exec = Jvm.exec ∧ X.2.2.2.2.2.2.2.2.2.1.code = cc ∧ X.2.2.2.2.2.2.2.2.2.1.maxLocals = nL ∧ X.2.2.2.2.1.vm.findClass (RN own) = some X.2.2.2.2.2.1.cls ∧
  (∀ w ∈ lwG, w.before X.2.2.2.2.2.2.1 X.2.2.2.2.1 = true) ∧ KF G X.2.2.2.2.1 ∧ (d + 1 ≤ X.2.2.2.1.frames ∧ 64 * (d + 1) ≤ X.2.2.2.1.locals) ∧ X.2.2.2.2.1.heap.size = G.1.size + (xS X).2.1 ∧ ∀ q, q < G.1.size → X.2.2.2.2.1.heap[q]? = G.1[q]?
def mQ (G : Gm) (X : Cx) (r : Option Value) (M : Mm) (S : Sg) : State → Prop :=
  MQ X.2.2.2.2.2.2.2.1 (qM G r M S) X.2.2.2.2.2.2.1 X.2.2.2.2.1 (S.2.1 - (xS X).2.1) (S.2.2 - (xS X).2.2) (gA G)
theorem wrl_i {G : Gm} {M : Mm} {S : Sg} {i : Nat} (h : i < S.2.1) : (wrl G M S)[i]? = some (G.1.size + i, enE G M S (vi i)) := by
  simp [wrl, h]
theorem wrl_get {G : Gm} {M : Mm} {S : Sg} {k : Nat} (h : pl k < S.2.1) : (wrl G M S)[pl k]? = some (G.1.size + pl k, enE G M S k) := by
  rw [wrl_i h, vi_pl]
theorem wrl_len {G : Gm} {M : Mm} {S : Sg} : (wrl G M S).length = S.2.1 := by simp [wrl]
theorem wrl_at {G : Gm} {M : Mm} {S : Sg} {k : Nat} {q : Nat × va_E} (h : (wrl G M S)[k]? = some q) : k < S.2.1 ∧ q = (G.1.size + k, enE G M S (vi k)) := by
  have hk : k < S.2.1 := by
    have := (List.getElem?_eq_some_iff.mp h).1
    rwa [wrl_len] at this
  rw [wrl_i hk] at h
  exact ⟨hk, (Option.some.inj h).symm⟩
theorem wrl_D {G : Gm} {M : Mm} {S : Sg} : va_D (gA G) (wrl G M S) := by
  refine ⟨fun i j p q hi hj e => ?_, fun k q h => ?_⟩
  · obtain ⟨-, rfl⟩ := wrl_at hi
    obtain ⟨-, rfl⟩ := wrl_at hj
    simp at e
    exact e
  · obtain ⟨-, rfl⟩ := wrl_at h
    exact Nat.le_add_right _ _
theorem wrl_set {G : Gm} {M M' : Mm} {S S' : Sg} {k : Nat} {e : va_E} (hn : S'.2.1 = S.2.1) (he : e = enE G M' S' k) (ho : ∀ i, True → i ≠ k → enE G M' S' i = enE G M S i) : (wrl G M S).set (pl k) (G.1.size + pl k, e) = wrl G M' S' := by
  apply List.ext_getElem?
  intro i
  by_cases hi : i < S.2.1
  · rw [wrl_i (by rw [hn]; exact hi), List.getElem?_set, wrl_len]
    by_cases h : pl k = i
    · subst h
      rw [if_pos rfl, if_pos hi, he, vi_pl]
    · rw [if_neg h, wrl_i hi, ho (vi i) trivial (fun e => h (by rw [← e, pl_vi]))]
  · rw [List.getElem?_eq_none (by rw [List.length_set, wrl_len]; omega), List.getElem?_eq_none (by rw [wrl_len, hn]; omega)]
theorem wrl_push {G : Gm} {M M' : Mm} {S S' : Sg} {e : va_E} (hn : S'.2.1 = S.2.1 + 1) (he : e = enE G M' S' (vi S.2.1)) (ho : ∀ i, i ≠ vi S.2.1 → enE G M' S' i = enE G M S i) : wrl G M S ++ [(G.1.size + S.2.1, e)] = wrl G M' S' := by
  apply List.ext_getElem?
  intro i
  rcases Nat.lt_trichotomy i S.2.1 with hi | hi | hi
  · rw [List.getElem?_append_left (by rw [wrl_len]; exact hi), wrl_i hi, wrl_i (by omega), ho (vi i) (fun e => by rw [← pl_vi i, e, pl_vi] at hi; exact Nat.lt_irrefl _ hi)]
  · subst hi
    rw [List.getElem?_append_right (by rw [wrl_len]; exact Nat.le_refl _), wrl_len, wrl_i (by omega), he]
    simp
  · rw [List.getElem?_eq_none (by rw [List.length_append, wrl_len]; simp; omega), List.getElem?_eq_none (by rw [wrl_len]; omega)]
theorem Rep.lt {G : Gm} {M : Mm} {S : Sg} {H : Heap} {locs : List Loc} (h : Rep G M S H locs) {k : Nat} (hk : pl k < S.2.1) : k < 1000 := pl_lt (Nat.lt_trans hk h.2.2)
theorem ad_lt {G : Gm} {k : Nat} (h : k < 1000) : ad G k = G.1.size + pl k := if_pos h
theorem cv_cat (G : Gm) (v : Value) : (cv G v).category = v.category := by cases v <;> rfl
theorem cat_sum (G : Gm) (st : List Value) : ((st.map (cv G)).map fun v => v.category).sum = (st.map fun v => v.category).sum := by
  rw [List.map_map]
  congr 1
  apply List.map_congr_left
  intro v _
  exact cv_cat G v
theorem lst1_len : ∀ (L : List Value) (i : Nat) (v : Value), (lst1 L i v).length = L.length
  | [], _, _ => rfl
  | _ :: _, 0, _ => rfl
  | w :: t, 1, v => by simp [lst1, lst1_len t 0 v]
  | w :: t, i + 2, v => by simp [lst1, lst1_len t (i + 1) v]
theorem lst2_len : ∀ (L : List Value) (i : Nat) (v : Value), (lst2 L i v).length = L.length
  | [], _, _ => rfl
  | _ :: [], 0, _ => rfl
  | _ :: _ :: _, 0, _ => rfl
  | w :: t, 1, v => by simp [lst2, lst2_len t 0 v]
  | w :: t, i + 2, v => by simp [lst2, lst2_len t (i + 1) v]
theorem lst1_at : ∀ (L : List Value) (i : Nat) (v : Value) (j : Nat) (w : Value), (lst1 L i v)[j]? = some w → w ≠ vU → (j = i ∧ w = v) ∨ (j ≠ i ∧ L[j]? = some w ∧ ¬ (j + 1 = i ∧ w.category = 2))
  | [], _, _, j, w, h, _ => by simp [lst1] at h
  | x :: t, 0, v, j, w, h, hu => by
    cases j with
    | zero => left; simp [lst1] at h; exact ⟨rfl, h.symm⟩
    | succ j => right; simp [lst1] at h; exact ⟨by omega, by simpa using h, by omega⟩
  | x :: t, 1, v, j, w, h, hu => by
    cases j with
    | zero =>
      simp only [lst1, List.getElem?_cons_zero, Option.some.injEq] at h
      by_cases hc : x.category = 2
      · rw [if_pos hc] at h; exact absurd h.symm hu
      · rw [if_neg hc] at h
        subst h
        exact Or.inr ⟨by omega, by simp, fun q => hc q.2⟩
    | succ j =>
      simp only [lst1, List.getElem?_cons_succ] at h
      rcases lst1_at t 0 v j w h hu with q | q
      · exact Or.inl ⟨by omega, q.2⟩
      · exact Or.inr ⟨by omega, by simpa using q.2.1, by omega⟩
  | x :: t, i + 2, v, j, w, h, hu => by
    cases j with
    | zero =>
      simp only [lst1, List.getElem?_cons_zero] at h
      exact Or.inr ⟨by omega, by simpa using h, by omega⟩
    | succ j =>
      simp only [lst1, List.getElem?_cons_succ] at h
      rcases lst1_at t (i + 1) v j w h hu with q | q
      · exact Or.inl ⟨by omega, q.2⟩
      · exact Or.inr ⟨by omega, by simpa using q.2.1, fun z => q.2.2 ⟨by omega, z.2⟩⟩
theorem lst2_at : ∀ (L : List Value) (i : Nat) (v : Value) (j : Nat) (w : Value), (lst2 L i v)[j]? = some w → w ≠ vU → (j = i ∧ w = v) ∨ (j ≠ i ∧ j ≠ i + 1 ∧ L[j]? = some w ∧ ¬ (j + 1 = i ∧ w.category = 2))
  | [], _, _, j, w, h, _ => by simp [lst2] at h
  | x :: [], 0, v, j, w, h, hu => by
    cases j with
    | zero => left; simp [lst2] at h; exact ⟨rfl, h.symm⟩
    | succ j => simp [lst2] at h
  | x :: y :: t, 0, v, j, w, h, hu => by
    match j with
    | 0 => left; simp [lst2] at h; exact ⟨rfl, h.symm⟩
    | 1 => simp [lst2] at h; exact absurd h.symm hu
    | j + 2 => right; simp [lst2] at h; exact ⟨by omega, by omega, by simpa using h, by omega⟩
  | x :: t, 1, v, j, w, h, hu => by
    cases j with
    | zero =>
      simp only [lst2, List.getElem?_cons_zero, Option.some.injEq] at h
      by_cases hc : x.category = 2
      · rw [if_pos hc] at h; exact absurd h.symm hu
      · rw [if_neg hc] at h
        subst h
        exact Or.inr ⟨by omega, by omega, by simp, fun q => hc q.2⟩
    | succ j =>
      simp only [lst2, List.getElem?_cons_succ] at h
      rcases lst2_at t 0 v j w h hu with q | q
      · exact Or.inl ⟨by omega, q.2⟩
      · exact Or.inr ⟨by omega, by omega, by simpa using q.2.2.1, by omega⟩
  | x :: t, i + 2, v, j, w, h, hu => by
    cases j with
    | zero =>
      simp only [lst2, List.getElem?_cons_zero] at h
      exact Or.inr ⟨by omega, by omega, by simpa using h, by omega⟩
    | succ j =>
      simp only [lst2, List.getElem?_cons_succ] at h
      rcases lst2_at t (i + 1) v j w h hu with q | q
      · exact Or.inl ⟨by omega, q.2⟩
      · exact Or.inr ⟨by omega, by omega, by simpa using q.2.2.1, fun z => q.2.2.2 ⟨by omega, z.2⟩⟩
/-- the locals that are known, as the kit's rows want them -/
def lvOf (G : Gm) (L : List Value) : List (Nat × Value) := (List.range L.length).filterMap (fun i => if L[i]? = some vU then none else (L[i]?).map (fun v => (i, cv G v)))
theorem lvOf_has {G : Gm} {ls : Array Slot} {L : List Value} (h : LRep G ls L) : lv_has ls L.length (lvOf G L) := by
  refine ⟨h.1, h.2.1, fun q hq => ?_⟩
  obtain ⟨i, -, hi⟩ := List.mem_filterMap.mp hq
  by_cases hu : L[i]? = some vU
  · rw [if_pos hu] at hi; cases hi
  · rw [if_neg hu] at hi
    cases hv : L[i]? with
    | none => rw [hv] at hi; cases hi
    | some v =>
      rw [hv] at hi
      cases hi
      exact h.2.2 i v hv (fun e => hu (by rw [hv, e]))
theorem lvOf_mem {G : Gm} {L : List Value} {i : Nat} {v : Value} (h : L[i]? = some v) (hu : v ≠ vU) : (i, cv G v) ∈ lvOf G L := by
  refine List.mem_filterMap.mpr ⟨i, List.mem_range.mpr (List.getElem?_eq_some_iff.mp h).1, ?_⟩
  rw [if_neg (by rw [h]; exact fun e => hu (Option.some.inj e)), h]
  rfl
theorem LRep.put1 {G : Gm} {L : List Value} {i : Nat} {v : Value} {ls' : Array Slot} (hv : cv G v = cv G v) (h : lv_has ls' L.length ((i, cv G v) :: (lvOf G L).filter (fun q => !(q.1 == i) && !(q.1 + 1 == i && q.2.category == 2)))) : LRep G ls' (lst1 L i v) := by
  refine ⟨by rw [lst1_len]; exact h.1, h.2.1, fun j w hj hu => ?_⟩
  rcases lst1_at L i v j w hj hu with ⟨rfl, rfl⟩ | ⟨h1, h2, h3⟩
  · exact h.2.2 (_, _) List.mem_cons_self
  · refine h.2.2 (j, cv G w) (List.mem_cons_of_mem _ (List.mem_filter.mpr ⟨lvOf_mem h2 hu, ?_⟩))
    simp only [Bool.and_eq_true, Bool.not_eq_true', beq_eq_false_iff_ne, Bool.and_eq_false_iff, cv_cat]
    refine ⟨h1, ?_⟩
    by_cases hc : j + 1 = i
    · exact Or.inr (by simpa using fun q => h3 ⟨hc, q⟩)
    · exact Or.inl hc
theorem LRep.put2 {G : Gm} {L : List Value} {i : Nat} {v : Value} {ls' : Array Slot} (h : lv_has ls' L.length ((i, cv G v) :: (lvOf G L).filter (fun q => !(q.1 == i) && (!(q.1 == i + 1) && !(q.1 + 1 == i && q.2.category == 2))))) : LRep G ls' (lst2 L i v) := by
  refine ⟨by rw [lst2_len]; exact h.1, h.2.1, fun j w hj hu => ?_⟩
  rcases lst2_at L i v j w hj hu with ⟨rfl, rfl⟩ | ⟨h1, h1', h2, h3⟩
  · exact h.2.2 (_, _) List.mem_cons_self
  · refine h.2.2 (j, cv G w) (List.mem_cons_of_mem _ (List.mem_filter.mpr ⟨lvOf_mem h2 hu, ?_⟩))
    simp only [Bool.and_eq_true, Bool.not_eq_true', beq_eq_false_iff_ne, Bool.and_eq_false_iff, cv_cat]
    refine ⟨h1, h1', ?_⟩
    by_cases hc : j + 1 = i
    · exact Or.inr (by simpa using fun q => h3 ⟨hc, q⟩)
    · exact Or.inl hc
/-- fewer locals known -/
theorem WR.forget {G : Gm} {X : Cx} {Q : State → Prop} {pc : Nat} {L L' st : List Value} {M : Mm} {S : Sg} (hl : L'.length = L.length) (h : ∀ (i : Nat) (v : Value), L'[i]? = some v → v = vU ∨ L[i]? = some v) (k : WR G X Q pc L' st M S) : WR G X Q pc L st M S := by
  intro ls H locs hL hR hz
  exact k ls H locs ⟨hL.1.trans hl.symm, hL.2.1, fun i v hi hu => hL.2.2 i v ((h i v hi).resolve_left hu) hu⟩ hR hz
