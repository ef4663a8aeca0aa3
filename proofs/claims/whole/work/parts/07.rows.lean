theorem ne_int (x : Int32) : Value.int x ≠ vU := fun h => by unfold vU at h; cases h
theorem ne_long (x : Int64) : Value.long x ≠ vU := fun h => by unfold vU at h; cases h
theorem ne_ref (x : Nat) : Value.ref x ≠ vU := fun h => by unfold vU at h; cases h
theorem r_iconst {G : Gm} {X : Cx} {Q : State → Prop} {own : Nat} {cc : ByteArray} {nL d pc : Nat} {L st : List Value} {M : Mm} {S : Sg} {n : Int} {v : Int32} (hX : XK G X own cc nL d) (hd : decode cc pc = .ok (.iconst n, 1)) (hv : Int32.ofInt n = v) (k : WR G X Q (pc + 1) L (.int v :: st) M S) : WR G X Q pc L (st) M S :=
  fun ls H locs hL hR hz => lv_iconst (rest := st.map (cv G)) hX.1 hX.2.1 hd hv (k ls H locs hL hR hz)
theorem r_bipush {G : Gm} {X : Cx} {Q : State → Prop} {own : Nat} {cc : ByteArray} {nL d pc : Nat} {L st : List Value} {M : Mm} {S : Sg} {n : Int} {v : Int32} (hX : XK G X own cc nL d) (hd : decode cc pc = .ok (.bipush n, 2)) (hv : (Int8.ofInt n).toInt32 = v) (k : WR G X Q (pc + 2) L (.int v :: st) M S) : WR G X Q pc L (st) M S :=
  fun ls H locs hL hR hz => lv_bipush (rest := st.map (cv G)) hX.1 hX.2.1 hd hv (k ls H locs hL hR hz)
theorem r_sipush {G : Gm} {X : Cx} {Q : State → Prop} {own : Nat} {cc : ByteArray} {nL d pc : Nat} {L st : List Value} {M : Mm} {S : Sg} {n : Int} {v : Int32} (hX : XK G X own cc nL d) (hd : decode cc pc = .ok (.sipush n, 3)) (hv : (Int16.ofInt n).toInt32 = v) (k : WR G X Q (pc + 3) L (.int v :: st) M S) : WR G X Q pc L (st) M S :=
  fun ls H locs hL hR hz => lv_sipush (rest := st.map (cv G)) hX.1 hX.2.1 hd hv (k ls H locs hL hR hz)
theorem r_lconst {G : Gm} {X : Cx} {Q : State → Prop} {own : Nat} {cc : ByteArray} {nL d pc : Nat} {L st : List Value} {M : Mm} {S : Sg} {n : Fin 2} {v : Int64} (hX : XK G X own cc nL d) (hd : decode cc pc = .ok (.lconst n, 1)) (hv : Int64.ofNat (n : Nat) = v) (k : WR G X Q (pc + 1) L (.long v :: st) M S) : WR G X Q pc L (st) M S :=
  fun ls H locs hL hR hz => lv_lconst (rest := st.map (cv G)) hX.1 hX.2.1 hd hv (k ls H locs hL hR hz)
theorem r_iload {G : Gm} {X : Cx} {Q : State → Prop} {own : Nat} {cc : ByteArray} {nL d pc : Nat} {L st : List Value} {M : Mm} {S : Sg} {i : Nat} {x : Int32} (hX : XK G X own cc nL d) (hd : decode cc pc = .ok (.iload i, 2)) (hi : L[i]? = some (.int x)) (k : WR G X Q (pc + 2) L (.int x :: st) M S) : WR G X Q pc L (st) M S :=
  fun ls H locs hL hR hz => lv_iload (rest := st.map (cv G)) hX.1 hX.2.1 hd (hL.2.2 i (.int x) hi (ne_int x)) (k ls H locs hL hR hz)
theorem r_iload_n {G : Gm} {X : Cx} {Q : State → Prop} {own : Nat} {cc : ByteArray} {nL d pc : Nat} {L st : List Value} {M : Mm} {S : Sg} {i : Fin 4} {x : Int32} (hX : XK G X own cc nL d) (hd : decode cc pc = .ok (.iload_n i, 1)) (hi : L[(i : Nat)]? = some (.int x)) (k : WR G X Q (pc + 1) L (.int x :: st) M S) : WR G X Q pc L (st) M S :=
  fun ls H locs hL hR hz => lv_iload_n (rest := st.map (cv G)) hX.1 hX.2.1 hd rfl (hL.2.2 (i : Nat) (.int x) hi (ne_int x)) (k ls H locs hL hR hz)
theorem r_istore {G : Gm} {X : Cx} {Q : State → Prop} {own : Nat} {cc : ByteArray} {nL d pc : Nat} {L st : List Value} {M : Mm} {S : Sg} {i : Nat} {x : Int32} {L1 : List Value} (hX : XK G X own cc nL d) (hd : decode cc pc = .ok (.istore i, 2)) (hn : i < L.length) (hl : lst1 L i (.int x) = L1) (k : WR G X Q (pc + 2) L1 st M S) : WR G X Q pc L (.int x :: st) M S :=
  fun ls H locs hL hR hz => lv_istore (rest := st.map (cv G)) hX.1 hX.2.1 hd (lvOf_has hL) hn rfl (fun ls' h' => k ls' H locs (hl ▸ LRep.put1 (v := .int x) rfl h') hR hz)
theorem r_istore_n {G : Gm} {X : Cx} {Q : State → Prop} {own : Nat} {cc : ByteArray} {nL d pc : Nat} {L st : List Value} {M : Mm} {S : Sg} {i : Fin 4} {x : Int32} {L1 : List Value} (hX : XK G X own cc nL d) (hd : decode cc pc = .ok (.istore_n i, 1)) (hn : (i : Nat) < L.length) (hl : lst1 L (i : Nat) (.int x) = L1) (k : WR G X Q (pc + 1) L1 st M S) : WR G X Q pc L (.int x :: st) M S :=
  fun ls H locs hL hR hz => lv_istore_n (rest := st.map (cv G)) hX.1 hX.2.1 hd rfl (lvOf_has hL) hn rfl (fun ls' h' => k ls' H locs (hl ▸ LRep.put1 (v := .int x) rfl h') hR hz)
theorem r_lload {G : Gm} {X : Cx} {Q : State → Prop} {own : Nat} {cc : ByteArray} {nL d pc : Nat} {L st : List Value} {M : Mm} {S : Sg} {i : Nat} {x : Int64} (hX : XK G X own cc nL d) (hd : decode cc pc = .ok (.lload i, 2)) (hi : L[i]? = some (.long x)) (k : WR G X Q (pc + 2) L (.long x :: st) M S) : WR G X Q pc L (st) M S :=
  fun ls H locs hL hR hz => lv_lload (rest := st.map (cv G)) hX.1 hX.2.1 hd (hL.2.2 i (.long x) hi (ne_long x)) (k ls H locs hL hR hz)
theorem r_lload_n {G : Gm} {X : Cx} {Q : State → Prop} {own : Nat} {cc : ByteArray} {nL d pc : Nat} {L st : List Value} {M : Mm} {S : Sg} {i : Fin 4} {x : Int64} (hX : XK G X own cc nL d) (hd : decode cc pc = .ok (.lload_n i, 1)) (hi : L[(i : Nat)]? = some (.long x)) (k : WR G X Q (pc + 1) L (.long x :: st) M S) : WR G X Q pc L (st) M S :=
  fun ls H locs hL hR hz => lv_lload_n (rest := st.map (cv G)) hX.1 hX.2.1 hd rfl (hL.2.2 (i : Nat) (.long x) hi (ne_long x)) (k ls H locs hL hR hz)
theorem r_lstore {G : Gm} {X : Cx} {Q : State → Prop} {own : Nat} {cc : ByteArray} {nL d pc : Nat} {L st : List Value} {M : Mm} {S : Sg} {i : Nat} {x : Int64} {L1 : List Value} (hX : XK G X own cc nL d) (hd : decode cc pc = .ok (.lstore i, 2)) (hn : i + 1 < L.length) (hl : lst2 L i (.long x) = L1) (k : WR G X Q (pc + 2) L1 st M S) : WR G X Q pc L (.long x :: st) M S :=
  fun ls H locs hL hR hz => lv_lstore (rest := st.map (cv G)) hX.1 hX.2.1 hd (lvOf_has hL) hn rfl (fun ls' h' => k ls' H locs (hl ▸ LRep.put2 (v := .long x) h') hR hz)
theorem r_lstore_n {G : Gm} {X : Cx} {Q : State → Prop} {own : Nat} {cc : ByteArray} {nL d pc : Nat} {L st : List Value} {M : Mm} {S : Sg} {i : Fin 4} {x : Int64} {L1 : List Value} (hX : XK G X own cc nL d) (hd : decode cc pc = .ok (.lstore_n i, 1)) (hn : (i : Nat) + 1 < L.length) (hl : lst2 L (i : Nat) (.long x) = L1) (k : WR G X Q (pc + 1) L1 st M S) : WR G X Q pc L (.long x :: st) M S :=
  fun ls H locs hL hR hz => lv_lstore_n (rest := st.map (cv G)) hX.1 hX.2.1 hd rfl (lvOf_has hL) hn rfl (fun ls' h' => k ls' H locs (hl ▸ LRep.put2 (v := .long x) h') hR hz)
theorem r_aload {G : Gm} {X : Cx} {Q : State → Prop} {own : Nat} {cc : ByteArray} {nL d pc : Nat} {L st : List Value} {M : Mm} {S : Sg} {i : Nat} {x : Nat} (hX : XK G X own cc nL d) (hd : decode cc pc = .ok (.aload i, 2)) (hi : L[i]? = some (.ref x)) (k : WR G X Q (pc + 2) L (.ref x :: st) M S) : WR G X Q pc L (st) M S :=
  fun ls H locs hL hR hz => lv_aload (rest := st.map (cv G)) hX.1 hX.2.1 hd (hL.2.2 i (.ref x) hi (ne_ref x)) (k ls H locs hL hR hz)
theorem r_aload_n {G : Gm} {X : Cx} {Q : State → Prop} {own : Nat} {cc : ByteArray} {nL d pc : Nat} {L st : List Value} {M : Mm} {S : Sg} {i : Fin 4} {x : Nat} (hX : XK G X own cc nL d) (hd : decode cc pc = .ok (.aload_n i, 1)) (hi : L[(i : Nat)]? = some (.ref x)) (k : WR G X Q (pc + 1) L (.ref x :: st) M S) : WR G X Q pc L (st) M S :=
  fun ls H locs hL hR hz => lv_aload_n (rest := st.map (cv G)) hX.1 hX.2.1 hd rfl (hL.2.2 (i : Nat) (.ref x) hi (ne_ref x)) (k ls H locs hL hR hz)
theorem r_astore {G : Gm} {X : Cx} {Q : State → Prop} {own : Nat} {cc : ByteArray} {nL d pc : Nat} {L st : List Value} {M : Mm} {S : Sg} {i : Nat} {x : Nat} {L1 : List Value} (hX : XK G X own cc nL d) (hd : decode cc pc = .ok (.astore i, 2)) (hn : i < L.length) (hl : lst1 L i (.ref x) = L1) (k : WR G X Q (pc + 2) L1 st M S) : WR G X Q pc L (.ref x :: st) M S :=
  fun ls H locs hL hR hz => lv_astore (rest := st.map (cv G)) hX.1 hX.2.1 hd (lvOf_has hL) hn rfl (fun ls' h' => k ls' H locs (hl ▸ LRep.put1 (v := .ref x) rfl h') hR hz)
theorem r_astore_n {G : Gm} {X : Cx} {Q : State → Prop} {own : Nat} {cc : ByteArray} {nL d pc : Nat} {L st : List Value} {M : Mm} {S : Sg} {i : Fin 4} {x : Nat} {L1 : List Value} (hX : XK G X own cc nL d) (hd : decode cc pc = .ok (.astore_n i, 1)) (hn : (i : Nat) < L.length) (hl : lst1 L (i : Nat) (.ref x) = L1) (k : WR G X Q (pc + 1) L1 st M S) : WR G X Q pc L (.ref x :: st) M S :=
  fun ls H locs hL hR hz => lv_astore_n (rest := st.map (cv G)) hX.1 hX.2.1 hd rfl (lvOf_has hL) hn rfl (fun ls' h' => k ls' H locs (hl ▸ LRep.put1 (v := .ref x) rfl h') hR hz)
theorem r_iinc {G : Gm} {X : Cx} {Q : State → Prop} {own : Nat} {cc : ByteArray} {nL d pc : Nat} {L st : List Value} {M : Mm} {S : Sg} {i : Nat} {n : Int} {x v : Int32} {L1 : List Value} (hX : XK G X own cc nL d) (hd : decode cc pc = .ok (.iinc i n, 3)) (hi : L[i]? = some (.int x)) (hv : x + Int32.ofInt n = v) (hl : lst1 L i (.int v) = L1) (k : WR G X Q (pc + 3) L1 st M S) : WR G X Q pc L st M S := by
  intro ls H locs hL hR hz
  obtain ⟨kk, hkk⟩ := List.getElem?_of_mem (lvOf_mem (G := G) hi (ne_int x))
  exact lv_iinc (k := kk) (rest := st.map (cv G)) hX.1 hX.2.1 hd (lvOf_has hL) hkk hv (List.getElem?_eq_some_iff.mp hi).1 rfl (fun ls' h' => k ls' H locs (hl ▸ LRep.put1 (v := .int v) rfl h') hR hz)
theorem r_iadd {G : Gm} {X : Cx} {Q : State → Prop} {own : Nat} {cc : ByteArray} {nL d pc : Nat} {L st : List Value} {M : Mm} {S : Sg} {x y : Int32} (hX : XK G X own cc nL d) (hd : decode cc pc = .ok (.iadd, 1))  (k : WR G X Q (pc + 1) L (.int (x + y) :: st) M S) : WR G X Q pc L (.int y :: .int x :: st) M S :=
  fun ls H locs hL hR hz => lv_iadd (rest := st.map (cv G)) hX.1 hX.2.1 hd (k ls H locs hL hR hz)
theorem r_isub {G : Gm} {X : Cx} {Q : State → Prop} {own : Nat} {cc : ByteArray} {nL d pc : Nat} {L st : List Value} {M : Mm} {S : Sg} {x y : Int32} (hX : XK G X own cc nL d) (hd : decode cc pc = .ok (.isub, 1))  (k : WR G X Q (pc + 1) L (.int (x - y) :: st) M S) : WR G X Q pc L (.int y :: .int x :: st) M S :=
  fun ls H locs hL hR hz => lv_isub (rest := st.map (cv G)) hX.1 hX.2.1 hd (k ls H locs hL hR hz)
theorem r_imul {G : Gm} {X : Cx} {Q : State → Prop} {own : Nat} {cc : ByteArray} {nL d pc : Nat} {L st : List Value} {M : Mm} {S : Sg} {x y : Int32} (hX : XK G X own cc nL d) (hd : decode cc pc = .ok (.imul, 1))  (k : WR G X Q (pc + 1) L (.int (x * y) :: st) M S) : WR G X Q pc L (.int y :: .int x :: st) M S :=
  fun ls H locs hL hR hz => lv_imul (rest := st.map (cv G)) hX.1 hX.2.1 hd (k ls H locs hL hR hz)
theorem r_iand {G : Gm} {X : Cx} {Q : State → Prop} {own : Nat} {cc : ByteArray} {nL d pc : Nat} {L st : List Value} {M : Mm} {S : Sg} {x y : Int32} (hX : XK G X own cc nL d) (hd : decode cc pc = .ok (.iand, 1))  (k : WR G X Q (pc + 1) L (.int (x &&& y) :: st) M S) : WR G X Q pc L (.int y :: .int x :: st) M S :=
  fun ls H locs hL hR hz => lv_iand (rest := st.map (cv G)) hX.1 hX.2.1 hd (k ls H locs hL hR hz)
theorem r_ior {G : Gm} {X : Cx} {Q : State → Prop} {own : Nat} {cc : ByteArray} {nL d pc : Nat} {L st : List Value} {M : Mm} {S : Sg} {x y : Int32} (hX : XK G X own cc nL d) (hd : decode cc pc = .ok (.ior, 1))  (k : WR G X Q (pc + 1) L (.int (x ||| y) :: st) M S) : WR G X Q pc L (.int y :: .int x :: st) M S :=
  fun ls H locs hL hR hz => lv_ior (rest := st.map (cv G)) hX.1 hX.2.1 hd (k ls H locs hL hR hz)
theorem r_ixor {G : Gm} {X : Cx} {Q : State → Prop} {own : Nat} {cc : ByteArray} {nL d pc : Nat} {L st : List Value} {M : Mm} {S : Sg} {x y : Int32} (hX : XK G X own cc nL d) (hd : decode cc pc = .ok (.ixor, 1))  (k : WR G X Q (pc + 1) L (.int (x ^^^ y) :: st) M S) : WR G X Q pc L (.int y :: .int x :: st) M S :=
  fun ls H locs hL hR hz => lv_ixor (rest := st.map (cv G)) hX.1 hX.2.1 hd (k ls H locs hL hR hz)
theorem r_ishl {G : Gm} {X : Cx} {Q : State → Prop} {own : Nat} {cc : ByteArray} {nL d pc : Nat} {L st : List Value} {M : Mm} {S : Sg} {x y : Int32} (hX : XK G X own cc nL d) (hd : decode cc pc = .ok (.ishl, 1))  (k : WR G X Q (pc + 1) L (.int (x <<< (y &&& 31)) :: st) M S) : WR G X Q pc L (.int y :: .int x :: st) M S :=
  fun ls H locs hL hR hz => lv_ishl (rest := st.map (cv G)) hX.1 hX.2.1 hd (k ls H locs hL hR hz)
theorem r_ishr {G : Gm} {X : Cx} {Q : State → Prop} {own : Nat} {cc : ByteArray} {nL d pc : Nat} {L st : List Value} {M : Mm} {S : Sg} {x y : Int32} (hX : XK G X own cc nL d) (hd : decode cc pc = .ok (.ishr, 1))  (k : WR G X Q (pc + 1) L (.int (x >>> (y &&& 31)) :: st) M S) : WR G X Q pc L (.int y :: .int x :: st) M S :=
  fun ls H locs hL hR hz => lv_ishr (rest := st.map (cv G)) hX.1 hX.2.1 hd (k ls H locs hL hR hz)
theorem r_ladd {G : Gm} {X : Cx} {Q : State → Prop} {own : Nat} {cc : ByteArray} {nL d pc : Nat} {L st : List Value} {M : Mm} {S : Sg} {x y : Int64} (hX : XK G X own cc nL d) (hd : decode cc pc = .ok (.ladd, 1))  (k : WR G X Q (pc + 1) L (.long (x + y) :: st) M S) : WR G X Q pc L (.long y :: .long x :: st) M S :=
  fun ls H locs hL hR hz => lv_ladd (rest := st.map (cv G)) hX.1 hX.2.1 hd (k ls H locs hL hR hz)
theorem r_lsub {G : Gm} {X : Cx} {Q : State → Prop} {own : Nat} {cc : ByteArray} {nL d pc : Nat} {L st : List Value} {M : Mm} {S : Sg} {x y : Int64} (hX : XK G X own cc nL d) (hd : decode cc pc = .ok (.lsub, 1))  (k : WR G X Q (pc + 1) L (.long (x - y) :: st) M S) : WR G X Q pc L (.long y :: .long x :: st) M S :=
  fun ls H locs hL hR hz => lv_lsub (rest := st.map (cv G)) hX.1 hX.2.1 hd (k ls H locs hL hR hz)
theorem r_lmul {G : Gm} {X : Cx} {Q : State → Prop} {own : Nat} {cc : ByteArray} {nL d pc : Nat} {L st : List Value} {M : Mm} {S : Sg} {x y : Int64} (hX : XK G X own cc nL d) (hd : decode cc pc = .ok (.lmul, 1))  (k : WR G X Q (pc + 1) L (.long (x * y) :: st) M S) : WR G X Q pc L (.long y :: .long x :: st) M S :=
  fun ls H locs hL hR hz => lv_lmul (rest := st.map (cv G)) hX.1 hX.2.1 hd (k ls H locs hL hR hz)
theorem r_land {G : Gm} {X : Cx} {Q : State → Prop} {own : Nat} {cc : ByteArray} {nL d pc : Nat} {L st : List Value} {M : Mm} {S : Sg} {x y : Int64} (hX : XK G X own cc nL d) (hd : decode cc pc = .ok (.land, 1))  (k : WR G X Q (pc + 1) L (.long (x &&& y) :: st) M S) : WR G X Q pc L (.long y :: .long x :: st) M S :=
  fun ls H locs hL hR hz => lv_land (rest := st.map (cv G)) hX.1 hX.2.1 hd (k ls H locs hL hR hz)
theorem r_lor {G : Gm} {X : Cx} {Q : State → Prop} {own : Nat} {cc : ByteArray} {nL d pc : Nat} {L st : List Value} {M : Mm} {S : Sg} {x y : Int64} (hX : XK G X own cc nL d) (hd : decode cc pc = .ok (.lor, 1))  (k : WR G X Q (pc + 1) L (.long (x ||| y) :: st) M S) : WR G X Q pc L (.long y :: .long x :: st) M S :=
  fun ls H locs hL hR hz => lv_lor (rest := st.map (cv G)) hX.1 hX.2.1 hd (k ls H locs hL hR hz)
theorem r_lxor {G : Gm} {X : Cx} {Q : State → Prop} {own : Nat} {cc : ByteArray} {nL d pc : Nat} {L st : List Value} {M : Mm} {S : Sg} {x y : Int64} (hX : XK G X own cc nL d) (hd : decode cc pc = .ok (.lxor, 1))  (k : WR G X Q (pc + 1) L (.long (x ^^^ y) :: st) M S) : WR G X Q pc L (.long y :: .long x :: st) M S :=
  fun ls H locs hL hR hz => lv_lxor (rest := st.map (cv G)) hX.1 hX.2.1 hd (k ls H locs hL hR hz)
theorem r_idiv {G : Gm} {X : Cx} {Q : State → Prop} {own : Nat} {cc : ByteArray} {nL d pc : Nat} {L st : List Value} {M : Mm} {S : Sg} {x y : Int32} (hX : XK G X own cc nL d) (hd : decode cc pc = .ok (.idiv, 1)) (hne : ¬ y = 0) (k : WR G X Q (pc + 1) L (.int (x / y) :: st) M S) : WR G X Q pc L (.int y :: .int x :: st) M S :=
  fun ls H locs hL hR hz => lv_idiv (rest := st.map (cv G)) hX.1 hX.2.1 hd hne (k ls H locs hL hR hz)
theorem r_irem {G : Gm} {X : Cx} {Q : State → Prop} {own : Nat} {cc : ByteArray} {nL d pc : Nat} {L st : List Value} {M : Mm} {S : Sg} {x y : Int32} (hX : XK G X own cc nL d) (hd : decode cc pc = .ok (.irem, 1)) (hne : ¬ y = 0) (k : WR G X Q (pc + 1) L (.int (x - x / y * y) :: st) M S) : WR G X Q pc L (.int y :: .int x :: st) M S :=
  fun ls H locs hL hR hz => lv_irem (rest := st.map (cv G)) hX.1 hX.2.1 hd hne (k ls H locs hL hR hz)
def ushr (x y : Int32) : Int32 := (x.toUInt32 >>> (y.toUInt32 &&& Int32.toUInt32 31)).toInt32
def lushr (x : Int64) (y : Int32) : Int64 := (x.toUInt64 >>> (y.toInt64.toUInt64 &&& Int64.toUInt64 63)).toInt64
def lshl (x : Int64) (y : Int32) : Int64 := x <<< (y.toInt64 &&& 63)
theorem r_iushr {G : Gm} {X : Cx} {Q : State → Prop} {own : Nat} {cc : ByteArray} {nL d pc : Nat} {L st : List Value} {M : Mm} {S : Sg} {x y : Int32} (hX : XK G X own cc nL d) (hd : decode cc pc = .ok (.iushr, 1))  (k : WR G X Q (pc + 1) L (.int (ushr x y) :: st) M S) : WR G X Q pc L (.int y :: .int x :: st) M S :=
  fun ls H locs hL hR hz => lv_iushr (rest := st.map (cv G)) hX.1 hX.2.1 hd rfl (k ls H locs hL hR hz)
theorem r_lushr {G : Gm} {X : Cx} {Q : State → Prop} {own : Nat} {cc : ByteArray} {nL d pc : Nat} {L st : List Value} {M : Mm} {S : Sg} {x : Int64} {y : Int32} (hX : XK G X own cc nL d) (hd : decode cc pc = .ok (.lushr, 1))  (k : WR G X Q (pc + 1) L (.long (lushr x y) :: st) M S) : WR G X Q pc L (.int y :: .long x :: st) M S :=
  fun ls H locs hL hR hz => lv_lushr (rest := st.map (cv G)) hX.1 hX.2.1 hd rfl (k ls H locs hL hR hz)
theorem r_lshl {G : Gm} {X : Cx} {Q : State → Prop} {own : Nat} {cc : ByteArray} {nL d pc : Nat} {L st : List Value} {M : Mm} {S : Sg} {x : Int64} {y : Int32} (hX : XK G X own cc nL d) (hd : decode cc pc = .ok (.lshl, 1))  (k : WR G X Q (pc + 1) L (.long (lshl x y) :: st) M S) : WR G X Q pc L (.int y :: .long x :: st) M S :=
  fun ls H locs hL hR hz => lv_lshl (rest := st.map (cv G)) hX.1 hX.2.1 hd rfl (k ls H locs hL hR hz)
theorem r_lneg {G : Gm} {X : Cx} {Q : State → Prop} {own : Nat} {cc : ByteArray} {nL d pc : Nat} {L st : List Value} {M : Mm} {S : Sg} {x : Int64} (hX : XK G X own cc nL d) (hd : decode cc pc = .ok (.lneg, 1))  (k : WR G X Q (pc + 1) L (.long (-x) :: st) M S) : WR G X Q pc L (.long x :: st) M S :=
  fun ls H locs hL hR hz => lv_lneg (rest := st.map (cv G)) hX.1 hX.2.1 hd (k ls H locs hL hR hz)
theorem r_i2l {G : Gm} {X : Cx} {Q : State → Prop} {own : Nat} {cc : ByteArray} {nL d pc : Nat} {L st : List Value} {M : Mm} {S : Sg} {x : Int32} (hX : XK G X own cc nL d) (hd : decode cc pc = .ok (.i2l, 1))  (k : WR G X Q (pc + 1) L (.long x.toInt64 :: st) M S) : WR G X Q pc L (.int x :: st) M S :=
  fun ls H locs hL hR hz => lv_i2l (rest := st.map (cv G)) hX.1 hX.2.1 hd rfl (k ls H locs hL hR hz)
theorem r_l2i {G : Gm} {X : Cx} {Q : State → Prop} {own : Nat} {cc : ByteArray} {nL d pc : Nat} {L st : List Value} {M : Mm} {S : Sg} {x : Int64} (hX : XK G X own cc nL d) (hd : decode cc pc = .ok (.l2i, 1))  (k : WR G X Q (pc + 1) L (.int x.toInt32 :: st) M S) : WR G X Q pc L (.long x :: st) M S :=
  fun ls H locs hL hR hz => lv_l2i (rest := st.map (cv G)) hX.1 hX.2.1 hd rfl (k ls H locs hL hR hz)
theorem r_i2b {G : Gm} {X : Cx} {Q : State → Prop} {own : Nat} {cc : ByteArray} {nL d pc : Nat} {L st : List Value} {M : Mm} {S : Sg} {x : Int32} (hX : XK G X own cc nL d) (hd : decode cc pc = .ok (.i2b, 1))  (k : WR G X Q (pc + 1) L (.int x.toInt8.toInt32 :: st) M S) : WR G X Q pc L (.int x :: st) M S :=
  fun ls H locs hL hR hz => lv_i2b (rest := st.map (cv G)) hX.1 hX.2.1 hd rfl (k ls H locs hL hR hz)
theorem r_lcmp {G : Gm} {X : Cx} {Q : State → Prop} {own : Nat} {cc : ByteArray} {nL d pc : Nat} {L st : List Value} {M : Mm} {S : Sg} {x y : Int64} (hX : XK G X own cc nL d) (hd : decode cc pc = .ok (.lcmp, 1))  (k : WR G X Q (pc + 1) L (.int (lg_cmp x y) :: st) M S) : WR G X Q pc L (.long y :: .long x :: st) M S :=
  fun ls H locs hL hR hz => W.lcmp (rest := st.map (cv G)) hX.1 hX.2.1 hd (k ls H locs hL hR hz)
theorem r_dup {G : Gm} {X : Cx} {Q : State → Prop} {own : Nat} {cc : ByteArray} {nL d pc : Nat} {L st : List Value} {M : Mm} {S : Sg} {v : Value} (hX : XK G X own cc nL d) (hd : decode cc pc = .ok (.dup, 1)) (hv : v.category = 1) (k : WR G X Q (pc + 1) L (v :: v :: st) M S) : WR G X Q pc L (v :: st) M S :=
  fun ls H locs hL hR hz => lv_dup (va := cv G v) (rest := st.map (cv G)) hX.1 hX.2.1 hd (by rw [cv_cat]; exact hv) (k ls H locs hL hR hz)
theorem r_dup2 {G : Gm} {X : Cx} {Q : State → Prop} {own : Nat} {cc : ByteArray} {nL d pc : Nat} {L st : List Value} {M : Mm} {S : Sg} {v w : Value} (hX : XK G X own cc nL d) (hd : decode cc pc = .ok (.dup2, 1)) (hv : v.category = 1) (hw : w.category = 1) (k : WR G X Q (pc + 1) L (v :: w :: v :: w :: st) M S) : WR G X Q pc L (v :: w :: st) M S :=
  fun ls H locs hL hR hz => lv_dup2_11 (va := cv G v) (vb := cv G w) (rest := st.map (cv G)) hX.1 hX.2.1 hd (by rw [cv_cat]; exact hv) (by rw [cv_cat]; exact hw) (k ls H locs hL hR hz)
theorem r_goto {G : Gm} {X : Cx} {Q : State → Prop} {own : Nat} {cc : ByteArray} {nL d pc : Nat} {L st : List Value} {M : Mm} {S : Sg} {off : Int} {tgt : Nat} (hX : XK G X own cc nL d) (hd : decode cc pc = .ok (.goto off, 3)) (ht : (pc : Int) + off = (tgt : Int)) (k : WR G X Q tgt L st M S) : WR G X Q pc L st M S :=
  fun ls H locs hL hR hz => lv_goto (rest := st.map (cv G)) hX.1 hX.2.1 hd ht (k ls H locs hL hR hz)
theorem r_icmp_eq {G : Gm} {X : Cx} {Q : State → Prop} {own : Nat} {cc : ByteArray} {nL d pc : Nat} {L st : List Value} {M : Mm} {S : Sg} {x y : Int32} {off : Int} {tgt : Nat} (hX : XK G X own cc nL d) (hd : decode cc pc = .ok (.if_icmp .eq off, 3)) (ht : (pc : Int) + off = (tgt : Int)) (kt : x = y → WR G X Q tgt L st M S) (kf : ¬ x = y → WR G X Q (pc + 3) L st M S) : WR G X Q pc L (.int y :: .int x :: st) M S :=
  fun ls H locs hL hR hz => lv_icmp_eq (rest := st.map (cv G)) hX.1 hX.2.1 hd ht (fun z => kt z ls H locs hL hR hz) (fun z => kf z ls H locs hL hR hz)
theorem r_if_eq {G : Gm} {X : Cx} {Q : State → Prop} {own : Nat} {cc : ByteArray} {nL d pc : Nat} {L st : List Value} {M : Mm} {S : Sg} {x : Int32} {off : Int} {tgt : Nat} (hX : XK G X own cc nL d) (hd : decode cc pc = .ok (.ifCond .eq off, 3)) (ht : (pc : Int) + off = (tgt : Int)) (kt : x = 0 → WR G X Q tgt L st M S) (kf : ¬ x = 0 → WR G X Q (pc + 3) L st M S) : WR G X Q pc L (.int x :: st) M S :=
  fun ls H locs hL hR hz => lv_if_eq (rest := st.map (cv G)) hX.1 hX.2.1 hd ht (fun z => kt z ls H locs hL hR hz) (fun z => kf z ls H locs hL hR hz)
theorem r_icmp_ne {G : Gm} {X : Cx} {Q : State → Prop} {own : Nat} {cc : ByteArray} {nL d pc : Nat} {L st : List Value} {M : Mm} {S : Sg} {x y : Int32} {off : Int} {tgt : Nat} (hX : XK G X own cc nL d) (hd : decode cc pc = .ok (.if_icmp .ne off, 3)) (ht : (pc : Int) + off = (tgt : Int)) (kt : ¬ x = y → WR G X Q tgt L st M S) (kf : x = y → WR G X Q (pc + 3) L st M S) : WR G X Q pc L (.int y :: .int x :: st) M S :=
  fun ls H locs hL hR hz => lv_icmp_ne (rest := st.map (cv G)) hX.1 hX.2.1 hd ht (fun z => kt z ls H locs hL hR hz) (fun z => kf z ls H locs hL hR hz)
theorem r_if_ne {G : Gm} {X : Cx} {Q : State → Prop} {own : Nat} {cc : ByteArray} {nL d pc : Nat} {L st : List Value} {M : Mm} {S : Sg} {x : Int32} {off : Int} {tgt : Nat} (hX : XK G X own cc nL d) (hd : decode cc pc = .ok (.ifCond .ne off, 3)) (ht : (pc : Int) + off = (tgt : Int)) (kt : ¬ x = 0 → WR G X Q tgt L st M S) (kf : x = 0 → WR G X Q (pc + 3) L st M S) : WR G X Q pc L (.int x :: st) M S :=
  fun ls H locs hL hR hz => lv_if_ne (rest := st.map (cv G)) hX.1 hX.2.1 hd ht (fun z => kt z ls H locs hL hR hz) (fun z => kf z ls H locs hL hR hz)
theorem r_icmp_lt {G : Gm} {X : Cx} {Q : State → Prop} {own : Nat} {cc : ByteArray} {nL d pc : Nat} {L st : List Value} {M : Mm} {S : Sg} {x y : Int32} {off : Int} {tgt : Nat} (hX : XK G X own cc nL d) (hd : decode cc pc = .ok (.if_icmp .lt off, 3)) (ht : (pc : Int) + off = (tgt : Int)) (kt : x < y → WR G X Q tgt L st M S) (kf : ¬ x < y → WR G X Q (pc + 3) L st M S) : WR G X Q pc L (.int y :: .int x :: st) M S :=
  fun ls H locs hL hR hz => lv_icmp_lt (rest := st.map (cv G)) hX.1 hX.2.1 hd ht (fun z => kt z ls H locs hL hR hz) (fun z => kf z ls H locs hL hR hz)
theorem r_if_lt {G : Gm} {X : Cx} {Q : State → Prop} {own : Nat} {cc : ByteArray} {nL d pc : Nat} {L st : List Value} {M : Mm} {S : Sg} {x : Int32} {off : Int} {tgt : Nat} (hX : XK G X own cc nL d) (hd : decode cc pc = .ok (.ifCond .lt off, 3)) (ht : (pc : Int) + off = (tgt : Int)) (kt : x < 0 → WR G X Q tgt L st M S) (kf : ¬ x < 0 → WR G X Q (pc + 3) L st M S) : WR G X Q pc L (.int x :: st) M S :=
  fun ls H locs hL hR hz => lv_if_lt (rest := st.map (cv G)) hX.1 hX.2.1 hd ht (fun z => kt z ls H locs hL hR hz) (fun z => kf z ls H locs hL hR hz)
theorem r_icmp_ge {G : Gm} {X : Cx} {Q : State → Prop} {own : Nat} {cc : ByteArray} {nL d pc : Nat} {L st : List Value} {M : Mm} {S : Sg} {x y : Int32} {off : Int} {tgt : Nat} (hX : XK G X own cc nL d) (hd : decode cc pc = .ok (.if_icmp .ge off, 3)) (ht : (pc : Int) + off = (tgt : Int)) (kt : y ≤ x → WR G X Q tgt L st M S) (kf : ¬ y ≤ x → WR G X Q (pc + 3) L st M S) : WR G X Q pc L (.int y :: .int x :: st) M S :=
  fun ls H locs hL hR hz => lv_icmp_ge (rest := st.map (cv G)) hX.1 hX.2.1 hd ht (fun z => kt z ls H locs hL hR hz) (fun z => kf z ls H locs hL hR hz)
theorem r_if_ge {G : Gm} {X : Cx} {Q : State → Prop} {own : Nat} {cc : ByteArray} {nL d pc : Nat} {L st : List Value} {M : Mm} {S : Sg} {x : Int32} {off : Int} {tgt : Nat} (hX : XK G X own cc nL d) (hd : decode cc pc = .ok (.ifCond .ge off, 3)) (ht : (pc : Int) + off = (tgt : Int)) (kt : 0 ≤ x → WR G X Q tgt L st M S) (kf : ¬ 0 ≤ x → WR G X Q (pc + 3) L st M S) : WR G X Q pc L (.int x :: st) M S :=
  fun ls H locs hL hR hz => lv_if_ge (rest := st.map (cv G)) hX.1 hX.2.1 hd ht (fun z => kt z ls H locs hL hR hz) (fun z => kf z ls H locs hL hR hz)
theorem r_icmp_gt {G : Gm} {X : Cx} {Q : State → Prop} {own : Nat} {cc : ByteArray} {nL d pc : Nat} {L st : List Value} {M : Mm} {S : Sg} {x y : Int32} {off : Int} {tgt : Nat} (hX : XK G X own cc nL d) (hd : decode cc pc = .ok (.if_icmp .gt off, 3)) (ht : (pc : Int) + off = (tgt : Int)) (kt : y < x → WR G X Q tgt L st M S) (kf : ¬ y < x → WR G X Q (pc + 3) L st M S) : WR G X Q pc L (.int y :: .int x :: st) M S :=
  fun ls H locs hL hR hz => lv_icmp_gt (rest := st.map (cv G)) hX.1 hX.2.1 hd ht (fun z => kt z ls H locs hL hR hz) (fun z => kf z ls H locs hL hR hz)
theorem r_if_gt {G : Gm} {X : Cx} {Q : State → Prop} {own : Nat} {cc : ByteArray} {nL d pc : Nat} {L st : List Value} {M : Mm} {S : Sg} {x : Int32} {off : Int} {tgt : Nat} (hX : XK G X own cc nL d) (hd : decode cc pc = .ok (.ifCond .gt off, 3)) (ht : (pc : Int) + off = (tgt : Int)) (kt : 0 < x → WR G X Q tgt L st M S) (kf : ¬ 0 < x → WR G X Q (pc + 3) L st M S) : WR G X Q pc L (.int x :: st) M S :=
  fun ls H locs hL hR hz => lv_if_gt (rest := st.map (cv G)) hX.1 hX.2.1 hd ht (fun z => kt z ls H locs hL hR hz) (fun z => kf z ls H locs hL hR hz)
theorem r_icmp_le {G : Gm} {X : Cx} {Q : State → Prop} {own : Nat} {cc : ByteArray} {nL d pc : Nat} {L st : List Value} {M : Mm} {S : Sg} {x y : Int32} {off : Int} {tgt : Nat} (hX : XK G X own cc nL d) (hd : decode cc pc = .ok (.if_icmp .le off, 3)) (ht : (pc : Int) + off = (tgt : Int)) (kt : x ≤ y → WR G X Q tgt L st M S) (kf : ¬ x ≤ y → WR G X Q (pc + 3) L st M S) : WR G X Q pc L (.int y :: .int x :: st) M S :=
  fun ls H locs hL hR hz => lv_icmp_le (rest := st.map (cv G)) hX.1 hX.2.1 hd ht (fun z => kt z ls H locs hL hR hz) (fun z => kf z ls H locs hL hR hz)
theorem r_if_le {G : Gm} {X : Cx} {Q : State → Prop} {own : Nat} {cc : ByteArray} {nL d pc : Nat} {L st : List Value} {M : Mm} {S : Sg} {x : Int32} {off : Int} {tgt : Nat} (hX : XK G X own cc nL d) (hd : decode cc pc = .ok (.ifCond .le off, 3)) (ht : (pc : Int) + off = (tgt : Int)) (kt : x ≤ 0 → WR G X Q tgt L st M S) (kf : ¬ x ≤ 0 → WR G X Q (pc + 3) L st M S) : WR G X Q pc L (.int x :: st) M S :=
  fun ls H locs hL hR hz => lv_if_le (rest := st.map (cv G)) hX.1 hX.2.1 hd ht (fun z => kt z ls H locs hL hR hz) (fun z => kf z ls H locs hL hR hz)
theorem r_tabOut {G : Gm} {X : Cx} {Q : State → Prop} {own : Nat} {cc : ByteArray} {nL d pc : Nat} {L st : List Value} {M : Mm} {S : Sg} {x : Int32} {dflt lo hi : Int} {offs : Array Int} {len tgt : Nat} (hX : XK G X own cc nL d) (hd : decode cc pc = .ok (.tableswitch dflt lo hi offs, len)) (h : x.toInt < lo ∨ hi < x.toInt) (ht : (pc : Int) + dflt = (tgt : Int)) (k : WR G X Q tgt L st M S) : WR G X Q pc L (.int x :: st) M S :=
  fun ls H locs hL hR hz => lv_tableOut (rest := st.map (cv G)) hX.1 hX.2.1 hd h ht (k ls H locs hL hR hz)
theorem r_tabIn {G : Gm} {X : Cx} {Q : State → Prop} {own : Nat} {cc : ByteArray} {nL d pc : Nat} {L st : List Value} {M : Mm} {S : Sg} {x : Int32} {dflt lo hi off : Int} {offs : Array Int} {len tgt : Nat} (hX : XK G X own cc nL d) (hd : decode cc pc = .ok (.tableswitch dflt lo hi offs, len)) (h1 : ¬ x.toInt < lo) (h2 : ¬ hi < x.toInt) (ho : offs[(x.toInt - lo).toNat]? = some off) (ht : (pc : Int) + off = (tgt : Int)) (k : WR G X Q tgt L st M S) : WR G X Q pc L (.int x :: st) M S :=
  fun ls H locs hL hR hz => lv_tableIn (rest := st.map (cv G)) hX.1 hX.2.1 hd h1 h2 ho ht (k ls H locs hL hR hz)
theorem r_lookup {G : Gm} {X : Cx} {Q : State → Prop} {own : Nat} {cc : ByteArray} {nL d pc : Nat} {L st : List Value} {M : Mm} {S : Sg} {x : Int32} {dflt off : Int} {ps : Array (Int × Int)} {len tgt : Nat} (hX : XK G X own cc nL d) (hd : decode cc pc = .ok (.lookupswitch dflt ps, len)) (hp : (ps.toList.zip (ps.toList.drop 1)).all (fun (a, next) => a.1 < next.1) = true) (ho : Op.lookupswitch.offset ps.toList dflt x.toInt = off) (ht : (pc : Int) + off = (tgt : Int)) (k : WR G X Q tgt L st M S) : WR G X Q pc L (.int x :: st) M S :=
  fun ls H locs hL hR hz => lv_lookup (rest := st.map (cv G)) hX.1 hX.2.1 hd hp ho ht (k ls H locs hL hR hz)
theorem r_ldc {G : Gm} {X : Cx} {Q : State → Prop} {own : Nat} {cc : ByteArray} {nL d pc : Nat} {L st : List Value} {M : Mm} {S : Sg} {idx : Nat} {v : Int32} (hX : XK G X own cc nL d) (hd : decode cc pc = .ok (.ldc idx, 2)) (hc : KI own idx v) (k : WR G X Q (pc + 2) L (.int v :: st) M S) : WR G X Q pc L st M S :=
  fun ls H locs hL hR hz => lv_ldc (rest := st.map (cv G)) hX.1 hX.2.1 hX.2.2.2.1 (hX.2.2.2.2.1 _ hc) hd (k ls H locs hL hR hz)
theorem r_ldcw {G : Gm} {X : Cx} {Q : State → Prop} {own : Nat} {cc : ByteArray} {nL d pc : Nat} {L st : List Value} {M : Mm} {S : Sg} {idx : Nat} {v : Int32} (hX : XK G X own cc nL d) (hd : decode cc pc = .ok (.ldc_w idx, 3)) (hc : KI own idx v) (k : WR G X Q (pc + 3) L (.int v :: st) M S) : WR G X Q pc L st M S :=
  fun ls H locs hL hR hz => lv_ldcw (rest := st.map (cv G)) hX.1 hX.2.1 hX.2.2.2.1 (hX.2.2.2.2.1 _ hc) hd (k ls H locs hL hR hz)
theorem r_ldc2 {G : Gm} {X : Cx} {Q : State → Prop} {own : Nat} {cc : ByteArray} {nL d pc : Nat} {L st : List Value} {M : Mm} {S : Sg} {idx : Nat} {v : Int64} (hX : XK G X own cc nL d) (hd : decode cc pc = .ok (.ldc2_w idx, 3)) (hc : KL own idx v) (k : WR G X Q (pc + 3) L (.long v :: st) M S) : WR G X Q pc L st M S :=
  fun ls H locs hL hR hz => lv_ldc2 (rest := st.map (cv G)) hX.1 hX.2.1 hX.2.2.2.1 (hX.2.2.2.2.1 _ hc) hd (k ls H locs hL hR hz)
set_option maxRecDepth 100000 in
theorem inX0 : ∀ w ∈ u_ws RX0 TX0 6, w ∈ lwG := lwG_in [311, 313, 315, 317, 319, 321] (by decide +kernel) (by decide +kernel)
set_option maxRecDepth 100000 in
theorem inX1 : ∀ w ∈ u_ws RX1 TX1 10, w ∈ lwG := lwG_in [196, 198, 200, 202, 204, 206, 208, 210, 212, 214] (by decide +kernel) (by decide +kernel)
set_option maxRecDepth 100000 in
theorem inX2 : ∀ w ∈ u_ws RX2 TX2 9, w ∈ lwG := lwG_in [227, 229, 231, 233, 235, 237, 239, 241, 243] (by decide +kernel) (by decide +kernel)
set_option maxRecDepth 100000 in
theorem inX3 : ∀ w ∈ u_ws RX3 TX3 8, w ∈ lwG := lwG_in [434, 436, 438, 440, 442, 444, 446, 448] (by decide +kernel) (by decide +kernel)
set_option maxRecDepth 100000 in
theorem inX4 : ∀ w ∈ u_ws RX4 TX4 16, w ∈ lwG := lwG_in [378, 380, 382, 384, 386, 388, 390, 392, 394, 396, 398, 400, 402, 404, 406, 408] (by decide +kernel) (by decide +kernel)
set_option maxRecDepth 100000 in
theorem inX5 : ∀ w ∈ u_ws RX5 TX5 2, w ∈ lwG := lwG_in [141, 143] (by decide +kernel) (by decide +kernel)
set_option maxRecDepth 100000 in
theorem inX6 : ∀ w ∈ u_ws RX6 TX6 7, w ∈ lwG := lwG_in [468, 470, 472, 474, 476, 478, 480] (by decide +kernel) (by decide +kernel)
set_option maxRecDepth 100000 in
theorem inX7 : ∀ w ∈ u_ws RX7 TX7 8, w ∈ lwG := lwG_in [277, 279, 281, 283, 285, 287, 289, 291] (by decide +kernel) (by decide +kernel)
set_option maxRecDepth 100000 in
theorem inX8 : ∀ w ∈ u_ws RX8 TX8 9, w ∈ lwG := lwG_in [492, 494, 496, 498, 500, 502, 504, 506, 508] (by decide +kernel) (by decide +kernel)
set_option maxRecDepth 100000 in
theorem inX9 : ∀ w ∈ u_ws RX9 TX9 45, w ∈ lwG := lwG_in [1205, 1207, 1209, 1211, 1213, 1215, 1217, 1219, 1221, 1223, 1225, 1227, 1229, 1231, 1233, 1235, 1237, 1239, 1241, 1243, 1245, 1247, 1249, 1251, 1253, 1255, 1257, 1259, 1261, 1263, 1265, 1267, 1269, 1271, 1273, 1275, 1277, 1279, 1281, 1283, 1285, 1287, 1289, 1291, 1293] (by decide +kernel) (by decide +kernel)
def clsOK (ci : Nat) : Prop := (∀ w ∈ u_ws (RN ci) (TN ci) (NF ci), w ∈ lwG) ∧ vwCl[ci]? = some (RN ci, TN ci, NF ci) ∧ (∀ k, k < NF ci → parseFieldDescriptor (TN ci k).2.2.1 = some (TyN ci k)) ∧ (∀ a, a < NF ci → ∀ b, b < NF ci → a ≠ b → (TN ci a).2.1 ≠ (TN ci b).2.1) ∧ ∀ k, k < NF ci → (TN ci k).1 = RN ci
theorem clsX0 : clsOK 0 := ⟨inX0, rfl, tyX0_ok, nmX0, by decide +kernel⟩
theorem clsX1 : clsOK 1 := ⟨inX1, rfl, tyX1_ok, nmX1, by decide +kernel⟩
theorem clsX2 : clsOK 2 := ⟨inX2, rfl, tyX2_ok, nmX2, by decide +kernel⟩
theorem clsX3 : clsOK 3 := ⟨inX3, rfl, tyX3_ok, nmX3, by decide +kernel⟩
theorem clsX4 : clsOK 4 := ⟨inX4, rfl, tyX4_ok, nmX4, by decide +kernel⟩
theorem clsX5 : clsOK 5 := ⟨inX5, rfl, tyX5_ok, nmX5, by decide +kernel⟩
theorem clsX6 : clsOK 6 := ⟨inX6, rfl, tyX6_ok, nmX6, by decide +kernel⟩
theorem clsX7 : clsOK 7 := ⟨inX7, rfl, tyX7_ok, nmX7, by decide +kernel⟩
theorem clsX8 : clsOK 8 := ⟨inX8, rfl, tyX8_ok, nmX8, by decide +kernel⟩
theorem clsX9 : clsOK 9 := ⟨inX9, rfl, tyX9_ok, nmX9, by decide +kernel⟩
theorem cls_ok : ∀ ci, ci < 10 → clsOK ci
  | 0, _ => clsX0
  | 1, _ => clsX1
  | 2, _ => clsX2
  | 3, _ => clsX3
  | 4, _ => clsX4
  | 5, _ => clsX5
  | 6, _ => clsX6
  | 7, _ => clsX7
  | 8, _ => clsX8
  | 9, _ => clsX9
  | n + 10, h => absurd h (by omega)
