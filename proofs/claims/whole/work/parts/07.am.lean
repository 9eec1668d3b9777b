/-! FLAT MEMORY: cells in the order of their making, from a base heap on; ints, longs and references of a cell by its place and its field or index -/
abbrev amI : Type := Nat → Nat → Int32
abbrev amL : Type := Nat → Nat → Int64
/-- how many cells, their kinds (a class's number below 50; 50 int[], 51 byte[], 52 long[], 53 Order[], 54 State[]), their lengths, their references -/
abbrev amG : Type := Nat × (Nat → Nat) × (Nat → Nat) × (Nat → Nat → Option Nat)
abbrev gN (G : amG) : Nat := G.1
abbrev gK (G : amG) (p : Nat) : Nat := G.2.1 p
abbrev gL (G : amG) (p : Nat) : Nat := G.2.2.1 p
abbrev gR (G : amG) (p k : Nat) : Option Nat := G.2.2.2 p k
def setI (I : amI) (p : Nat) (f : Nat → Int32) : amI := fun q => if q = p then f else I q
def setL (L : amL) (p : Nat) (f : Nat → Int64) : amL := fun q => if q = p then f else L q
def setR (G : amG) (p : Nat) (f : Nat → Option Nat) : amG := (G.1, G.2.1, G.2.2.1, fun q => if q = p then f else G.2.2.2 q)
theorem setI_s {I : amI} {p : Nat} {f : Nat → Int32} : setI I p f p = f := if_pos rfl
theorem setI_n {I : amI} {p q : Nat} {f : Nat → Int32} (h : q ≠ p) : setI I p f q = I q := if_neg h
theorem setL_s {L : amL} {p : Nat} {f : Nat → Int64} : setL L p f p = f := if_pos rfl
theorem setL_n {L : amL} {p q : Nat} {f : Nat → Int64} (h : q ≠ p) : setL L p f q = L q := if_neg h
def tyC (ci : Nat) : Nat → FieldType := match ci with
  | 0 => tyX0 | 1 => tyX1 | 2 => tyX2 | 3 => tyX3 | 4 => tyX4 | 5 => tyX5 | 6 => tyX6 | 7 => tyX7 | 8 => tyX8 | 9 => tyX9 | 10 => tyX10 | 11 => tyX11 | _ => tyX12
def nF (ci : Nat) : Nat := match ci with
  | 0 => 6 | 1 => 3 | 2 => 13 | 3 => 3 | 4 => 7 | 5 => 3 | 6 => 6 | 7 => 8 | 8 => 6 | 9 => 2 | 10 => 2 | 11 => 16 | _ => 33
def am_fv (b : Nat) (G : amG) (I : amI) (L : amL) (p k : Nat) (ty : FieldType) : Value := match ty with
  | .long => .long (L p k)
  | .object _ => va_rf ((gR G p k).map (b + ·))
  | .array _ => va_rf ((gR G p k).map (b + ·))
  | _ => .int (I p k)
def am_fs (b : Nat) (G : amG) (I : amI) (L : amL) (p ci : Nat) : List Value := (List.range (nF ci)).map (fun k => am_fv b G I L p k (tyC ci k))
def am_cell (D : va_G) (b : Nat) (G : amG) (I : amI) (L : amL) (p : Nat) : va_E :=
  if gK G p < 50 then .inr (gK G p, am_fs b G I L p (gK G p))
  else if gK G p ≤ 51 then .inl (D.1 (gK G p), gL G p, .inl (I p))
  else if gK G p = 52 then .inl (D.1 52, gL G p, .inr (.inl (L p)))
  else .inl (D.1 (gK G p), gL G p, .inr (.inr (.inr (.inr (fun k => (gR G p k).map (b + ·))))))
/-- the heap H is the base heap B and the cells behind it -/
def am_W (D : va_G) (B : Heap) (G : amG) (I : amI) (L : amL) (H : Heap) : Prop :=
  H.size = B.size + gN G ∧ (∀ q, q < B.size → H[q]? = B[q]?) ∧ ∀ p, p < gN G → va_at D vwCl (B.size + p, am_cell D B.size G I L p) H
abbrev am_tys (D : va_G) : List (ClassId × FieldType) := [(D.1 50, .int), (D.1 51, .byte), (D.1 52, .long), (D.1 53, .object RX4), (D.1 54, .object RX8)]
def am_NW (U : State) : Prop := va_Nw (.methodLinkNest RX11 13 yX10_init "OrderAlgebra") U ∧ va_Nw (.methodLinkNest RX11 20 yX4_init "OrderAlgebra") U ∧ va_Nw (.methodLinkNest RX11 43 yX9_init "OrderAlgebra") U ∧ va_Nw (.methodLinkNest RX11 95 yX1_init "OrderAlgebra") U ∧ va_Nw (.methodLinkNest RX1 21 yX8_init "OrderAlgebra") U
/-! the five words of both readers: their lengths, their bytes, the places that load them -/
def lenW : List Nat := [4, 5, 4, 8, 5]
def bytW : List (List Int32) := [[102, 114, 101, 101], [99, 104, 97, 105, 110], [99, 117, 98, 101], [100, 105, 118, 105, 115, 111, 114, 115], [112, 97, 114, 116, 115]]
def ldW : List (String × Nat × String × Nat) := [(RX6, 75, "free", 0), (RX6, 77, "chain", 1), (RX6, 79, "cube", 2), (RX6, 81, "divisors", 3), (RX6, 83, "parts", 4), (RX12, 194, "free", 0), (RX12, 204, "chain", 1), (RX12, 209, "cube", 2), (RX12, 214, "divisors", 3), (RX12, 219, "parts", 4)]
def am_S (D : va_G) (B : Heap) (U : State) : Prop := vk_S 5 lenW bytW (D.2 100) (D.2 101) (fun q => B.size ≤ q) U B ∧ (∀ q ∈ ldW, vk_R q.1 q.2.1 q.2.2.1 (D.2 100 q.2.2.2) U) ∧ va_Z "java/lang/String" "COMPACT_STRINGS" "Z" (.int 1) (fun q => B.size ≤ q) U B ∧ va_Zq "jdk/internal/util/Preconditions" "SIOOBE_FORMATTER" "Ljava/util/function/BiFunction;" (fun q => B.size ≤ q) U B
theorem am_S.warm {D : va_G} {B : Heap} {s U : State} (hW : s.WarmedH U.vm) (h : am_S D B s) : am_S D B U := ⟨vk_S.moved hW.alike h.1, fun q hq => vk_R.warm hW (h.2.1 q hq), va_Z.moved hW.alike h.2.2.1, va_Zq.moved hW.alike h.2.2.2⟩
theorem am_S.call {D : va_G} {B : Heap} {U : State} {g : JFrame} {mk : MethodId} {a : Array Value} (h : am_S D B U) : am_S D B (U.calling g mk a) := ⟨vk_S.moved (u := U) (Vm.Alike.refl U.vm) h.1, fun q hq => vk_R.same (u := U) rfl (h.2.1 q hq), va_Z.moved (u := U) (Vm.Alike.refl U.vm) h.2.2.1, va_Zq.moved (u := U) (Vm.Alike.refl U.vm) h.2.2.2⟩
def am_K (D : va_G) (B : Heap) (U : State) : Prop := va_K D vwCl (am_tys D) U ∧ am_NW U ∧ va_AO RX4 U ∧ va_AO RX8 U ∧ am_S D B U
theorem am_NW.warm {s U : State} (hW : s.WarmedH U.vm) (h : am_NW s) : am_NW U :=
  ⟨va_Nw.warmM hW h.1, va_Nw.warmM hW h.2.1, va_Nw.warmM hW h.2.2.1, va_Nw.warmM hW h.2.2.2.1, va_Nw.warmM hW h.2.2.2.2⟩
theorem am_NW.same {s U : State} (hv : s.vm = U.vm) (h : am_NW s) : am_NW U :=
  ⟨va_Nw.same rfl hv h.1, va_Nw.same rfl hv h.2.1, va_Nw.same rfl hv h.2.2.1, va_Nw.same rfl hv h.2.2.2.1, va_Nw.same rfl hv h.2.2.2.2⟩
theorem am_K.warm {D : va_G} {B : Heap} {s U : State} (hW : s.WarmedH U.vm) (h : am_K D B s) : am_K D B U := ⟨va_K.moved hW.alike h.1, h.2.1.warm hW, h.2.2.1.moved hW.alike, h.2.2.2.1.moved hW.alike, h.2.2.2.2.warm hW⟩
theorem am_K.call {D : va_G} {B : Heap} {U : State} {g : JFrame} {mk : MethodId} {a : Array Value} (h : am_K D B U) : am_K D B (U.calling g mk a) :=
  ⟨va_K.moved (u := U) (U := U.calling g mk a) (Vm.Alike.refl U.vm) h.1, h.2.1.same rfl, va_AO.moved (u := U) (U := U.calling g mk a) (Vm.Alike.refl U.vm) h.2.2.1, va_AO.moved (u := U) (U := U.calling g mk a) (Vm.Alike.refl U.vm) h.2.2.2.1, h.2.2.2.2.call⟩
/-! THE WORDS that all methods stand on -/
def TT : List Cond := lw_tbl.filter goodWord
theorem tt_of {w : Cond} (i : Nat) (h : lw_tbl[i]? = some w) (g : goodWord w = true) : w ∈ TT := List.mem_filter.mpr ⟨List.mem_of_getElem? h, g⟩
theorem tt_good : ∀ w ∈ TT, (w.onTables && w.keeps) = true ∨ ∃ ty, w = .arrayClass ty := fun w h => good_of_word (List.mem_filter.mp h).2
/-! THE PLACE OF A WALK: machine, class numbers, base heap, the end -/
abbrev amZ : Type := Program × Launch × Env × Room × State × MethodId × Array Value × List Frame × Method × Code × va_G × Heap × (State → Prop)
abbrev zP (z : amZ) := z.1
abbrev zL (z : amZ) := z.2.1
abbrev zE (z : amZ) := z.2.2.1
abbrev zR (z : amZ) := z.2.2.2.1
abbrev zS (z : amZ) := z.2.2.2.2.1
abbrev zM (z : amZ) := z.2.2.2.2.2.1
abbrev zA (z : amZ) := z.2.2.2.2.2.2.1
abbrev zF (z : amZ) := z.2.2.2.2.2.2.2.1
abbrev zY (z : amZ) := z.2.2.2.2.2.2.2.2.1
abbrev zC (z : amZ) := z.2.2.2.2.2.2.2.2.2.1
abbrev zD (z : amZ) := z.2.2.2.2.2.2.2.2.2.2.1
abbrev zB (z : amZ) := z.2.2.2.2.2.2.2.2.2.2.2.1
abbrev zQ (z : amZ) := z.2.2.2.2.2.2.2.2.2.2.2.2
/-- from pc on, with these locals, this stack and this memory, the walk comes to its end -/
def Wx (z : amZ) (ce sl pc : Nat) (lv : List (Nat × Value)) (st : List Value) (G : amG) (I : amI) (L : amL) : Prop :=
  ∀ (ls : Array Slot) (H : Heap) (locs : List Loc), lv_has ls (zC z).maxLocals lv → am_W (zD z) (zB z) G I L H → (∀ q ∈ locs, (zB z).size ≤ q.base) → W (zP z) (zL z) (zE z) (zR z) (zS z) (zM z) (zA z) (zF z) (zY z) (zC z) H locs ce sl (zQ z) (F0 (zM z) pc ls st)
/-- what a walk may use -/
def Ok (z : amZ) (cc : ByteArray) (own : String) (nL : Nat) : Prop :=
  (zP z).tables.exec = Jvm.exec ∧ (zC z).code = cc ∧ (zC z).maxLocals = nL ∧ (zS z).vm.findClass own = some (zM z).cls ∧ (∀ w ∈ TT, w.before (zA z) (zS z) = true) ∧ am_K (zD z) (zB z) (zS z) ∧ (zB z).size ≤ (zS z).heap.size
section AM
variable {z : amZ} {cc : ByteArray} {own : String} {nL ce sl pc : Nat} {lv : List (Nat × Value)} {rest : List Value} {G : amG} {I : amI} {L : amL}
theorem am_sub {lv' : List (Nat × Value)} (ks : List Nat) (h : lv_pick lv ks = lv') (k : Wx z ce sl pc lv' rest G I L) : Wx z ce sl pc lv rest G I L :=
  fun ls H locs h1 h2 h3 => k ls H locs (lv_sub h1 ks h) h2 h3
/-! locals -/
theorem am_iload_n (hz : Ok z cc own nL) {k : Fin 4} {i : Nat} {x : Int32} (hd : decode cc pc = .ok (.iload_n k, 1)) (j : Nat) (hj : lv[j]? = some (i, .int x)) (hi : (k : Nat) = i) (kk : Wx z ce sl (pc + 1) lv (.int x :: rest) G I L) : Wx z ce sl pc lv rest G I L :=
  fun ls H locs h1 h2 h3 => lv_iload_n hz.1 hz.2.1 hd hi (lv_at h1 j hj) (kk ls H locs h1 h2 h3)
theorem am_iload (hz : Ok z cc own nL) {i : Nat} {x : Int32} (hd : decode cc pc = .ok (.iload i, 2)) (j : Nat) (hj : lv[j]? = some (i, .int x)) (kk : Wx z ce sl (pc + 2) lv (.int x :: rest) G I L) : Wx z ce sl pc lv rest G I L :=
  fun ls H locs h1 h2 h3 => lv_iload hz.1 hz.2.1 hd (lv_at h1 j hj) (kk ls H locs h1 h2 h3)
theorem am_lload_n (hz : Ok z cc own nL) {k : Fin 4} {i : Nat} {x : Int64} (hd : decode cc pc = .ok (.lload_n k, 1)) (j : Nat) (hj : lv[j]? = some (i, .long x)) (hi : (k : Nat) = i) (kk : Wx z ce sl (pc + 1) lv (.long x :: rest) G I L) : Wx z ce sl pc lv rest G I L :=
  fun ls H locs h1 h2 h3 => lv_lload_n hz.1 hz.2.1 hd hi (lv_at h1 j hj) (kk ls H locs h1 h2 h3)
theorem am_lload (hz : Ok z cc own nL) {i : Nat} {x : Int64} (hd : decode cc pc = .ok (.lload i, 2)) (j : Nat) (hj : lv[j]? = some (i, .long x)) (kk : Wx z ce sl (pc + 2) lv (.long x :: rest) G I L) : Wx z ce sl pc lv rest G I L :=
  fun ls H locs h1 h2 h3 => lv_lload hz.1 hz.2.1 hd (lv_at h1 j hj) (kk ls H locs h1 h2 h3)
theorem am_aload_n (hz : Ok z cc own nL) {k : Fin 4} {i x : Nat} (hd : decode cc pc = .ok (.aload_n k, 1)) (j : Nat) (hj : lv[j]? = some (i, .ref x)) (hi : (k : Nat) = i) (kk : Wx z ce sl (pc + 1) lv (.ref x :: rest) G I L) : Wx z ce sl pc lv rest G I L :=
  fun ls H locs h1 h2 h3 => lv_aload_n hz.1 hz.2.1 hd hi (lv_at h1 j hj) (kk ls H locs h1 h2 h3)
theorem am_aload (hz : Ok z cc own nL) {i x : Nat} (hd : decode cc pc = .ok (.aload i, 2)) (j : Nat) (hj : lv[j]? = some (i, .ref x)) (kk : Wx z ce sl (pc + 2) lv (.ref x :: rest) G I L) : Wx z ce sl pc lv rest G I L :=
  fun ls H locs h1 h2 h3 => lv_aload hz.1 hz.2.1 hd (lv_at h1 j hj) (kk ls H locs h1 h2 h3)
/-- what a store of one word, of two words, leaves of the locals -/
abbrev lvs1 (lv : List (Nat × Value)) (i : Nat) (v : Value) : List (Nat × Value) := (i, v) :: lv.filter (fun q => !(q.1 == i) && !(q.1 + 1 == i && q.2.category == 2))
abbrev lvs2 (lv : List (Nat × Value)) (i : Nat) (v : Value) : List (Nat × Value) := (i, v) :: lv.filter (fun q => !(q.1 == i) && (!(q.1 == i + 1) && !(q.1 + 1 == i && q.2.category == 2)))
theorem am_istore_n (hz : Ok z cc own nL) {k : Fin 4} {i : Nat} {x : Int32} {lv' : List (Nat × Value)} (hd : decode cc pc = .ok (.istore_n k, 1)) (hi : (k : Nat) = i) (hn : Nat.blt i nL = true) (hl : lvs1 lv i (.int x) = lv') (kk : Wx z ce sl (pc + 1) lv' rest G I L) : Wx z ce sl pc lv (.int x :: rest) G I L :=
  fun ls H locs h1 h2 h3 => lv_istore_n hz.1 hz.2.1 hd hi h1 (by rw [hz.2.2.1]; exact Nat.le_of_ble_eq_true hn) hl (fun ls' h1' => kk ls' H locs h1' h2 h3)
theorem am_istore (hz : Ok z cc own nL) {i : Nat} {x : Int32} {lv' : List (Nat × Value)} (hd : decode cc pc = .ok (.istore i, 2)) (hn : Nat.blt i nL = true) (hl : lvs1 lv i (.int x) = lv') (kk : Wx z ce sl (pc + 2) lv' rest G I L) : Wx z ce sl pc lv (.int x :: rest) G I L :=
  fun ls H locs h1 h2 h3 => lv_istore hz.1 hz.2.1 hd h1 (by rw [hz.2.2.1]; exact Nat.le_of_ble_eq_true hn) hl (fun ls' h1' => kk ls' H locs h1' h2 h3)
theorem am_lstore_n (hz : Ok z cc own nL) {k : Fin 4} {i : Nat} {x : Int64} {lv' : List (Nat × Value)} (hd : decode cc pc = .ok (.lstore_n k, 1)) (hi : (k : Nat) = i) (hn : Nat.blt (i + 1) nL = true) (hl : lvs2 lv i (.long x) = lv') (kk : Wx z ce sl (pc + 1) lv' rest G I L) : Wx z ce sl pc lv (.long x :: rest) G I L :=
  fun ls H locs h1 h2 h3 => lv_lstore_n hz.1 hz.2.1 hd hi h1 (by rw [hz.2.2.1]; exact Nat.le_of_ble_eq_true hn) hl (fun ls' h1' => kk ls' H locs h1' h2 h3)
theorem am_lstore (hz : Ok z cc own nL) {i : Nat} {x : Int64} {lv' : List (Nat × Value)} (hd : decode cc pc = .ok (.lstore i, 2)) (hn : Nat.blt (i + 1) nL = true) (hl : lvs2 lv i (.long x) = lv') (kk : Wx z ce sl (pc + 2) lv' rest G I L) : Wx z ce sl pc lv (.long x :: rest) G I L :=
  fun ls H locs h1 h2 h3 => lv_lstore hz.1 hz.2.1 hd h1 (by rw [hz.2.2.1]; exact Nat.le_of_ble_eq_true hn) hl (fun ls' h1' => kk ls' H locs h1' h2 h3)
theorem am_astore_n (hz : Ok z cc own nL) {k : Fin 4} {i x : Nat} {lv' : List (Nat × Value)} (hd : decode cc pc = .ok (.astore_n k, 1)) (hi : (k : Nat) = i) (hn : Nat.blt i nL = true) (hl : lvs1 lv i (.ref x) = lv') (kk : Wx z ce sl (pc + 1) lv' rest G I L) : Wx z ce sl pc lv (.ref x :: rest) G I L :=
  fun ls H locs h1 h2 h3 => lv_astore_n hz.1 hz.2.1 hd hi h1 (by rw [hz.2.2.1]; exact Nat.le_of_ble_eq_true hn) hl (fun ls' h1' => kk ls' H locs h1' h2 h3)
theorem am_iinc (hz : Ok z cc own nL) {i : Nat} {n : Int} {x v : Int32} {lv' : List (Nat × Value)} (hd : decode cc pc = .ok (.iinc i n, 3)) (j : Nat) (hj : lv[j]? = some (i, .int x)) (hv : x + Int32.ofInt n = v) (hn : Nat.blt i nL = true) (hl : lvs1 lv i (.int v) = lv') (kk : Wx z ce sl (pc + 3) lv' rest G I L) : Wx z ce sl pc lv rest G I L :=
  fun ls H locs h1 h2 h3 => lv_iinc hz.1 hz.2.1 hd h1 hj hv (by rw [hz.2.2.1]; exact Nat.le_of_ble_eq_true hn) hl (fun ls' h1' => kk ls' H locs h1' h2 h3)
/-! constants, stack, branches -/
theorem am_iconst (hz : Ok z cc own nL) {n : Int} {v : Int32} (hd : decode cc pc = .ok (.iconst n, 1)) (hv : Int32.ofInt n = v) (kk : Wx z ce sl (pc + 1) lv (.int v :: rest) G I L) : Wx z ce sl pc lv rest G I L :=
  fun ls H locs h1 h2 h3 => lv_iconst hz.1 hz.2.1 hd hv (kk ls H locs h1 h2 h3)
theorem am_bipush (hz : Ok z cc own nL) {n : Int} {v : Int32} (hd : decode cc pc = .ok (.bipush n, 2)) (hv : (Int8.ofInt n).toInt32 = v) (kk : Wx z ce sl (pc + 2) lv (.int v :: rest) G I L) : Wx z ce sl pc lv rest G I L :=
  fun ls H locs h1 h2 h3 => lv_bipush hz.1 hz.2.1 hd hv (kk ls H locs h1 h2 h3)
theorem am_sipush (hz : Ok z cc own nL) {n : Int} {v : Int32} (hd : decode cc pc = .ok (.sipush n, 3)) (hv : (Int16.ofInt n).toInt32 = v) (kk : Wx z ce sl (pc + 3) lv (.int v :: rest) G I L) : Wx z ce sl pc lv rest G I L :=
  fun ls H locs h1 h2 h3 => lv_sipush hz.1 hz.2.1 hd hv (kk ls H locs h1 h2 h3)
theorem am_lconst (hz : Ok z cc own nL) {n : Fin 2} {v : Int64} (hd : decode cc pc = .ok (.lconst n, 1)) (hv : Int64.ofNat (n : Nat) = v) (kk : Wx z ce sl (pc + 1) lv (.long v :: rest) G I L) : Wx z ce sl pc lv rest G I L :=
  fun ls H locs h1 h2 h3 => lv_lconst hz.1 hz.2.1 hd hv (kk ls H locs h1 h2 h3)
theorem am_ldc (hz : Ok z cc own nL) {index : Nat} {v : Int32} (hc : Cond.constant own index v ∈ TT) (hd : decode cc pc = .ok (.ldc index, 2)) (kk : Wx z ce sl (pc + 2) lv (.int v :: rest) G I L) : Wx z ce sl pc lv rest G I L :=
  fun ls H locs h1 h2 h3 => lv_ldc hz.1 hz.2.1 hz.2.2.2.1 (hz.2.2.2.2.1 _ hc) hd (kk ls H locs h1 h2 h3)
theorem am_ldcw (hz : Ok z cc own nL) {index : Nat} {v : Int32} (hc : Cond.constant own index v ∈ TT) (hd : decode cc pc = .ok (.ldc_w index, 3)) (kk : Wx z ce sl (pc + 3) lv (.int v :: rest) G I L) : Wx z ce sl pc lv rest G I L :=
  fun ls H locs h1 h2 h3 => lv_ldcw hz.1 hz.2.1 hz.2.2.2.1 (hz.2.2.2.2.1 _ hc) hd (kk ls H locs h1 h2 h3)
theorem am_ldc2 (hz : Ok z cc own nL) {index : Nat} {v : Int64} (hc : Cond.constantLong own index v ∈ TT) (hd : decode cc pc = .ok (.ldc2_w index, 3)) (kk : Wx z ce sl (pc + 3) lv (.long v :: rest) G I L) : Wx z ce sl pc lv rest G I L :=
  fun ls H locs h1 h2 h3 => lv_ldc2 hz.1 hz.2.1 hz.2.2.2.1 (hz.2.2.2.2.1 _ hc) hd (kk ls H locs h1 h2 h3)
theorem am_dup (hz : Ok z cc own nL) {v : Value} (hd : decode cc pc = .ok (.dup, 1)) (hv : v.category = 1) (kk : Wx z ce sl (pc + 1) lv (v :: v :: rest) G I L) : Wx z ce sl pc lv (v :: rest) G I L :=
  fun ls H locs h1 h2 h3 => lv_dup hz.1 hz.2.1 hd hv (kk ls H locs h1 h2 h3)
theorem am_dup2 (hz : Ok z cc own nL) {v w : Value} (hd : decode cc pc = .ok (.dup2, 1)) (hv : v.category = 1) (hw : w.category = 1) (kk : Wx z ce sl (pc + 1) lv (v :: w :: v :: w :: rest) G I L) : Wx z ce sl pc lv (v :: w :: rest) G I L :=
  fun ls H locs h1 h2 h3 => lv_dup2_11 hz.1 hz.2.1 hd hv hw (kk ls H locs h1 h2 h3)
theorem am_pop (hz : Ok z cc own nL) {v : Value} (hd : decode cc pc = .ok (.pop, 1)) (hv : v.category = 1) (kk : Wx z ce sl (pc + 1) lv rest G I L) : Wx z ce sl pc lv (v :: rest) G I L :=
  fun ls H locs h1 h2 h3 => lv_pop hz.1 hz.2.1 hd hv (kk ls H locs h1 h2 h3)
theorem am_goto (hz : Ok z cc own nL) {off : Int} {tgt : Nat} (hd : decode cc pc = .ok (.goto off, 3)) (ht : (pc : Int) + off = (tgt : Int)) (kk : Wx z ce sl tgt lv rest G I L) : Wx z ce sl pc lv rest G I L :=
  fun ls H locs h1 h2 h3 => lv_goto hz.1 hz.2.1 hd ht (kk ls H locs h1 h2 h3)
theorem am_lcmp (hz : Ok z cc own nL) {x y : Int64} (hd : decode cc pc = .ok (.lcmp, 1)) (kk : Wx z ce sl (pc + 1) lv (.int (lg_cmp x y) :: rest) G I L) : Wx z ce sl pc lv (.long y :: .long x :: rest) G I L :=
  fun ls H locs h1 h2 h3 => W.lcmp hz.1 hz.2.1 hd (kk ls H locs h1 h2 h3)
theorem am_irem (hz : Ok z cc own nL) {x y : Int32} (hd : decode cc pc = .ok (.irem, 1)) (hne : ¬ y = 0) (kk : Wx z ce sl (pc + 1) lv (.int (x - x / y * y) :: rest) G I L) : Wx z ce sl pc lv (.int y :: .int x :: rest) G I L :=
  fun ls H locs h1 h2 h3 => lv_irem hz.1 hz.2.1 hd hne (kk ls H locs h1 h2 h3)
theorem am_idiv (hz : Ok z cc own nL) {x y : Int32} (hd : decode cc pc = .ok (.idiv, 1)) (hne : ¬ y = 0) (kk : Wx z ce sl (pc + 1) lv (.int (x / y) :: rest) G I L) : Wx z ce sl pc lv (.int y :: .int x :: rest) G I L :=
  fun ls H locs h1 h2 h3 => lv_idiv hz.1 hz.2.1 hd hne (kk ls H locs h1 h2 h3)
theorem am_ldiv (hz : Ok z cc own nL) {x y : Int64} (hd : decode cc pc = .ok (.ldiv, 1)) (hne : ¬ y = 0) (kk : Wx z ce sl (pc + 1) lv (.long (x / y) :: rest) G I L) : Wx z ce sl pc lv (.long y :: .long x :: rest) G I L :=
  fun ls H locs h1 h2 h3 => lv_ldiv hz.1 hz.2.1 hd hne (kk ls H locs h1 h2 h3)
theorem am_iadd (hz : Ok z cc own nL) {x : Int32} {y : Int32} (hd : decode cc pc = .ok (.iadd, 1)) (kk : Wx z ce sl (pc + 1) lv (.int (x + y) :: rest) G I L) : Wx z ce sl pc lv (.int y :: .int x :: rest) G I L :=
  fun ls H locs h1 h2 h3 => lv_iadd hz.1 hz.2.1 hd (kk ls H locs h1 h2 h3)
theorem am_isub (hz : Ok z cc own nL) {x : Int32} {y : Int32} (hd : decode cc pc = .ok (.isub, 1)) (kk : Wx z ce sl (pc + 1) lv (.int (x - y) :: rest) G I L) : Wx z ce sl pc lv (.int y :: .int x :: rest) G I L :=
  fun ls H locs h1 h2 h3 => lv_isub hz.1 hz.2.1 hd (kk ls H locs h1 h2 h3)
theorem am_imul (hz : Ok z cc own nL) {x : Int32} {y : Int32} (hd : decode cc pc = .ok (.imul, 1)) (kk : Wx z ce sl (pc + 1) lv (.int (x * y) :: rest) G I L) : Wx z ce sl pc lv (.int y :: .int x :: rest) G I L :=
  fun ls H locs h1 h2 h3 => lv_imul hz.1 hz.2.1 hd (kk ls H locs h1 h2 h3)
theorem am_iand (hz : Ok z cc own nL) {x : Int32} {y : Int32} (hd : decode cc pc = .ok (.iand, 1)) (kk : Wx z ce sl (pc + 1) lv (.int (x &&& y) :: rest) G I L) : Wx z ce sl pc lv (.int y :: .int x :: rest) G I L :=
  fun ls H locs h1 h2 h3 => lv_iand hz.1 hz.2.1 hd (kk ls H locs h1 h2 h3)
theorem am_ior (hz : Ok z cc own nL) {x : Int32} {y : Int32} (hd : decode cc pc = .ok (.ior, 1)) (kk : Wx z ce sl (pc + 1) lv (.int (x ||| y) :: rest) G I L) : Wx z ce sl pc lv (.int y :: .int x :: rest) G I L :=
  fun ls H locs h1 h2 h3 => lv_ior hz.1 hz.2.1 hd (kk ls H locs h1 h2 h3)
theorem am_ixor (hz : Ok z cc own nL) {x : Int32} {y : Int32} (hd : decode cc pc = .ok (.ixor, 1)) (kk : Wx z ce sl (pc + 1) lv (.int (x ^^^ y) :: rest) G I L) : Wx z ce sl pc lv (.int y :: .int x :: rest) G I L :=
  fun ls H locs h1 h2 h3 => lv_ixor hz.1 hz.2.1 hd (kk ls H locs h1 h2 h3)
theorem am_ishl (hz : Ok z cc own nL) {x : Int32} {y : Int32} (hd : decode cc pc = .ok (.ishl, 1)) (kk : Wx z ce sl (pc + 1) lv (.int (x <<< (y &&& 31)) :: rest) G I L) : Wx z ce sl pc lv (.int y :: .int x :: rest) G I L :=
  fun ls H locs h1 h2 h3 => lv_ishl hz.1 hz.2.1 hd (kk ls H locs h1 h2 h3)
theorem am_ishr (hz : Ok z cc own nL) {x : Int32} {y : Int32} (hd : decode cc pc = .ok (.ishr, 1)) (kk : Wx z ce sl (pc + 1) lv (.int (x >>> (y &&& 31)) :: rest) G I L) : Wx z ce sl pc lv (.int y :: .int x :: rest) G I L :=
  fun ls H locs h1 h2 h3 => lv_ishr hz.1 hz.2.1 hd (kk ls H locs h1 h2 h3)
theorem am_iushr (hz : Ok z cc own nL) {x : Int32} {y : Int32} (hd : decode cc pc = .ok (.iushr, 1)) (kk : Wx z ce sl (pc + 1) lv (.int ((x.toUInt32 >>> (y.toUInt32 &&& Int32.toUInt32 31)).toInt32) :: rest) G I L) : Wx z ce sl pc lv (.int y :: .int x :: rest) G I L :=
  fun ls H locs h1 h2 h3 => lv_iushr hz.1 hz.2.1 hd rfl (kk ls H locs h1 h2 h3)
theorem am_ladd (hz : Ok z cc own nL) {x : Int64} {y : Int64} (hd : decode cc pc = .ok (.ladd, 1)) (kk : Wx z ce sl (pc + 1) lv (.long (x + y) :: rest) G I L) : Wx z ce sl pc lv (.long y :: .long x :: rest) G I L :=
  fun ls H locs h1 h2 h3 => lv_ladd hz.1 hz.2.1 hd (kk ls H locs h1 h2 h3)
theorem am_lsub (hz : Ok z cc own nL) {x : Int64} {y : Int64} (hd : decode cc pc = .ok (.lsub, 1)) (kk : Wx z ce sl (pc + 1) lv (.long (x - y) :: rest) G I L) : Wx z ce sl pc lv (.long y :: .long x :: rest) G I L :=
  fun ls H locs h1 h2 h3 => lv_lsub hz.1 hz.2.1 hd (kk ls H locs h1 h2 h3)
theorem am_lmul (hz : Ok z cc own nL) {x : Int64} {y : Int64} (hd : decode cc pc = .ok (.lmul, 1)) (kk : Wx z ce sl (pc + 1) lv (.long (x * y) :: rest) G I L) : Wx z ce sl pc lv (.long y :: .long x :: rest) G I L :=
  fun ls H locs h1 h2 h3 => lv_lmul hz.1 hz.2.1 hd (kk ls H locs h1 h2 h3)
theorem am_land (hz : Ok z cc own nL) {x : Int64} {y : Int64} (hd : decode cc pc = .ok (.land, 1)) (kk : Wx z ce sl (pc + 1) lv (.long (x &&& y) :: rest) G I L) : Wx z ce sl pc lv (.long y :: .long x :: rest) G I L :=
  fun ls H locs h1 h2 h3 => lv_land hz.1 hz.2.1 hd (kk ls H locs h1 h2 h3)
theorem am_lor (hz : Ok z cc own nL) {x : Int64} {y : Int64} (hd : decode cc pc = .ok (.lor, 1)) (kk : Wx z ce sl (pc + 1) lv (.long (x ||| y) :: rest) G I L) : Wx z ce sl pc lv (.long y :: .long x :: rest) G I L :=
  fun ls H locs h1 h2 h3 => lv_lor hz.1 hz.2.1 hd (kk ls H locs h1 h2 h3)
theorem am_lxor (hz : Ok z cc own nL) {x : Int64} {y : Int64} (hd : decode cc pc = .ok (.lxor, 1)) (kk : Wx z ce sl (pc + 1) lv (.long (x ^^^ y) :: rest) G I L) : Wx z ce sl pc lv (.long y :: .long x :: rest) G I L :=
  fun ls H locs h1 h2 h3 => lv_lxor hz.1 hz.2.1 hd (kk ls H locs h1 h2 h3)
theorem am_lshl (hz : Ok z cc own nL) {x : Int64} {y : Int32} (hd : decode cc pc = .ok (.lshl, 1)) (kk : Wx z ce sl (pc + 1) lv (.long (x <<< (y.toInt64 &&& 63)) :: rest) G I L) : Wx z ce sl pc lv (.int y :: .long x :: rest) G I L :=
  fun ls H locs h1 h2 h3 => lv_lshl hz.1 hz.2.1 hd rfl (kk ls H locs h1 h2 h3)
theorem am_ineg (hz : Ok z cc own nL) {x : Int32} (hd : decode cc pc = .ok (.ineg, 1)) (kk : Wx z ce sl (pc + 1) lv (.int (-x) :: rest) G I L) : Wx z ce sl pc lv (.int x :: rest) G I L :=
  fun ls H locs h1 h2 h3 => lv_ineg hz.1 hz.2.1 hd (kk ls H locs h1 h2 h3)
theorem am_lneg (hz : Ok z cc own nL) {x : Int64} (hd : decode cc pc = .ok (.lneg, 1)) (kk : Wx z ce sl (pc + 1) lv (.long (-x) :: rest) G I L) : Wx z ce sl pc lv (.long x :: rest) G I L :=
  fun ls H locs h1 h2 h3 => lv_lneg hz.1 hz.2.1 hd (kk ls H locs h1 h2 h3)
theorem am_i2l (hz : Ok z cc own nL) {x : Int32} (hd : decode cc pc = .ok (.i2l, 1)) (kk : Wx z ce sl (pc + 1) lv (.long x.toInt64 :: rest) G I L) : Wx z ce sl pc lv (.int x :: rest) G I L :=
  fun ls H locs h1 h2 h3 => lv_i2l hz.1 hz.2.1 hd rfl (kk ls H locs h1 h2 h3)
theorem am_l2i (hz : Ok z cc own nL) {x : Int64} (hd : decode cc pc = .ok (.l2i, 1)) (kk : Wx z ce sl (pc + 1) lv (.int x.toInt32 :: rest) G I L) : Wx z ce sl pc lv (.long x :: rest) G I L :=
  fun ls H locs h1 h2 h3 => lv_l2i hz.1 hz.2.1 hd rfl (kk ls H locs h1 h2 h3)
theorem am_i2b (hz : Ok z cc own nL) {x : Int32} (hd : decode cc pc = .ok (.i2b, 1)) (kk : Wx z ce sl (pc + 1) lv (.int x.toInt8.toInt32 :: rest) G I L) : Wx z ce sl pc lv (.int x :: rest) G I L :=
  fun ls H locs h1 h2 h3 => lv_i2b hz.1 hz.2.1 hd rfl (kk ls H locs h1 h2 h3)
theorem am_i2c (hz : Ok z cc own nL) {x : Int32} (hd : decode cc pc = .ok (.i2c, 1)) (kk : Wx z ce sl (pc + 1) lv (.int (x.toUInt32 % 65536).toInt32 :: rest) G I L) : Wx z ce sl pc lv (.int x :: rest) G I L :=
  fun ls H locs h1 h2 h3 => lv_i2c hz.1 hz.2.1 hd rfl (kk ls H locs h1 h2 h3)
theorem am_if_eq (hz : Ok z cc own nL) {x : Int32} {off : Int} {tgt : Nat} (hd : decode cc pc = .ok (.ifCond .eq off, 3)) (ht : (pc : Int) + off = (tgt : Int)) (kt : x = 0 → Wx z ce sl tgt lv rest G I L) (kf : ¬ x = 0 → Wx z ce sl (pc + 3) lv rest G I L) : Wx z ce sl pc lv (.int x :: rest) G I L :=
  fun ls H locs h1 h2 h3 => lv_if_eq hz.1 hz.2.1 hd ht (fun h => kt h ls H locs h1 h2 h3) (fun h => kf h ls H locs h1 h2 h3)
theorem am_icmp_eq (hz : Ok z cc own nL) {x y : Int32} {off : Int} {tgt : Nat} (hd : decode cc pc = .ok (.if_icmp .eq off, 3)) (ht : (pc : Int) + off = (tgt : Int)) (kt : x = y → Wx z ce sl tgt lv rest G I L) (kf : ¬ x = y → Wx z ce sl (pc + 3) lv rest G I L) : Wx z ce sl pc lv (.int y :: .int x :: rest) G I L :=
  fun ls H locs h1 h2 h3 => lv_icmp_eq hz.1 hz.2.1 hd ht (fun h => kt h ls H locs h1 h2 h3) (fun h => kf h ls H locs h1 h2 h3)
theorem am_if_ne (hz : Ok z cc own nL) {x : Int32} {off : Int} {tgt : Nat} (hd : decode cc pc = .ok (.ifCond .ne off, 3)) (ht : (pc : Int) + off = (tgt : Int)) (kt : ¬ x = 0 → Wx z ce sl tgt lv rest G I L) (kf : x = 0 → Wx z ce sl (pc + 3) lv rest G I L) : Wx z ce sl pc lv (.int x :: rest) G I L :=
  fun ls H locs h1 h2 h3 => lv_if_ne hz.1 hz.2.1 hd ht (fun h => kt h ls H locs h1 h2 h3) (fun h => kf h ls H locs h1 h2 h3)
theorem am_icmp_ne (hz : Ok z cc own nL) {x y : Int32} {off : Int} {tgt : Nat} (hd : decode cc pc = .ok (.if_icmp .ne off, 3)) (ht : (pc : Int) + off = (tgt : Int)) (kt : ¬ x = y → Wx z ce sl tgt lv rest G I L) (kf : x = y → Wx z ce sl (pc + 3) lv rest G I L) : Wx z ce sl pc lv (.int y :: .int x :: rest) G I L :=
  fun ls H locs h1 h2 h3 => lv_icmp_ne hz.1 hz.2.1 hd ht (fun h => kt h ls H locs h1 h2 h3) (fun h => kf h ls H locs h1 h2 h3)
theorem am_if_lt (hz : Ok z cc own nL) {x : Int32} {off : Int} {tgt : Nat} (hd : decode cc pc = .ok (.ifCond .lt off, 3)) (ht : (pc : Int) + off = (tgt : Int)) (kt : x < 0 → Wx z ce sl tgt lv rest G I L) (kf : ¬ x < 0 → Wx z ce sl (pc + 3) lv rest G I L) : Wx z ce sl pc lv (.int x :: rest) G I L :=
  fun ls H locs h1 h2 h3 => lv_if_lt hz.1 hz.2.1 hd ht (fun h => kt h ls H locs h1 h2 h3) (fun h => kf h ls H locs h1 h2 h3)
theorem am_icmp_lt (hz : Ok z cc own nL) {x y : Int32} {off : Int} {tgt : Nat} (hd : decode cc pc = .ok (.if_icmp .lt off, 3)) (ht : (pc : Int) + off = (tgt : Int)) (kt : x < y → Wx z ce sl tgt lv rest G I L) (kf : ¬ x < y → Wx z ce sl (pc + 3) lv rest G I L) : Wx z ce sl pc lv (.int y :: .int x :: rest) G I L :=
  fun ls H locs h1 h2 h3 => lv_icmp_lt hz.1 hz.2.1 hd ht (fun h => kt h ls H locs h1 h2 h3) (fun h => kf h ls H locs h1 h2 h3)
theorem am_if_ge (hz : Ok z cc own nL) {x : Int32} {off : Int} {tgt : Nat} (hd : decode cc pc = .ok (.ifCond .ge off, 3)) (ht : (pc : Int) + off = (tgt : Int)) (kt : 0 ≤ x → Wx z ce sl tgt lv rest G I L) (kf : ¬ 0 ≤ x → Wx z ce sl (pc + 3) lv rest G I L) : Wx z ce sl pc lv (.int x :: rest) G I L :=
  fun ls H locs h1 h2 h3 => lv_if_ge hz.1 hz.2.1 hd ht (fun h => kt h ls H locs h1 h2 h3) (fun h => kf h ls H locs h1 h2 h3)
theorem am_icmp_ge (hz : Ok z cc own nL) {x y : Int32} {off : Int} {tgt : Nat} (hd : decode cc pc = .ok (.if_icmp .ge off, 3)) (ht : (pc : Int) + off = (tgt : Int)) (kt : y ≤ x → Wx z ce sl tgt lv rest G I L) (kf : ¬ y ≤ x → Wx z ce sl (pc + 3) lv rest G I L) : Wx z ce sl pc lv (.int y :: .int x :: rest) G I L :=
  fun ls H locs h1 h2 h3 => lv_icmp_ge hz.1 hz.2.1 hd ht (fun h => kt h ls H locs h1 h2 h3) (fun h => kf h ls H locs h1 h2 h3)
theorem am_if_gt (hz : Ok z cc own nL) {x : Int32} {off : Int} {tgt : Nat} (hd : decode cc pc = .ok (.ifCond .gt off, 3)) (ht : (pc : Int) + off = (tgt : Int)) (kt : 0 < x → Wx z ce sl tgt lv rest G I L) (kf : ¬ 0 < x → Wx z ce sl (pc + 3) lv rest G I L) : Wx z ce sl pc lv (.int x :: rest) G I L :=
  fun ls H locs h1 h2 h3 => lv_if_gt hz.1 hz.2.1 hd ht (fun h => kt h ls H locs h1 h2 h3) (fun h => kf h ls H locs h1 h2 h3)
theorem am_icmp_gt (hz : Ok z cc own nL) {x y : Int32} {off : Int} {tgt : Nat} (hd : decode cc pc = .ok (.if_icmp .gt off, 3)) (ht : (pc : Int) + off = (tgt : Int)) (kt : y < x → Wx z ce sl tgt lv rest G I L) (kf : ¬ y < x → Wx z ce sl (pc + 3) lv rest G I L) : Wx z ce sl pc lv (.int y :: .int x :: rest) G I L :=
  fun ls H locs h1 h2 h3 => lv_icmp_gt hz.1 hz.2.1 hd ht (fun h => kt h ls H locs h1 h2 h3) (fun h => kf h ls H locs h1 h2 h3)
theorem am_if_le (hz : Ok z cc own nL) {x : Int32} {off : Int} {tgt : Nat} (hd : decode cc pc = .ok (.ifCond .le off, 3)) (ht : (pc : Int) + off = (tgt : Int)) (kt : x ≤ 0 → Wx z ce sl tgt lv rest G I L) (kf : ¬ x ≤ 0 → Wx z ce sl (pc + 3) lv rest G I L) : Wx z ce sl pc lv (.int x :: rest) G I L :=
  fun ls H locs h1 h2 h3 => lv_if_le hz.1 hz.2.1 hd ht (fun h => kt h ls H locs h1 h2 h3) (fun h => kf h ls H locs h1 h2 h3)
theorem am_icmp_le (hz : Ok z cc own nL) {x y : Int32} {off : Int} {tgt : Nat} (hd : decode cc pc = .ok (.if_icmp .le off, 3)) (ht : (pc : Int) + off = (tgt : Int)) (kt : x ≤ y → Wx z ce sl tgt lv rest G I L) (kf : ¬ x ≤ y → Wx z ce sl (pc + 3) lv rest G I L) : Wx z ce sl pc lv (.int y :: .int x :: rest) G I L :=
  fun ls H locs h1 h2 h3 => lv_icmp_le hz.1 hz.2.1 hd ht (fun h => kt h ls H locs h1 h2 h3) (fun h => kf h ls H locs h1 h2 h3)
end AM
