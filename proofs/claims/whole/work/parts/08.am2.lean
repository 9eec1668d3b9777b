/-! ROWS OF THE FLAT MEMORY: fields, arrays, calls, returns -/
theorem am_fv_c {b p k : Nat} {G1 G2 : amG} {I1 I2 : amI} {L1 L2 : amL} {ty : FieldType} (h1 : I1 p k = I2 p k) (h2 : L1 p k = L2 p k) (h3 : gR G1 p k = gR G2 p k) : am_fv b G1 I1 L1 p k ty = am_fv b G2 I2 L2 p k ty := by
  cases ty <;> simp only [am_fv, h1, h2, h3]
theorem am_fs_c {b p ci : Nat} {G1 G2 : amG} {I1 I2 : amI} {L1 L2 : amL} (h1 : I1 p = I2 p) (h2 : L1 p = L2 p) (h3 : ∀ k, gR G1 p k = gR G2 p k) : am_fs b G1 I1 L1 p ci = am_fs b G2 I2 L2 p ci :=
  List.map_congr_left (fun k _ => am_fv_c (by rw [h1]) (by rw [h2]) (h3 k))
theorem am_cell_c {D : va_G} {b p : Nat} {G1 G2 : amG} {I1 I2 : amI} {L1 L2 : amL} (hK : gK G1 p = gK G2 p) (hL : gL G1 p = gL G2 p) (h1 : I1 p = I2 p) (h2 : L1 p = L2 p) (h3 : ∀ k, gR G1 p k = gR G2 p k) : am_cell D b G1 I1 L1 p = am_cell D b G2 I2 L2 p := by
  have hR : (fun k => (gR G1 p k).map (b + ·)) = (fun k => (gR G2 p k).map (b + ·)) := funext fun k => by rw [h3 k]
  unfold am_cell
  rw [hK, hL, h1, h2, hR, am_fs_c h1 h2 h3]
theorem am_fs_at {b p ci k : Nat} {G : amG} {I : amI} {L : amL} (hk : k < nF ci) : (am_fs b G I L p ci)[k]? = some (am_fv b G I L p k (tyC ci k)) := by
  simp [am_fs, hk]
theorem am_fs_len {b p ci : Nat} {G : amG} {I : amI} {L : amL} : (am_fs b G I L p ci).length = nF ci := by simp [am_fs]
/-- a change of one field's value -/
theorem am_fs_set {b p ci k : Nat} {G1 G2 : amG} {I1 I2 : amI} {L1 L2 : amL} {v : Value} (hv : am_fv b G2 I2 L2 p k (tyC ci k) = v) (ho : ∀ j, j ≠ k → I2 p j = I1 p j ∧ L2 p j = L1 p j ∧ gR G2 p j = gR G1 p j) : am_fs b G2 I2 L2 p ci = (am_fs b G1 I1 L1 p ci).set k v := by
  apply List.ext_getElem?
  intro j
  rw [List.getElem?_set]
  by_cases hj : j < nF ci
  · by_cases e : k = j
    · subst e
      rw [if_pos rfl, if_pos (by rw [am_fs_len]; exact hj), am_fs_at hj, hv]
    · rw [if_neg e, am_fs_at hj, am_fs_at hj]
      obtain ⟨a, c, d⟩ := ho j (Ne.symm e)
      rw [am_fv_c a c d]
  · have h1 : (am_fs b G2 I2 L2 p ci)[j]? = none := List.getElem?_eq_none (by rw [am_fs_len]; omega)
    have h2 : (am_fs b G1 I1 L1 p ci)[j]? = none := List.getElem?_eq_none (by rw [am_fs_len]; omega)
    rw [h1, h2]
    by_cases e : k = j
    · rw [if_pos e, if_neg (by rw [am_fs_len, e]; exact hj)]
    · rw [if_neg e]
theorem am_W.cell {D : va_G} {B : Heap} {G : amG} {I : amI} {L : amL} {H : Heap} {p : Nat} {e : va_E} (hW : am_W D B G I L H) (hp : p < gN G) (he : am_cell D B.size G I L p = e) : va_P D vwCl [(B.size + p, e)] H := by
  intro k q hq
  have hz : k < 1 := (List.getElem?_eq_some_iff.mp hq).1
  rw [show k = 0 by omega] at hq
  cases hq
  rw [← he]
  exact hW.2.2 p hp
theorem am_ob {D : va_G} {b p ci : Nat} {G : amG} {I : amI} {L : amL} (hk : gK G p = ci) (hc : ci < 50) : am_cell D b G I L p = .inr (ci, am_fs b G I L p ci) := by
  unfold am_cell
  rw [hk, if_pos hc]
theorem am_ai {D : va_G} {b p : Nat} {G : amG} {I : amI} {L : amL} (hk : gK G p = 50) : am_cell D b G I L p = .inl (D.1 50, gL G p, .inl (I p)) := by
  unfold am_cell
  rw [hk, if_neg (by decide), if_pos (by decide)]
theorem am_ab {D : va_G} {b p : Nat} {G : amG} {I : amI} {L : amL} (hk : gK G p = 51) : am_cell D b G I L p = .inl (D.1 51, gL G p, .inl (I p)) := by
  unfold am_cell
  rw [hk, if_neg (by decide), if_pos (by decide)]
theorem am_al {D : va_G} {b p : Nat} {G : amG} {I : amI} {L : amL} (hk : gK G p = 52) : am_cell D b G I L p = .inl (D.1 52, gL G p, .inr (.inl (L p))) := by
  unfold am_cell
  rw [hk, if_neg (by decide), if_neg (by decide), if_pos rfl]
theorem am_ar {D : va_G} {b p kd : Nat} {G : amG} {I : amI} {L : amL} (hk : gK G p = kd) (h : 52 < kd) : am_cell D b G I L p = .inl (D.1 kd, gL G p, .inr (.inr (.inr (.inr (fun k => (gR G p k).map (b + ·)))))) := by
  unfold am_cell
  rw [hk, if_neg (by omega), if_neg (by omega), if_neg (by omega)]
theorem am_W.up {D : va_G} {B : Heap} {G G' : amG} {I I' : amI} {L L' : amL} {H H' : Heap} {p : Nat} (hW : am_W D B G I L H) (h0 : gN G' = gN G) (h1 : ∀ q, q ≠ p → am_cell D B.size G' I' L' q = am_cell D B.size G I L q) (e2 : H'.size = H.size) (e3 : ∀ q, q ≠ B.size + p → H'[q]? = H[q]?) (hn : va_at D vwCl (B.size + p, am_cell D B.size G' I' L' p) H') : am_W D B G' I' L' H' := by
  refine ⟨e2.trans (hW.1.trans (by rw [h0])), fun q hq => (e3 q (by omega)).trans (hW.2.1 q hq), fun q hq => ?_⟩
  by_cases hqp : q = p
  · subst hqp
    exact hn
  · rw [h1 q hqp]
    exact (hW.2.2 q (by rw [← h0]; exact hq)).kept (e3 _ (by show B.size + q ≠ B.size + p; omega))
theorem am_locs {B : Heap} {locs : List Loc} {p i : Nat} (h : ∀ q ∈ locs, B.size ≤ q.base) : ∀ q ∈ locs ++ [⟨B.size + p, i⟩], B.size ≤ q.base := by
  intro q hq
  rcases List.mem_append.mp hq with h1 | h1
  · exact h q h1
  · rw [List.mem_singleton.mp h1]
    exact Nat.le_add_right _ _
/-- a class of the worlds, by its number -/
def CLs (ci : Nat) (C : String) (T : u_T) : Prop := ci < 50 ∧ vwCl[ci]? = some (C, T, nF ci) ∧ (∀ w ∈ u_ws C T (nF ci), w ∈ TT) ∧ (∀ j, j < nF ci → parseFieldDescriptor (T j).2.2.1 = some (tyC ci j)) ∧ ∀ a, a < nF ci → ∀ b, b < nF ci → a ≠ b → (T a).2.1 ≠ (T b).2.1
theorem cls_ws {C : String} {T : u_T} {N : Nat} (h : ∀ k, k < N → u_lay C T k ∈ TT) : ∀ w ∈ u_ws C T N, w ∈ TT := by
  intro w hw
  obtain ⟨k, hk, rfl⟩ := List.mem_map.mp hw
  exact h k (List.mem_range.mp hk)
/-- a field of it, as a class's pool names it -/
def FL (own : String) (index ci k : Nat) (fin : Bool) : Prop := k < nF ci ∧ ∃ (C : String) (T : u_T), CLs ci C T ∧ Cond.fieldLink own index (T k).1 (T k).2.1 (T k).2.2.1 ∈ TT ∧ (T k).2.2.2 = fin
section AM2
variable {z : amZ} {cc : ByteArray} {own : String} {nL ce sl pc : Nat} {lv : List (Nat × Value)} {rest : List Value} {G : amG} {I : amI} {L : amL}
theorem am_getv (hz : Ok z cc own nL) {index ci k p : Nat} {fin : Bool} {v : Value} (f : FL own index ci k fin) (hp : p < gN G) (hk : gK G p = ci) (hv : am_fv (zB z).size G I L p k (tyC ci k) = v) (hd : decode cc pc = .ok (.getfield index, 3)) (kk : Wx z ce sl (pc + 3) lv (v :: rest) G I L) : Wx z ce sl pc lv (.ref ((zB z).size + p) :: rest) G I L := by
  intro ls H locs h1 h2 h3
  obtain ⟨hkn, C, T, ⟨hci, hcl, hin, hty, hnm⟩, hlk, -⟩ := f
  exact va_get hz.1 hz.2.1 hz.2.2.2.2.1 hin hz.2.2.2.1 hz.2.2.2.2.2.1.1 (h2.cell hp (am_ob hk hci)) 0 rfl hcl k hkn (hz.2.2.2.2.1 _ hlk) (fun _ h => h) ((am_fs_at hkn).trans (by rw [hv])) hd (kk ls H locs h1 h2 h3)
theorem am_getI (hz : Ok z cc own nL) {index ci k p : Nat} {fin : Bool} (f : FL own index ci k fin) (hp : p < gN G) (hk : gK G p = ci) (hv : am_fv (zB z).size G I L p k (tyC ci k) = .int (I p k)) (hd : decode cc pc = .ok (.getfield index, 3)) (kk : Wx z ce sl (pc + 3) lv (.int (I p k) :: rest) G I L) : Wx z ce sl pc lv (.ref ((zB z).size + p) :: rest) G I L := am_getv hz f hp hk hv hd kk
theorem am_getL (hz : Ok z cc own nL) {index ci k p : Nat} {fin : Bool} (f : FL own index ci k fin) (hp : p < gN G) (hk : gK G p = ci) (hv : am_fv (zB z).size G I L p k (tyC ci k) = .long (L p k)) (hd : decode cc pc = .ok (.getfield index, 3)) (kk : Wx z ce sl (pc + 3) lv (.long (L p k) :: rest) G I L) : Wx z ce sl pc lv (.ref ((zB z).size + p) :: rest) G I L := am_getv hz f hp hk hv hd kk
theorem am_getR (hz : Ok z cc own nL) {index ci k p r : Nat} {fin : Bool} (f : FL own index ci k fin) (hp : p < gN G) (hk : gK G p = ci) (hr : gR G p k = some r) (hv : am_fv (zB z).size G I L p k (tyC ci k) = va_rf ((gR G p k).map ((zB z).size + ·))) (hd : decode cc pc = .ok (.getfield index, 3)) (kk : Wx z ce sl (pc + 3) lv (.ref ((zB z).size + r) :: rest) G I L) : Wx z ce sl pc lv (.ref ((zB z).size + p) :: rest) G I L := am_getv hz f hp hk (by rw [hv, hr]; rfl) hd kk
theorem am_putv (hz : Ok z cc own nL) {index ci k p : Nat} {v : Value} {G' : amG} {I' : amI} {L' : amL} (f : FL own index ci k false) (hp : p < gN G) (hk : gK G p = ci) (hk' : gK G' p = ci) (hn : narrow (tyC ci k) v = v) (hft : fits (tyC ci k) v = true) (h0 : gN G' = gN G) (h1 : ∀ q, q ≠ p → am_cell (zD z) (zB z).size G' I' L' q = am_cell (zD z) (zB z).size G I L q) (h2 : am_fs (zB z).size G' I' L' p ci = (am_fs (zB z).size G I L p ci).set k v) (hd : decode cc pc = .ok (.putfield index, 3)) (kk : Wx z ce sl (pc + 3) lv rest G' I' L') : Wx z ce sl pc lv (v :: .ref ((zB z).size + p) :: rest) G I L := by
  intro ls H locs hl hW hL
  obtain ⟨hx, hb, hml, hown, hts, hK, hB⟩ := hz
  obtain ⟨hkn, C, T, ⟨hci, hcl, hin, hty, hnm⟩, hlk, hfin⟩ := f
  have hap := va_apart (own := own) hts hin (tyC ci) hty hnm hK.1 hcl
  obtain ⟨r, g1, cell, q1, q2, q3, q4⟩ := (hW.cell hp (am_ob hk hci)) 0 _ rfl
  have hr : r = (C, T, nF ci) := Option.some.inj (g1.symm.trans hcl)
  subst hr
  obtain ⟨hS, hfc, kC, hkC, hkind⟩ := hK.1.1 ci _ hcl
  obtain ⟨cf, kf, fi, f, hi, hsl⟩ := hS k hkn
  have hlay := hts _ (hin _ (u_in_lay hkn))
  unfold u_lay at hlay
  rw [if_neg (by rw [hfin]; decide)] at hlay
  have hst := (u_facts hfc hkC (u_lays hts hin hkn) hi).1
  have h6 := u_store hfc hkC hkind hlay hi (hty k hkn) hn hft
  refine W.putK hx hb (f := f) ⟨hown, hts _ hlk, ⟨_, _, _, hi⟩, hst⟩ (by rw [q2]; exact h6) q1 q3 (by rw [hsl]; exact k2_hasslot (q4 k hkn)) rfl rfl hd fun H' e1 e2 e3 => ?_
  rw [hsl] at e1 ⊢
  refine kk ls H' _ hl (hW.up h0 h1 e2 e3 ?_) (am_locs hL)
  rw [am_ob hk' hci, h2]
  exact ⟨_, hcl, t_OB.to (V := updV (vp_V (am_fs (zB z).size G I L p ci)) k v) ⟨_, e1, q2, q3, t_set q4 hap hkn v⟩ (fun j _ => vp_updV_set (by rw [am_fs_len]; exact hkn) v j)⟩
theorem am_putI (hz : Ok z cc own nL) {index ci k p : Nat} {x : Int32} (f : FL own index ci k false) (hp : p < gN G) (hk : gK G p = ci) (hn : narrow (tyC ci k) (.int x) = .int x) (hft : fits (tyC ci k) (.int x) = true) (hv : ∀ I' : amI, am_fv (zB z).size G I' L p k (tyC ci k) = .int (I' p k)) (hd : decode cc pc = .ok (.putfield index, 3)) (kk : Wx z ce sl (pc + 3) lv rest G (setI I p (upd (I p) k x)) L) : Wx z ce sl pc lv (.int x :: .ref ((zB z).size + p) :: rest) G I L :=
  am_putv hz f hp hk hk hn hft rfl (fun q hq => am_cell_c rfl rfl (setI_n hq) rfl (fun _ => rfl)) (am_fs_set (by rw [hv, setI_s]; simp [upd]) (fun j hj => ⟨by rw [setI_s]; simp [upd, hj], rfl, rfl⟩)) hd kk
theorem am_putL (hz : Ok z cc own nL) {index ci k p : Nat} {x : Int64} (f : FL own index ci k false) (hp : p < gN G) (hk : gK G p = ci) (hn : narrow (tyC ci k) (.long x) = .long x) (hft : fits (tyC ci k) (.long x) = true) (hv : ∀ L' : amL, am_fv (zB z).size G I L' p k (tyC ci k) = .long (L' p k)) (hd : decode cc pc = .ok (.putfield index, 3)) (kk : Wx z ce sl (pc + 3) lv rest G I (setL L p (vp_updL (L p) k x))) : Wx z ce sl pc lv (.long x :: .ref ((zB z).size + p) :: rest) G I L :=
  am_putv hz f hp hk hk hn hft rfl (fun q hq => am_cell_c rfl rfl rfl (setL_n hq) (fun _ => rfl)) (am_fs_set (by rw [hv, setL_s]; simp [vp_updL]) (fun j hj => ⟨rfl, by rw [setL_s]; simp [vp_updL, hj], rfl⟩)) hd kk
/-! arrays -/
theorem am_iald (hz : Ok z cc own nL) {p : Nat} {i : Int32} (hp : p < gN G) (hk : gK G p = 50) (hi : vp_in i (gL G p)) (hd : decode cc pc = .ok (.iaload, 1)) (kk : Wx z ce sl (pc + 1) lv (.int (I p i.toNatClampNeg) :: rest) G I L) : Wx z ce sl pc lv (.int i :: .ref ((zB z).size + p) :: rest) G I L :=
  fun ls H locs h1 h2 h3 => va_iald hz.1 hz.2.1 hz.2.2.2.2.2.1.1 (h2.cell hp (am_ai hk)) 0 0 rfl rfl hi hd (kk ls H locs h1 h2 h3)
theorem am_bald (hz : Ok z cc own nL) {p : Nat} {i : Int32} (hp : p < gN G) (hk : gK G p = 51) (hi : vp_in i (gL G p)) (hd : decode cc pc = .ok (.baload, 1)) (kk : Wx z ce sl (pc + 1) lv (.int (I p i.toNatClampNeg) :: rest) G I L) : Wx z ce sl pc lv (.int i :: .ref ((zB z).size + p) :: rest) G I L :=
  fun ls H locs h1 h2 h3 => va_bald hz.1 hz.2.1 hz.2.2.2.2.2.1.1 (h2.cell hp (am_ab hk)) 0 1 rfl rfl hi hd (kk ls H locs h1 h2 h3)
theorem am_lald (hz : Ok z cc own nL) {p : Nat} {i : Int32} (hp : p < gN G) (hk : gK G p = 52) (hi : vp_in i (gL G p)) (hd : decode cc pc = .ok (.laload, 1)) (kk : Wx z ce sl (pc + 1) lv (.long (L p i.toNatClampNeg) :: rest) G I L) : Wx z ce sl pc lv (.int i :: .ref ((zB z).size + p) :: rest) G I L :=
  fun ls H locs h1 h2 h3 => va_lald hz.1 hz.2.1 hz.2.2.2.2.2.1.1 (h2.cell hp (am_al hk)) 0 2 rfl rfl hi hd (kk ls H locs h1 h2 h3)
theorem am_alenI (hz : Ok z cc own nL) {p : Nat} (hp : p < gN G) (hk : gK G p = 50) (hd : decode cc pc = .ok (.arraylength, 1)) (kk : Wx z ce sl (pc + 1) lv (.int (Int32.ofNat (gL G p)) :: rest) G I L) : Wx z ce sl pc lv (.ref ((zB z).size + p) :: rest) G I L :=
  fun ls H locs h1 h2 h3 => va_alen hz.1 hz.2.1 hz.2.2.2.2.2.1.1 (h2.cell hp (am_ai hk)) 0 0 rfl rfl rfl hd (kk ls H locs h1 h2 h3)
theorem am_alenL (hz : Ok z cc own nL) {p : Nat} (hp : p < gN G) (hk : gK G p = 52) (hd : decode cc pc = .ok (.arraylength, 1)) (kk : Wx z ce sl (pc + 1) lv (.int (Int32.ofNat (gL G p)) :: rest) G I L) : Wx z ce sl pc lv (.ref ((zB z).size + p) :: rest) G I L :=
  fun ls H locs h1 h2 h3 => va_alen hz.1 hz.2.1 hz.2.2.2.2.2.1.1 (h2.cell hp (am_al hk)) 0 2 rfl rfl rfl hd (kk ls H locs h1 h2 h3)
theorem am_iast (hz : Ok z cc own nL) {p : Nat} {i x : Int32} (hp : p < gN G) (hk : gK G p = 50) (hi : vp_in i (gL G p)) (hd : decode cc pc = .ok (.iastore, 1)) (kk : Wx z ce sl (pc + 1) lv rest G (setI I p (upd (I p) i.toNatClampNeg x)) L) : Wx z ce sl pc lv (.int x :: .int i :: .ref ((zB z).size + p) :: rest) G I L := by
  intro ls H locs hl hW hL
  refine W.iast hz.1 hz.2.1 ((hW.cell hp (am_ai hk)) 0 _ rfl) ((hz.2.2.2.2.2.1.1.2 0 _ rfl).1 (gL G p) (fun j => .int (I p j))) (fun q => by cases q) (by show ¬ (i < 0 ∨ (arrV _ _ _).slots.size ≤ _); rw [arrV_size]; exact hi) rfl rfl hd fun H1 e e2 e3 => ?_
  refine kk ls H1 _ hl (hW.up rfl (fun q hq => am_cell_c rfl rfl (setI_n hq) rfl (fun _ => rfl)) e2 e3 ?_) (am_locs hL)
  rw [am_ai hk, setI_s]
  show H1[(zB z).size + p]? = some (vp_cell _ _)
  rw [e, vp_cell_i, vp_cell_i, arrV_store]
  congr 2
  funext q
  by_cases hq : q = i.toNatClampNeg
  · subst hq
    simp [updV, upd]
  · simp [updV, upd, hq]
theorem am_bast (hz : Ok z cc own nL) {p : Nat} {i x : Int32} (hp : p < gN G) (hk : gK G p = 51) (hi : vp_in i (gL G p)) (hd : decode cc pc = .ok (.bastore, 1)) (kk : Wx z ce sl (pc + 1) lv rest G (setI I p (upd (I p) i.toNatClampNeg (vp_nar .byte x))) L) : Wx z ce sl pc lv (.int x :: .int i :: .ref ((zB z).size + p) :: rest) G I L := by
  intro ls H locs hl hW hL
  refine W.bast hz.1 hz.2.1 ((hW.cell hp (am_ab hk)) 0 _ rfl) ((hz.2.2.2.2.2.1.1.2 1 _ rfl).1 (gL G p) (fun j => .int (I p j))) (fun q => by cases q) (by show ¬ (i < 0 ∨ (arrV _ _ _).slots.size ≤ _); rw [arrV_size]; exact hi) rfl rfl hd fun H1 e e2 e3 => ?_
  refine kk ls H1 _ hl (hW.up rfl (fun q hq => am_cell_c rfl rfl (setI_n hq) rfl (fun _ => rfl)) e2 e3 ?_) (am_locs hL)
  rw [am_ab hk, setI_s]
  show H1[(zB z).size + p]? = some (vp_cell _ _)
  rw [e, vp_cell_i, vp_cell_i, arrV_store]
  congr 2
  funext q
  by_cases hq : q = i.toNatClampNeg
  · subst hq
    simp [updV, upd, vp_nar]
    try rfl
  · simp [updV, upd, hq]
theorem am_last (hz : Ok z cc own nL) {p : Nat} {i : Int32} {x : Int64} (hp : p < gN G) (hk : gK G p = 52) (hi : vp_in i (gL G p)) (hd : decode cc pc = .ok (.lastore, 1)) (kk : Wx z ce sl (pc + 1) lv rest G I (setL L p (vp_updL (L p) i.toNatClampNeg x))) : Wx z ce sl pc lv (.long x :: .int i :: .ref ((zB z).size + p) :: rest) G I L := by
  intro ls H locs hl hW hL
  refine W.last hz.1 hz.2.1 ((hW.cell hp (am_al hk)) 0 _ rfl) ((hz.2.2.2.2.2.1.1.2 2 _ rfl).1 (gL G p) (fun j => .long (L p j))) (fun q => by cases q) (by show ¬ (i < 0 ∨ (arrV _ _ _).slots.size ≤ _); rw [arrV_size]; exact hi) rfl rfl hd fun H1 e e2 e3 => ?_
  refine kk ls H1 _ hl (hW.up rfl (fun q hq => am_cell_c rfl rfl rfl (setL_n hq) (fun _ => rfl)) e2 e3 ?_) (am_locs hL)
  rw [am_al hk, setL_s]
  show H1[(zB z).size + p]? = some (vp_cell _ _)
  rw [e, vp_cell_l, vp_cell_l, arrV_store]
  congr 2
  funext q
  by_cases hq : q = i.toNatClampNeg
  · subst hq
    simp [updV, vp_updL]
  · simp [updV, vp_updL, hq]
end AM2
/-! CONTRACTS -/
abbrev rk (d mc ms : Nat) : Room := { frames := d, cells := mc, slots := ms, locals := 100 * d }
def am_Pc (D : va_G) (B : Heap) (av : List Value) (G : amG) (I : amI) (L : amL) : Array Value → State → Prop := fun v U => v = av.toArray ∧ am_W D B G I L U.heap ∧ am_K D B U
abbrev amP : Type := Option Value → amG → amI → amL → Prop
def am_Qc (D : va_G) (B : Heap) (post : amP) : Array Value → State → Outcome → State → Prop := fun _ _ o t => ∃ (ro : Option Value) (G : amG) (I : amI) (L : amL), o = .returned ro ∧ post ro G I L ∧ am_W D B G I L t.heap
abbrev am_fr (B : Heap) : Addr → Prop := fun q => B.size ≤ q
/-- method y, from this memory, returns as post says, at most mc cells of ms slots are new -/
def Mx (l : Launch) (D : va_G) (B : Heap) (y : MethodName) (bytes : ByteArray) (maxL : Nat) (ret : Option FieldType) (d mc ms : Nat) (av : List Value) (G : amG) (I : amI) (L : amL) (post : amP) : Prop :=
  Met l y (Cond.code y bytes maxL ret :: TT) (rk d mc ms) (am_Pc D B av G I L) (am_Qc D B post) mc ms (am_fr B)
/-- the end of a walk that proves a contract -/
def Rt (z : amZ) (cells slots : Nat) (ro : Option Value) (G : amG) (I : amI) (L : amL) : Prop := ∃ post : amP, zQ z = MQ (zF z) (am_Qc (zD z) (zB z) post) (zA z) (zS z) cells slots (am_fr (zB z)) ∧ post ro G I L
/-- the place of a walk that proves a contract: room, end, and what it may use -/
def Go (z : amZ) (cc : ByteArray) (own : String) (nL : Nat) (ret : Option FieldType) (d mc ms : Nat) (post : amP) : Prop :=
  Ok z cc own nL ∧ zR z = rk d mc ms ∧ (zY z).sig.returnType = ret ∧ (zY z).locks = false ∧ zQ z = MQ (zF z) (am_Qc (zD z) (zB z) post) (zA z) (zS z) mc ms (am_fr (zB z))
theorem Mx.of {l : Launch} {D : va_G} {B : Heap} {y : MethodName} {bytes : ByteArray} {maxL : Nat} {ret : Option FieldType} {d mc ms : Nat} {av : List Value} {G : amG} {I : amI} {L : amL} {post : amP} {lv : List (Nat × Value)} (hy : plainName y.cls = true) (hs : Nat.ble (lg_sl av).length maxL = true) (hlv : lv_args 0 av = lv)
    (body : ∀ z : amZ, zL z = l → zD z = D → zB z = B → Go z bytes y.cls maxL ret d mc ms post → Wx z 0 0 0 lv [] G I L) : Mx l D B y bytes maxL ret d mc ms av G I L post := by
  refine Met.ofW (cc := bytes) (maxL := maxL) (ret := ret) hy rfl ?_
  intro p e s m args below meth c s₁ X hml hv
  obtain ⟨rfl, hW, hK⟩ := hv
  have hl := lv_entry av (n := maxL) (Nat.le_of_ble_eq_true hs)
  rw [lg_entry_eq]
  rw [hlv] at hl
  have h := body (p, l, e, rk d mc ms, s, m, av.toArray, below, meth, c, D, B, MQ below (am_Qc D B post) av.toArray s mc ms (am_fr B)) rfl rfl rfl
    ⟨⟨X.exec, X.bytes, hml, findClass_of_methodNamed X.named, fun w hw => atoms_spec (ws := Cond.code y bytes maxL ret :: TT) X.pre w (List.mem_cons_of_mem _ hw), hK, by rw [hW.1]; exact Nat.le_add_right _ _⟩, rfl, X.returns, X.notSynchronized, rfl⟩
  exact h _ s.heap [] (by show lv_has _ c.maxLocals lv; rw [hml]; exact hl) hW (fun q hq => by cases hq)
section AM3
variable {z : amZ} {cc : ByteArray} {own : String} {nL ce sl pc d mc ms : Nat} {lv : List (Nat × Value)} {rest : List Value} {G : amG} {I : amI} {L : amL} {post : amP} {ret : Option FieldType}
theorem am_ireturn (hz : Go z cc own nL (some .int) d mc ms post) {x : Int32} (hd : decode cc pc = .ok (.ireturn, 1)) (h : post (some (.int x)) G I L) : Wx z mc ms pc lv [.int x] G I L := by
  intro ls H locs h1 h2 h3
  rw [hz.2.2.2.2]
  exact W.iret hz.1.1 hz.1.2.1 hz.2.2.1 (fun t ht _ => ⟨_, G, I, L, rfl, h, by rw [ht]; exact h2⟩) h3 hd hz.2.2.2.1
theorem am_zreturn (hz : Go z cc own nL (some .boolean) d mc ms post) {x : Int32} (hx : x = 0 ∨ x = 1) (hd : decode cc pc = .ok (.ireturn, 1)) (h : post (some (.int x)) G I L) : Wx z mc ms pc lv [.int x] G I L := by
  intro ls H locs h1 h2 h3
  rw [hz.2.2.2.2]
  exact W.zret (ty := .boolean) hz.1.1 hz.1.2.1 hz.2.2.1 (by rcases hx with rfl | rfl <;> rfl) (fun t ht _ => ⟨_, G, I, L, rfl, h, by rw [ht]; exact h2⟩) h3 hd hz.2.2.2.1
theorem am_lreturn (hz : Go z cc own nL (some .long) d mc ms post) {x : Int64} (hd : decode cc pc = .ok (.lreturn, 1)) (h : post (some (.long x)) G I L) : Wx z mc ms pc lv [.long x] G I L := by
  intro ls H locs h1 h2 h3
  rw [hz.2.2.2.2]
  exact W.lret hz.1.1 hz.1.2.1 hz.2.2.1 (fun t ht _ => ⟨_, G, I, L, rfl, h, by rw [ht]; exact h2⟩) h3 hd hz.2.2.2.1
theorem am_return (hz : Go z cc own nL none d mc ms post) (hd : decode cc pc = .ok (.return_, 1)) (h : post none G I L) : Wx z mc ms pc lv [] G I L := by
  intro ls H locs h1 h2 h3
  rw [hz.2.2.2.2]
  exact W.vret hz.1.1 hz.1.2.1 hz.2.2.1 (fun t ht _ => ⟨_, G, I, L, rfl, h, by rw [ht]; exact h2⟩) h3 hd hz.2.2.2.1
theorem am_widen {ce' sl' : Nat} (h1 : ce ≤ ce') (h2 : sl ≤ sl') (k : Wx z ce' sl' pc lv rest G I L) : Wx z ce sl pc lv rest G I L :=
  fun ls H locs a b c => W.widen (k := ce') (n := sl') h1 h2 (k ls H locs a b c)
/-- behind a call -/
theorem am_run {rest' : List Value} {av : List Value} {mc' ms' : Nat} {ls : Array Slot} {H : Heap} {locs : List Loc} {st0 : List Value} {post' : amP}
    (hr : va_Run (zP z) (zL z) (zE z) (zR z) (zS z) (zM z) (zA z) (zF z) (zY z) (zC z) H locs ce sl mc' ms' (F0 (zM z) pc ls st0) rest' (am_Qc (zD z) (zB z) post' av.toArray) (am_fr (zB z)))
    (h1 : lv_has ls (zC z).maxLocals lv) (h3 : ∀ q ∈ locs, (zB z).size ≤ q.base)
    (kk : ∀ (ro : Option Value) (G' : amG) (I' : amI) (L' : amL), post' ro G' I' L' → Wx z (ce + mc') (sl + ms') (pc + 3) lv (ro.toList ++ rest') G' I' L') :
    W (zP z) (zL z) (zE z) (zR z) (zS z) (zM z) (zA z) (zF z) (zY z) (zC z) H locs ce sl (zQ z) (F0 (zM z) pc ls st0) := by
  intro T hT X
  obtain ⟨v, st₀, t, T', Lc, h0, X', hL, e1, e2, ⟨ro, G', I', L', hv, hp, hw⟩, st⟩ := hr T hT X
  cases hv
  obtain ⟨t2, a1, b1⟩ := kk v G' I' L' hp ls T'.heap (locs ++ Lc) h1 (by rw [e1]; exact hw) (fun q hq => by
    rcases List.mem_append.mp hq with h | h
    · exact h3 q h
    · exact hL q h) T' rfl X'
  exact ⟨t2, st t2 a1, b1⟩
end AM3
/-- a method by name, code and number of arguments, as a class's pool names it: a virtual one -/
def CV (own : String) (index : Nat) (ci : Nat) (y : MethodName) (bytes : ByteArray) (maxL : Nat) (ret : Option FieldType) (n : Nat) : Prop :=
  (∃ T : u_T, CLs ci y.cls T) ∧ Cond.methodLink own index y ∈ TT ∧ Cond.instanceMethod y ∈ TT ∧ Cond.selects y.cls y y ∈ TT ∧ Cond.initialized y.cls ∈ TT ∧ Cond.code y bytes maxL ret ∈ TT ∧ (y.cls ≠ "java/lang/invoke/MethodHandle" ∧ y.cls ≠ "java/lang/invoke/VarHandle" ∧ (parseMethodDescriptor y.desc).map (fun d => d.parameters.length) = some n) ∧ maxL ≤ 80
/-- a static one -/
def CT (own : String) (index : Nat) (y : MethodName) (bytes : ByteArray) (maxL : Nat) (ret : Option FieldType) (n : Nat) : Prop :=
  Cond.methodLink own index y ∈ TT ∧ Cond.static y ∈ TT ∧ Cond.initialized y.cls ∈ TT ∧ Cond.code y bytes maxL ret ∈ TT ∧ (y.cls ≠ "java/lang/invoke/MethodHandle" ∧ y.cls ≠ "java/lang/invoke/VarHandle" ∧ (parseMethodDescriptor y.desc).map (fun d => d.parameters.length) = some n) ∧ maxL ≤ 80
theorem tt_GoodIn {y : MethodName} {bytes : ByteArray} {maxL : Nat} {ret : Option FieldType} (h : Cond.code y bytes maxL ret ∈ TT) : GoodIn TT (Cond.code y bytes maxL ret :: TT) := by
  intro w hw
  rcases List.mem_cons.mp hw with rfl | hw
  · exact ⟨h, tt_good _ h⟩
  · exact ⟨hw, tt_good _ hw⟩
theorem am_blind {D : va_G} {B : Heap} {av : List Value} {G : amG} {I : amI} {L : amL} : FrameBlind (am_Pc D B av G I L) := fun a U g mk q => ⟨q.1, q.2.1, q.2.2.call⟩
section AM4
variable {z : amZ} {cc : ByteArray} {own : String} {nL ce sl pc : Nat} {lv : List (Nat × Value)} {G : amG} {I : amI} {L : amL}
theorem am_callV (hz : Ok z cc own nL) {index ci o n d mc ms maxL : Nat} {y : MethodName} {bytes : ByteArray} {ret : Option FieldType} {post : amP} (cv : CV own index ci y bytes maxL ret n) (As rest : List Value) {st : List Value}
    (hM : Mx (zL z) (zD z) (zB z) y bytes maxL ret d mc ms (.ref ((zB z).size + o) :: As) G I L post)
    (ho : o < gN G) (hk : gK G o = ci) (hs : st = As.reverse ++ .ref ((zB z).size + o) :: rest) (hn : As.length = n) (hR1 : d + 1 ≤ (zR z).frames) (hR2 : 100 * d + 99 ≤ (zR z).locals) (hR3 : ce + mc ≤ (zR z).cells ∧ sl + ms ≤ (zR z).slots) (hc : (rest.map fun v => v.category).sum ≤ 8) (hd : decode cc pc = .ok (.invokevirtual index, 3))
    (kk : ∀ (ro : Option Value) (G' : amG) (I' : amI) (L' : amL), post ro G' I' L' → Wx z (ce + mc) (sl + ms) (pc + 3) lv (ro.toList ++ rest) G' I' L') : Wx z ce sl pc lv st G I L := by
  intro ls H locs h1 h2 h3
  subst hs
  obtain ⟨⟨T, hcl⟩, c1, c2, c3, c4, c5, c6, c7⟩ := cv
  obtain ⟨hx, hb, hml, hown, hts, hK, hB⟩ := hz
  refine am_run (va_runV (As := As) (rest := rest) (Ts := TT) (nL := nL) (C := y.cls) (n := n) ⟨hx, hb, hml, hown, hts⟩ hM ⟨callB_of n hts (tt_GoodIn c5) rfl rfl rfl (hts _ c4) (hts _ c1) c6 ⟨hR1, by show 8 + (maxL + 11) + 100 * d ≤ _; omega⟩, hts _ c2, hts _ c3⟩ ⟨am_blind, va_recv (q := (y.cls, T, nF ci)) hK.1 (h2.cell ho (am_ob hk hcl.1)) hcl.2.1 (q0 := 0) rfl, fun U hU hW => ⟨rfl, by rw [hU]; exact h2, hK.warm hW⟩⟩ rfl hn (h1.1.trans hml) rfl (lv_room hc) hd hR3) h1 h3 kk
theorem am_callS (hz : Ok z cc own nL) {index n d mc ms maxL : Nat} {y : MethodName} {bytes : ByteArray} {ret : Option FieldType} {post : amP} (cv : CT own index y bytes maxL ret n) (As rest : List Value) {st : List Value}
    (hM : Mx (zL z) (zD z) (zB z) y bytes maxL ret d mc ms As G I L post)
    (hs : st = As.reverse ++ rest) (hn : As.length = n) (hR1 : d + 1 ≤ (zR z).frames) (hR2 : 100 * d + 99 ≤ (zR z).locals) (hR3 : ce + mc ≤ (zR z).cells ∧ sl + ms ≤ (zR z).slots) (hc : (rest.map fun v => v.category).sum ≤ 8) (hd : decode cc pc = .ok (.invokestatic index, 3))
    (kk : ∀ (ro : Option Value) (G' : amG) (I' : amI) (L' : amL), post ro G' I' L' → Wx z (ce + mc) (sl + ms) (pc + 3) lv (ro.toList ++ rest) G' I' L') : Wx z ce sl pc lv st G I L := by
  intro ls H locs h1 h2 h3
  subst hs
  obtain ⟨c1, c2, c4, c5, c6, c7⟩ := cv
  obtain ⟨hx, hb, hml, hown, hts, hK, hB⟩ := hz
  refine am_run (va_runS (As := As) (rest := rest) (Ts := TT) (nL := nL) (n := n) ⟨hx, hb, hml, hown, hts⟩ hM ⟨callB_of n hts (tt_GoodIn c5) rfl rfl rfl (hts _ c4) (hts _ c1) c6 ⟨hR1, by show 8 + (maxL + 11) + 100 * d ≤ _; omega⟩, hts _ c2⟩ ⟨am_blind, fun U hU hW => ⟨rfl, by rw [hU]; exact h2, hK.warm hW⟩⟩ rfl hn (h1.1.trans hml) rfl (lv_room hc) hd hR3) h1 h3 kk
end AM4
