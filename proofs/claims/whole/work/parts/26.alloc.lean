/-! NEW CELLS, REFERENCES -/
def gNew (G : amG) (k len : Nat) : amG := (G.1 + 1, fun p => if p = G.1 then k else G.2.1 p, fun p => if p = G.1 then len else G.2.2.1 p, fun p => if p = G.1 then (fun _ => none) else G.2.2.2 p)
theorem gNew_k {G : amG} {k len : Nat} : gK (gNew G k len) (gN G) = k := if_pos rfl
theorem gNew_l {G : amG} {k len : Nat} : gL (gNew G k len) (gN G) = len := if_pos rfl
theorem gNew_r {G : amG} {k len j : Nat} : gR (gNew G k len) (gN G) j = none := by show (if gN G = G.1 then (fun _ => none) else G.2.2.2 (gN G)) j = none; rw [if_pos rfl]
theorem gNew_ok {G : amG} {k len p : Nat} (h : p < gN G) : gK (gNew G k len) p = gK G p := if_neg (Nat.ne_of_lt h)
theorem gNew_ol {G : amG} {k len p : Nat} (h : p < gN G) : gL (gNew G k len) p = gL G p := if_neg (Nat.ne_of_lt h)
theorem gNew_or {G : amG} {k len p : Nat} (h : p < gN G) (j : Nat) : gR (gNew G k len) p j = gR G p j := by
  show (if p = G.1 then (fun _ => none) else G.2.2.2 p) j = G.2.2.2 p j
  rw [if_neg (Nat.ne_of_lt h)]
/-- one cell more -/
theorem am_W.push {D : va_G} {B : Heap} {G : amG} {I : amI} {L : amL} {H H' : Heap} {k len : Nat} (hW : am_W D B G I L H) (z1 : H'.size = H.size + 1) (o1 : ∀ q, q < H.size → H'[q]? = H[q]?) (hn : va_at D vwCl (B.size + gN G, am_cell D B.size (gNew G k len) (setI I (gN G) (fun _ => 0)) (setL L (gN G) (fun _ => 0)) (gN G)) H') : am_W D B (gNew G k len) (setI I (gN G) (fun _ => 0)) (setL L (gN G) (fun _ => 0)) H' := by
  have hs := hW.1
  refine ⟨by rw [z1, hs]; show _ = B.size + (G.1 + 1); show B.size + G.1 + 1 = _; omega, fun q hq => (o1 q (by omega)).trans (hW.2.1 q hq), fun p hp => ?_⟩
  have hp' : p < gN G + 1 := hp
  by_cases e : p = gN G
  · subst e; exact hn
  · have hlt : p < gN G := by omega
    rw [am_cell_c (G2 := G) (I2 := I) (L2 := L) (gNew_ok hlt) (gNew_ol hlt) (setI_n e) (setL_n e) (gNew_or hlt)]
    exact (hW.2.2 p hlt).kept (o1 _ (by show B.size + p < H.size; rw [hs]; omega))
def okTy (ty : FieldType) : Bool := match ty with
  | .float => false
  | .double => false
  | _ => true
theorem am_dv {b p j : Nat} {G : amG} {I : amI} {L : amL} {ty : FieldType} (h : okTy ty = true) (h1 : I p j = 0) (h2 : L p j = 0) (h3 : gR G p j = none) : defaultValue ty = am_fv b G I L p j ty := by
  cases ty <;> simp only [am_fv, h1, h2, h3] <;> first | rfl | cases h
theorem vpV_fs {b p ci j : Nat} {G : amG} {I : amI} {L : amL} (hj : j < nF ci) : vp_V (am_fs b G I L p ci) j = am_fv b G I L p j (tyC ci j) := by
  rw [vp_V, List.getD_eq_getElem?_getD, am_fs_at hj]
  rfl
section AL1
variable {z : amZ} {cc : ByteArray} {own : String} {nL ce sl pc : Nat} {lv : List (Nat × Value)} {rest : List Value} {G : amG} {I : amI} {L : amL}
theorem am_new (hz : Ok z cc own nL) {index ci : Nat} {C : String} {T : u_T} (hc : CLs ci C T) (hty : ∀ j, j < nF ci → okTy (tyC ci j) = true) (h1 : Cond.classLink own index C ∈ TT) (h2 : Cond.instantiable C (nF ci) ∈ TT) (h3 : Cond.initialized C ∈ TT) (hr1 : ce + 1 ≤ (zR z).cells) (hr2 : sl + nF ci ≤ (zR z).slots) (hd : decode cc pc = .ok (.new index, 3)) (kk : Wx z (ce + 1) (sl + nF ci) (pc + 3) lv (.ref ((zB z).size + gN G) :: rest) (gNew G ci 0) (setI I (gN G) (fun _ => 0)) (setL L (gN G) (fun _ => 0))) : Wx z ce sl pc lv rest G I L := by
  intro ls H locs hl hW hL
  obtain ⟨hx, hb, hml, hown, hts, hK, hB⟩ := hz
  obtain ⟨hci, hcl, hin, hpt, hnm⟩ := hc
  have hKn := hK.1.1 ci _ hcl
  refine W.newcK hx hb hown (hts _ h1) (hts _ h2) (hts _ h3) rfl hd hr1 hr2 hKn.2.1 rfl fun H1 kC hkC e1 z1 o1 => ?_
  have hsz : H.size = (zB z).size + gN G := hW.1
  rw [hsz]
  refine kk ls H1 locs hl (hW.push z1 o1 ?_) hL
  rw [am_ob (ci := ci) gNew_k hci]
  rw [hsz] at e1
  exact ⟨_, hcl, (u_born (tyC ci) hts hin hKn hkC e1 hpt).to (fun j hj => by
    rw [vpV_fs hj]
    exact am_dv (hty j hj) (by rw [setI_s]) (by rw [setL_s]) gNew_r)⟩
theorem am_newI (hz : Ok z cc own nL) {n : Int32} {N : Nat} (h1 : Cond.arrayClass .int ∈ TT) (hn : ¬ n < 0) (hN : n.toNatClampNeg = N) (hb4 : N * componentBytes .int ≤ 536870912) (hr1 : ce + 1 ≤ (zR z).cells) (hr2 : sl + N ≤ (zR z).slots) (hd : decode cc pc = .ok (.newarray .int, 2)) (kk : Wx z (ce + 1) (sl + N) (pc + 2) lv (.ref ((zB z).size + gN G) :: rest) (gNew G 50 N) (setI I (gN G) (fun _ => 0)) (setL L (gN G) (fun _ => 0))) : Wx z ce sl pc lv (.int n :: rest) G I L := by
  intro ls H locs hl hW hL
  obtain ⟨hx, hb, hml, hown, hts, hK, hB⟩ := hz
  refine va_newaK (atype := .int) hx hb (hts _ h1) rfl hd rfl hn hN hb4 hr1 hr2 rfl fun H1 cA e1 z1 o1 hAr hNm => ?_
  have hsz : H.size = (zB z).size + gN G := hW.1
  have hcA : cA = (zD z).1 50 := Option.some.inj (hNm.symm.trans (hK.1.2 0 _ rfl).2)
  rw [hsz]
  refine kk ls H1 locs hl (hW.push z1 o1 ?_) hL
  rw [am_ai gNew_k, gNew_l, setI_s]
  show H1[(zB z).size + gN G]? = some (vp_cell _ _)
  rw [← hsz, e1, hcA]
  rfl
theorem am_newB (hz : Ok z cc own nL) {n : Int32} {N : Nat} (h1 : Cond.arrayClass .byte ∈ TT) (hn : ¬ n < 0) (hN : n.toNatClampNeg = N) (hb4 : N * componentBytes .byte ≤ 536870912) (hr1 : ce + 1 ≤ (zR z).cells) (hr2 : sl + N ≤ (zR z).slots) (hd : decode cc pc = .ok (.newarray .byte, 2)) (kk : Wx z (ce + 1) (sl + N) (pc + 2) lv (.ref ((zB z).size + gN G) :: rest) (gNew G 51 N) (setI I (gN G) (fun _ => 0)) (setL L (gN G) (fun _ => 0))) : Wx z ce sl pc lv (.int n :: rest) G I L := by
  intro ls H locs hl hW hL
  obtain ⟨hx, hb, hml, hown, hts, hK, hB⟩ := hz
  refine va_newaK (atype := .byte) hx hb (hts _ h1) rfl hd rfl hn hN hb4 hr1 hr2 rfl fun H1 cA e1 z1 o1 hAr hNm => ?_
  have hsz : H.size = (zB z).size + gN G := hW.1
  have hcA : cA = (zD z).1 51 := Option.some.inj (hNm.symm.trans (hK.1.2 1 _ rfl).2)
  rw [hsz]
  refine kk ls H1 locs hl (hW.push z1 o1 ?_) hL
  rw [am_ab gNew_k, gNew_l, setI_s]
  show H1[(zB z).size + gN G]? = some (vp_cell _ _)
  rw [← hsz, e1, hcA]
  rfl
theorem am_newL (hz : Ok z cc own nL) {n : Int32} {N : Nat} (h1 : Cond.arrayClass .long ∈ TT) (hn : ¬ n < 0) (hN : n.toNatClampNeg = N) (hb4 : N * componentBytes .long ≤ 536870912) (hr1 : ce + 1 ≤ (zR z).cells) (hr2 : sl + N ≤ (zR z).slots) (hd : decode cc pc = .ok (.newarray .long, 2)) (kk : Wx z (ce + 1) (sl + N) (pc + 2) lv (.ref ((zB z).size + gN G) :: rest) (gNew G 52 N) (setI I (gN G) (fun _ => 0)) (setL L (gN G) (fun _ => 0))) : Wx z ce sl pc lv (.int n :: rest) G I L := by
  intro ls H locs hl hW hL
  obtain ⟨hx, hb, hml, hown, hts, hK, hB⟩ := hz
  refine va_newaK (atype := .long) hx hb (hts _ h1) rfl hd rfl hn hN hb4 hr1 hr2 rfl fun H1 cA e1 z1 o1 hAr hNm => ?_
  have hsz : H.size = (zB z).size + gN G := hW.1
  have hcA : cA = (zD z).1 52 := Option.some.inj (hNm.symm.trans (hK.1.2 2 _ rfl).2)
  rw [hsz]
  refine kk ls H1 locs hl (hW.push z1 o1 ?_) hL
  rw [am_al gNew_k, gNew_l, setL_s]
  show H1[(zB z).size + gN G]? = some (vp_cell _ _)
  rw [← hsz, e1, hcA]
  rfl
/-- an array of references: Order[] (kind 53), State[] (kind 54) -/
theorem am_newR (hz : Ok z cc own nL) {index t kd : Nat} {C : String} {n : Int32} {N : Nat} (ht : (am_tys (zD z))[t]? = some ((zD z).1 kd, .object C)) (hkd : 52 < kd) (hover : va_AO C (zS z)) (h1 : Cond.classLink own index C ∈ TT) (hn : ¬ n < 0) (hN : n.toNatClampNeg = N) (hb4 : N * 4 ≤ 536870912) (hr1 : ce + 1 ≤ (zR z).cells) (hr2 : sl + N ≤ (zR z).slots) (hd : decode cc pc = .ok (.anewarray index, 3)) (kk : Wx z (ce + 1) (sl + N) (pc + 3) lv (.ref ((zB z).size + gN G) :: rest) (gNew G kd N) (setI I (gN G) (fun _ => 0)) (setL L (gN G) (fun _ => 0))) : Wx z ce sl pc lv (.int n :: rest) G I L := by
  intro ls H locs hl hW hL
  subst hN
  obtain ⟨hx, hb, hml, hown, hts, hK, hB⟩ := hz
  refine W.anew hx hb hown (hts _ h1) (va_AO.use hover) rfl hd rfl hn hb4 hr1 hr2 fun cA kA comp f1 f2 f3 f4 => ?_
  have hsz : H.size = (zB z).size + gN G := hW.1
  obtain ⟨kA', comp', g1, g2, g3, g4⟩ := (hK.1.2 t _ ht).2
  have hcA : cA = (zD z).1 kd := Option.some.inj (f1.symm.trans g4)
  generalize hH1 : H.push ({ cls := cA, slots := Array.replicate n.toNatClampNeg .null, vm := .none } : Cell) = H1
  have z1 : H1.size = H.size + 1 := by rw [← hH1, Array.size_push]
  have e1 : H1[H.size]? = some (arrV cA n.toNatClampNeg (fun _ => .null)) := by rw [← hH1, Array.getElem?_push_size, ← arrV_new]
  have o1 : ∀ q : Nat, q < H.size → H1[q]? = H[q]? := fun q hq => by rw [← hH1, Array.getElem?_push, if_neg (Nat.ne_of_lt hq)]
  rw [hsz]
  refine kk ls H1 locs hl (hW.push z1 o1 ?_) hL
  rw [am_ar gNew_k hkd, gNew_l]
  show H1[(zB z).size + gN G]? = some (vp_cell _ _)
  rw [← hsz, e1, hcA, vp_cell_q]
  congr 2
  funext k
  rw [gNew_r]
  rfl
/-! references stored and read -/
theorem setR_g {G : amG} {p q : Nat} {f : Nat → Option Nat} (h : q ≠ p) (j : Nat) : gR (setR G p f) q j = gR G q j := by
  show (if q = p then f else G.2.2.2 q) j = _
  rw [if_neg h]
theorem setR_s {G : amG} {p : Nat} {f : Nat → Option Nat} (j : Nat) : gR (setR G p f) p j = f j := by
  show (if p = p then f else G.2.2.2 p) j = _
  rw [if_pos rfl]
theorem am_putR (hz : Ok z cc own nL) {index ci k p r : Nat} (f : FL own index ci k false) (hp : p < gN G) (hk : gK G p = ci) (hn : ∀ x, narrow (tyC ci k) (.ref x) = .ref x) (hft : ∀ x, fits (tyC ci k) (.ref x) = true) (hv : ∀ G' : amG, am_fv (zB z).size G' I L p k (tyC ci k) = va_rf ((gR G' p k).map ((zB z).size + ·))) (hd : decode cc pc = .ok (.putfield index, 3)) (kk : Wx z ce sl (pc + 3) lv rest (setR G p (va_up (gR G p) k (some r))) I L) : Wx z ce sl pc lv (.ref ((zB z).size + r) :: .ref ((zB z).size + p) :: rest) G I L :=
  am_putv (G' := setR G p (va_up (gR G p) k (some r))) (I' := I) (L' := L) hz f hp hk hk (hn _) (hft _) rfl (fun q hq => am_cell_c rfl rfl rfl rfl (fun j => setR_g hq j)) (am_fs_set (by rw [hv, setR_s]; simp [va_up, va_rf]) (fun j hj => ⟨rfl, rfl, by rw [setR_s]; simp [va_up, hj]⟩)) hd kk
theorem am_putF (hz : Ok z cc own nL) (hin2 : (zY z).name = "<init>") {index ci k p r : Nat} {C : String} {T : u_T} (hcc : CLs ci C T) (hkn : k < nF ci) (hlk : Cond.fieldLink own index (T k).1 (T k).2.1 (T k).2.2.1 ∈ TT) (hfin : (T k).2.2.2 = true) (hdecl : (T k).1 = own) (hp : p < gN G) (hk : gK G p = ci) (hn : ∀ x, narrow (tyC ci k) (.ref x) = .ref x) (hft : ∀ x, fits (tyC ci k) (.ref x) = true) (hv : ∀ G' : amG, am_fv (zB z).size G' I L p k (tyC ci k) = va_rf ((gR G' p k).map ((zB z).size + ·))) (hd : decode cc pc = .ok (.putfield index, 3)) (kk : Wx z ce sl (pc + 3) lv rest (setR G p (va_up (gR G p) k (some r))) I L) : Wx z ce sl pc lv (.ref ((zB z).size + r) :: .ref ((zB z).size + p) :: rest) G I L := by
  intro ls H locs hl hW hL
  obtain ⟨hx, hb, hml, hown, hts, hK, hB⟩ := hz
  obtain ⟨hci, hcl, hin, hty, hnm⟩ := hcc
  have hap := va_apart (own := own) hts hin (tyC ci) hty hnm hK.1 hcl
  obtain ⟨r', g1, cell, q1, q2, q3, q4⟩ := (hW.cell hp (am_ob hk hci)) 0 _ rfl
  have hr : r' = (C, T, nF ci) := Option.some.inj (g1.symm.trans hcl)
  subst hr
  obtain ⟨hS, hfc, kC, hkC, hkind⟩ := hK.1.1 ci _ hcl
  obtain ⟨cf, kf, fi, f, hi, hsl⟩ := hS k hkn
  have hlay := hts _ (hin _ (u_in_lay hkn))
  unfold u_lay at hlay
  rw [if_pos hfin] at hlay
  have hst := (u_facts hfc hkC (u_lays hts hin hkn) hi).1
  have hcf : (zM z).cls = cf := by
    obtain ⟨_, _, c', _, _, _, -, -, hf', -, -, -, hown2, -⟩ := Cond.laysFinal_spec hlay
    have e1 : c' = cf := by have := hi.symm.trans hf'; simp at this; exact this.1.symm
    rw [hdecl] at hown2
    rw [← e1]; exact Option.some.inj (hown.symm.trans hown2)
  have h6 := u_fits hfc hkC hkind (Or.inr hlay) hi (hty k hkn) (hn ((zB z).size + r)) (hft ((zB z).size + r))
  refine W.putFinK hx hb hown (hts _ hlk) hi hst hcf hin2 (by rw [q2]; exact h6) q1 q3 (by rw [hsl]; exact k2_hasslot (q4 k hkn)) rfl rfl hd fun H' e1 e2 e3 => ?_
  rw [hsl] at e1 ⊢
  refine kk ls H' _ hl (hW.up rfl (fun q hq => am_cell_c rfl rfl rfl rfl (fun j => setR_g hq j)) e2 e3 ?_) (am_locs hL)
  have h2 : am_fs (zB z).size (setR G p (va_up (gR G p) k (some r))) I L p ci = (am_fs (zB z).size G I L p ci).set k (.ref ((zB z).size + r)) := am_fs_set (by rw [hv, setR_s]; simp [va_up, va_rf]) (fun j hj => ⟨rfl, rfl, by rw [setR_s]; simp [va_up, hj]⟩)
  rw [am_ob (show gK (setR G p (va_up (gR G p) k (some r))) p = ci from hk) hci, h2]
  exact ⟨_, hcl, t_OB.to (V := updV (vp_V (am_fs (zB z).size G I L p ci)) k (.ref ((zB z).size + r))) ⟨_, e1, q2, q3, t_set q4 hap hkn _⟩ (fun j _ => vp_updV_set (by rw [am_fs_len]; exact hkn) _ j)⟩
theorem am_aald (hz : Ok z cc own nL) {t kd p r : Nat} {C : String} {i : Int32} (ht : (am_tys (zD z))[t]? = some ((zD z).1 kd, .object C)) (hkd : 52 < kd) (hp : p < gN G) (hk : gK G p = kd) (hi : vp_in i (gL G p)) (hr : gR G p i.toNatClampNeg = some r) (hd : decode cc pc = .ok (.aaload, 1)) (kk : Wx z ce sl (pc + 1) lv (.ref ((zB z).size + r) :: rest) G I L) : Wx z ce sl pc lv (.int i :: .ref ((zB z).size + p) :: rest) G I L := by
  intro ls H locs h1 h2 h3
  refine va_aldq hz.1 hz.2.1 hz.2.2.2.2.2.1.1 (h2.cell hp (am_ar hk hkd)) 0 t rfl ht hi hd ?_
  rw [hr]
  exact kk ls H locs h1 h2 h3
theorem am_aaldN (hz : Ok z cc own nL) {t kd p : Nat} {C : String} {i : Int32} (ht : (am_tys (zD z))[t]? = some ((zD z).1 kd, .object C)) (hkd : 52 < kd) (hp : p < gN G) (hk : gK G p = kd) (hi : vp_in i (gL G p)) (hr : gR G p i.toNatClampNeg = none) (hd : decode cc pc = .ok (.aaload, 1)) (kk : Wx z ce sl (pc + 1) lv (.null :: rest) G I L) : Wx z ce sl pc lv (.int i :: .ref ((zB z).size + p) :: rest) G I L := by
  intro ls H locs h1 h2 h3
  refine va_aldq hz.1 hz.2.1 hz.2.2.2.2.2.1.1 (h2.cell hp (am_ar hk hkd)) 0 t rfl ht hi hd ?_
  rw [hr]
  exact kk ls H locs h1 h2 h3
theorem am_aast (hz : Ok z cc own nL) {t kd p r ci : Nat} {C : String} {T : u_T} {i : Int32} (ht : (am_tys (zD z))[t]? = some ((zD z).1 kd, .object C)) (hkd : 52 < kd) (hc : CLs ci C T) (hp : p < gN G) (hk : gK G p = kd) (hi : vp_in i (gL G p)) (hr : r < gN G) (hkr : gK G r = ci) (hd : decode cc pc = .ok (.aastore, 1)) (kk : Wx z ce sl (pc + 1) lv rest (setR G p (va_up (gR G p) i.toNatClampNeg (some r))) I L) : Wx z ce sl pc lv (.ref ((zB z).size + r) :: .int i :: .ref ((zB z).size + p) :: rest) G I L := by
  intro ls H locs hl hW hL
  obtain ⟨hx, hb, hml, hown, hts, hK, hB⟩ := hz
  obtain ⟨hci, hcl, hin, hty, hnm⟩ := hc
  have hlt : i.toNatClampNeg < gL G p := Nat.not_le.mp fun q => hi (Or.inr q)
  have h0 : ¬ i < 0 := fun q => hi (Or.inl q)
  obtain ⟨r', hr', cellV, g1, g2, g3, -⟩ := (hW.cell hr (am_ob hkr hci)) 0 _ rfl
  have hcls := (hK.1.1 ci _ hcl).2
  obtain ⟨kA, comp, k1, k2, k3, -⟩ := (hK.1.2 t _ ht).2
  have hcomp : comp = (zD z).1 ci := Option.some.inj (k3.symm.trans hcls.1)
  subst hcomp
  obtain ⟨kC, hkC, -⟩ := hcls.2
  refine W.aast hx hb ((hW.cell hp (am_ar hk hkd)) 0 _ rfl) (fun q h => by cases h) (fun h => by cases h) k1 k2 rfl hkC ⟨h0, by show _ < (arrV _ _ _).slots.size; rw [arrV_size]; exact hlt⟩ g1 (fun q h => by rw [g3] at h; cases h) (by rw [g2]; exact hkC) (by rw [g2]; exact va_assign hcls) rfl rfl hd fun H1 e e2 e3 => ?_
  refine kk ls H1 _ hl (hW.up rfl (fun q hq => am_cell_c rfl rfl rfl rfl (fun j => setR_g hq j)) e2 e3 ?_) (am_locs hL)
  rw [am_ar (show gK (setR G p (va_up (gR G p) i.toNatClampNeg (some r))) p = kd from hk) hkd]
  show H1[(zB z).size + p]? = some (vp_cell _ _)
  rw [e, vp_cell_q, vp_cell_q, arrV_store]
  congr 2
  funext q
  rw [setR_s]
  by_cases hq : q = i.toNatClampNeg
  · subst hq
    simp [updV, va_up, va_rf]
  · simp [updV, va_up, hq]
theorem am_ifnn (hz : Ok z cc own nL) {x : Nat} {off : Int} {tgt : Nat} (hd : decode cc pc = .ok (.ifnonnull off, 3)) (ht : (pc : Int) + off = (tgt : Int)) (kk : Wx z ce sl tgt lv rest G I L) : Wx z ce sl pc lv (.ref x :: rest) G I L :=
  fun ls H locs a b c => lv_ifnonnull hz.1 hz.2.1 hd ht (kk ls H locs a b c)
theorem am_ifnnN (hz : Ok z cc own nL) {off : Int} (hd : decode cc pc = .ok (.ifnonnull off, 3)) (kk : Wx z ce sl (pc + 3) lv rest G I L) : Wx z ce sl pc lv (.null :: rest) G I L :=
  fun ls H locs a b c => lv_ifnonnullN hz.1 hz.2.1 hd (kk ls H locs a b c)
theorem am_null (hz : Ok z cc own nL) (hd : decode cc pc = .ok (.aconst_null, 1)) (kk : Wx z ce sl (pc + 1) lv (.null :: rest) G I L) : Wx z ce sl pc lv rest G I L :=
  fun ls H locs a b c => lv_null hz.1 hz.2.1 hd (kk ls H locs a b c)
theorem am_astore_nN (hz : Ok z cc own nL) {k : Fin 4} {i : Nat} {lv' : List (Nat × Value)} (hd : decode cc pc = .ok (.astore_n k, 1)) (hi : (k : Nat) = i) (hn : Nat.blt i nL = true) (hl : lvs1 lv i .null = lv') (kk : Wx z ce sl (pc + 1) lv' rest G I L) : Wx z ce sl pc lv (.null :: rest) G I L :=
  fun ls H locs h1 h2 h3 => lv_astore_nN hz.1 hz.2.1 hd hi h1 (by rw [hz.2.2.1]; exact Nat.le_of_ble_eq_true hn) hl (fun ls' h1' => kk ls' H locs h1' h2 h3)
theorem am_aload_nN (hz : Ok z cc own nL) {k : Fin 4} {i : Nat} (hd : decode cc pc = .ok (.aload_n k, 1)) (j : Nat) (hj : lv[j]? = some (i, .null)) (hi : (k : Nat) = i) (kk : Wx z ce sl (pc + 1) lv (.null :: rest) G I L) : Wx z ce sl pc lv rest G I L :=
  fun ls H locs h1 h2 h3 => lv_aload_nN hz.1 hz.2.1 hd hi (lv_at h1 j hj) (kk ls H locs h1 h2 h3)
theorem am_areturn {d mc ms : Nat} {post : amP} {C : String} (hz : Go z cc own nL (some (.object C)) d mc ms post) {v : Value} (hv : v = .null ∨ ∃ a, v = .ref a) (hd : decode cc pc = .ok (.areturn, 1)) (h : post (some v) G I L) : Wx z mc ms pc lv [v] G I L := by
  intro ls H locs h1 h2 h3
  rw [hz.2.2.2.2]
  exact W.aret hz.1.1 hz.1.2.1 hz.2.2.1 (Or.inl ⟨C, rfl⟩) hv (fun t ht _ => ⟨_, G, I, L, rfl, h, by rw [ht]; exact h2⟩) h3 hd hz.2.2.2.1
theorem am_oinit (hz : Ok z cc own nL) {a idx : Nat} (h1 : Cond.methodLink own idx Lib.objectInit ∈ TT) (h2 : Cond.instanceMethod Lib.objectInit ∈ TT) (h3 : Cond.code Lib.objectInit ⟨#[0xb1]⟩ 1 none ∈ TT) (hr : 1 ≤ (zR z).frames) (hr2 : (rest.map fun v => v.category).sum + 12 ≤ (zR z).locals) (hd : decode cc pc = .ok (.invokespecial idx, 3)) (kk : Wx z ce sl (pc + 3) lv rest G I L) : Wx z ce sl pc lv (.ref a :: rest) G I L :=
  fun ls H locs g1 g2 g3 => W.objInit hz.1 hz.2.1 hz.2.2.2.1 (hz.2.2.2.2.1 _ h1) (hz.2.2.2.2.1 _ h2) (hz.2.2.2.2.1 _ h3) rfl g1.1 rfl hd hr (by show 2 * 0 + _ + 12 ≤ _; omega) (kk ls H locs g1 g2 g3)
end AL1
/-- a constructor, as a class's pool names it -/
def CI (own : String) (index : Nat) (y : MethodName) (bytes : ByteArray) (maxL n : Nat) : Prop :=
  Cond.methodLink own index y ∈ TT ∧ Cond.instanceMethod y ∈ TT ∧ Cond.initialized y.cls ∈ TT ∧ Cond.code y bytes maxL none ∈ TT ∧ (y.cls ≠ "java/lang/invoke/MethodHandle" ∧ y.cls ≠ "java/lang/invoke/VarHandle" ∧ (parseMethodDescriptor y.desc).map (fun d => d.parameters.length) = some n) ∧ y.name = "<init>" ∧ maxL ≤ 80
/-- a private one of a nest mate -/
def CIN (own : String) (index : Nat) (y : MethodName) (host : String) (bytes : ByteArray) (maxL n : Nat) : Prop :=
  (∀ s, am_NW s → va_Nw (.methodLinkNest own index y host) s) ∧ Cond.instanceMethod y ∈ TT ∧ Cond.initialized y.cls ∈ TT ∧ Cond.code y bytes maxL none ∈ TT ∧ (y.cls ≠ "java/lang/invoke/MethodHandle" ∧ y.cls ≠ "java/lang/invoke/VarHandle" ∧ (parseMethodDescriptor y.desc).map (fun d => d.parameters.length) = some n) ∧ y.name = "<init>" ∧ maxL ≤ 80
section AL2
variable {z : amZ} {cc : ByteArray} {own : String} {nL ce sl pc : Nat} {lv : List (Nat × Value)} {G : amG} {I : amI} {L : amL}
theorem am_callI (hz : Ok z cc own nL) {index o n d mc ms maxL : Nat} {y : MethodName} {bytes : ByteArray} {post : amP} (cv : CI own index y bytes maxL n) (As rest : List Value) {st : List Value}
    (hM : Mx (zL z) (zD z) (zB z) y bytes maxL none d mc ms (.ref ((zB z).size + o) :: As) G I L post)
    (hs : st = As.reverse ++ .ref ((zB z).size + o) :: rest) (hn : As.length = n) (hR1 : d + 1 ≤ (zR z).frames) (hR2 : 100 * d + 99 ≤ (zR z).locals) (hR3 : ce + mc ≤ (zR z).cells ∧ sl + ms ≤ (zR z).slots) (hc : (rest.map fun v => v.category).sum ≤ 8) (hd : decode cc pc = .ok (.invokespecial index, 3))
    (kk : ∀ (ro : Option Value) (G' : amG) (I' : amI) (L' : amL), post ro G' I' L' → Wx z (ce + mc) (sl + ms) (pc + 3) lv (ro.toList ++ rest) G' I' L') : Wx z ce sl pc lv st G I L := by
  intro ls H locs h1 h2 h3
  subst hs
  obtain ⟨c1, c2, c4, c5, c6, c8, c7⟩ := cv
  obtain ⟨hx, hb, hml, hown, hts, hK, hB⟩ := hz
  refine am_run (va_runI (As := As) (rest := rest) (Ts := TT) (nL := nL) (n := n) ⟨hx, hb, hml, hown, hts⟩ hM ⟨callB_of n hts (tt_GoodIn c5) rfl rfl rfl (hts _ c4) (hts _ c1) c6 ⟨hR1, by show 8 + (maxL + 11) + 100 * d ≤ _; omega⟩, c8, hts _ c2⟩ ⟨am_blind, fun U hU hW => ⟨rfl, by rw [hU]; exact h2, hK.warm hW⟩⟩ rfl hn (h1.1.trans hml) rfl (lv_room hc) hd hR3) h1 h3 kk
theorem am_callIN (hz : Ok z cc own nL) {index o n d mc ms maxL : Nat} {y : MethodName} {host : String} {bytes : ByteArray} {post : amP} (cv : CIN own index y host bytes maxL n) (As rest : List Value) {st : List Value}
    (hM : Mx (zL z) (zD z) (zB z) y bytes maxL none d mc ms (.ref ((zB z).size + o) :: As) G I L post)
    (hs : st = As.reverse ++ .ref ((zB z).size + o) :: rest) (hn : As.length = n) (hR1 : d + 1 ≤ (zR z).frames) (hR2 : 100 * d + 99 ≤ (zR z).locals) (hR3 : ce + mc ≤ (zR z).cells ∧ sl + ms ≤ (zR z).slots) (hc : (rest.map fun v => v.category).sum ≤ 8) (hd : decode cc pc = .ok (.invokespecial index, 3))
    (kk : ∀ (ro : Option Value) (G' : amG) (I' : amI) (L' : amL), post ro G' I' L' → Wx z (ce + mc) (sl + ms) (pc + 3) lv (ro.toList ++ rest) G' I' L') : Wx z ce sl pc lv st G I L := by
  intro ls H locs h1 h2 h3
  subst hs
  obtain ⟨c1, c2, c4, c5, c6, c8, c7⟩ := cv
  obtain ⟨hx, hb, hml, hown, hts, hK, hB⟩ := hz
  refine am_run (va_runIN (As := As) (rest := rest) (Ts := TT) (nL := nL) (n := n) ⟨hx, hb, hml, hown, hts⟩ hM ⟨va_cnB n hts (tt_GoodIn c5) rfl rfl rfl (c1 _ hK.2.1) (hts _ c4) c6 ⟨hR1, by show 8 + (maxL + 11) + 100 * d ≤ _; omega⟩, c8, hts _ c2⟩ ⟨am_blind, fun U hU hW => ⟨rfl, by rw [hU]; exact h2, hK.warm hW⟩⟩ rfl hn (h1.1.trans hml) rfl (lv_room hc) hd hR3) h1 h3 kk
end AL2
