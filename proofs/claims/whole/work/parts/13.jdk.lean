/-! THE JDK's SMALL METHODS: Math.max, Math.min, Integer.bitCount, Arrays.fill; System.arraycopy -/
theorem ml_X11_214 : Cond.methodLink RX11 214 arraycopyName ∈ TT := tt_of 730 (by decide +kernel) rfl
theorem ml_X4_61 : Cond.methodLink RX4 61 arraycopyName ∈ TT := tt_of 831 (by decide +kernel) rfl
theorem ml_X0_42 : Cond.methodLink RX0 42 arraycopyName ∈ TT := tt_of 901 (by decide +kernel) rfl
theorem ml_X5_34 : Cond.methodLink RX5 34 arraycopyName ∈ TT := tt_of 1113 (by decide +kernel) rfl
theorem ml_nat : Cond.native arraycopyName ∈ TT := tt_of 732 (by decide +kernel) rfl
theorem ml_sta : Cond.static arraycopyName ∈ TT := tt_of 731 (by decide +kernel) rfl
theorem ml_ini : Cond.initialized "java/lang/System" ∈ TT := tt_of 170 (by decide +kernel) rfl
section AM7
variable {z : amZ} {cc : ByteArray} {own : String} {nL ce sl pc d0 mc0 ms0 : Nat} {lv : List (Nat × Value)} {G : amG} {I : amI} {L : amL} {post0 : amP} {ret0 : Option FieldType} {rest : List Value}
theorem am_nn : ∀ z : Int32, ¬ z < 0 → z.toInt = (z.toNatClampNeg : Int) := by
  intro z hz
  have hz0 : (0 : Int) ≤ z.toInt := by
    have := Int32.not_lt.mp hz
    simpa using Int32.le_iff_toInt_le.mp this
  show z.toInt = ((z.toInt.toNat : Nat) : Int)
  omega
theorem am_copyI (hz : Go z cc own nL ret0 d0 mc0 ms0 post0) {index src dst : Nat} {sp dp n : Int32} (ml : Cond.methodLink own index arraycopyName ∈ TT) (hs : src < gN G) (hks : gK G src = 50) (hd : dst < gN G) (hkd : gK G dst = 50) (h1 : ¬ sp < 0) (h2 : ¬ dp < 0) (h3 : ¬ n < 0) (h4 : sp.toNatClampNeg + n.toNatClampNeg ≤ gL G src) (h5 : dp.toNatClampNeg + n.toNatClampNeg ≤ gL G dst) (hr : Nat.ble 1 d0 = true) (hc : (rest.map fun v => v.category).sum ≤ 8) (hdg : decode cc pc = .ok (.invokestatic index, 3)) (kk : Wx z ce sl (pc + 3) lv rest G (setI I dst (va_cpy (I src) (I dst) sp.toNatClampNeg dp.toNatClampNeg n.toNatClampNeg)) L) : Wx z ce sl pc lv (.int n :: .int dp :: .ref ((zB z).size + dst) :: .int sp :: .ref ((zB z).size + src) :: rest) G I L := by
  intro ls H locs hl hW hL T hT X
  obtain ⟨hx, hb, hml, hown, hts, hK, hB⟩ := hz.1
  have hc0 : H[(zB z).size + src]? = some (vp_cell ((zD z).1 50) (gL G src, .inl (I src))) := (hW.cell hs (am_ai hks)) 0 _ rfl
  have hc1 : H[(zB z).size + dst]? = some (vp_cell ((zD z).1 50) (gL G dst, .inl (I dst))) := (hW.cell hd (am_ai hkd)) 0 _ rfl
  obtain ⟨-, k0, hk0, cm0, hkk0⟩ := (hK.1.2 0 _ rfl).1 (gL G src) (fun j => .int (I src j))
  obtain ⟨-, k1, hk1, cm1, hkk1⟩ := (hK.1.2 0 _ rfl).1 (gL G dst) (fun j => .int (I dst j))
  have hfr : 1 ≤ (zR z).frames := by rw [hz.2.1]; exact Nat.le_of_ble_eq_true hr
  have hlo : (rest.map fun v => v.category).sum + (nativeFrameWords "java/lang/System" "arraycopy" 5 + 11) ≤ (zR z).locals := by
    rw [hz.2.1]
    have h9 := Nat.le_of_ble_eq_true hr
    have h8 : nativeFrameWords "java/lang/System" "arraycopy" 5 + 11 = 18 := by decide
    rw [h8]
    show _ ≤ 100 * d0
    omega
  obtain ⟨vm', X', step⟩ := X.arraycopy hx hown (hts _ ml) (hts _ ml_nat) (hts _ ml_sta) (hts _ ml_ini) (src := (zB z).size + src) (dst := (zB z).size + dst) (cs := vp_cell ((zD z).1 50) (gL G src, .inl (I src))) (cd := vp_cell ((zD z).1 50) (gL G dst, .inl (I dst))) (srcPos := sp) (destPos := dp) (n := n) (by rw [hT]; exact hc0) (by rw [hT]; exact hc1)
    (fun _ h => by cases h) (fun _ h => by cases h) (fun h => by cases h) (fun h => by cases h) hk0 hk1 hkk0 hkk1 (by simp [refKind]) h1 h2 h3
    (by rw [am_nn sp h1, am_nn n h3]; show ¬ _ > ((arrV ((zD z).1 50) (gL G src) (fun j => .int (I src j))).slots.size : Int); rw [arrV_size]; omega)
    (by rw [am_nn dp h2, am_nn n h3]; show ¬ _ > ((arrV ((zD z).1 50) (gL G dst) (fun j => .int (I dst j))).slots.size : Int); rw [arrV_size]; omega)
    (fun vm₁ _ i hi => by
      have e : (vp_cell ((zD z).1 50) (gL G src, .inl (I src))).slots.getD (sp.toNatClampNeg + i) .null = .int (I src (sp.toNatClampNeg + i)) := by
        show (arrV ((zD z).1 50) (gL G src) (fun j => .int (I src j))).slots.getD _ _ = _
        rw [Array.getD_eq_getD_getElem?, arrV_read _ _ (by omega)]
        rfl
      refine ⟨?_, ?_⟩
      · rw [e]
        rfl
      · rw [e]
        exact trivial)
    (g := F0 (zM z) pc ls (.int n :: .int dp :: .ref ((zB z).size + dst) :: .int sp :: .ref ((zB z).size + src) :: rest)) rfl hl.1 (rest := rest) rfl (by rw [hb]; exact hdg) hfr (by show 2 * 0 + _ + _ ≤ _; omega)
  have e1 : copied (vp_cell ((zD z).1 50) (gL G src, .inl (I src))) (vp_cell ((zD z).1 50) (gL G dst, .inl (I dst))) sp dp n = vp_cell ((zD z).1 50) (gL G dst, .inl (va_cpy (I src) (I dst) sp.toNatClampNeg dp.toNatClampNeg n.toNatClampNeg)) := va_copied (fun z => .int z) _ _ (I src) (I dst) h4
  rw [e1] at X' step
  have hlt : (zB z).size + dst < H.size := (Array.getElem?_eq_some_iff.mp hc1).1
  have oq : ∀ q : Nat, q ≠ (zB z).size + dst → (H.setIfInBounds ((zB z).size + dst) (vp_cell ((zD z).1 50) (gL G dst, .inl (va_cpy (I src) (I dst) sp.toNatClampNeg dp.toNatClampNeg n.toNatClampNeg))))[q]? = H[q]? := fun q hq => by simp [Array.getElem?_setIfInBounds, Ne.symm hq]
  have hheap : ((T.setVm vm').setCell ((zB z).size + dst) (vp_cell ((zD z).1 50) (gL G dst, .inl (va_cpy (I src) (I dst) sp.toNatClampNeg dp.toNatClampNeg n.toNatClampNeg)))).heap = H.setIfInBounds ((zB z).size + dst) (vp_cell ((zD z).1 50) (gL G dst, .inl (va_cpy (I src) (I dst) sp.toNatClampNeg dp.toNatClampNeg n.toNatClampNeg))) := by rw [← hT]; rfl
  obtain ⟨t, a1, b1⟩ := kk ls _ _ hl (hW.up rfl (fun q hq => am_cell_c rfl rfl (setI_n hq) rfl (fun _ => rfl)) (by simp) oq (by rw [am_ai hkd, setI_s]; show (H.setIfInBounds ((zB z).size + dst) _)[(zB z).size + dst]? = some _; simp [Array.getElem?_setIfInBounds, hlt])) (fun q hq => by
      rcases List.mem_append.mp hq with h | h
      · exact hL q h
      · obtain ⟨w, -, hw⟩ := List.mem_map.mp h
        rw [← hw]
        exact Nat.le_add_right _ _) _ hheap X'
  exact ⟨t, step t a1, b1⟩
theorem am_copyL (hz : Go z cc own nL ret0 d0 mc0 ms0 post0) {index src dst : Nat} {sp dp n : Int32} (ml : Cond.methodLink own index arraycopyName ∈ TT) (hs : src < gN G) (hks : gK G src = 52) (hd : dst < gN G) (hkd : gK G dst = 52) (h1 : ¬ sp < 0) (h2 : ¬ dp < 0) (h3 : ¬ n < 0) (h4 : sp.toNatClampNeg + n.toNatClampNeg ≤ gL G src) (h5 : dp.toNatClampNeg + n.toNatClampNeg ≤ gL G dst) (hr : Nat.ble 1 d0 = true) (hc : (rest.map fun v => v.category).sum ≤ 8) (hdg : decode cc pc = .ok (.invokestatic index, 3)) (kk : Wx z ce sl (pc + 3) lv rest G I (setL L dst (va_cpy (L src) (L dst) sp.toNatClampNeg dp.toNatClampNeg n.toNatClampNeg))) : Wx z ce sl pc lv (.int n :: .int dp :: .ref ((zB z).size + dst) :: .int sp :: .ref ((zB z).size + src) :: rest) G I L := by
  intro ls H locs hl hW hL T hT X
  obtain ⟨hx, hb, hml, hown, hts, hK, hB⟩ := hz.1
  have hc0 : H[(zB z).size + src]? = some (vp_cell ((zD z).1 52) (gL G src, .inr (.inl (L src)))) := (hW.cell hs (am_al hks)) 0 _ rfl
  have hc1 : H[(zB z).size + dst]? = some (vp_cell ((zD z).1 52) (gL G dst, .inr (.inl (L dst)))) := (hW.cell hd (am_al hkd)) 0 _ rfl
  obtain ⟨-, k0, hk0, cm0, hkk0⟩ := (hK.1.2 2 _ rfl).1 (gL G src) (fun j => .long (L src j))
  obtain ⟨-, k1, hk1, cm1, hkk1⟩ := (hK.1.2 2 _ rfl).1 (gL G dst) (fun j => .long (L dst j))
  have hfr : 1 ≤ (zR z).frames := by rw [hz.2.1]; exact Nat.le_of_ble_eq_true hr
  have hlo : (rest.map fun v => v.category).sum + (nativeFrameWords "java/lang/System" "arraycopy" 5 + 11) ≤ (zR z).locals := by
    rw [hz.2.1]
    have h9 := Nat.le_of_ble_eq_true hr
    have h8 : nativeFrameWords "java/lang/System" "arraycopy" 5 + 11 = 18 := by decide
    rw [h8]
    show _ ≤ 100 * d0
    omega
  obtain ⟨vm', X', step⟩ := X.arraycopy hx hown (hts _ ml) (hts _ ml_nat) (hts _ ml_sta) (hts _ ml_ini) (src := (zB z).size + src) (dst := (zB z).size + dst) (cs := vp_cell ((zD z).1 52) (gL G src, .inr (.inl (L src)))) (cd := vp_cell ((zD z).1 52) (gL G dst, .inr (.inl (L dst)))) (srcPos := sp) (destPos := dp) (n := n) (by rw [hT]; exact hc0) (by rw [hT]; exact hc1)
    (fun _ h => by cases h) (fun _ h => by cases h) (fun h => by cases h) (fun h => by cases h) hk0 hk1 hkk0 hkk1 (by simp [refKind]) h1 h2 h3
    (by rw [am_nn sp h1, am_nn n h3]; show ¬ _ > ((arrV ((zD z).1 52) (gL G src) (fun j => .long (L src j))).slots.size : Int); rw [arrV_size]; omega)
    (by rw [am_nn dp h2, am_nn n h3]; show ¬ _ > ((arrV ((zD z).1 52) (gL G dst) (fun j => .long (L dst j))).slots.size : Int); rw [arrV_size]; omega)
    (fun vm₁ _ i hi => by
      have e : (vp_cell ((zD z).1 52) (gL G src, .inr (.inl (L src)))).slots.getD (sp.toNatClampNeg + i) .null = .long (L src (sp.toNatClampNeg + i)) := by
        show (arrV ((zD z).1 52) (gL G src) (fun j => .long (L src j))).slots.getD _ _ = _
        rw [Array.getD_eq_getD_getElem?, arrV_read _ _ (by omega)]
        rfl
      refine ⟨?_, ?_⟩
      · rw [e]
        rfl
      · rw [e]
        exact trivial)
    (g := F0 (zM z) pc ls (.int n :: .int dp :: .ref ((zB z).size + dst) :: .int sp :: .ref ((zB z).size + src) :: rest)) rfl hl.1 (rest := rest) rfl (by rw [hb]; exact hdg) hfr (by show 2 * 0 + _ + _ ≤ _; omega)
  have e1 : copied (vp_cell ((zD z).1 52) (gL G src, .inr (.inl (L src)))) (vp_cell ((zD z).1 52) (gL G dst, .inr (.inl (L dst)))) sp dp n = vp_cell ((zD z).1 52) (gL G dst, .inr (.inl (va_cpy (L src) (L dst) sp.toNatClampNeg dp.toNatClampNeg n.toNatClampNeg))) := va_copied (fun z => .long z) _ _ (L src) (L dst) h4
  rw [e1] at X' step
  have hlt : (zB z).size + dst < H.size := (Array.getElem?_eq_some_iff.mp hc1).1
  have oq : ∀ q : Nat, q ≠ (zB z).size + dst → (H.setIfInBounds ((zB z).size + dst) (vp_cell ((zD z).1 52) (gL G dst, .inr (.inl (va_cpy (L src) (L dst) sp.toNatClampNeg dp.toNatClampNeg n.toNatClampNeg)))))[q]? = H[q]? := fun q hq => by simp [Array.getElem?_setIfInBounds, Ne.symm hq]
  have hheap : ((T.setVm vm').setCell ((zB z).size + dst) (vp_cell ((zD z).1 52) (gL G dst, .inr (.inl (va_cpy (L src) (L dst) sp.toNatClampNeg dp.toNatClampNeg n.toNatClampNeg))))).heap = H.setIfInBounds ((zB z).size + dst) (vp_cell ((zD z).1 52) (gL G dst, .inr (.inl (va_cpy (L src) (L dst) sp.toNatClampNeg dp.toNatClampNeg n.toNatClampNeg)))) := by rw [← hT]; rfl
  obtain ⟨t, a1, b1⟩ := kk ls _ _ hl (hW.up rfl (fun q hq => am_cell_c rfl rfl rfl (setL_n hq) (fun _ => rfl)) (by simp) oq (by rw [am_al hkd, setL_s]; show (H.setIfInBounds ((zB z).size + dst) _)[(zB z).size + dst]? = some _; simp [Array.getElem?_setIfInBounds, hlt])) (fun q hq => by
      rcases List.mem_append.mp hq with h | h
      · exact hL q h
      · obtain ⟨w, -, hw⟩ := List.mem_map.mp h
        rw [← hw]
        exact Nat.le_add_right _ _) _ hheap X'
  exact ⟨t, step t a1, b1⟩
end AM7
/-- the first n of f made x -/
def q_fill {α : Type} (f : Nat → α) (n : Nat) (x : α) : Nat → α := fun j => if j < n then x else f j
def q_bc (x : Int32) : Int32 :=
  (fun (a : Int32) => (fun (b : Int32) => (fun (c : Int32) => (fun (d : Int32) => (d + (d.toUInt32 >>> ((16 : Int32).toUInt32 &&& Int32.toUInt32 31)).toInt32) &&& 63) (c + (c.toUInt32 >>> ((8 : Int32).toUInt32 &&& Int32.toUInt32 31)).toInt32)) ((b + (b.toUInt32 >>> ((4 : Int32).toUInt32 &&& Int32.toUInt32 31)).toInt32) &&& 252645135)) ((a &&& 858993459) + ((a.toUInt32 >>> ((2 : Int32).toUInt32 &&& Int32.toUInt32 31)).toInt32 &&& 858993459))) (x - ((x.toUInt32 >>> ((1 : Int32).toUInt32 &&& Int32.toUInt32 31)).toInt32 &&& 1431655765))
section AM8
variable {z : amZ} {cc : ByteArray} {own : String} {nL ce sl pc d0 mc0 ms0 : Nat} {lv : List (Nat × Value)} {G : amG} {I : amI} {L : amL} {post0 : amP} {ret0 : Option FieldType} {rest : List Value}
theorem am_mmax (hz : Go z cc own nL ret0 d0 mc0 ms0 post0) {index : Nat} {x y : Int32} (ct : CT own index Lib.Math.max.name Lib.Math.max.code 2 (some .int) 2) (hr : Nat.ble 1 d0 = true) (hR3 : ce ≤ mc0 ∧ sl ≤ ms0) (hc : (rest.map fun v => v.category).sum ≤ 8) (hd : decode cc pc = .ok (.invokestatic index, 3)) (kk : Wx z ce sl (pc + 3) lv (.int (if x < y then y else x) :: rest) G I L) : Wx z ce sl pc lv (.int y :: .int x :: rest) G I L := by
  intro ls H locs h1 h2 h3
  have h9 := Nat.le_of_ble_eq_true hr
  exact va_mmax hz.1.1 hz.1.2.1 (by rw [h1.1]) hz.1.2.2.2.1 (hz.1.2.2.2.2.1 _ ct.1) (hz.1.2.2.2.2.1 _ ct.2.1) (hz.1.2.2.2.2.1 _ ct.2.2.1) (hz.1.2.2.2.2.1 _ ct.2.2.2.1) (by rw [hz.2.1]; exact h9) (by rw [hz.2.1]; show _ ≤ 100 * d0; omega) (by rw [hz.2.1]; exact hR3.1) (by rw [hz.2.1]; exact hR3.2) hd (kk ls H locs h1 h2 h3)
theorem am_mmin (hz : Go z cc own nL ret0 d0 mc0 ms0 post0) {index : Nat} {x y : Int32} (ct : CT own index Lib.Math.min.name Lib.Math.min.code 2 (some .int) 2) (hr : Nat.ble 1 d0 = true) (hR3 : ce ≤ mc0 ∧ sl ≤ ms0) (hc : (rest.map fun v => v.category).sum ≤ 8) (hd : decode cc pc = .ok (.invokestatic index, 3)) (kk : Wx z ce sl (pc + 3) lv (.int (if y < x then y else x) :: rest) G I L) : Wx z ce sl pc lv (.int y :: .int x :: rest) G I L := by
  intro ls H locs h1 h2 h3
  have h9 := Nat.le_of_ble_eq_true hr
  exact va_mmin hz.1.1 hz.1.2.1 (by rw [h1.1]) hz.1.2.2.2.1 (hz.1.2.2.2.2.1 _ ct.1) (hz.1.2.2.2.2.1 _ ct.2.1) (hz.1.2.2.2.2.1 _ ct.2.2.1) (hz.1.2.2.2.2.1 _ ct.2.2.2.1) (by rw [hz.2.1]; exact h9) (by rw [hz.2.1]; show _ ≤ 100 * d0; omega) (by rw [hz.2.1]; exact hR3.1) (by rw [hz.2.1]; exact hR3.2) hd (kk ls H locs h1 h2 h3)
end AM8
set_option maxRecDepth 100000 in
set_option maxHeartbeats 4000000 in
theorem b_J6_bitCount_0f7a4_0 {z : amZ} {post : amP} {G : amG} {I : amI} {L : amL} (hz : Go z cJ6_bitCount_0f7a4 RJ6 1 (some .int) 0 0 0 post) (hG : Lay G) {v0 : Int32} (h : post (some (.int ((((((((v0 - (((v0.toUInt32 >>> ((1 : Int32).toUInt32 &&& Int32.toUInt32 31)).toInt32) &&& (1431655765 : Int32))) &&& (858993459 : Int32)) + ((((v0 - (((v0.toUInt32 >>> ((1 : Int32).toUInt32 &&& Int32.toUInt32 31)).toInt32) &&& (1431655765 : Int32))).toUInt32 >>> ((2 : Int32).toUInt32 &&& Int32.toUInt32 31)).toInt32) &&& (858993459 : Int32))) + (((((v0 - (((v0.toUInt32 >>> ((1 : Int32).toUInt32 &&& Int32.toUInt32 31)).toInt32) &&& (1431655765 : Int32))) &&& (858993459 : Int32)) + ((((v0 - (((v0.toUInt32 >>> ((1 : Int32).toUInt32 &&& Int32.toUInt32 31)).toInt32) &&& (1431655765 : Int32))).toUInt32 >>> ((2 : Int32).toUInt32 &&& Int32.toUInt32 31)).toInt32) &&& (858993459 : Int32))).toUInt32 >>> ((4 : Int32).toUInt32 &&& Int32.toUInt32 31)).toInt32)) &&& (252645135 : Int32)) + (((((((v0 - (((v0.toUInt32 >>> ((1 : Int32).toUInt32 &&& Int32.toUInt32 31)).toInt32) &&& (1431655765 : Int32))) &&& (858993459 : Int32)) + ((((v0 - (((v0.toUInt32 >>> ((1 : Int32).toUInt32 &&& Int32.toUInt32 31)).toInt32) &&& (1431655765 : Int32))).toUInt32 >>> ((2 : Int32).toUInt32 &&& Int32.toUInt32 31)).toInt32) &&& (858993459 : Int32))) + (((((v0 - (((v0.toUInt32 >>> ((1 : Int32).toUInt32 &&& Int32.toUInt32 31)).toInt32) &&& (1431655765 : Int32))) &&& (858993459 : Int32)) + ((((v0 - (((v0.toUInt32 >>> ((1 : Int32).toUInt32 &&& Int32.toUInt32 31)).toInt32) &&& (1431655765 : Int32))).toUInt32 >>> ((2 : Int32).toUInt32 &&& Int32.toUInt32 31)).toInt32) &&& (858993459 : Int32))).toUInt32 >>> ((4 : Int32).toUInt32 &&& Int32.toUInt32 31)).toInt32)) &&& (252645135 : Int32)).toUInt32 >>> ((8 : Int32).toUInt32 &&& Int32.toUInt32 31)).toInt32)) + ((((((((v0 - (((v0.toUInt32 >>> ((1 : Int32).toUInt32 &&& Int32.toUInt32 31)).toInt32) &&& (1431655765 : Int32))) &&& (858993459 : Int32)) + ((((v0 - (((v0.toUInt32 >>> ((1 : Int32).toUInt32 &&& Int32.toUInt32 31)).toInt32) &&& (1431655765 : Int32))).toUInt32 >>> ((2 : Int32).toUInt32 &&& Int32.toUInt32 31)).toInt32) &&& (858993459 : Int32))) + (((((v0 - (((v0.toUInt32 >>> ((1 : Int32).toUInt32 &&& Int32.toUInt32 31)).toInt32) &&& (1431655765 : Int32))) &&& (858993459 : Int32)) + ((((v0 - (((v0.toUInt32 >>> ((1 : Int32).toUInt32 &&& Int32.toUInt32 31)).toInt32) &&& (1431655765 : Int32))).toUInt32 >>> ((2 : Int32).toUInt32 &&& Int32.toUInt32 31)).toInt32) &&& (858993459 : Int32))).toUInt32 >>> ((4 : Int32).toUInt32 &&& Int32.toUInt32 31)).toInt32)) &&& (252645135 : Int32)) + (((((((v0 - (((v0.toUInt32 >>> ((1 : Int32).toUInt32 &&& Int32.toUInt32 31)).toInt32) &&& (1431655765 : Int32))) &&& (858993459 : Int32)) + ((((v0 - (((v0.toUInt32 >>> ((1 : Int32).toUInt32 &&& Int32.toUInt32 31)).toInt32) &&& (1431655765 : Int32))).toUInt32 >>> ((2 : Int32).toUInt32 &&& Int32.toUInt32 31)).toInt32) &&& (858993459 : Int32))) + (((((v0 - (((v0.toUInt32 >>> ((1 : Int32).toUInt32 &&& Int32.toUInt32 31)).toInt32) &&& (1431655765 : Int32))) &&& (858993459 : Int32)) + ((((v0 - (((v0.toUInt32 >>> ((1 : Int32).toUInt32 &&& Int32.toUInt32 31)).toInt32) &&& (1431655765 : Int32))).toUInt32 >>> ((2 : Int32).toUInt32 &&& Int32.toUInt32 31)).toInt32) &&& (858993459 : Int32))).toUInt32 >>> ((4 : Int32).toUInt32 &&& Int32.toUInt32 31)).toInt32)) &&& (252645135 : Int32)).toUInt32 >>> ((8 : Int32).toUInt32 &&& Int32.toUInt32 31)).toInt32)).toUInt32 >>> ((16 : Int32).toUInt32 &&& Int32.toUInt32 31)).toInt32)) &&& (63 : Int32)))) G I L) : Wx z 0 0 0 [(0, .int v0)] [] G I L := by
  have hz1 := hz.1
  refine am_iload_n hz1 dJ6_bitCount_0f7a4_0 0 rfl rfl ?_
  refine am_iload_n hz1 dJ6_bitCount_0f7a4_1 0 rfl rfl ?_
  refine am_iconst (v := 1) hz1 dJ6_bitCount_0f7a4_2 (by decide) ?_
  refine am_iushr hz1 dJ6_bitCount_0f7a4_3 ?_
  refine am_ldcw hz1 kc_J6_265 dJ6_bitCount_0f7a4_4 ?_
  refine am_iand hz1 dJ6_bitCount_0f7a4_7 ?_
  refine am_isub hz1 dJ6_bitCount_0f7a4_8 ?_
  refine am_istore_n (lv' := [(0, .int (v0 - (((v0.toUInt32 >>> ((1 : Int32).toUInt32 &&& Int32.toUInt32 31)).toInt32) &&& (1431655765 : Int32))))]) hz1 dJ6_bitCount_0f7a4_9 rfl rfl rfl ?_
  refine am_iload_n hz1 dJ6_bitCount_0f7a4_10 0 rfl rfl ?_
  refine am_ldcw hz1 kc_J6_266 dJ6_bitCount_0f7a4_11 ?_
  refine am_iand hz1 dJ6_bitCount_0f7a4_14 ?_
  refine am_iload_n hz1 dJ6_bitCount_0f7a4_15 0 rfl rfl ?_
  refine am_iconst (v := 2) hz1 dJ6_bitCount_0f7a4_16 (by decide) ?_
  refine am_iushr hz1 dJ6_bitCount_0f7a4_17 ?_
  refine am_ldcw hz1 kc_J6_266 dJ6_bitCount_0f7a4_18 ?_
  refine am_iand hz1 dJ6_bitCount_0f7a4_21 ?_
  refine am_iadd hz1 dJ6_bitCount_0f7a4_22 ?_
  refine am_istore_n (lv' := [(0, .int (((v0 - (((v0.toUInt32 >>> ((1 : Int32).toUInt32 &&& Int32.toUInt32 31)).toInt32) &&& (1431655765 : Int32))) &&& (858993459 : Int32)) + ((((v0 - (((v0.toUInt32 >>> ((1 : Int32).toUInt32 &&& Int32.toUInt32 31)).toInt32) &&& (1431655765 : Int32))).toUInt32 >>> ((2 : Int32).toUInt32 &&& Int32.toUInt32 31)).toInt32) &&& (858993459 : Int32))))]) hz1 dJ6_bitCount_0f7a4_23 rfl rfl rfl ?_
  refine am_iload_n hz1 dJ6_bitCount_0f7a4_24 0 rfl rfl ?_
  refine am_iload_n hz1 dJ6_bitCount_0f7a4_25 0 rfl rfl ?_
  refine am_iconst (v := 4) hz1 dJ6_bitCount_0f7a4_26 (by decide) ?_
  refine am_iushr hz1 dJ6_bitCount_0f7a4_27 ?_
  refine am_iadd hz1 dJ6_bitCount_0f7a4_28 ?_
  refine am_ldcw hz1 kc_J6_267 dJ6_bitCount_0f7a4_29 ?_
  refine am_iand hz1 dJ6_bitCount_0f7a4_32 ?_
  refine am_istore_n (lv' := [(0, .int (((((v0 - (((v0.toUInt32 >>> ((1 : Int32).toUInt32 &&& Int32.toUInt32 31)).toInt32) &&& (1431655765 : Int32))) &&& (858993459 : Int32)) + ((((v0 - (((v0.toUInt32 >>> ((1 : Int32).toUInt32 &&& Int32.toUInt32 31)).toInt32) &&& (1431655765 : Int32))).toUInt32 >>> ((2 : Int32).toUInt32 &&& Int32.toUInt32 31)).toInt32) &&& (858993459 : Int32))) + (((((v0 - (((v0.toUInt32 >>> ((1 : Int32).toUInt32 &&& Int32.toUInt32 31)).toInt32) &&& (1431655765 : Int32))) &&& (858993459 : Int32)) + ((((v0 - (((v0.toUInt32 >>> ((1 : Int32).toUInt32 &&& Int32.toUInt32 31)).toInt32) &&& (1431655765 : Int32))).toUInt32 >>> ((2 : Int32).toUInt32 &&& Int32.toUInt32 31)).toInt32) &&& (858993459 : Int32))).toUInt32 >>> ((4 : Int32).toUInt32 &&& Int32.toUInt32 31)).toInt32)) &&& (252645135 : Int32)))]) hz1 dJ6_bitCount_0f7a4_33 rfl rfl rfl ?_
  refine am_iload_n hz1 dJ6_bitCount_0f7a4_34 0 rfl rfl ?_
  refine am_iload_n hz1 dJ6_bitCount_0f7a4_35 0 rfl rfl ?_
  refine am_bipush (v := 8) hz1 dJ6_bitCount_0f7a4_36 (by decide) ?_
  refine am_iushr hz1 dJ6_bitCount_0f7a4_38 ?_
  refine am_iadd hz1 dJ6_bitCount_0f7a4_39 ?_
  refine am_istore_n (lv' := [(0, .int ((((((v0 - (((v0.toUInt32 >>> ((1 : Int32).toUInt32 &&& Int32.toUInt32 31)).toInt32) &&& (1431655765 : Int32))) &&& (858993459 : Int32)) + ((((v0 - (((v0.toUInt32 >>> ((1 : Int32).toUInt32 &&& Int32.toUInt32 31)).toInt32) &&& (1431655765 : Int32))).toUInt32 >>> ((2 : Int32).toUInt32 &&& Int32.toUInt32 31)).toInt32) &&& (858993459 : Int32))) + (((((v0 - (((v0.toUInt32 >>> ((1 : Int32).toUInt32 &&& Int32.toUInt32 31)).toInt32) &&& (1431655765 : Int32))) &&& (858993459 : Int32)) + ((((v0 - (((v0.toUInt32 >>> ((1 : Int32).toUInt32 &&& Int32.toUInt32 31)).toInt32) &&& (1431655765 : Int32))).toUInt32 >>> ((2 : Int32).toUInt32 &&& Int32.toUInt32 31)).toInt32) &&& (858993459 : Int32))).toUInt32 >>> ((4 : Int32).toUInt32 &&& Int32.toUInt32 31)).toInt32)) &&& (252645135 : Int32)) + (((((((v0 - (((v0.toUInt32 >>> ((1 : Int32).toUInt32 &&& Int32.toUInt32 31)).toInt32) &&& (1431655765 : Int32))) &&& (858993459 : Int32)) + ((((v0 - (((v0.toUInt32 >>> ((1 : Int32).toUInt32 &&& Int32.toUInt32 31)).toInt32) &&& (1431655765 : Int32))).toUInt32 >>> ((2 : Int32).toUInt32 &&& Int32.toUInt32 31)).toInt32) &&& (858993459 : Int32))) + (((((v0 - (((v0.toUInt32 >>> ((1 : Int32).toUInt32 &&& Int32.toUInt32 31)).toInt32) &&& (1431655765 : Int32))) &&& (858993459 : Int32)) + ((((v0 - (((v0.toUInt32 >>> ((1 : Int32).toUInt32 &&& Int32.toUInt32 31)).toInt32) &&& (1431655765 : Int32))).toUInt32 >>> ((2 : Int32).toUInt32 &&& Int32.toUInt32 31)).toInt32) &&& (858993459 : Int32))).toUInt32 >>> ((4 : Int32).toUInt32 &&& Int32.toUInt32 31)).toInt32)) &&& (252645135 : Int32)).toUInt32 >>> ((8 : Int32).toUInt32 &&& Int32.toUInt32 31)).toInt32)))]) hz1 dJ6_bitCount_0f7a4_40 rfl rfl rfl ?_
  refine am_iload_n hz1 dJ6_bitCount_0f7a4_41 0 rfl rfl ?_
  refine am_iload_n hz1 dJ6_bitCount_0f7a4_42 0 rfl rfl ?_
  refine am_bipush (v := 16) hz1 dJ6_bitCount_0f7a4_43 (by decide) ?_
  refine am_iushr hz1 dJ6_bitCount_0f7a4_45 ?_
  refine am_iadd hz1 dJ6_bitCount_0f7a4_46 ?_
  refine am_istore_n (lv' := [(0, .int (((((((v0 - (((v0.toUInt32 >>> ((1 : Int32).toUInt32 &&& Int32.toUInt32 31)).toInt32) &&& (1431655765 : Int32))) &&& (858993459 : Int32)) + ((((v0 - (((v0.toUInt32 >>> ((1 : Int32).toUInt32 &&& Int32.toUInt32 31)).toInt32) &&& (1431655765 : Int32))).toUInt32 >>> ((2 : Int32).toUInt32 &&& Int32.toUInt32 31)).toInt32) &&& (858993459 : Int32))) + (((((v0 - (((v0.toUInt32 >>> ((1 : Int32).toUInt32 &&& Int32.toUInt32 31)).toInt32) &&& (1431655765 : Int32))) &&& (858993459 : Int32)) + ((((v0 - (((v0.toUInt32 >>> ((1 : Int32).toUInt32 &&& Int32.toUInt32 31)).toInt32) &&& (1431655765 : Int32))).toUInt32 >>> ((2 : Int32).toUInt32 &&& Int32.toUInt32 31)).toInt32) &&& (858993459 : Int32))).toUInt32 >>> ((4 : Int32).toUInt32 &&& Int32.toUInt32 31)).toInt32)) &&& (252645135 : Int32)) + (((((((v0 - (((v0.toUInt32 >>> ((1 : Int32).toUInt32 &&& Int32.toUInt32 31)).toInt32) &&& (1431655765 : Int32))) &&& (858993459 : Int32)) + ((((v0 - (((v0.toUInt32 >>> ((1 : Int32).toUInt32 &&& Int32.toUInt32 31)).toInt32) &&& (1431655765 : Int32))).toUInt32 >>> ((2 : Int32).toUInt32 &&& Int32.toUInt32 31)).toInt32) &&& (858993459 : Int32))) + (((((v0 - (((v0.toUInt32 >>> ((1 : Int32).toUInt32 &&& Int32.toUInt32 31)).toInt32) &&& (1431655765 : Int32))) &&& (858993459 : Int32)) + ((((v0 - (((v0.toUInt32 >>> ((1 : Int32).toUInt32 &&& Int32.toUInt32 31)).toInt32) &&& (1431655765 : Int32))).toUInt32 >>> ((2 : Int32).toUInt32 &&& Int32.toUInt32 31)).toInt32) &&& (858993459 : Int32))).toUInt32 >>> ((4 : Int32).toUInt32 &&& Int32.toUInt32 31)).toInt32)) &&& (252645135 : Int32)).toUInt32 >>> ((8 : Int32).toUInt32 &&& Int32.toUInt32 31)).toInt32)) + ((((((((v0 - (((v0.toUInt32 >>> ((1 : Int32).toUInt32 &&& Int32.toUInt32 31)).toInt32) &&& (1431655765 : Int32))) &&& (858993459 : Int32)) + ((((v0 - (((v0.toUInt32 >>> ((1 : Int32).toUInt32 &&& Int32.toUInt32 31)).toInt32) &&& (1431655765 : Int32))).toUInt32 >>> ((2 : Int32).toUInt32 &&& Int32.toUInt32 31)).toInt32) &&& (858993459 : Int32))) + (((((v0 - (((v0.toUInt32 >>> ((1 : Int32).toUInt32 &&& Int32.toUInt32 31)).toInt32) &&& (1431655765 : Int32))) &&& (858993459 : Int32)) + ((((v0 - (((v0.toUInt32 >>> ((1 : Int32).toUInt32 &&& Int32.toUInt32 31)).toInt32) &&& (1431655765 : Int32))).toUInt32 >>> ((2 : Int32).toUInt32 &&& Int32.toUInt32 31)).toInt32) &&& (858993459 : Int32))).toUInt32 >>> ((4 : Int32).toUInt32 &&& Int32.toUInt32 31)).toInt32)) &&& (252645135 : Int32)) + (((((((v0 - (((v0.toUInt32 >>> ((1 : Int32).toUInt32 &&& Int32.toUInt32 31)).toInt32) &&& (1431655765 : Int32))) &&& (858993459 : Int32)) + ((((v0 - (((v0.toUInt32 >>> ((1 : Int32).toUInt32 &&& Int32.toUInt32 31)).toInt32) &&& (1431655765 : Int32))).toUInt32 >>> ((2 : Int32).toUInt32 &&& Int32.toUInt32 31)).toInt32) &&& (858993459 : Int32))) + (((((v0 - (((v0.toUInt32 >>> ((1 : Int32).toUInt32 &&& Int32.toUInt32 31)).toInt32) &&& (1431655765 : Int32))) &&& (858993459 : Int32)) + ((((v0 - (((v0.toUInt32 >>> ((1 : Int32).toUInt32 &&& Int32.toUInt32 31)).toInt32) &&& (1431655765 : Int32))).toUInt32 >>> ((2 : Int32).toUInt32 &&& Int32.toUInt32 31)).toInt32) &&& (858993459 : Int32))).toUInt32 >>> ((4 : Int32).toUInt32 &&& Int32.toUInt32 31)).toInt32)) &&& (252645135 : Int32)).toUInt32 >>> ((8 : Int32).toUInt32 &&& Int32.toUInt32 31)).toInt32)).toUInt32 >>> ((16 : Int32).toUInt32 &&& Int32.toUInt32 31)).toInt32)))]) hz1 dJ6_bitCount_0f7a4_47 rfl rfl rfl ?_
  refine am_iload_n hz1 dJ6_bitCount_0f7a4_48 0 rfl rfl ?_
  refine am_bipush (v := 63) hz1 dJ6_bitCount_0f7a4_49 (by decide) ?_
  refine am_iand hz1 dJ6_bitCount_0f7a4_51 ?_
  exact am_ireturn hz dJ6_bitCount_0f7a4_52 h
set_option maxRecDepth 100000 in
set_option maxHeartbeats 4000000 in
theorem c_J6_bitCount_0f7a4 {l : Launch} {D : va_G} {B : Heap} {G : amG} {I : amI} {L : amL}  (hG : Lay G)  (v0 : Int32)  : Fx l D B yJ6_bitCount_0f7a4 cJ6_bitCount_0f7a4 1 (some .int) 0 [.int v0] G I L (some (.int (q_bc v0))) I L := by
  refine Mx.of (by decide) rfl rfl (fun z e1 e2 e3 hz => ?_)
  subst e1; subst e2; subst e3
  refine b_J6_bitCount_0f7a4_0 hz hG ?_
  exact ⟨rfl, rfl, rfl, rfl⟩
theorem fill_s {f : Nat → Int32} {i : Nat} {x : Int32} : upd (q_fill f i x) i x = q_fill f (i + 1) x := by
  funext j
  simp only [upd, q_fill]
  by_cases h : j = i
  · subst h; simp
  · have : (j < i + 1) = (j < i) := by apply propext; omega
    simp [h, this]
theorem fillL_s {f : Nat → Int64} {i : Nat} {x : Int64} : vp_updL (q_fill f i x) i x = q_fill f (i + 1) x := by
  funext j
  simp only [vp_updL, q_fill]
  by_cases h : j = i
  · subst h; simp
  · have : (j < i + 1) = (j < i) := by apply propext; omega
    simp [h, this]
theorem setI_ss {I : amI} {p : Nat} {f g : Nat → Int32} : setI (setI I p f) p g = setI I p g := by
  funext q; simp only [setI]; by_cases h : q = p <;> simp [h]
theorem setL_ss {L : amL} {p : Nat} {f g : Nat → Int64} : setL (setL L p f) p g = setL L p g := by
  funext q; simp only [setL]; by_cases h : q = p <;> simp [h]
theorem setI_id {I : amI} {p : Nat} : setI I p (I p) = I := by
  funext q; simp only [setI]; by_cases h : q = p <;> simp [h]
theorem setL_id {L : amL} {p : Nat} : setL L p (L p) = L := by
  funext q; simp only [setL]; by_cases h : q = p <;> simp [h]
theorem fill_0 {α : Type} {f : Nat → α} {x : α} : q_fill f 0 x = f := by funext j; simp [q_fill]
set_option maxRecDepth 100000 in
set_option maxHeartbeats 4000000 in
theorem b_J7_fill_53178_0 {z : amZ} {post : amP} {G : amG} {I : amI} {L : amL} (hz : Go z cJ7_fill_53178 RJ7 4 none 0 0 0 post) (hG : Lay G) {n0 : Nat} {p0 : Nat} (hn_p0 : p0 < gN G) (hk_p0 : gK G p0 = 50) (hl_p0 : gL G p0 = n0) {v1 : Int32} (h : Wx z 0 0 5 [(0, .ref ((zB z).size + p0)), (1, .int v1), (2, .int 0), (3, .int (Int32.ofNat n0))] [] G I L) : Wx z 0 0 0 [(0, .ref ((zB z).size + p0)), (1, .int v1)] [] G I L := by
  have hz1 := hz.1
  refine am_iconst (v := 0) hz1 dJ7_fill_53178_0 (by decide) ?_
  refine am_istore_n (lv' := [(2, .int 0), (0, .ref ((zB z).size + p0)), (1, .int v1)]) hz1 dJ7_fill_53178_1 rfl rfl rfl ?_
  refine am_aload_n hz1 dJ7_fill_53178_2 1 rfl rfl ?_
  refine am_alenI hz1 hn_p0 hk_p0 dJ7_fill_53178_3 ?_
  rw [hl_p0]
  refine am_istore_n (lv' := [(3, .int (Int32.ofNat n0)), (2, .int 0), (0, .ref ((zB z).size + p0)), (1, .int v1)]) hz1 dJ7_fill_53178_4 rfl rfl rfl ?_
  exact am_sub (lv' := [(0, .ref ((zB z).size + p0)), (1, .int v1), (2, .int 0), (3, .int (Int32.ofNat n0))]) [2, 3, 1, 0] rfl h
set_option maxRecDepth 100000 in
set_option maxHeartbeats 4000000 in
theorem b_J7_fill_53178_5 {z : amZ} {post : amP} {G : amG} {I : amI} {L : amL} (hz : Go z cJ7_fill_53178 RJ7 4 none 0 0 0 post) (hG : Lay G) {n0 : Nat} {p0 : Nat} (hn_p0 : p0 < gN G) (hk_p0 : gK G p0 = 50) (hl_p0 : gL G p0 = n0) {v1 : Int32} {v2 : Int32} {v3 : Int32} (h : ((v3 ≤ v2) → post none G I L) ∧ ((¬ v3 ≤ v2) → vp_in v2 n0 ∧ Wx z 0 0 5 [(0, .ref ((zB z).size + p0)), (1, .int v1), (2, .int (v2 + 1)), (3, .int v3)] [] G (setI I p0 (upd (I p0) v2.toNatClampNeg v1)) L)) : Wx z 0 0 5 [(0, .ref ((zB z).size + p0)), (1, .int v1), (2, .int v2), (3, .int v3)] [] G I L := by
  have hz1 := hz.1
  refine am_iload_n hz1 dJ7_fill_53178_5 2 rfl rfl ?_
  refine am_iload_n hz1 dJ7_fill_53178_6 3 rfl rfl ?_
  refine am_icmp_ge (tgt := 20) hz1 dJ7_fill_53178_7 (by decide) (fun c1 => ?_) (fun c1 => ?_)
  · replace h := h.1 c1
    exact am_return hz dJ7_fill_53178_20 h
  · replace h := h.2 c1
    refine am_aload_n hz1 dJ7_fill_53178_10 0 rfl rfl ?_
    refine am_iload_n hz1 dJ7_fill_53178_11 2 rfl rfl ?_
    refine am_iload_n hz1 dJ7_fill_53178_12 1 rfl rfl ?_
    obtain ⟨g2, h⟩ := h
    refine am_iast hz1 hn_p0 hk_p0 (by rw [hl_p0]; exact g2) dJ7_fill_53178_13 ?_
    refine am_iinc (v := v2 + 1) (lv' := [(2, .int (v2 + 1)), (0, .ref ((zB z).size + p0)), (1, .int v1), (3, .int v3)]) hz1 dJ7_fill_53178_14 2 rfl rfl rfl rfl ?_
    refine am_goto (tgt := 5) hz1 dJ7_fill_53178_17 (by decide) ?_
    exact am_sub (lv' := [(0, .ref ((zB z).size + p0)), (1, .int v1), (2, .int (v2 + 1)), (3, .int v3)]) [1, 2, 0, 3] rfl h
set_option maxRecDepth 100000 in
set_option maxHeartbeats 4000000 in
theorem c_J7_fill_53178 {l : Launch} {D : va_G} {B : Heap} {G : amG} {I : amI} {L : amL} {p0 : Nat} {n0 : Nat} (hG : Lay G) (hn_p0 : p0 < gN G) (hk_p0 : gK G p0 = 50) (hl_p0 : gL G p0 = n0) (v1 : Int32)  (ha : n0 < 2147483648) : Fx l D B yJ7_fill_53178 cJ7_fill_53178 4 none 0 [.ref (B.size + p0), .int v1] G I L none (setI I p0 (q_fill (I p0) n0 v1)) L := by
  refine Mx.of (by decide) rfl rfl (fun z e1 e2 e3 hz => ?_)
  subst e1; subst e2; subst e3
  refine b_J7_fill_53178_0 hz hG hn_p0 hk_p0 hl_p0 ?_
  have key : ∀ i, i ≤ n0 → Wx z 0 0 5 [(0, .ref ((zB z).size + p0)), (1, .int v1), (2, .int (nI i)), (3, .int (nI n0))] [] G (setI I p0 (q_fill (I p0) i v1)) L := by
    intro i hi
    refine for_up (P := fun i => Wx z 0 0 5 [(0, .ref ((zB z).size + p0)), (1, .int v1), (2, .int (nI i)), (3, .int (nI n0))] [] G (setI I p0 (q_fill (I p0) i v1)) L) ?_ ?_ hi
    · exact b_J7_fill_53178_5 hz hG hn_p0 hk_p0 hl_p0 ⟨fun _ => ⟨rfl, rfl, rfl, rfl⟩, fun h => absurd (nI_le (Nat.le_refl _) ha) h⟩
    · intro i hi ih
      refine b_J7_fill_53178_5 hz hG hn_p0 hk_p0 hl_p0 ⟨fun h => absurd h (nI_ge hi ha), fun _ => ⟨in_nI hi ha, ?_⟩⟩
      rw [nI_1, setI_ss, setI_s, cl_nI (by omega), fill_s]
      exact ih
  have h0 := key 0 (Nat.zero_le _)
  rw [fill_0, setI_id] at h0
  exact h0
set_option maxRecDepth 100000 in
set_option maxHeartbeats 4000000 in
theorem b_J7_fill_d0a16_0 {z : amZ} {post : amP} {G : amG} {I : amI} {L : amL} (hz : Go z cJ7_fill_d0a16 RJ7 5 none 0 0 0 post) (hG : Lay G) {n0 : Nat} {p0 : Nat} (hn_p0 : p0 < gN G) (hk_p0 : gK G p0 = 52) (hl_p0 : gL G p0 = n0) {v1 : Int64} (h : Wx z 0 0 6 [(0, .ref ((zB z).size + p0)), (1, .long v1), (3, .int 0), (4, .int (Int32.ofNat n0))] [] G I L) : Wx z 0 0 0 [(0, .ref ((zB z).size + p0)), (1, .long v1)] [] G I L := by
  have hz1 := hz.1
  refine am_iconst (v := 0) hz1 dJ7_fill_d0a16_0 (by decide) ?_
  refine am_istore_n (lv' := [(3, .int 0), (0, .ref ((zB z).size + p0)), (1, .long v1)]) hz1 dJ7_fill_d0a16_1 rfl rfl rfl ?_
  refine am_aload_n hz1 dJ7_fill_d0a16_2 1 rfl rfl ?_
  refine am_alenL hz1 hn_p0 hk_p0 dJ7_fill_d0a16_3 ?_
  rw [hl_p0]
  refine am_istore (lv' := [(4, .int (Int32.ofNat n0)), (3, .int 0), (0, .ref ((zB z).size + p0)), (1, .long v1)]) hz1 dJ7_fill_d0a16_4 rfl rfl ?_
  exact am_sub (lv' := [(0, .ref ((zB z).size + p0)), (1, .long v1), (3, .int 0), (4, .int (Int32.ofNat n0))]) [2, 3, 1, 0] rfl h
set_option maxRecDepth 100000 in
set_option maxHeartbeats 4000000 in
theorem b_J7_fill_d0a16_6 {z : amZ} {post : amP} {G : amG} {I : amI} {L : amL} (hz : Go z cJ7_fill_d0a16 RJ7 5 none 0 0 0 post) (hG : Lay G) {n0 : Nat} {p0 : Nat} (hn_p0 : p0 < gN G) (hk_p0 : gK G p0 = 52) (hl_p0 : gL G p0 = n0) {v1 : Int64} {v3 : Int32} {v4 : Int32} (h : ((v4 ≤ v3) → post none G I L) ∧ ((¬ v4 ≤ v3) → vp_in v3 n0 ∧ Wx z 0 0 6 [(0, .ref ((zB z).size + p0)), (1, .long v1), (3, .int (v3 + 1)), (4, .int v4)] [] G I (setL L p0 (vp_updL (L p0) v3.toNatClampNeg v1)))) : Wx z 0 0 6 [(0, .ref ((zB z).size + p0)), (1, .long v1), (3, .int v3), (4, .int v4)] [] G I L := by
  have hz1 := hz.1
  refine am_iload_n hz1 dJ7_fill_d0a16_6 2 rfl rfl ?_
  refine am_iload hz1 dJ7_fill_d0a16_7 3 rfl ?_
  refine am_icmp_ge (tgt := 22) hz1 dJ7_fill_d0a16_9 (by decide) (fun c1 => ?_) (fun c1 => ?_)
  · replace h := h.1 c1
    exact am_return hz dJ7_fill_d0a16_22 h
  · replace h := h.2 c1
    refine am_aload_n hz1 dJ7_fill_d0a16_12 0 rfl rfl ?_
    refine am_iload_n hz1 dJ7_fill_d0a16_13 2 rfl rfl ?_
    refine am_lload_n hz1 dJ7_fill_d0a16_14 1 rfl rfl ?_
    obtain ⟨g2, h⟩ := h
    refine am_last hz1 hn_p0 hk_p0 (by rw [hl_p0]; exact g2) dJ7_fill_d0a16_15 ?_
    refine am_iinc (v := v3 + 1) (lv' := [(3, .int (v3 + 1)), (0, .ref ((zB z).size + p0)), (1, .long v1), (4, .int v4)]) hz1 dJ7_fill_d0a16_16 2 rfl rfl rfl rfl ?_
    refine am_goto (tgt := 6) hz1 dJ7_fill_d0a16_19 (by decide) ?_
    exact am_sub (lv' := [(0, .ref ((zB z).size + p0)), (1, .long v1), (3, .int (v3 + 1)), (4, .int v4)]) [1, 2, 0, 3] rfl h
set_option maxRecDepth 100000 in
set_option maxHeartbeats 4000000 in
theorem c_J7_fill_d0a16 {l : Launch} {D : va_G} {B : Heap} {G : amG} {I : amI} {L : amL} {p0 : Nat} {n0 : Nat} (hG : Lay G) (hn_p0 : p0 < gN G) (hk_p0 : gK G p0 = 52) (hl_p0 : gL G p0 = n0) (v1 : Int64)  (ha : n0 < 2147483648) : Fx l D B yJ7_fill_d0a16 cJ7_fill_d0a16 5 none 0 [.ref (B.size + p0), .long v1] G I L none I (setL L p0 (q_fill (L p0) n0 v1)) := by
  refine Mx.of (by decide) rfl rfl (fun z e1 e2 e3 hz => ?_)
  subst e1; subst e2; subst e3
  refine b_J7_fill_d0a16_0 hz hG hn_p0 hk_p0 hl_p0 ?_
  have key : ∀ i, i ≤ n0 → Wx z 0 0 6 [(0, .ref ((zB z).size + p0)), (1, .long v1), (3, .int (nI i)), (4, .int (nI n0))] [] G I (setL L p0 (q_fill (L p0) i v1)) := by
    intro i hi
    refine for_up (P := fun i => Wx z 0 0 6 [(0, .ref ((zB z).size + p0)), (1, .long v1), (3, .int (nI i)), (4, .int (nI n0))] [] G I (setL L p0 (q_fill (L p0) i v1))) ?_ ?_ hi
    · exact b_J7_fill_d0a16_6 hz hG hn_p0 hk_p0 hl_p0 ⟨fun _ => ⟨rfl, rfl, rfl, rfl⟩, fun h => absurd (nI_le (Nat.le_refl _) ha) h⟩
    · intro i hi ih
      refine b_J7_fill_d0a16_6 hz hG hn_p0 hk_p0 hl_p0 ⟨fun h => absurd h (nI_ge hi ha), fun _ => ⟨in_nI hi ha, ?_⟩⟩
      rw [nI_1, setL_ss, setL_s, cl_nI (by omega), fillL_s]
      exact ih
  have h0 := key 0 (Nat.zero_le _)
  rw [fill_0, setL_id] at h0
  exact h0
