/-! FUNCTIONS ON INTERVALS -/
def q_cell (f a b : Int32) : Int32 := ((f * 256) + (a * 16)) + b
def fnOk (f : Int32) : Prop := ∃ k, k < 4 ∧ f = nI k
theorem cell_n (f a b : Nat) : q_cell (nI f) (nI a) (nI b) = nI (256 * f + 16 * a + b) := by
  rw [q_cell, show (256 : Int32) = nI 256 from rfl, show (16 : Int32) = nI 16 from rfl, pk_mul, pk_mul, nI_add, nI_add, Nat.mul_comm f, Nat.mul_comm a]
theorem cell_0 (a b : Nat) : q_cell 0 (nI a) (nI b) = nI (16 * a + b) := by
  rw [show (0 : Int32) = nI 0 from rfl, cell_n, Nat.mul_zero, Nat.zero_add]
def q_kind (I : amI) (k a b : Int32) : Int64 :=
  if k = 1 then (if a = b then 1 else 0) else if k = 2 then 1 else if k = 4 then (if a = b then 0 else 1) else if k = 5 then ((I 6 a.toNatClampNeg >>> (b &&& 31)) &&& 1).toInt64 else if k = 6 then (q_bc (q_between I 3 a b)).toInt64 else 0
def q_inv (I : amI) (L : amL) (x : Int32) : Bool := scan (fun a => decide (¬ L 36 (q_cell x (nI a) (nI a)).toNatClampNeg = 1) && decide (¬ L 36 (q_cell x (nI a) (nI a)).toNatClampNeg = -1)) (fun _ => false) true (sz I 3) 0
theorem btw_c {I1 I2 : amI} {o : Nat} {a b : Int32} (h0 : I2 o = I1 o) (h1 : I2 (o + 1) = I1 (o + 1)) (h2 : I2 (o + 2) = I1 (o + 2)) : q_between I2 o a b = q_between I1 o a b := by
  unfold q_between q_from q_upTo q_has; rw [h0, h1, h2]
set_option maxRecDepth 100000 in
set_option maxHeartbeats 4000000 in
theorem b_X0_cell_0 {z : amZ} {post : amP} {G : amG} {I : amI} {L : amL} (hz : Go z cX0_cell RX0 3 (some .int) 0 0 0 post) (hG : Lay G) {v0 : Int32} {v1 : Int32} {v2 : Int32} (h : post (some (.int (((v0 * (256 : Int32)) + (v1 * (16 : Int32))) + v2))) G I L) : Wx z 0 0 0 [(0, .int v0), (1, .int v1), (2, .int v2)] [] G I L := by
  have hz1 := hz.1
  refine am_iload_n hz1 dX0_cell_0 0 rfl rfl ?_
  refine am_sipush (v := 256) hz1 dX0_cell_1 (by decide) ?_
  refine am_imul hz1 dX0_cell_4 ?_
  refine am_iload_n hz1 dX0_cell_5 1 rfl rfl ?_
  refine am_bipush (v := 16) hz1 dX0_cell_6 (by decide) ?_
  refine am_imul hz1 dX0_cell_8 ?_
  refine am_iadd hz1 dX0_cell_9 ?_
  refine am_iload_n hz1 dX0_cell_10 2 rfl rfl ?_
  refine am_iadd hz1 dX0_cell_11 ?_
  exact am_ireturn hz dX0_cell_12 h
set_option maxRecDepth 100000 in
set_option maxHeartbeats 4000000 in
theorem c_X0_cell {l : Launch} {D : va_G} {B : Heap} {G : amG} {I : amI} {L : amL}  (hG : Lay G)  (v0 : Int32) (v1 : Int32) (v2 : Int32)  : Fx l D B yX0_cell cX0_cell 3 (some .int) 0 [.int v0, .int v1, .int v2] G I L (some (.int (q_cell v0 v1 v2))) I L := by
  refine Mx.of (by decide) rfl rfl (fun z e1 e2 e3 hz => ?_)
  subst e1; subst e2; subst e3
  refine b_X0_cell_0 hz hG ?_
  exact ⟨rfl, rfl, rfl, rfl⟩
set_option maxRecDepth 100000 in
set_option maxHeartbeats 4000000 in
theorem b_X0_at_0 {z : amZ} {post : amP} {G : amG} {I : amI} {L : amL} (hz : Go z cX0_at RX0 4 (some .long) 1 0 0 post) (hG : Lay G) {v1 : Int32} {v2 : Int32} {v3 : Int32} (h : vp_in (q_cell v1 v2 v3) 1024 ∧ post (some (.long (L 36 (q_cell v1 v2 v3).toNatClampNeg))) G I L) : Wx z 0 0 0 [(0, .ref ((zB z).size + 35)), (1, .int v1), (2, .int v2), (3, .int v3)] [] G I L := by
  have hz1 := hz.1
  refine am_aload_n hz1 dX0_at_0 0 rfl rfl ?_
  refine am_getR hz1 fl_X0_9 (ln_35 hG) (lk_35 hG) (lr_35_0 hG) rfl dX0_at_1 ?_
  refine am_iload_n hz1 dX0_at_4 1 rfl rfl ?_
  refine am_iload_n hz1 dX0_at_5 2 rfl rfl ?_
  refine am_iload_n hz1 dX0_at_6 3 rfl rfl ?_
  refine am_cSf hz ct_X0_32 [.int v1, .int v2, .int v3] [.ref ((zB z).size + 36)] (c_X0_cell hG v1 v2 v3 ) rfl rfl rfl ⟨Nat.le_refl _, Nat.le_refl _⟩ (Nat.le_of_ble_eq_true rfl) dX0_at_7 ?_
  obtain ⟨g1, h⟩ := h
  refine am_lald hz1 (ln_36 hG) (lk_36 hG) (by rw [(ll_36 hG)]; exact g1) dX0_at_10 ?_
  exact am_lreturn hz dX0_at_11 h
set_option maxRecDepth 100000 in
set_option maxHeartbeats 4000000 in
theorem c_X0_at {l : Launch} {D : va_G} {B : Heap} {G : amG} {I : amI} {L : amL}  (hG : Lay G)  (v1 : Int32) (v2 : Int32) (v3 : Int32) (hc : vp_in (q_cell v1 v2 v3) 1024) : Fx l D B yX0_at cX0_at 4 (some .long) 1 [.ref (B.size + 35), .int v1, .int v2, .int v3] G I L (some (.long (L 36 (q_cell v1 v2 v3).toNatClampNeg))) I L := by
  refine Mx.of (by decide) rfl rfl (fun z e1 e2 e3 hz => ?_)
  subst e1; subst e2; subst e3
  refine b_X0_at_0 hz hG ?_
  exact ⟨hc, rfl, rfl, rfl, rfl⟩
set_option maxRecDepth 100000 in
set_option maxHeartbeats 4000000 in
theorem b_X0_clear_0 {z : amZ} {post : amP} {G : amG} {I : amI} {L : amL} (hz : Go z cX0_clear RX0 1 none 1 0 0 post) (hG : Lay G)  (h : post none G I (setL L 36 (q_fill (L 36) 1024 (0 : Int64)))) : Wx z 0 0 0 [(0, .ref ((zB z).size + 35))] [] G I L := by
  have hz1 := hz.1
  refine am_aload_n hz1 dX0_clear_0 0 rfl rfl ?_
  refine am_getR hz1 fl_X0_9 (ln_35 hG) (lk_35 hG) (lr_35_0 hG) rfl dX0_clear_1 ?_
  refine am_lconst (v := 0) hz1 dX0_clear_4 (by decide) ?_
  refine am_cSf hz ct_X0_36 [.ref ((zB z).size + 36), .long (0 : Int64)] [] (c_J7_fill_d0a16 hG (ln_36 hG) (lk_36 hG) (ll_36 hG) (0 : Int64) (by decide)) rfl rfl rfl ⟨Nat.le_refl _, Nat.le_refl _⟩ (Nat.le_of_ble_eq_true rfl) dX0_clear_5 ?_
  exact am_return hz dX0_clear_8 h
set_option maxRecDepth 100000 in
set_option maxHeartbeats 4000000 in
theorem c_X0_clear {l : Launch} {D : va_G} {B : Heap} {G : amG} {I : amI} {L : amL}  (hG : Lay G)    : Fx l D B yX0_clear cX0_clear 1 none 1 [.ref (B.size + 35)] G I L none I (setL L 36 (q_fill (L 36) 1024 0)) := by
  refine Mx.of (by decide) rfl rfl (fun z e1 e2 e3 hz => ?_)
  subst e1; subst e2; subst e3
  refine b_X0_clear_0 hz hG ?_
  exact ⟨rfl, rfl, rfl, rfl⟩
set_option maxRecDepth 100000 in
set_option maxHeartbeats 4000000 in
theorem b_X0_store_0 {z : amZ} {post : amP} {G : amG} {I : amI} {L : amL} (hz : Go z cX0_store RX0 2 none 1 0 0 post) (hG : Lay G) {v1 : Int32} (h : (¬ (0 : Int32) < 0 ∧ ¬ (v1 * (256 : Int32)) < 0 ∧ ¬ (256 : Int32) < 0 ∧ (0 : Int32).toNatClampNeg + (256 : Int32).toNatClampNeg ≤ 256 ∧ (v1 * (256 : Int32)).toNatClampNeg + (256 : Int32).toNatClampNeg ≤ 1024) ∧ post none G I (setL L 36 (va_cpy (L 37) (L 36) (0 : Int32).toNatClampNeg (v1 * (256 : Int32)).toNatClampNeg (256 : Int32).toNatClampNeg))) : Wx z 0 0 0 [(0, .ref ((zB z).size + 35)), (1, .int v1)] [] G I L := by
  have hz1 := hz.1
  refine am_aload_n hz1 dX0_store_0 0 rfl rfl ?_
  refine am_getR hz1 fl_X0_15 (ln_35 hG) (lk_35 hG) (lr_35_1 hG) rfl dX0_store_1 ?_
  refine am_iconst (v := 0) hz1 dX0_store_4 (by decide) ?_
  refine am_aload_n hz1 dX0_store_5 0 rfl rfl ?_
  refine am_getR hz1 fl_X0_9 (ln_35 hG) (lk_35 hG) (lr_35_0 hG) rfl dX0_store_6 ?_
  refine am_iload_n hz1 dX0_store_9 1 rfl rfl ?_
  refine am_sipush (v := 256) hz1 dX0_store_10 (by decide) ?_
  refine am_imul hz1 dX0_store_13 ?_
  refine am_sipush (v := 256) hz1 dX0_store_14 (by decide) ?_
  obtain ⟨g1, h⟩ := h
  refine am_copyL hz ml_X0_42 (ln_37 hG) (lk_37 hG) (ln_36 hG) (lk_36 hG) g1.1 g1.2.1 g1.2.2.1 (by rw [(ll_37 hG)]; exact g1.2.2.2.1) (by rw [(ll_36 hG)]; exact g1.2.2.2.2) rfl (Nat.le_of_ble_eq_true rfl) dX0_store_17 ?_
  exact am_return hz dX0_store_20 h
set_option maxRecDepth 100000 in
set_option maxHeartbeats 4000000 in
theorem c_X0_store {l : Launch} {D : va_G} {B : Heap} {G : amG} {I : amI} {L : amL}  (hG : Lay G)  (v1 : Int32) (hf : fnOk v1) : Fx l D B yX0_store cX0_store 2 none 1 [.ref (B.size + 35), .int v1] G I L none I (setL L 36 (va_cpy (L 37) (L 36) (0 : Int32).toNatClampNeg (v1 * 256).toNatClampNeg (256 : Int32).toNatClampNeg)) := by
  refine Mx.of (by decide) rfl rfl (fun z e1 e2 e3 hz => ?_)
  subst e1; subst e2; subst e3
  refine b_X0_store_0 hz hG ?_
  obtain ⟨k, hk, rfl⟩ := hf
  refine ⟨⟨by decide, ?_, by decide, by decide, ?_⟩, rfl, rfl, rfl, rfl⟩
  · rw [show (256 : Int32) = nI 256 from rfl, pk_mul]
    exact nI_pos (by omega)
  · rw [show (256 : Int32) = nI 256 from rfl, pk_mul, cl_nI (by omega), cl_nI (by omega)]
    omega
set_option maxRecDepth 100000 in
set_option maxHeartbeats 4000000 in
theorem b_X0_ofKind_0 {z : amZ} {post : amP} {G : amG} {I : amI} {L : amL} (hz : Go z cX0_ofKind RX0 4 (some .long) 3 0 0 post) (hG : Lay G) {v1 : Int32} {v2 : Int32} {v3 : Int32} (h : (v1 = 1 → ((¬ v2 = v3) → post (some (.long (0 : Int64))) G I L) ∧ ((v2 = v3) → post (some (.long (1 : Int64))) G I L)) ∧ (v1 = 2 → post (some (.long (1 : Int64))) G I L) ∧ (v1 = 3 → post (some (.long (0 : Int64))) G I L) ∧ (v1 = 4 → ((¬ v2 = v3) → post (some (.long (1 : Int64))) G I L) ∧ ((v2 = v3) → post (some (.long (0 : Int64))) G I L)) ∧ (v1 = 5 → vp_in v2 16 ∧ post (some (.long ((((I 6 v2.toNatClampNeg) >>> (v3 &&& 31)) &&& (1 : Int32)).toInt64))) G I L) ∧ (v1 = 6 → (szOk I 3) ∧ post (some (.long ((q_bc (q_between I 3 v2 v3)).toInt64))) G I L) ∧ ((v1 < 1 ∨ 6 < v1) → post (some (.long (0 : Int64))) G I L)) : Wx z 0 0 0 [(0, .ref ((zB z).size + 35)), (1, .int v1), (2, .int v2), (3, .int v3)] [] G I L := by
  have hz1 := hz.1
  refine am_iload_n hz1 dX0_ofKind_0 1 rfl rfl ?_
  by_cases c1_0 : v1 = 1
  · replace h := h.1 c1_0
    refine am_tabI (off := 39) (tgt := 40) hz1 1 dX0_ofKind_1 c1_0 (by decide) (by decide) rfl (by decide) ?_
    refine am_iload_n hz1 dX0_ofKind_40 2 rfl rfl ?_
    refine am_iload_n hz1 dX0_ofKind_41 3 rfl rfl ?_
    refine am_icmp_ne (tgt := 49) hz1 dX0_ofKind_42 (by decide) (fun c2 => ?_) (fun c2 => ?_)
    · replace h := h.1 c2
      refine am_lconst (v := 0) hz1 dX0_ofKind_49 (by decide) ?_
      exact am_lreturn hz dX0_ofKind_50 h
    · replace h := h.2 c2
      refine am_lconst (v := 1) hz1 dX0_ofKind_45 (by decide) ?_
      refine am_goto (tgt := 50) hz1 dX0_ofKind_46 (by decide) ?_
      exact am_lreturn hz dX0_ofKind_50 h
  by_cases c1_1 : v1 = 2
  · replace h := h.2.1 c1_1
    refine am_tabI (off := 50) (tgt := 51) hz1 2 dX0_ofKind_1 c1_1 (by decide) (by decide) rfl (by decide) ?_
    refine am_lconst (v := 1) hz1 dX0_ofKind_51 (by decide) ?_
    exact am_lreturn hz dX0_ofKind_52 h
  by_cases c1_2 : v1 = 3
  · replace h := h.2.2.1 c1_2
    refine am_tabI (off := 92) (tgt := 93) hz1 3 dX0_ofKind_1 c1_2 (by decide) (by decide) rfl (by decide) ?_
    refine am_lconst (v := 0) hz1 dX0_ofKind_93 (by decide) ?_
    exact am_lreturn hz dX0_ofKind_94 h
  by_cases c1_3 : v1 = 4
  · replace h := h.2.2.2.1 c1_3
    refine am_tabI (off := 52) (tgt := 53) hz1 4 dX0_ofKind_1 c1_3 (by decide) (by decide) rfl (by decide) ?_
    refine am_iload_n hz1 dX0_ofKind_53 2 rfl rfl ?_
    refine am_iload_n hz1 dX0_ofKind_54 3 rfl rfl ?_
    refine am_icmp_ne (tgt := 62) hz1 dX0_ofKind_55 (by decide) (fun c3 => ?_) (fun c3 => ?_)
    · replace h := h.1 c3
      refine am_lconst (v := 1) hz1 dX0_ofKind_62 (by decide) ?_
      exact am_lreturn hz dX0_ofKind_63 h
    · replace h := h.2 c3
      refine am_lconst (v := 0) hz1 dX0_ofKind_58 (by decide) ?_
      refine am_goto (tgt := 63) hz1 dX0_ofKind_59 (by decide) ?_
      exact am_lreturn hz dX0_ofKind_63 h
  by_cases c1_4 : v1 = 5
  · replace h := h.2.2.2.2.1 c1_4
    refine am_tabI (off := 63) (tgt := 64) hz1 5 dX0_ofKind_1 c1_4 (by decide) (by decide) rfl (by decide) ?_
    refine am_aload_n hz1 dX0_ofKind_64 0 rfl rfl ?_
    refine am_getR hz1 fl_X0_24 (ln_35 hG) (lk_35 hG) (lr_35_4 hG) rfl dX0_ofKind_65 ?_
    refine am_getR hz1 fl_X0_66 (ln_3 hG) (lk_3 hG) (lr_3_3 hG) rfl dX0_ofKind_68 ?_
    refine am_iload_n hz1 dX0_ofKind_71 2 rfl rfl ?_
    obtain ⟨g4, h⟩ := h
    refine am_iald hz1 (ln_6 hG) (lk_6 hG) (by rw [(ll_6 hG)]; exact g4) dX0_ofKind_72 ?_
    refine am_iload_n hz1 dX0_ofKind_73 3 rfl rfl ?_
    refine am_ishr hz1 dX0_ofKind_74 ?_
    refine am_iconst (v := 1) hz1 dX0_ofKind_75 (by decide) ?_
    refine am_iand hz1 dX0_ofKind_76 ?_
    refine am_i2l hz1 dX0_ofKind_77 ?_
    exact am_lreturn hz dX0_ofKind_78 h
  by_cases c1_5 : v1 = 6
  · replace h := h.2.2.2.2.2.1 c1_5
    refine am_tabI (off := 78) (tgt := 79) hz1 6 dX0_ofKind_1 c1_5 (by decide) (by decide) rfl (by decide) ?_
    refine am_aload_n hz1 dX0_ofKind_79 0 rfl rfl ?_
    refine am_getR hz1 fl_X0_24 (ln_35 hG) (lk_35 hG) (lr_35_4 hG) rfl dX0_ofKind_80 ?_
    refine am_iload_n hz1 dX0_ofKind_83 2 rfl rfl ?_
    refine am_iload_n hz1 dX0_ofKind_84 3 rfl rfl ?_
    obtain ⟨g5, h⟩ := h
    refine am_cVf hz cv_X0_70 [.int v2, .int v3] [] (c_X4_between hG isO_3 v2 v3 g5) (ln_3 hG) (lk_3 hG) rfl rfl rfl ⟨Nat.le_refl _, Nat.le_refl _⟩ (Nat.le_of_ble_eq_true rfl) dX0_ofKind_85 ?_
    refine am_cSf hz ct_X0_74 [.int (q_between I 3 v2 v3)] [] (c_J6_bitCount_0f7a4 hG (q_between I 3 v2 v3) ) rfl rfl rfl ⟨Nat.le_refl _, Nat.le_refl _⟩ (Nat.le_of_ble_eq_true rfl) dX0_ofKind_88 ?_
    refine am_i2l hz1 dX0_ofKind_91 ?_
    exact am_lreturn hz dX0_ofKind_92 h
  have c1 : v1 < 1 ∨ 6 < v1 := tabx_6_1 c1_0 c1_1 c1_2 c1_3 c1_4 c1_5
  replace h := h.2.2.2.2.2.2 c1
  refine am_tabO (tgt := 93) hz1 dX0_ofKind_1 (c1.elim (fun e => Or.inl (tab_lt 1 rfl e)) (fun e => Or.inr (tab_gt 6 rfl e))) (by decide) ?_
  refine am_lconst (v := 0) hz1 dX0_ofKind_93 (by decide) ?_
  exact am_lreturn hz dX0_ofKind_94 h
set_option maxRecDepth 100000 in
set_option maxHeartbeats 4000000 in
theorem c_X0_ofKind {l : Launch} {D : va_G} {B : Heap} {G : amG} {I : amI} {L : amL}  (hG : Lay G)  (v1 : Int32) (v2 : Int32) (v3 : Int32) (hs : szOk I 3) (hi : vp_in v2 16) : Fx l D B yX0_ofKind cX0_ofKind 4 (some .long) 3 [.ref (B.size + 35), .int v1, .int v2, .int v3] G I L (some (.long (q_kind I v1 v2 v3))) I L := by
  refine Mx.of (by decide) rfl rfl (fun z e1 e2 e3 hz => ?_)
  subst e1; subst e2; subst e3
  refine b_X0_ofKind_0 hz hG ?_
  refine ⟨fun h => ⟨fun g => ⟨?_, rfl, rfl, rfl⟩, fun g => ⟨?_, rfl, rfl, rfl⟩⟩, fun h => ⟨?_, rfl, rfl, rfl⟩, fun h => ⟨?_, rfl, rfl, rfl⟩, fun h => ⟨fun g => ⟨?_, rfl, rfl, rfl⟩, fun g => ⟨?_, rfl, rfl, rfl⟩⟩, fun h => ⟨hi, ?_, rfl, rfl, rfl⟩, fun h => ⟨hs, ?_, rfl, rfl, rfl⟩, fun h => ⟨?_, rfl, rfl, rfl⟩⟩
  · subst h; simp [q_kind, g]
  · subst h; simp [q_kind, g]
  · subst h; rfl
  · subst h; rfl
  · subst h; simp [q_kind, g]
  · subst h; simp [q_kind, g]
  · subst h; rfl
  · subst h; rfl
  · have h1 : v1 ≠ 1 ∧ v1 ≠ 2 ∧ v1 ≠ 4 ∧ v1 ≠ 5 ∧ v1 ≠ 6 := by
      refine ⟨?_, ?_, ?_, ?_, ?_⟩ <;> (rintro rfl; exact absurd h (by decide))
    simp [q_kind, h1]
set_option maxRecDepth 100000 in
set_option maxHeartbeats 4000000 in
theorem b_X0_isInvertible_0 {z : amZ} {post : amP} {G : amG} {I : amI} {L : amL} (hz : Go z cX0_isInvertible RX0 5 (some .boolean) 2 0 0 post) (hG : Lay G) {v1 : Int32} (h : Wx z 0 0 2 [(0, .ref ((zB z).size + 35)), (1, .int v1), (2, .int 0)] [] G I L) : Wx z 0 0 0 [(0, .ref ((zB z).size + 35)), (1, .int v1)] [] G I L := by
  have hz1 := hz.1
  refine am_iconst (v := 0) hz1 dX0_isInvertible_0 (by decide) ?_
  refine am_istore_n (lv' := [(2, .int 0), (0, .ref ((zB z).size + 35)), (1, .int v1)]) hz1 dX0_isInvertible_1 rfl rfl rfl ?_
  exact am_sub (lv' := [(0, .ref ((zB z).size + 35)), (1, .int v1), (2, .int 0)]) [1, 2, 0] rfl h
set_option maxRecDepth 100000 in
set_option maxHeartbeats 4000000 in
theorem b_X0_isInvertible_2 {z : amZ} {post : amP} {G : amG} {I : amI} {L : amL} (hz : Go z cX0_isInvertible RX0 5 (some .boolean) 2 0 0 post) (hG : Lay G) {v1 : Int32} {v2 : Int32} (h : (((I 3 0) ≤ v2) → post (some (.int 1)) G I L) ∧ ((¬ (I 3 0) ≤ v2) → (vp_in (q_cell v1 v2 v2) 1024) ∧ (((L 36 (q_cell v1 v2 v2).toNatClampNeg) = (1 : Int64)) → Wx z 0 0 2 [(0, .ref ((zB z).size + 35)), (1, .int v1), (2, .int (v2 + 1))] [] G I L) ∧ ((¬ (L 36 (q_cell v1 v2 v2).toNatClampNeg) = (1 : Int64)) → (((L 36 (q_cell v1 v2 v2).toNatClampNeg) = (-1 : Int64)) → Wx z 0 0 2 [(0, .ref ((zB z).size + 35)), (1, .int v1), (2, .int (v2 + 1))] [] G I L) ∧ ((¬ (L 36 (q_cell v1 v2 v2).toNatClampNeg) = (-1 : Int64)) → post (some (.int 0)) G I L)))) : Wx z 0 0 2 [(0, .ref ((zB z).size + 35)), (1, .int v1), (2, .int v2)] [] G I L := by
  have hz1 := hz.1
  refine am_iload_n hz1 dX0_isInvertible_2 2 rfl rfl ?_
  refine am_aload_n hz1 dX0_isInvertible_3 0 rfl rfl ?_
  refine am_getR hz1 fl_X0_24 (ln_35 hG) (lk_35 hG) (lr_35_4 hG) rfl dX0_isInvertible_4 ?_
  refine am_getI hz1 fl_X0_48 (ln_3 hG) (lk_3 hG) rfl dX0_isInvertible_7 ?_
  refine am_icmp_ge (tgt := 43) hz1 dX0_isInvertible_10 (by decide) (fun c1 => ?_) (fun c1 => ?_)
  · replace h := h.1 c1
    refine am_iconst (v := 1) hz1 dX0_isInvertible_43 (by decide) ?_
    exact am_zreturn hz (by decide) dX0_isInvertible_44 h
  · replace h := h.2 c1
    refine am_aload_n hz1 dX0_isInvertible_13 0 rfl rfl ?_
    refine am_iload_n hz1 dX0_isInvertible_14 1 rfl rfl ?_
    refine am_iload_n hz1 dX0_isInvertible_15 2 rfl rfl ?_
    refine am_iload_n hz1 dX0_isInvertible_16 2 rfl rfl ?_
    obtain ⟨g2, h⟩ := h
    refine am_cVf hz cv_X0_97 [.int v1, .int v2, .int v2] [] (c_X0_at hG v1 v2 v2 g2) (ln_35 hG) (lk_35 hG) rfl rfl rfl ⟨Nat.le_refl _, Nat.le_refl _⟩ (Nat.le_of_ble_eq_true rfl) dX0_isInvertible_17 ?_
    refine am_lstore_n (lv' := [(3, .long (L 36 (q_cell v1 v2 v2).toNatClampNeg)), (0, .ref ((zB z).size + 35)), (1, .int v1), (2, .int v2)]) hz1 dX0_isInvertible_20 rfl rfl rfl ?_
    refine am_lload_n hz1 dX0_isInvertible_21 0 rfl rfl ?_
    refine am_lconst (v := 1) hz1 dX0_isInvertible_22 (by decide) ?_
    refine am_lif_eq (tgt := 37) hz1 dX0_isInvertible_23 dX0_isInvertible_24 (by decide) (fun c3 => ?_) (fun c3 => ?_)
    · replace h := h.1 c3
      refine am_iinc (v := v2 + 1) (lv' := [(2, .int (v2 + 1)), (3, .long (L 36 (q_cell v1 v2 v2).toNatClampNeg)), (0, .ref ((zB z).size + 35)), (1, .int v1)]) hz1 dX0_isInvertible_37 3 rfl rfl rfl rfl ?_
      refine am_goto (tgt := 2) hz1 dX0_isInvertible_40 (by decide) ?_
      exact am_sub (lv' := [(0, .ref ((zB z).size + 35)), (1, .int v1), (2, .int (v2 + 1))]) [2, 3, 0] rfl h
    · replace h := h.2 c3
      refine am_lload_n hz1 dX0_isInvertible_27 0 rfl rfl ?_
      refine am_ldc2 hz1 kc_X0_112 dX0_isInvertible_28 ?_
      refine am_lif_eq (tgt := 37) hz1 dX0_isInvertible_31 dX0_isInvertible_32 (by decide) (fun c4 => ?_) (fun c4 => ?_)
      · replace h := h.1 c4
        refine am_iinc (v := v2 + 1) (lv' := [(2, .int (v2 + 1)), (3, .long (L 36 (q_cell v1 v2 v2).toNatClampNeg)), (0, .ref ((zB z).size + 35)), (1, .int v1)]) hz1 dX0_isInvertible_37 3 rfl rfl rfl rfl ?_
        refine am_goto (tgt := 2) hz1 dX0_isInvertible_40 (by decide) ?_
        exact am_sub (lv' := [(0, .ref ((zB z).size + 35)), (1, .int v1), (2, .int (v2 + 1))]) [2, 3, 0] rfl h
      · replace h := h.2 c4
        refine am_iconst (v := 0) hz1 dX0_isInvertible_35 (by decide) ?_
        exact am_zreturn hz (by decide) dX0_isInvertible_36 h
set_option maxRecDepth 100000 in
set_option maxHeartbeats 4000000 in
theorem c_X0_isInvertible {l : Launch} {D : va_G} {B : Heap} {G : amG} {I : amI} {L : amL}  (hG : Lay G)  (v1 : Int32) (hs : szOk I 3) (hf : fnOk v1) : Fx l D B yX0_isInvertible cX0_isInvertible 5 (some .boolean) 2 [.ref (B.size + 35), .int v1] G I L (some (.int (bI (q_inv I L v1)))) I L := by
  refine Mx.of (by decide) rfl rfl (fun z e1 e2 e3 hz => ?_)
  subst e1; subst e2; subst e3
  refine b_X0_isInvertible_0 hz hG ?_
  obtain ⟨n, hn1, h16, hn⟩ := id hs
  obtain ⟨k, hk, rfl⟩ := hf
  refine for_up (P := fun i => scan (fun a => decide (¬ L 36 (q_cell (nI k) (nI a) (nI a)).toNatClampNeg = 1) && decide (¬ L 36 (q_cell (nI k) (nI a) (nI a)).toNatClampNeg = -1)) (fun _ => false) true (n - i) i = q_inv I L (nI k) → Wx z 0 0 2 [(0, .ref ((zB z).size + 35)), (1, .int (nI k)), (2, .int (nI i))] [] G I L) (n := n) ?_ ?_ (Nat.zero_le n) (by rw [q_inv, sz_eq hn h16, Nat.sub_zero])
  · intro e
    rw [scan_0] at e
    exact b_X0_isInvertible_2 hz hG ⟨fun _ => ⟨by rw [← e]; rfl, rfl, rfl, rfl⟩, fun h => absurd (sz_le hn h16) h⟩
  · intro i hi ih e
    rw [scan_s hi] at e
    refine b_X0_isInvertible_2 hz hG ⟨fun h => absurd h (sz_ge hn h16 hi), fun _ => ⟨by rw [cell_n]; exact in_nI (by omega) (by decide), fun h => ?_, fun h => ⟨fun h2 => ?_, fun h2 => ?_⟩⟩⟩
    · rw [if_neg (by rw [decide_eq_false (not_not_intro h), Bool.false_and]; decide)] at e
      rw [nI_1]
      exact ih e
    · rw [if_neg (by rw [decide_eq_false (not_not_intro h2), Bool.and_false]; decide)] at e
      rw [nI_1]
      exact ih e
    · rw [if_pos (by rw [decide_eq_true h, decide_eq_true h2]; rfl)] at e
      exact ⟨by rw [← e]; rfl, rfl, rfl, rfl⟩
/-- a table of values: those of the rows ahead of a, of row a those ahead of b, are V's; else 0 -/
def KP (V : Nat → Nat → Int64) (n a b : Nat) (f : Nat → Int64) : Prop := ∀ x y, x < 16 → y < 16 → f (16 * x + y) = if (x < n ∧ y < n ∧ (x < a ∨ x = a ∧ y < b)) then V x y else 0
def KV (V : Nat → Nat → Int64) (n : Nat) (f : Nat → Int64) : Prop := ∀ x y, x < 16 → y < 16 → f (16 * x + y) = if (x < n ∧ y < n) then V x y else 0
theorem KP_0 {V : Nat → Nat → Int64} {n : Nat} {f : Nat → Int64} : KP V n 0 0 (q_fill f 256 0) := by
  intro x y hx hy
  rw [if_neg (by omega), q_fill, if_pos (by omega)]
theorem KP_row {V : Nat → Nat → Int64} {n a : Nat} {f : Nat → Int64} (h : KP V n a n f) : KP V n (a + 1) 0 f := by
  intro x y hx hy
  rw [h x y hx hy]
  by_cases c : x < n ∧ y < n ∧ (x < a ∨ x = a ∧ y < n)
  · rw [if_pos c, if_pos (by omega)]
  · rw [if_neg c, if_neg (by omega)]
theorem KP_end {V : Nat → Nat → Int64} {n : Nat} {f : Nat → Int64} (h : KP V n n 0 f) : KV V n f := by
  intro x y hx hy
  rw [h x y hx hy]
  by_cases c : x < n ∧ y < n
  · rw [if_pos c, if_pos (by omega)]
  · rw [if_neg c, if_neg (by omega)]
theorem KP_s {V : Nat → Nat → Int64} {n a b : Nat} {f : Nat → Int64} {v : Int64} (h16 : n ≤ 16) (h : KP V n a b f) (ha : a < n) (hb : b < n) (hv : v = V a b) : KP V n a (b + 1) (vp_updL f (16 * a + b) v) := by
  intro x y hx hy
  by_cases e : 16 * x + y = 16 * a + b
  · have e1 : x = a := by omega
    have e2 : y = b := by omega
    subst e1; subst e2
    rw [pk_uLs, if_pos (by omega), hv]
  · rw [pk_uLn e, h x y hx hy]
    by_cases c : x < n ∧ y < n ∧ (x < a ∨ x = a ∧ y < b)
    · rw [if_pos c, if_pos (by omega)]
    · rw [if_neg c, if_neg (by omega)]
theorem KP_n {V : Nat → Nat → Int64} {n a b : Nat} {f : Nat → Int64} (h : KP V n a b f) (hv : V a b = 0) : KP V n a (b + 1) f := by
  intro x y hx hy
  rw [h x y hx hy]
  by_cases e : x = a ∧ y = b
  · obtain ⟨rfl, rfl⟩ := e
    rw [if_neg (by omega)]
    by_cases c : x < n ∧ y < n ∧ (x < x ∨ x = x ∧ y < y + 1)
    · rw [if_pos c, hv]
    · rw [if_neg c]
  · by_cases c : x < n ∧ y < n ∧ (x < a ∨ x = a ∧ y < b)
    · rw [if_pos c, if_pos (by omega)]
    · rw [if_neg c, if_neg (by omega)]
def PFx (L : amL) (p beg a x : Nat) : Int64 := L p (beg + (16 * a + x))
def QFx (L : amL) (y b x : Nat) : Int64 := L 36 (256 * y + 16 * x + b)
def prV (I : amI) (L : amL) (p beg y n a b : Nat) : Int64 := tS (PFx L p beg a) (QFx L y b) (q_between I 3 (nI a) (nI b)) n
def prO (I : amI) (L : amL) (p beg y n a b : Nat) : Bool := oS (PFx L p beg a) (QFx L y b) (q_between I 3 (nI a) (nI b)) n
theorem orN_or {p : Nat → Bool} {b : Bool} {n : Nat} : (b || orN p (n + 1)) = ((b || orN p n) || p n) := by rw [orN, Bool.or_assoc]
set_option maxRecDepth 100000 in
set_option maxHeartbeats 4000000 in
theorem b_X0_reckonProduct_0 {z : amZ} {post : amP} {G : amG} {I : amI} {L : amL} (hz : Go z cX0_reckonProduct RX0 8 none 3 0 0 post) (hG : Lay G) {n1 : Nat} {p1 : Nat} (hn_p1 : p1 < gN G) (hk_p1 : gK G p1 = 52) (hl_p1 : gL G p1 = n1) {v2 : Int32} {v3 : Int32} (h : Wx z 0 0 11 [(0, .ref ((zB z).size + 35)), (1, .ref ((zB z).size + p1)), (2, .int v2), (3, .int v3), (4, .int 0)] [] G I (setL L 37 (q_fill (L 37) 256 (0 : Int64)))) : Wx z 0 0 0 [(0, .ref ((zB z).size + 35)), (1, .ref ((zB z).size + p1)), (2, .int v2), (3, .int v3)] [] G I L := by
  have hz1 := hz.1
  refine am_aload_n hz1 dX0_reckonProduct_0 0 rfl rfl ?_
  refine am_getR hz1 fl_X0_15 (ln_35 hG) (lk_35 hG) (lr_35_1 hG) rfl dX0_reckonProduct_1 ?_
  refine am_lconst (v := 0) hz1 dX0_reckonProduct_4 (by decide) ?_
  refine am_cSf hz ct_X0_36 [.ref ((zB z).size + 37), .long (0 : Int64)] [] (c_J7_fill_d0a16 hG (ln_37 hG) (lk_37 hG) (ll_37 hG) (0 : Int64) (by decide)) rfl rfl rfl ⟨Nat.le_refl _, Nat.le_refl _⟩ (Nat.le_of_ble_eq_true rfl) dX0_reckonProduct_5 ?_
  refine am_iconst (v := 0) hz1 dX0_reckonProduct_8 (by decide) ?_
  refine am_istore (lv' := [(4, .int 0), (0, .ref ((zB z).size + 35)), (1, .ref ((zB z).size + p1)), (2, .int v2), (3, .int v3)]) hz1 dX0_reckonProduct_9 rfl rfl ?_
  exact am_sub (lv' := [(0, .ref ((zB z).size + 35)), (1, .ref ((zB z).size + p1)), (2, .int v2), (3, .int v3), (4, .int 0)]) [1, 2, 3, 4, 0] rfl h
set_option maxRecDepth 100000 in
set_option maxHeartbeats 4000000 in
theorem b_X0_reckonProduct_11 {z : amZ} {post : amP} {G : amG} {I : amI} {L : amL} (hz : Go z cX0_reckonProduct RX0 8 none 3 0 0 post) (hG : Lay G) {n1 : Nat} {p1 : Nat} (hn_p1 : p1 < gN G) (hk_p1 : gK G p1 = 52) (hl_p1 : gL G p1 = n1) {v2 : Int32} {v3 : Int32} {v4 : Int32} (h : (((I 3 0) ≤ v4) → post none G I L) ∧ ((¬ (I 3 0) ≤ v4) → Wx z 0 0 26 [(0, .ref ((zB z).size + 35)), (1, .ref ((zB z).size + p1)), (2, .int v2), (3, .int v3), (4, .int v4), (5, .int 0)] [] G I L)) : Wx z 0 0 11 [(0, .ref ((zB z).size + 35)), (1, .ref ((zB z).size + p1)), (2, .int v2), (3, .int v3), (4, .int v4)] [] G I L := by
  have hz1 := hz.1
  refine am_iload hz1 dX0_reckonProduct_11 4 rfl ?_
  refine am_aload_n hz1 dX0_reckonProduct_13 0 rfl rfl ?_
  refine am_getR hz1 fl_X0_24 (ln_35 hG) (lk_35 hG) (lr_35_4 hG) rfl dX0_reckonProduct_14 ?_
  refine am_getI hz1 fl_X0_48 (ln_3 hG) (lk_3 hG) rfl dX0_reckonProduct_17 ?_
  refine am_icmp_ge (tgt := 151) hz1 dX0_reckonProduct_20 (by decide) (fun c1 => ?_) (fun c1 => ?_)
  · replace h := h.1 c1
    exact am_return hz dX0_reckonProduct_151 h
  · replace h := h.2 c1
    refine am_iconst (v := 0) hz1 dX0_reckonProduct_23 (by decide) ?_
    refine am_istore (lv' := [(5, .int 0), (0, .ref ((zB z).size + 35)), (1, .ref ((zB z).size + p1)), (2, .int v2), (3, .int v3), (4, .int v4)]) hz1 dX0_reckonProduct_24 rfl rfl ?_
    exact am_sub (lv' := [(0, .ref ((zB z).size + 35)), (1, .ref ((zB z).size + p1)), (2, .int v2), (3, .int v3), (4, .int v4), (5, .int 0)]) [1, 2, 3, 4, 5, 0] rfl h
set_option maxRecDepth 100000 in
set_option maxHeartbeats 4000000 in
theorem b_X0_reckonProduct_26 {z : amZ} {post : amP} {G : amG} {I : amI} {L : amL} (hz : Go z cX0_reckonProduct RX0 8 none 3 0 0 post) (hG : Lay G) {n1 : Nat} {p1 : Nat} (hn_p1 : p1 < gN G) (hk_p1 : gK G p1 = 52) (hl_p1 : gL G p1 = n1) {v2 : Int32} {v3 : Int32} {v4 : Int32} {v5 : Int32} (h : (((I 3 0) ≤ v5) → Wx z 0 0 11 [(0, .ref ((zB z).size + 35)), (1, .ref ((zB z).size + p1)), (2, .int v2), (3, .int v3), (4, .int (v4 + 1))] [] G I L) ∧ ((¬ (I 3 0) ≤ v5) → (szOk I 3) ∧ Wx z 0 0 62 [(0, .ref ((zB z).size + 35)), (1, .ref ((zB z).size + p1)), (2, .int v2), (3, .int v3), (4, .int v4), (5, .int v5), (6, .int (q_between I 3 v4 v5)), (7, .int 0)] [] G I (setL L 34 (vp_updL (L 34) 0 (0 : Int64))))) : Wx z 0 0 26 [(0, .ref ((zB z).size + 35)), (1, .ref ((zB z).size + p1)), (2, .int v2), (3, .int v3), (4, .int v4), (5, .int v5)] [] G I L := by
  have hz1 := hz.1
  refine am_iload hz1 dX0_reckonProduct_26 5 rfl ?_
  refine am_aload_n hz1 dX0_reckonProduct_28 0 rfl rfl ?_
  refine am_getR hz1 fl_X0_24 (ln_35 hG) (lk_35 hG) (lr_35_4 hG) rfl dX0_reckonProduct_29 ?_
  refine am_getI hz1 fl_X0_48 (ln_3 hG) (lk_3 hG) rfl dX0_reckonProduct_32 ?_
  refine am_icmp_ge (tgt := 145) hz1 dX0_reckonProduct_35 (by decide) (fun c1 => ?_) (fun c1 => ?_)
  · replace h := h.1 c1
    refine am_iinc (v := v4 + 1) (lv' := [(4, .int (v4 + 1)), (0, .ref ((zB z).size + 35)), (1, .ref ((zB z).size + p1)), (2, .int v2), (3, .int v3), (5, .int v5)]) hz1 dX0_reckonProduct_145 4 rfl rfl rfl rfl ?_
    refine am_goto (tgt := 11) hz1 dX0_reckonProduct_148 (by decide) ?_
    exact am_sub (lv' := [(0, .ref ((zB z).size + 35)), (1, .ref ((zB z).size + p1)), (2, .int v2), (3, .int v3), (4, .int (v4 + 1))]) [1, 2, 3, 4, 0] rfl h
  · replace h := h.2 c1
    refine am_aload_n hz1 dX0_reckonProduct_38 0 rfl rfl ?_
    refine am_getR hz1 fl_X0_24 (ln_35 hG) (lk_35 hG) (lr_35_4 hG) rfl dX0_reckonProduct_39 ?_
    refine am_iload hz1 dX0_reckonProduct_42 4 rfl ?_
    refine am_iload hz1 dX0_reckonProduct_44 5 rfl ?_
    obtain ⟨g2, h⟩ := h
    refine am_cVf hz cv_X0_70 [.int v4, .int v5] [] (c_X4_between hG isO_3 v4 v5 g2) (ln_3 hG) (lk_3 hG) rfl rfl rfl ⟨Nat.le_refl _, Nat.le_refl _⟩ (Nat.le_of_ble_eq_true rfl) dX0_reckonProduct_46 ?_
    refine am_istore (lv' := [(6, .int (q_between I 3 v4 v5)), (0, .ref ((zB z).size + 35)), (1, .ref ((zB z).size + p1)), (2, .int v2), (3, .int v3), (4, .int v4), (5, .int v5)]) hz1 dX0_reckonProduct_49 rfl rfl ?_
    refine am_aload_n hz1 dX0_reckonProduct_51 1 rfl rfl ?_
    refine am_getR hz1 fl_X0_28 (ln_35 hG) (lk_35 hG) (lr_35_5 hG) rfl dX0_reckonProduct_52 ?_
    refine am_lconst (v := 0) hz1 dX0_reckonProduct_55 (by decide) ?_
    refine am_putL hz1 fl_X0_80 (ln_34 hG) (lk_34 hG) rfl rfl (fun _ => rfl) dX0_reckonProduct_56 ?_
    refine am_iconst (v := 0) hz1 dX0_reckonProduct_59 (by decide) ?_
    refine am_istore (lv' := [(7, .int 0), (6, .int (q_between I 3 v4 v5)), (0, .ref ((zB z).size + 35)), (1, .ref ((zB z).size + p1)), (2, .int v2), (3, .int v3), (4, .int v4), (5, .int v5)]) hz1 dX0_reckonProduct_60 rfl rfl ?_
    exact am_sub (lv' := [(0, .ref ((zB z).size + 35)), (1, .ref ((zB z).size + p1)), (2, .int v2), (3, .int v3), (4, .int v4), (5, .int v5), (6, .int (q_between I 3 v4 v5)), (7, .int 0)]) [2, 3, 4, 5, 6, 7, 1, 0] rfl h
set_option maxRecDepth 100000 in
set_option maxHeartbeats 4000000 in
theorem b_X0_reckonProduct_62 {z : amZ} {post : amP} {G : amG} {I : amI} {L : amL} (hz : Go z cX0_reckonProduct RX0 8 none 3 0 0 post) (hG : Lay G) {n1 : Nat} {p1 : Nat} (hn_p1 : p1 < gN G) (hk_p1 : gK G p1 = 52) (hl_p1 : gL G p1 = n1) {v2 : Int32} {v3 : Int32} {v4 : Int32} {v5 : Int32} {v6 : Int32} {v7 : Int32} (h : (((I 3 0) ≤ v7) → vp_in (q_cell (0 : Int32) v4 v5) 256 ∧ Wx z 0 0 26 [(0, .ref ((zB z).size + 35)), (1, .ref ((zB z).size + p1)), (2, .int v2), (3, .int v3), (4, .int v4), (5, .int (v5 + 1))] [] G I (setL L 37 (vp_updL (L 37) (q_cell (0 : Int32) v4 v5).toNatClampNeg (L 34 0)))) ∧ ((¬ (I 3 0) ≤ v7) → ((¬ ((v6 >>> (v7 &&& 31)) &&& (1 : Int32)) = (1 : Int32)) → Wx z 0 0 62 [(0, .ref ((zB z).size + 35)), (1, .ref ((zB z).size + p1)), (2, .int v2), (3, .int v3), (4, .int v4), (5, .int v5), (6, .int v6), (7, .int (v7 + 1))] [] G I L) ∧ ((((v6 >>> (v7 &&& 31)) &&& (1 : Int32)) = (1 : Int32)) → vp_in (v2 + (q_cell (0 : Int32) v4 v7)) n1 ∧ (vp_in (q_cell v3 v7 v5) 1024) ∧ Wx z 0 0 62 [(0, .ref ((zB z).size + 35)), (1, .ref ((zB z).size + p1)), (2, .int v2), (3, .int v3), (4, .int v4), (5, .int v5), (6, .int v6), (7, .int (v7 + 1))] [] G (sI I (q_ovA (L 34 0) ((L p1 (v2 + (q_cell (0 : Int32) v4 v7)).toNatClampNeg) * (L 36 (q_cell v3 v7 v5).toNatClampNeg)) (if q_tl (L p1 (v2 + (q_cell (0 : Int32) v4 v7)).toNatClampNeg) (L 36 (q_cell v3 v7 v5).toNatClampNeg) = true then 1 else I 34 1))) (sL L (L 34 0 + (L p1 (v2 + (q_cell (0 : Int32) v4 v7)).toNatClampNeg) * (L 36 (q_cell v3 v7 v5).toNatClampNeg)))))) : Wx z 0 0 62 [(0, .ref ((zB z).size + 35)), (1, .ref ((zB z).size + p1)), (2, .int v2), (3, .int v3), (4, .int v4), (5, .int v5), (6, .int v6), (7, .int v7)] [] G I L := by
  have hz1 := hz.1
  refine am_iload hz1 dX0_reckonProduct_62 7 rfl ?_
  refine am_aload_n hz1 dX0_reckonProduct_64 0 rfl rfl ?_
  refine am_getR hz1 fl_X0_24 (ln_35 hG) (lk_35 hG) (lr_35_4 hG) rfl dX0_reckonProduct_65 ?_
  refine am_getI hz1 fl_X0_48 (ln_3 hG) (lk_3 hG) rfl dX0_reckonProduct_68 ?_
  refine am_icmp_ge (tgt := 119) hz1 dX0_reckonProduct_71 (by decide) (fun c1 => ?_) (fun c1 => ?_)
  · replace h := h.1 c1
    refine am_aload_n hz1 dX0_reckonProduct_119 0 rfl rfl ?_
    refine am_getR hz1 fl_X0_15 (ln_35 hG) (lk_35 hG) (lr_35_1 hG) rfl dX0_reckonProduct_120 ?_
    refine am_iconst (v := 0) hz1 dX0_reckonProduct_123 (by decide) ?_
    refine am_iload hz1 dX0_reckonProduct_124 4 rfl ?_
    refine am_iload hz1 dX0_reckonProduct_126 5 rfl ?_
    refine am_cSf hz ct_X0_32 [.int 0, .int v4, .int v5] [.ref ((zB z).size + 37)] (c_X0_cell hG (0 : Int32) v4 v5 ) rfl rfl rfl ⟨Nat.le_refl _, Nat.le_refl _⟩ (Nat.le_of_ble_eq_true rfl) dX0_reckonProduct_128 ?_
    refine am_aload_n hz1 dX0_reckonProduct_131 0 rfl rfl ?_
    refine am_getR hz1 fl_X0_28 (ln_35 hG) (lk_35 hG) (lr_35_5 hG) rfl dX0_reckonProduct_132 ?_
    refine am_getL hz1 fl_X0_80 (ln_34 hG) (lk_34 hG) rfl dX0_reckonProduct_135 ?_
    obtain ⟨g2, h⟩ := h
    refine am_last hz1 (ln_37 hG) (lk_37 hG) (by rw [(ll_37 hG)]; exact g2) dX0_reckonProduct_138 ?_
    refine am_iinc (v := v5 + 1) (lv' := [(5, .int (v5 + 1)), (0, .ref ((zB z).size + 35)), (1, .ref ((zB z).size + p1)), (2, .int v2), (3, .int v3), (4, .int v4), (6, .int v6), (7, .int v7)]) hz1 dX0_reckonProduct_139 5 rfl rfl rfl rfl ?_
    refine am_goto (tgt := 26) hz1 dX0_reckonProduct_142 (by decide) ?_
    exact am_sub (lv' := [(0, .ref ((zB z).size + 35)), (1, .ref ((zB z).size + p1)), (2, .int v2), (3, .int v3), (4, .int v4), (5, .int (v5 + 1))]) [1, 2, 3, 4, 5, 0] rfl h
  · replace h := h.2 c1
    refine am_iload hz1 dX0_reckonProduct_74 6 rfl ?_
    refine am_iload hz1 dX0_reckonProduct_76 7 rfl ?_
    refine am_ishr hz1 dX0_reckonProduct_78 ?_
    refine am_iconst (v := 1) hz1 dX0_reckonProduct_79 (by decide) ?_
    refine am_iand hz1 dX0_reckonProduct_80 ?_
    refine am_iconst (v := 1) hz1 dX0_reckonProduct_81 (by decide) ?_
    refine am_icmp_ne (tgt := 113) hz1 dX0_reckonProduct_82 (by decide) (fun c3 => ?_) (fun c3 => ?_)
    · replace h := h.1 c3
      refine am_iinc (v := v7 + 1) (lv' := [(7, .int (v7 + 1)), (0, .ref ((zB z).size + 35)), (1, .ref ((zB z).size + p1)), (2, .int v2), (3, .int v3), (4, .int v4), (5, .int v5), (6, .int v6)]) hz1 dX0_reckonProduct_113 7 rfl rfl rfl rfl ?_
      refine am_goto (tgt := 62) hz1 dX0_reckonProduct_116 (by decide) ?_
      exact am_sub (lv' := [(0, .ref ((zB z).size + 35)), (1, .ref ((zB z).size + p1)), (2, .int v2), (3, .int v3), (4, .int v4), (5, .int v5), (6, .int v6), (7, .int (v7 + 1))]) [1, 2, 3, 4, 5, 6, 7, 0] rfl h
    · replace h := h.2 c3
      refine am_aload_n hz1 dX0_reckonProduct_85 0 rfl rfl ?_
      refine am_getR hz1 fl_X0_28 (ln_35 hG) (lk_35 hG) (lr_35_5 hG) rfl dX0_reckonProduct_86 ?_
      refine am_aload_n hz1 dX0_reckonProduct_89 1 rfl rfl ?_
      refine am_iload_n hz1 dX0_reckonProduct_90 2 rfl rfl ?_
      refine am_iconst (v := 0) hz1 dX0_reckonProduct_91 (by decide) ?_
      refine am_iload hz1 dX0_reckonProduct_92 4 rfl ?_
      refine am_iload hz1 dX0_reckonProduct_94 7 rfl ?_
      refine am_cSf hz ct_X0_32 [.int 0, .int v4, .int v7] [.int v2, .ref ((zB z).size + p1), .ref ((zB z).size + 34)] (c_X0_cell hG (0 : Int32) v4 v7 ) rfl rfl rfl ⟨Nat.le_refl _, Nat.le_refl _⟩ (Nat.le_of_ble_eq_true rfl) dX0_reckonProduct_96 ?_
      refine am_iadd hz1 dX0_reckonProduct_99 ?_
      obtain ⟨g4, h⟩ := h
      refine am_lald hz1 hn_p1 hk_p1 (by rw [hl_p1]; exact g4) dX0_reckonProduct_100 ?_
      refine am_aload_n hz1 dX0_reckonProduct_101 0 rfl rfl ?_
      refine am_iload_n hz1 dX0_reckonProduct_102 3 rfl rfl ?_
      refine am_iload hz1 dX0_reckonProduct_103 7 rfl ?_
      refine am_iload hz1 dX0_reckonProduct_105 5 rfl ?_
      obtain ⟨g5, h⟩ := h
      refine am_cVf hz cv_X0_97 [.int v3, .int v7, .int v5] [.long (L p1 (v2 + (q_cell (0 : Int32) v4 v7)).toNatClampNeg), .ref ((zB z).size + 34)] (c_X0_at hG v3 v7 v5 g5) (ln_35 hG) (lk_35 hG) rfl rfl rfl ⟨Nat.le_refl _, Nat.le_refl _⟩ (Nat.le_of_ble_eq_true rfl) dX0_reckonProduct_107 ?_
      refine am_cVf hz cv_X0_86 [.long (L p1 (v2 + (q_cell (0 : Int32) v4 v7)).toNatClampNeg), .long (L 36 (q_cell v3 v7 v5).toNatClampNeg)] [] (c_X9_addProduct hG (L p1 (v2 + (q_cell (0 : Int32) v4 v7)).toNatClampNeg) (L 36 (q_cell v3 v7 v5).toNatClampNeg) ) (ln_34 hG) (lk_34 hG) rfl rfl rfl ⟨Nat.le_refl _, Nat.le_refl _⟩ (Nat.le_of_ble_eq_true rfl) dX0_reckonProduct_110 ?_
      refine am_iinc (v := v7 + 1) (lv' := [(7, .int (v7 + 1)), (0, .ref ((zB z).size + 35)), (1, .ref ((zB z).size + p1)), (2, .int v2), (3, .int v3), (4, .int v4), (5, .int v5), (6, .int v6)]) hz1 dX0_reckonProduct_113 7 rfl rfl rfl rfl ?_
      refine am_goto (tgt := 62) hz1 dX0_reckonProduct_116 (by decide) ?_
      exact am_sub (lv' := [(0, .ref ((zB z).size + 35)), (1, .ref ((zB z).size + p1)), (2, .int v2), (3, .int v3), (4, .int v4), (5, .int v5), (6, .int v6), (7, .int (v7 + 1))]) [1, 2, 3, 4, 5, 6, 7, 0] rfl h
set_option maxRecDepth 100000 in
set_option maxHeartbeats 4000000 in
theorem c_X0_reckonProduct {l : Launch} {D : va_G} {B : Heap} {G : amG} {I : amI} {L : amL} {p1 : Nat} {n1 : Nat} (hG : Lay G) (hn_p1 : p1 < gN G) (hk_p1 : gK G p1 = 52) (hl_p1 : gL G p1 = n1) (v2 : Int32) (v3 : Int32) {n beg y : Nat} {b : Bool} (hn : I 3 0 = nI n) (h1 : 1 ≤ n) (h16 : n ≤ 16) (hb : I 34 1 = bI b) (hp34 : p1 ≠ 34) (hp37 : p1 ≠ 37) (hbeg : beg + 256 ≤ n1) (hn1 : n1 ≤ 1024) (hy : y < 4) (hv2 : v2 = nI beg) (hv3 : v3 = nI y) : Mx l D B yX0_reckonProduct cX0_reckonProduct 8 none 3 0 0 [.ref (B.size + 35), .ref (B.size + p1), .int v2, .int v3] G I L (fun r G1 I1 L1 => r = none ∧ G1 = G ∧ I1 = sI I (bI (b || orN (fun a => orN (prO I L p1 beg y n a) n) n)) ∧ ∃ (f : Nat → Int64) (t : Int64), L1 = sL (setL L 37 f) t ∧ KV (prV I L p1 beg y n) n f) := by
  refine Mx.of (by decide) rfl rfl (fun z e1 e2 e3 hz => ?_)
  subst e1; subst e2; subst e3
  refine b_X0_reckonProduct_0 hz hG hn_p1 hk_p1 hl_p1 ?_
  subst hv2; subst hv3
  have hs : szOk I 3 := ⟨n, h1, h16, hn⟩
  have hK : ∀ v, sI I v 3 0 = nI n := fun v => by rw [sI_o (by decide), hn]
  have hbt : ∀ v x w, q_between (sI I v) 3 x w = q_between I 3 x w := fun v x w => btw_c (sI_o (by decide)) (sI_o (by decide)) (sI_o (by decide))
  have main : ∀ (f : Nat → Int64) (t : Int64), KP (prV I L p1 beg y n) n 0 0 f → Wx z 0 0 11 [(0, .ref ((zB z).size + 35)), (1, .ref ((zB z).size + p1)), (2, .int (nI beg)), (3, .int (nI y)), (4, .int (nI 0))] [] G (sI I (bI (b || orN (fun a => orN (prO I L p1 beg y n a) n) 0))) (sL (setL L 37 f) t) := by
    refine for_up (P := fun a => ∀ (f : Nat → Int64) (t : Int64), KP (prV I L p1 beg y n) n a 0 f → Wx z 0 0 11 [(0, .ref ((zB z).size + 35)), (1, .ref ((zB z).size + p1)), (2, .int (nI beg)), (3, .int (nI y)), (4, .int (nI a))] [] G (sI I (bI (b || orN (fun a => orN (prO I L p1 beg y n a) n) a))) (sL (setL L 37 f) t)) (n := n) ?_ ?_ (Nat.zero_le n)
    · intro f t hf
      exact b_X0_reckonProduct_11 hz hG hn_p1 hk_p1 hl_p1 ⟨fun _ => ⟨rfl, rfl, rfl, f, t, rfl, KP_end hf⟩, fun h => absurd (sz_le (hK _) h16) h⟩
    · intro a ha ih f t hf
      refine b_X0_reckonProduct_11 hz hG hn_p1 hk_p1 hl_p1 ⟨fun h => absurd h (sz_ge (hK _) h16 ha), fun _ => ?_⟩
      have inner : ∀ (f : Nat → Int64) (t : Int64), KP (prV I L p1 beg y n) n a 0 f → Wx z 0 0 26 [(0, .ref ((zB z).size + 35)), (1, .ref ((zB z).size + p1)), (2, .int (nI beg)), (3, .int (nI y)), (4, .int (nI a)), (5, .int (nI 0))] [] G (sI I (bI ((b || orN (fun a => orN (prO I L p1 beg y n a) n) a) || orN (prO I L p1 beg y n a) 0))) (sL (setL L 37 f) t) := by
        refine for_up (P := fun c => ∀ (f : Nat → Int64) (t : Int64), KP (prV I L p1 beg y n) n a c f → Wx z 0 0 26 [(0, .ref ((zB z).size + 35)), (1, .ref ((zB z).size + p1)), (2, .int (nI beg)), (3, .int (nI y)), (4, .int (nI a)), (5, .int (nI c))] [] G (sI I (bI ((b || orN (fun a => orN (prO I L p1 beg y n a) n) a) || orN (prO I L p1 beg y n a) c))) (sL (setL L 37 f) t)) (n := n) ?_ ?_ (Nat.zero_le n)
        · intro f t hf
          refine b_X0_reckonProduct_26 hz hG hn_p1 hk_p1 hl_p1 ⟨fun _ => ?_, fun h => absurd (sz_le (hK _) h16) h⟩
          rw [nI_1]
          have := ih f t (KP_row hf)
          rw [orN_or] at this
          exact this
        · intro c hc ch f t hf
          refine b_X0_reckonProduct_26 hz hG hn_p1 hk_p1 hl_p1 ⟨fun h => absurd h (sz_ge (hK _) h16 hc), fun _ => ⟨⟨n, h1, h16, hK _⟩, ?_⟩⟩
          rw [hbt]
          have e0 : setL (sL (setL L 37 f) t) 34 (vp_updL (sL (setL L 37 f) t 34) 0 0) = sL (setL L 37 f) 0 := by
            show sL (sL (setL L 37 f) t) 0 = _
            rw [sL_s]
          rw [e0]
          have sum : ∀ bb : Bool, bb = ((b || orN (fun a => orN (prO I L p1 beg y n a) n) a) || orN (prO I L p1 beg y n a) c) → Wx z 0 0 62 [(0, .ref ((zB z).size + 35)), (1, .ref ((zB z).size + p1)), (2, .int (nI beg)), (3, .int (nI y)), (4, .int (nI a)), (5, .int (nI c)), (6, .int (q_between I 3 (nI a) (nI c))), (7, .int (nI 0))] [] G (sI I (bI (bb || oS (PFx L p1 beg a) (QFx L y c) (q_between I 3 (nI a) (nI c)) 0))) (sL (setL L 37 f) (tS (PFx L p1 beg a) (QFx L y c) (q_between I 3 (nI a) (nI c)) 0)) := by
            intro bb hbb
            refine for_up (P := fun x => Wx z 0 0 62 [(0, .ref ((zB z).size + 35)), (1, .ref ((zB z).size + p1)), (2, .int (nI beg)), (3, .int (nI y)), (4, .int (nI a)), (5, .int (nI c)), (6, .int (q_between I 3 (nI a) (nI c))), (7, .int (nI x))] [] G (sI I (bI (bb || oS (PFx L p1 beg a) (QFx L y c) (q_between I 3 (nI a) (nI c)) x))) (sL (setL L 37 f) (tS (PFx L p1 beg a) (QFx L y c) (q_between I 3 (nI a) (nI c)) x))) (n := n) ?_ ?_ (Nat.zero_le n)
            · refine b_X0_reckonProduct_62 hz hG hn_p1 hk_p1 hl_p1 ⟨fun _ => ⟨by rw [cell_0]; exact in_nI (by omega) (by decide), ?_⟩, fun h => absurd (sz_le (hK _) h16) h⟩
              rw [sL_v, sL_o (by decide), setL_s, cell_0, cl_nI (by omega), sL_sw (by decide), setL_ss, nI_1]
              have := ch _ (tS (PFx L p1 beg a) (QFx L y c) (q_between I 3 (nI a) (nI c)) n) (KP_s h16 hf ha hc (v := tS (PFx L p1 beg a) (QFx L y c) (q_between I 3 (nI a) (nI c)) n) rfl)
              rw [orN_or, ← hbb] at this
              exact this
            · intro x hx xh
              refine b_X0_reckonProduct_62 hz hG hn_p1 hk_p1 hl_p1 ⟨fun h => absurd h (sz_ge (hK _) h16 hx), fun _ => ⟨fun h => ?_, fun h => ?_⟩⟩
              · have hbx := (b_bit0 _ x (by omega)).mp h
                rw [tS, oS, if_neg (by rw [hbx]; decide), hbx, Bool.false_and, Bool.or_false] at xh
                rw [nI_1]
                exact xh
              · have hbx := (b_bit _ x (by omega)).mp h
                rw [tS, oS, if_pos hbx, hbx, Bool.true_and] at xh
                rw [cell_0, cell_n, nI_add, sL_v, sL_o hp34, setL_n hp37, sL_o (by decide), setL_n (by decide), sI_v, sI_s, sL_s, cl_nI (show beg + (16 * a + x) < 2 ^ 31 by omega), cl_nI (show 256 * y + 16 * x + c < 2 ^ 31 by omega), nI_1, ov_b, Bool.or_assoc]
                exact ⟨in_nI (by omega) (by omega), in_nI (by omega) (by decide), xh⟩
          have := sum _ rfl
          rw [oS, Bool.or_false] at this
          exact this
      have := inner f t hf
      rw [orN, Bool.or_false] at this
      exact this
  have := main (q_fill (L 37) 256 0) (L 34 0) KP_0
  rw [orN, Bool.or_false, ← hb, sI_id] at this
  have e : sL (setL L 37 (q_fill (L 37) 256 0)) (L 34 0) = setL L 37 (q_fill (L 37) 256 0) := by
    have := sL_id (L := setL L 37 (q_fill (L 37) 256 0))
    rwa [setL_n (by decide)] at this
  rw [e] at this
  exact this
