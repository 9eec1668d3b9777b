/-! INVERSES -/
/-- the inverse of F, worked out from above: by steps -/
def ivF (n : Nat) (A : Nat → Int32) (F : Nat → Nat → Int64) : Nat → Nat → Nat → Int64
  | 0, _, _ => 0
  | k + 1, a, b => if a = b then F a a else if bt (A a) b = true then (-F a a) * tS (F a) (fun y => ivF n A F k y b) (A a &&& dnS n A b) n else 0
def iv (n : Nat) (A : Nat → Int32) (F : Nat → Nat → Int64) (a b : Nat) : Int64 := ivF n A F n a b
def ivT (n : Nat) (A : Nat → Int32) (F : Nat → Nat → Int64) (a b : Nat) : Int64 := tS (F a) (fun y => iv n A F y b) (A a &&& dnS n A b) n
def ivO (n : Nat) (A : Nat → Int32) (F : Nat → Nat → Int64) (a b : Nat) : Bool := bt (A a) b && (oS (F a) (fun y => iv n A F y b) (A a &&& dnS n A b) n || q_tl (-F a a) (ivT n A F a b))
theorem ivF_st {n : Nat} {A : Nat → Int32} {F : Nat → Nat → Int64} (hP : PO n A) : ∀ (m a b k k' : Nat), a < n → n - key n A a ≤ m + 1 → n - key n A a ≤ k → n - key n A a ≤ k' → ivF n A F k a b = ivF n A F k' a b := by
  intro m
  induction m with
  | zero =>
    intro a b k k' ha h0 hk hk'
    have hka := key_lt hP ha
    obtain ⟨k, rfl⟩ : ∃ j, k = j + 1 := ⟨k - 1, by omega⟩
    obtain ⟨k', rfl⟩ : ∃ j, k' = j + 1 := ⟨k' - 1, by omega⟩
    have e := tS_c (f := F a) (g := fun y => ivF n A F k y b) (f' := F a) (g' := fun y => ivF n A F k' y b) (s := A a &&& dnS n A b) (n := n) (fun y hy hb => by
      rw [b_and, Bool.and_eq_true] at hb
      have h1 := key_up hP ha hy hb.1
      have h2 := key_lt hP hy
      omega)
    rw [ivF, ivF, e]
  | succ m ih =>
    intro a b k k' ha h0 hk hk'
    have hka := key_lt hP ha
    obtain ⟨k, rfl⟩ : ∃ j, k = j + 1 := ⟨k - 1, by omega⟩
    obtain ⟨k', rfl⟩ : ∃ j, k' = j + 1 := ⟨k' - 1, by omega⟩
    have e := tS_c (f := F a) (g := fun y => ivF n A F k y b) (f' := F a) (g' := fun y => ivF n A F k' y b) (s := A a &&& dnS n A b) (n := n) (fun y hy hb => by
      rw [b_and, Bool.and_eq_true] at hb
      have h1 := key_up hP ha hy hb.1
      exact ⟨rfl, ih y b k k' hy (by omega) (by omega) (by omega)⟩)
    rw [ivF, ivF, e]
theorem iv_is {n : Nat} {A : Nat → Int32} {F : Nat → Nat → Int64} (hP : PO n A) {a b : Nat} (ha : a < n) : iv n A F a b = if a = b then F a a else if bt (A a) b = true then (-F a a) * ivT n A F a b else 0 := by
  have hka := key_lt hP ha
  unfold iv ivT iv
  obtain ⟨k, rfl⟩ : ∃ j, n = j + 1 := ⟨n - 1, by omega⟩
  conv => lhs; rw [ivF]
  have e := tS_c (f := F a) (g := fun y => ivF (k + 1) A F k y b) (f' := F a) (g' := fun y => ivF (k + 1) A F (k + 1) y b) (s := A a &&& dnS (k + 1) A b) (n := k + 1) (fun y hy hb => by
      rw [b_and, Bool.and_eq_true] at hb
      have h1 := key_up hP ha hy hb.1
      exact ⟨rfl, ivF_st hP (k + 1) y b k (k + 1) hy (by omega) (by omega) (by omega)⟩)
  rw [e]
theorem OI.below {I : amI} {o n : Nat} {A : Nat → Int32} (h : OI I o n A) {a b : Nat} (ha : a < n) (hb : b < n) : q_isBelow I o (nI a) (nI b) = bt (A a) b := by
  have := h.2.2.1
  rw [q_isBelow, h.has ha, h.has hb, cl_nI (by omega), h.2.2.2.1 a ha]
  by_cases e : bt (A a) b = true
  · rw [e, decide_eq_true ((b_bit (A a) b (by omega)).mpr e)]; rfl
  · rw [Bool.not_eq_true] at e
    rw [e, decide_eq_false ((b_bit0 (A a) b (by omega)).mpr e)]; rfl
theorem OI_c {I1 I2 : amI} {o n : Nat} {A : Nat → Int32} (h : OI I1 o n A) (hc : ∀ j, j ≤ 6 → I2 (o + j) = I1 (o + j)) : OI I2 o n A := by
  obtain ⟨h1, h2, h3, h4, h5, h6, d1, d2, d3, d4, d5, d6⟩ := h
  have c0 := hc 0 (by omega)
  rw [Nat.add_zero] at c0
  refine ⟨by rw [c0]; exact h1, h2, h3, by rw [hc 1 (by omega)]; exact h4, by rw [hc 1 (by omega)]; exact h5, h6, by rw [hc 2 (by omega)]; exact d1, by rw [hc 3 (by omega)]; exact d2, by rw [hc 4 (by omega)]; exact d3, by rw [hc 6 (by omega)]; exact d4, by rw [hc 5 (by omega)]; exact d5, by rw [hc 2 (by omega)]; exact d6⟩
theorem OI_sI {I : amI} {o n : Nat} {A : Nat → Int32} {v : Int32} (h : OI I o n A) (ho : isO o) : OI (sI I v) o n A :=
  OI_c h (fun j hj => sI_o (by rcases ho with e | e | e | e <;> omega))
def Ffn (L : amL) (x a b : Nat) : Int64 := L 36 (256 * x + 16 * a + b)
set_option maxRecDepth 100000 in
set_option maxHeartbeats 4000000 in
theorem b_X0_inverseAt_0 {z : amZ} {post : amP} {G : amG} {I : amI} {L : amL} (hz : Go z cX0_inverseAt RX0 7 (some .long) 2 0 0 post) (hG : Lay G) {v1 : Int32} {v2 : Int32} {v3 : Int32} (h : vp_in v2 16 ∧ (szOk I 3) ∧ Wx z 0 0 31 [(0, .ref ((zB z).size + 35)), (1, .int v1), (2, .int v2), (3, .int v3), (4, .int ((I 4 v2.toNatClampNeg) &&& (q_upTo I 3 v3))), (5, .int 0)] [] G I (setL L 34 (vp_updL (L 34) 0 (0 : Int64)))) : Wx z 0 0 0 [(0, .ref ((zB z).size + 35)), (1, .int v1), (2, .int v2), (3, .int v3)] [] G I L := by
  have hz1 := hz.1
  refine am_aload_n hz1 dX0_inverseAt_0 0 rfl rfl ?_
  refine am_getR hz1 fl_X0_24 (ln_35 hG) (lk_35 hG) (lr_35_4 hG) rfl dX0_inverseAt_1 ?_
  refine am_getR hz1 fl_X0_123 (ln_3 hG) (lk_3 hG) (lr_3_1 hG) rfl dX0_inverseAt_4 ?_
  refine am_iload_n hz1 dX0_inverseAt_7 2 rfl rfl ?_
  obtain ⟨g1, h⟩ := h
  refine am_iald hz1 (ln_4 hG) (lk_4 hG) (by rw [(ll_4 hG)]; exact g1) dX0_inverseAt_8 ?_
  refine am_aload_n hz1 dX0_inverseAt_9 0 rfl rfl ?_
  refine am_getR hz1 fl_X0_24 (ln_35 hG) (lk_35 hG) (lr_35_4 hG) rfl dX0_inverseAt_10 ?_
  refine am_iload_n hz1 dX0_inverseAt_13 3 rfl rfl ?_
  obtain ⟨g2, h⟩ := h
  refine am_cVf hz cv_X0_126 [.int v3] [.int (I 4 v2.toNatClampNeg)] (c_X4_upTo hG isO_3 v3 g2) (ln_3 hG) (lk_3 hG) rfl rfl rfl ⟨Nat.le_refl _, Nat.le_refl _⟩ (Nat.le_of_ble_eq_true rfl) dX0_inverseAt_14 ?_
  refine am_iand hz1 dX0_inverseAt_17 ?_
  refine am_istore (lv' := [(4, .int ((I 4 v2.toNatClampNeg) &&& (q_upTo I 3 v3))), (0, .ref ((zB z).size + 35)), (1, .int v1), (2, .int v2), (3, .int v3)]) hz1 dX0_inverseAt_18 rfl rfl ?_
  refine am_aload_n hz1 dX0_inverseAt_20 1 rfl rfl ?_
  refine am_getR hz1 fl_X0_28 (ln_35 hG) (lk_35 hG) (lr_35_5 hG) rfl dX0_inverseAt_21 ?_
  refine am_lconst (v := 0) hz1 dX0_inverseAt_24 (by decide) ?_
  refine am_putL hz1 fl_X0_80 (ln_34 hG) (lk_34 hG) rfl rfl (fun _ => rfl) dX0_inverseAt_25 ?_
  refine am_iconst (v := 0) hz1 dX0_inverseAt_28 (by decide) ?_
  refine am_istore (lv' := [(5, .int 0), (4, .int ((I 4 v2.toNatClampNeg) &&& (q_upTo I 3 v3))), (0, .ref ((zB z).size + 35)), (1, .int v1), (2, .int v2), (3, .int v3)]) hz1 dX0_inverseAt_29 rfl rfl ?_
  exact am_sub (lv' := [(0, .ref ((zB z).size + 35)), (1, .int v1), (2, .int v2), (3, .int v3), (4, .int ((I 4 v2.toNatClampNeg) &&& (q_upTo I 3 v3))), (5, .int 0)]) [2, 3, 4, 5, 1, 0] rfl h
set_option maxRecDepth 100000 in
set_option maxHeartbeats 4000000 in
theorem b_X0_inverseAt_31 {z : amZ} {post : amP} {G : amG} {I : amI} {L : amL} (hz : Go z cX0_inverseAt RX0 7 (some .long) 2 0 0 post) (hG : Lay G) {v1 : Int32} {v2 : Int32} {v3 : Int32} {v4 : Int32} {v5 : Int32} (h : (((I 3 0) ≤ v5) → (vp_in (q_cell v1 v2 v2) 1024) ∧ post (some (.long ((sL (setL L 34 (vp_updL (L 34) 0 (0 : Int64))) ((setL L 34 (vp_updL (L 34) 0 (0 : Int64))) 34 0 + (-((setL L 34 (vp_updL (L 34) 0 (0 : Int64))) 36 (q_cell v1 v2 v2).toNatClampNeg)) * (L 34 0))) 34 0))) G (sI I (q_ovA ((setL L 34 (vp_updL (L 34) 0 (0 : Int64))) 34 0) ((-((setL L 34 (vp_updL (L 34) 0 (0 : Int64))) 36 (q_cell v1 v2 v2).toNatClampNeg)) * (L 34 0)) (if q_tl (-((setL L 34 (vp_updL (L 34) 0 (0 : Int64))) 36 (q_cell v1 v2 v2).toNatClampNeg)) (L 34 0) = true then 1 else I 34 1))) (sL (setL L 34 (vp_updL (L 34) 0 (0 : Int64))) ((setL L 34 (vp_updL (L 34) 0 (0 : Int64))) 34 0 + (-((setL L 34 (vp_updL (L 34) 0 (0 : Int64))) 36 (q_cell v1 v2 v2).toNatClampNeg)) * (L 34 0)))) ∧ ((¬ (I 3 0) ≤ v5) → ((¬ ((v4 >>> (v5 &&& 31)) &&& (1 : Int32)) = (1 : Int32)) → Wx z 0 0 31 [(0, .ref ((zB z).size + 35)), (1, .int v1), (2, .int v2), (3, .int v3), (4, .int v4), (5, .int (v5 + 1))] [] G I L) ∧ ((((v4 >>> (v5 &&& 31)) &&& (1 : Int32)) = (1 : Int32)) → (vp_in (q_cell v1 v2 v5) 1024) ∧ vp_in (q_cell (0 : Int32) v5 v3) 256 ∧ Wx z 0 0 31 [(0, .ref ((zB z).size + 35)), (1, .int v1), (2, .int v2), (3, .int v3), (4, .int v4), (5, .int (v5 + 1))] [] G (sI I (q_ovA (L 34 0) ((L 36 (q_cell v1 v2 v5).toNatClampNeg) * (L 37 (q_cell (0 : Int32) v5 v3).toNatClampNeg)) (if q_tl (L 36 (q_cell v1 v2 v5).toNatClampNeg) (L 37 (q_cell (0 : Int32) v5 v3).toNatClampNeg) = true then 1 else I 34 1))) (sL L (L 34 0 + (L 36 (q_cell v1 v2 v5).toNatClampNeg) * (L 37 (q_cell (0 : Int32) v5 v3).toNatClampNeg)))))) : Wx z 0 0 31 [(0, .ref ((zB z).size + 35)), (1, .int v1), (2, .int v2), (3, .int v3), (4, .int v4), (5, .int v5)] [] G I L := by
  have hz1 := hz.1
  refine am_iload hz1 dX0_inverseAt_31 5 rfl ?_
  refine am_aload_n hz1 dX0_inverseAt_33 0 rfl rfl ?_
  refine am_getR hz1 fl_X0_24 (ln_35 hG) (lk_35 hG) (lr_35_4 hG) rfl dX0_inverseAt_34 ?_
  refine am_getI hz1 fl_X0_48 (ln_3 hG) (lk_3 hG) rfl dX0_inverseAt_37 ?_
  refine am_icmp_ge (tgt := 87) hz1 dX0_inverseAt_40 (by decide) (fun c1 => ?_) (fun c1 => ?_)
  · replace h := h.1 c1
    refine am_aload_n hz1 dX0_inverseAt_87 0 rfl rfl ?_
    refine am_getR hz1 fl_X0_28 (ln_35 hG) (lk_35 hG) (lr_35_5 hG) rfl dX0_inverseAt_88 ?_
    refine am_getL hz1 fl_X0_80 (ln_34 hG) (lk_34 hG) rfl dX0_inverseAt_91 ?_
    refine am_lstore (lv' := [(5, .long (L 34 0)), (0, .ref ((zB z).size + 35)), (1, .int v1), (2, .int v2), (3, .int v3), (4, .int v4)]) hz1 dX0_inverseAt_94 rfl rfl ?_
    refine am_aload_n hz1 dX0_inverseAt_96 1 rfl rfl ?_
    refine am_getR hz1 fl_X0_28 (ln_35 hG) (lk_35 hG) (lr_35_5 hG) rfl dX0_inverseAt_97 ?_
    refine am_lconst (v := 0) hz1 dX0_inverseAt_100 (by decide) ?_
    refine am_putL hz1 fl_X0_80 (ln_34 hG) (lk_34 hG) rfl rfl (fun _ => rfl) dX0_inverseAt_101 ?_
    refine am_aload_n hz1 dX0_inverseAt_104 1 rfl rfl ?_
    refine am_getR hz1 fl_X0_28 (ln_35 hG) (lk_35 hG) (lr_35_5 hG) rfl dX0_inverseAt_105 ?_
    refine am_aload_n hz1 dX0_inverseAt_108 1 rfl rfl ?_
    refine am_iload_n hz1 dX0_inverseAt_109 2 rfl rfl ?_
    refine am_iload_n hz1 dX0_inverseAt_110 3 rfl rfl ?_
    refine am_iload_n hz1 dX0_inverseAt_111 3 rfl rfl ?_
    obtain ⟨g2, h⟩ := h
    refine am_cVf hz cv_X0_97 [.int v1, .int v2, .int v2] [.ref ((zB z).size + 34)] (c_X0_at hG v1 v2 v2 g2) (ln_35 hG) (lk_35 hG) rfl rfl rfl ⟨Nat.le_refl _, Nat.le_refl _⟩ (Nat.le_of_ble_eq_true rfl) dX0_inverseAt_112 ?_
    refine am_lneg hz1 dX0_inverseAt_115 ?_
    refine am_lload hz1 dX0_inverseAt_116 0 rfl ?_
    refine am_cVf hz cv_X0_86 [.long (-((setL L 34 (vp_updL (L 34) 0 (0 : Int64))) 36 (q_cell v1 v2 v2).toNatClampNeg)), .long (L 34 0)] [] (c_X9_addProduct hG (-((setL L 34 (vp_updL (L 34) 0 (0 : Int64))) 36 (q_cell v1 v2 v2).toNatClampNeg)) (L 34 0) ) (ln_34 hG) (lk_34 hG) rfl rfl rfl ⟨Nat.le_refl _, Nat.le_refl _⟩ (Nat.le_of_ble_eq_true rfl) dX0_inverseAt_118 ?_
    refine am_aload_n hz1 dX0_inverseAt_121 1 rfl rfl ?_
    refine am_getR hz1 fl_X0_28 (ln_35 hG) (lk_35 hG) (lr_35_5 hG) rfl dX0_inverseAt_122 ?_
    refine am_getL hz1 fl_X0_80 (ln_34 hG) (lk_34 hG) rfl dX0_inverseAt_125 ?_
    exact am_lreturn hz dX0_inverseAt_128 h
  · replace h := h.2 c1
    refine am_iload hz1 dX0_inverseAt_43 4 rfl ?_
    refine am_iload hz1 dX0_inverseAt_45 5 rfl ?_
    refine am_ishr hz1 dX0_inverseAt_47 ?_
    refine am_iconst (v := 1) hz1 dX0_inverseAt_48 (by decide) ?_
    refine am_iand hz1 dX0_inverseAt_49 ?_
    refine am_iconst (v := 1) hz1 dX0_inverseAt_50 (by decide) ?_
    refine am_icmp_ne (tgt := 81) hz1 dX0_inverseAt_51 (by decide) (fun c3 => ?_) (fun c3 => ?_)
    · replace h := h.1 c3
      refine am_iinc (v := v5 + 1) (lv' := [(5, .int (v5 + 1)), (0, .ref ((zB z).size + 35)), (1, .int v1), (2, .int v2), (3, .int v3), (4, .int v4)]) hz1 dX0_inverseAt_81 5 rfl rfl rfl rfl ?_
      refine am_goto (tgt := 31) hz1 dX0_inverseAt_84 (by decide) ?_
      exact am_sub (lv' := [(0, .ref ((zB z).size + 35)), (1, .int v1), (2, .int v2), (3, .int v3), (4, .int v4), (5, .int (v5 + 1))]) [1, 2, 3, 4, 5, 0] rfl h
    · replace h := h.2 c3
      refine am_aload_n hz1 dX0_inverseAt_54 0 rfl rfl ?_
      refine am_getR hz1 fl_X0_28 (ln_35 hG) (lk_35 hG) (lr_35_5 hG) rfl dX0_inverseAt_55 ?_
      refine am_aload_n hz1 dX0_inverseAt_58 0 rfl rfl ?_
      refine am_iload_n hz1 dX0_inverseAt_59 1 rfl rfl ?_
      refine am_iload_n hz1 dX0_inverseAt_60 2 rfl rfl ?_
      refine am_iload hz1 dX0_inverseAt_61 5 rfl ?_
      obtain ⟨g4, h⟩ := h
      refine am_cVf hz cv_X0_97 [.int v1, .int v2, .int v5] [.ref ((zB z).size + 34)] (c_X0_at hG v1 v2 v5 g4) (ln_35 hG) (lk_35 hG) rfl rfl rfl ⟨Nat.le_refl _, Nat.le_refl _⟩ (Nat.le_of_ble_eq_true rfl) dX0_inverseAt_63 ?_
      refine am_aload_n hz1 dX0_inverseAt_66 0 rfl rfl ?_
      refine am_getR hz1 fl_X0_15 (ln_35 hG) (lk_35 hG) (lr_35_1 hG) rfl dX0_inverseAt_67 ?_
      refine am_iconst (v := 0) hz1 dX0_inverseAt_70 (by decide) ?_
      refine am_iload hz1 dX0_inverseAt_71 5 rfl ?_
      refine am_iload_n hz1 dX0_inverseAt_73 3 rfl rfl ?_
      refine am_cSf hz ct_X0_32 [.int 0, .int v5, .int v3] [.ref ((zB z).size + 37), .long (L 36 (q_cell v1 v2 v5).toNatClampNeg), .ref ((zB z).size + 34)] (c_X0_cell hG (0 : Int32) v5 v3 ) rfl rfl rfl ⟨Nat.le_refl _, Nat.le_refl _⟩ (Nat.le_of_ble_eq_true rfl) dX0_inverseAt_74 ?_
      obtain ⟨g5, h⟩ := h
      refine am_lald hz1 (ln_37 hG) (lk_37 hG) (by rw [(ll_37 hG)]; exact g5) dX0_inverseAt_77 ?_
      refine am_cVf hz cv_X0_86 [.long (L 36 (q_cell v1 v2 v5).toNatClampNeg), .long (L 37 (q_cell (0 : Int32) v5 v3).toNatClampNeg)] [] (c_X9_addProduct hG (L 36 (q_cell v1 v2 v5).toNatClampNeg) (L 37 (q_cell (0 : Int32) v5 v3).toNatClampNeg) ) (ln_34 hG) (lk_34 hG) rfl rfl rfl ⟨Nat.le_refl _, Nat.le_refl _⟩ (Nat.le_of_ble_eq_true rfl) dX0_inverseAt_78 ?_
      refine am_iinc (v := v5 + 1) (lv' := [(5, .int (v5 + 1)), (0, .ref ((zB z).size + 35)), (1, .int v1), (2, .int v2), (3, .int v3), (4, .int v4)]) hz1 dX0_inverseAt_81 5 rfl rfl rfl rfl ?_
      refine am_goto (tgt := 31) hz1 dX0_inverseAt_84 (by decide) ?_
      exact am_sub (lv' := [(0, .ref ((zB z).size + 35)), (1, .int v1), (2, .int v2), (3, .int v3), (4, .int v4), (5, .int (v5 + 1))]) [1, 2, 3, 4, 5, 0] rfl h
set_option maxRecDepth 100000 in
set_option maxHeartbeats 4000000 in
theorem c_X0_inverseAt {l : Launch} {D : va_G} {B : Heap} {G : amG} {I : amI} {L : amL}  (hG : Lay G)  (v1 : Int32) (v2 : Int32) (v3 : Int32) {n x a c : Nat} {A : Nat → Int32} {b : Bool} {W : Nat → Int64} (hO : OI I 3 n A) (hb : I 34 1 = bI b) (hx : x < 4) (ha : a < n) (hc : c < n) (hv1 : v1 = nI x) (hv2 : v2 = nI a) (hv3 : v3 = nI c) (hW : ∀ y, y < n → bt (A a &&& dnS n A c) y = true → L 37 (16 * y + c) = W y) : Mx l D B yX0_inverseAt cX0_inverseAt 7 (some .long) 2 0 0 [.ref (B.size + 35), .int v1, .int v2, .int v3] G I L (fun r G1 I1 L1 => r = some (.long ((-Ffn L x a a) * tS (Ffn L x a) W (A a &&& dnS n A c) n)) ∧ G1 = G ∧ I1 = sI I (bI (b || (oS (Ffn L x a) W (A a &&& dnS n A c) n || q_tl (-Ffn L x a a) (tS (Ffn L x a) W (A a &&& dnS n A c) n)))) ∧ ∃ t : Int64, L1 = sL L t) := by
  refine Mx.of (by decide) rfl rfl (fun z e1 e2 e3 hz => ?_)
  subst e1; subst e2; subst e3
  refine b_X0_inverseAt_0 hz hG ?_
  subst hv1; subst hv2; subst hv3
  have hn := hO.1
  have h16 := hO.2.2.1
  refine ⟨in16 h16 ha, hO.sz, ?_⟩
  rw [cl_nI (by omega), hO.2.2.2.1 a ha, hO.upTo hc, sL_f]
  have hK : ∀ v, sI I v 3 0 = nI n := fun v => by rw [sI_o (by decide), hn]
  have main : Wx z 0 0 31 [(0, .ref ((zB z).size + 35)), (1, .int (nI x)), (2, .int (nI a)), (3, .int (nI c)), (4, .int (A a &&& dnS n A c)), (5, .int (nI 0))] [] G (sI I (bI (b || oS (Ffn L x a) W (A a &&& dnS n A c) 0))) (sL L (tS (Ffn L x a) W (A a &&& dnS n A c) 0)) := by
    refine for_up (P := fun y => Wx z 0 0 31 [(0, .ref ((zB z).size + 35)), (1, .int (nI x)), (2, .int (nI a)), (3, .int (nI c)), (4, .int (A a &&& dnS n A c)), (5, .int (nI y))] [] G (sI I (bI (b || oS (Ffn L x a) W (A a &&& dnS n A c) y))) (sL L (tS (Ffn L x a) W (A a &&& dnS n A c) y))) (n := n) ?_ ?_ (Nat.zero_le n)
    · refine b_X0_inverseAt_31 hz hG ⟨fun _ => ?_, fun h => absurd (sz_le (hK _) h16) h⟩
      rw [cell_n, cl_nI (by omega)]
      simp only [sL_f, sL_v, sL_s, sL_36, setL_s, pk_uLs, sI_v, sI_s, ov_b, ovc_0, Bool.or_false, Int64.zero_add, setL_n (show 36 ≠ 34 by decide)]
      refine ⟨in_nI (by omega) (by decide), rfl, trivial, ?_, _, rfl⟩
      rw [Bool.or_assoc]
      rfl
    · intro y hy yh
      refine b_X0_inverseAt_31 hz hG ⟨fun h => absurd h (sz_ge (hK _) h16 hy), fun _ => ⟨fun h => ?_, fun h => ?_⟩⟩
      · have hbx := (b_bit0 _ y (by omega)).mp h
        rw [tS, oS, if_neg (by rw [hbx]; decide), hbx, Bool.false_and, Bool.or_false] at yh
        rw [nI_1]
        exact yh
      · have hbx := (b_bit _ y (by omega)).mp h
        rw [tS, oS, if_pos hbx, hbx, Bool.true_and] at yh
        rw [cell_0, cell_n, sL_v, sL_36, sL_37, sI_v, sI_s, sL_s, cl_nI (show 16 * y + c < 2 ^ 31 by omega), cl_nI (show 256 * x + 16 * a + y < 2 ^ 31 by omega), nI_1, hW y hy hbx, ov_b, Bool.or_assoc]
        exact ⟨in_nI (by omega) (by decide), in_nI (by omega) (by decide), yh⟩
  rw [oS, Bool.or_false, ← hb, sI_id, tS] at main
  exact main
/-- the table of inverses, columns ahead of c done, of column c those from row place m on -/
def KI (V : Nat → Nat → Int64) (P : Nat → Nat) (n c m : Nat) (f : Nat → Int64) : Prop := ∀ x y, x < 16 → y < 16 → f (16 * x + y) = if (x < n ∧ y < n ∧ (y < c ∨ y = c ∧ m ≤ P x)) then V x y else 0
def cFl (Fl : Nat → Nat → Bool) (P : Nat → Nat) (n c m : Nat) : Bool := orN (fun a => decide (m ≤ P a) && Fl a c) n
theorem cFl_s {Fl : Nat → Nat → Bool} {P : Nat → Nat} {n c m a : Nat} (ha : a < n) (hp : P a = m) (hi : ∀ x, x < n → P x = m → x = a) : cFl Fl P n c m = (cFl Fl P n c (m + 1) || Fl a c) := by
  rw [Bool.eq_iff_iff, Bool.or_eq_true]
  unfold cFl
  rw [orN_t, orN_t]
  constructor
  · rintro ⟨i, hi1, h⟩
    rw [Bool.and_eq_true, decide_eq_true_eq] at h
    by_cases e : P i = m
    · rw [hi i hi1 e] at h
      exact Or.inr h.2
    · exact Or.inl ⟨i, hi1, by rw [Bool.and_eq_true, decide_eq_true_eq]; exact ⟨by omega, h.2⟩⟩
  · rintro (⟨i, hi1, h⟩ | h)
    · rw [Bool.and_eq_true, decide_eq_true_eq] at h
      exact ⟨i, hi1, by rw [Bool.and_eq_true, decide_eq_true_eq]; exact ⟨by omega, h.2⟩⟩
    · exact ⟨a, ha, by rw [Bool.and_eq_true, decide_eq_true_eq]; exact ⟨by omega, h⟩⟩
theorem cFl_n {Fl : Nat → Nat → Bool} {P : Nat → Nat} {n c : Nat} (hP : ∀ x, x < n → P x < n) : cFl Fl P n c n = false := by
  rw [Bool.eq_false_iff]
  unfold cFl
  intro h
  rw [orN_t] at h
  obtain ⟨i, hi, e⟩ := h
  rw [Bool.and_eq_true, decide_eq_true_eq] at e
  have := hP i hi
  omega
theorem cFl_0 {Fl : Nat → Nat → Bool} {P : Nat → Nat} {n c : Nat} : cFl Fl P n c 0 = orN (fun a => Fl a c) n := by
  unfold cFl
  exact orN_c fun i _ => by simp
set_option maxRecDepth 100000 in
set_option maxHeartbeats 4000000 in
theorem b_X0_reckonInverse_0 {z : amZ} {post : amP} {G : amG} {I : amI} {L : amL} (hz : Go z cX0_reckonInverse RX0 5 none 3 0 0 post) (hG : Lay G) {v1 : Int32} (h : Wx z 0 0 10 [(0, .ref ((zB z).size + 35)), (1, .int v1), (2, .int 0)] [] G I (setL L 37 (q_fill (L 37) 256 (0 : Int64)))) : Wx z 0 0 0 [(0, .ref ((zB z).size + 35)), (1, .int v1)] [] G I L := by
  have hz1 := hz.1
  refine am_aload_n hz1 dX0_reckonInverse_0 0 rfl rfl ?_
  refine am_getR hz1 fl_X0_15 (ln_35 hG) (lk_35 hG) (lr_35_1 hG) rfl dX0_reckonInverse_1 ?_
  refine am_lconst (v := 0) hz1 dX0_reckonInverse_4 (by decide) ?_
  refine am_cSf hz ct_X0_36 [.ref ((zB z).size + 37), .long (0 : Int64)] [] (c_J7_fill_d0a16 hG (ln_37 hG) (lk_37 hG) (ll_37 hG) (0 : Int64) (by decide)) rfl rfl rfl ⟨Nat.le_refl _, Nat.le_refl _⟩ (Nat.le_of_ble_eq_true rfl) dX0_reckonInverse_5 ?_
  refine am_iconst (v := 0) hz1 dX0_reckonInverse_8 (by decide) ?_
  refine am_istore_n (lv' := [(2, .int 0), (0, .ref ((zB z).size + 35)), (1, .int v1)]) hz1 dX0_reckonInverse_9 rfl rfl rfl ?_
  exact am_sub (lv' := [(0, .ref ((zB z).size + 35)), (1, .int v1), (2, .int 0)]) [1, 2, 0] rfl h
set_option maxRecDepth 100000 in
set_option maxHeartbeats 4000000 in
theorem b_X0_reckonInverse_10 {z : amZ} {post : amP} {G : amG} {I : amI} {L : amL} (hz : Go z cX0_reckonInverse RX0 5 none 3 0 0 post) (hG : Lay G) {v1 : Int32} {v2 : Int32} (h : (((I 3 0) ≤ v2) → post none G I L) ∧ ((¬ (I 3 0) ≤ v2) → Wx z 0 0 31 [(0, .ref ((zB z).size + 35)), (1, .int v1), (2, .int v2), (3, .int ((I 3 0) - (1 : Int32)))] [] G I L)) : Wx z 0 0 10 [(0, .ref ((zB z).size + 35)), (1, .int v1), (2, .int v2)] [] G I L := by
  have hz1 := hz.1
  refine am_iload_n hz1 dX0_reckonInverse_10 2 rfl rfl ?_
  refine am_aload_n hz1 dX0_reckonInverse_11 0 rfl rfl ?_
  refine am_getR hz1 fl_X0_24 (ln_35 hG) (lk_35 hG) (lr_35_4 hG) rfl dX0_reckonInverse_12 ?_
  refine am_getI hz1 fl_X0_48 (ln_3 hG) (lk_3 hG) rfl dX0_reckonInverse_15 ?_
  refine am_icmp_ge (tgt := 121) hz1 dX0_reckonInverse_18 (by decide) (fun c1 => ?_) (fun c1 => ?_)
  · replace h := h.1 c1
    exact am_return hz dX0_reckonInverse_121 h
  · replace h := h.2 c1
    refine am_aload_n hz1 dX0_reckonInverse_21 0 rfl rfl ?_
    refine am_getR hz1 fl_X0_24 (ln_35 hG) (lk_35 hG) (lr_35_4 hG) rfl dX0_reckonInverse_22 ?_
    refine am_getI hz1 fl_X0_48 (ln_3 hG) (lk_3 hG) rfl dX0_reckonInverse_25 ?_
    refine am_iconst (v := 1) hz1 dX0_reckonInverse_28 (by decide) ?_
    refine am_isub hz1 dX0_reckonInverse_29 ?_
    refine am_istore_n (lv' := [(3, .int ((I 3 0) - (1 : Int32))), (0, .ref ((zB z).size + 35)), (1, .int v1), (2, .int v2)]) hz1 dX0_reckonInverse_30 rfl rfl rfl ?_
    exact am_sub (lv' := [(0, .ref ((zB z).size + 35)), (1, .int v1), (2, .int v2), (3, .int ((I 3 0) - (1 : Int32)))]) [1, 2, 3, 0] rfl h
set_option maxRecDepth 100000 in
set_option maxHeartbeats 4000000 in
theorem b_X0_reckonInverse_31 {z : amZ} {post : amP} {G : amG} {I : amI} {L : amL} (hz : Go z cX0_reckonInverse RX0 5 none 3 0 0 post) (hG : Lay G) {v1 : Int32} {v2 : Int32} {v3 : Int32} (h : ((v3 < 0) → Wx z 0 0 10 [(0, .ref ((zB z).size + 35)), (1, .int v1), (2, .int (v2 + 1))] [] G I L) ∧ ((¬ v3 < 0) → vp_in v3 16 ∧ ((¬ (I 9 v3.toNatClampNeg) = v2) → (szOk I 3) ∧ ((q_isBelow I 3 (I 9 v3.toNatClampNeg) v2 = false) → Wx z 0 0 31 [(0, .ref ((zB z).size + 35)), (1, .int v1), (2, .int v2), (3, .int (v3 + (-1)))] [] G I L) ∧ ((q_isBelow I 3 (I 9 v3.toNatClampNeg) v2 = true) → ∃ (dq6 : Nat) (postq6 : amP), Nat.ble (dq6 + 1) 3 = true ∧ Mx (zL z) (zD z) (zB z) yX0_inverseAt cX0_inverseAt 7 (some .long) dq6 0 0 [.ref ((zB z).size + 35), .int v1, .int (I 9 v3.toNatClampNeg), .int v2] G I L postq6 ∧ ∀ (roq6 : Option Value) (Gq6 : amG) (Iq6 : amI) (Lq6 : amL), postq6 roq6 Gq6 Iq6 Lq6 → ∃ (rq6 : Int64), roq6 = some (.long rq6) ∧ Lay Gq6 ∧ vp_in (q_cell (0 : Int32) (I 9 v3.toNatClampNeg) v2) 256 ∧ Wx z 0 0 31 [(0, .ref ((zB z).size + 35)), (1, .int v1), (2, .int v2), (3, .int (v3 + (-1)))] [] Gq6 Iq6 (setL Lq6 37 (vp_updL (Lq6 37) (q_cell (0 : Int32) (I 9 v3.toNatClampNeg) v2).toNatClampNeg rq6)))) ∧ (((I 9 v3.toNatClampNeg) = v2) → (vp_in (q_cell v1 (I 9 v3.toNatClampNeg) (I 9 v3.toNatClampNeg)) 1024) ∧ vp_in (q_cell (0 : Int32) (I 9 v3.toNatClampNeg) v2) 256 ∧ Wx z 0 0 31 [(0, .ref ((zB z).size + 35)), (1, .int v1), (2, .int v2), (3, .int (v3 + (-1)))] [] G I (setL L 37 (vp_updL (L 37) (q_cell (0 : Int32) (I 9 v3.toNatClampNeg) v2).toNatClampNeg (L 36 (q_cell v1 (I 9 v3.toNatClampNeg) (I 9 v3.toNatClampNeg)).toNatClampNeg)))))) : Wx z 0 0 31 [(0, .ref ((zB z).size + 35)), (1, .int v1), (2, .int v2), (3, .int v3)] [] G I L := by
  have hz1 := hz.1
  refine am_iload_n hz1 dX0_reckonInverse_31 3 rfl rfl ?_
  refine am_if_lt (tgt := 115) hz1 dX0_reckonInverse_32 (by decide) (fun c1 => ?_) (fun c1 => ?_)
  · replace h := h.1 c1
    refine am_iinc (v := v2 + 1) (lv' := [(2, .int (v2 + 1)), (0, .ref ((zB z).size + 35)), (1, .int v1), (3, .int v3)]) hz1 dX0_reckonInverse_115 2 rfl rfl rfl rfl ?_
    refine am_goto (tgt := 10) hz1 dX0_reckonInverse_118 (by decide) ?_
    exact am_sub (lv' := [(0, .ref ((zB z).size + 35)), (1, .int v1), (2, .int (v2 + 1))]) [1, 2, 0] rfl h
  · replace h := h.2 c1
    refine am_aload_n hz1 dX0_reckonInverse_35 0 rfl rfl ?_
    refine am_getR hz1 fl_X0_24 (ln_35 hG) (lk_35 hG) (lr_35_4 hG) rfl dX0_reckonInverse_36 ?_
    refine am_getR hz1 fl_X0_114 (ln_3 hG) (lk_3 hG) (lr_3_6 hG) rfl dX0_reckonInverse_39 ?_
    refine am_iload_n hz1 dX0_reckonInverse_42 3 rfl rfl ?_
    obtain ⟨g2, h⟩ := h
    refine am_iald hz1 (ln_9 hG) (lk_9 hG) (by rw [(ll_9 hG)]; exact g2) dX0_reckonInverse_43 ?_
    refine am_istore (lv' := [(4, .int (I 9 v3.toNatClampNeg)), (0, .ref ((zB z).size + 35)), (1, .int v1), (2, .int v2), (3, .int v3)]) hz1 dX0_reckonInverse_44 rfl rfl ?_
    refine am_iload hz1 dX0_reckonInverse_46 0 rfl ?_
    refine am_iload_n hz1 dX0_reckonInverse_48 3 rfl rfl ?_
    refine am_icmp_ne (tgt := 76) hz1 dX0_reckonInverse_49 (by decide) (fun c3 => ?_) (fun c3 => ?_)
    · replace h := h.1 c3
      refine am_aload_n hz1 dX0_reckonInverse_76 1 rfl rfl ?_
      refine am_getR hz1 fl_X0_24 (ln_35 hG) (lk_35 hG) (lr_35_4 hG) rfl dX0_reckonInverse_77 ?_
      refine am_iload hz1 dX0_reckonInverse_80 0 rfl ?_
      refine am_iload_n hz1 dX0_reckonInverse_82 3 rfl rfl ?_
      obtain ⟨g4, h⟩ := h
      refine am_cVf hz cv_X0_117 [.int (I 9 v3.toNatClampNeg), .int v2] [] (c_X4_isBelow hG isO_3 (I 9 v3.toNatClampNeg) v2 g4) (ln_3 hG) (lk_3 hG) rfl rfl rfl ⟨Nat.le_refl _, Nat.le_refl _⟩ (Nat.le_of_ble_eq_true rfl) dX0_reckonInverse_83 ?_
      refine am_ifb_eq (tgt := 109) hz1 dX0_reckonInverse_86 (by decide) (fun c5 => ?_) (fun c5 => ?_)
      · replace h := h.1 c5
        refine am_iinc (v := v3 + (-1)) (lv' := [(3, .int (v3 + (-1))), (4, .int (I 9 v3.toNatClampNeg)), (0, .ref ((zB z).size + 35)), (1, .int v1), (2, .int v2)]) hz1 dX0_reckonInverse_109 4 rfl rfl rfl rfl ?_
        refine am_goto (tgt := 31) hz1 dX0_reckonInverse_112 (by decide) ?_
        exact am_sub (lv' := [(0, .ref ((zB z).size + 35)), (1, .int v1), (2, .int v2), (3, .int (v3 + (-1)))]) [2, 3, 4, 0] rfl h
      · replace h := h.2 c5
        refine am_aload_n hz1 dX0_reckonInverse_89 1 rfl rfl ?_
        refine am_getR hz1 fl_X0_15 (ln_35 hG) (lk_35 hG) (lr_35_1 hG) rfl dX0_reckonInverse_90 ?_
        refine am_iconst (v := 0) hz1 dX0_reckonInverse_93 (by decide) ?_
        refine am_iload hz1 dX0_reckonInverse_94 0 rfl ?_
        refine am_iload_n hz1 dX0_reckonInverse_96 3 rfl rfl ?_
        refine am_cSf hz ct_X0_32 [.int 0, .int (I 9 v3.toNatClampNeg), .int v2] [.ref ((zB z).size + 37)] (c_X0_cell hG (0 : Int32) (I 9 v3.toNatClampNeg) v2 ) rfl rfl rfl ⟨Nat.le_refl _, Nat.le_refl _⟩ (Nat.le_of_ble_eq_true rfl) dX0_reckonInverse_97 ?_
        refine am_aload_n hz1 dX0_reckonInverse_100 1 rfl rfl ?_
        refine am_iload_n hz1 dX0_reckonInverse_101 2 rfl rfl ?_
        refine am_iload hz1 dX0_reckonInverse_102 0 rfl ?_
        refine am_iload_n hz1 dX0_reckonInverse_104 3 rfl rfl ?_
        obtain ⟨dq6, postq6, hdq6, hMq6, h⟩ := h
        refine am_callV hz1 cv_X0_120 [.int v1, .int (I 9 v3.toNatClampNeg), .int v2] [.int (q_cell (0 : Int32) (I 9 v3.toNatClampNeg) v2), .ref ((zB z).size + 37)] hMq6 (ln_35 hG) (lk_35 hG) rfl rfl (hz.fr hdq6) (hz.lo hdq6) (by rw [hz.2.1]; exact ⟨Nat.le_refl _, Nat.le_refl _⟩) (Nat.le_of_ble_eq_true rfl) dX0_reckonInverse_105 (fun roq6 Gq6 Iq6 Lq6 hpq6 => ?_)
        obtain ⟨rq6, rfl, hGq6, h⟩ := h roq6 Gq6 Iq6 Lq6 hpq6
        obtain ⟨g7, h⟩ := h
        refine am_last hz1 (ln_37 hGq6) (lk_37 hGq6) (by rw [(ll_37 hGq6)]; exact g7) dX0_reckonInverse_108 ?_
        refine am_iinc (v := v3 + (-1)) (lv' := [(3, .int (v3 + (-1))), (4, .int (I 9 v3.toNatClampNeg)), (0, .ref ((zB z).size + 35)), (1, .int v1), (2, .int v2)]) hz1 dX0_reckonInverse_109 4 rfl rfl rfl rfl ?_
        refine am_goto (tgt := 31) hz1 dX0_reckonInverse_112 (by decide) ?_
        exact am_sub (lv' := [(0, .ref ((zB z).size + 35)), (1, .int v1), (2, .int v2), (3, .int (v3 + (-1)))]) [2, 3, 4, 0] rfl h
    · replace h := h.2 c3
      refine am_aload_n hz1 dX0_reckonInverse_52 1 rfl rfl ?_
      refine am_getR hz1 fl_X0_15 (ln_35 hG) (lk_35 hG) (lr_35_1 hG) rfl dX0_reckonInverse_53 ?_
      refine am_iconst (v := 0) hz1 dX0_reckonInverse_56 (by decide) ?_
      refine am_iload hz1 dX0_reckonInverse_57 0 rfl ?_
      refine am_iload_n hz1 dX0_reckonInverse_59 3 rfl rfl ?_
      refine am_cSf hz ct_X0_32 [.int 0, .int (I 9 v3.toNatClampNeg), .int v2] [.ref ((zB z).size + 37)] (c_X0_cell hG (0 : Int32) (I 9 v3.toNatClampNeg) v2 ) rfl rfl rfl ⟨Nat.le_refl _, Nat.le_refl _⟩ (Nat.le_of_ble_eq_true rfl) dX0_reckonInverse_60 ?_
      refine am_aload_n hz1 dX0_reckonInverse_63 1 rfl rfl ?_
      refine am_iload_n hz1 dX0_reckonInverse_64 2 rfl rfl ?_
      refine am_iload hz1 dX0_reckonInverse_65 0 rfl ?_
      refine am_iload hz1 dX0_reckonInverse_67 0 rfl ?_
      obtain ⟨g8, h⟩ := h
      refine am_cVf hz cv_X0_97 [.int v1, .int (I 9 v3.toNatClampNeg), .int (I 9 v3.toNatClampNeg)] [.int (q_cell (0 : Int32) (I 9 v3.toNatClampNeg) v2), .ref ((zB z).size + 37)] (c_X0_at hG v1 (I 9 v3.toNatClampNeg) (I 9 v3.toNatClampNeg) g8) (ln_35 hG) (lk_35 hG) rfl rfl rfl ⟨Nat.le_refl _, Nat.le_refl _⟩ (Nat.le_of_ble_eq_true rfl) dX0_reckonInverse_69 ?_
      obtain ⟨g9, h⟩ := h
      refine am_last hz1 (ln_37 hG) (lk_37 hG) (by rw [(ll_37 hG)]; exact g9) dX0_reckonInverse_72 ?_
      refine am_goto (tgt := 109) hz1 dX0_reckonInverse_73 (by decide) ?_
      refine am_iinc (v := v3 + (-1)) (lv' := [(3, .int (v3 + (-1))), (4, .int (I 9 v3.toNatClampNeg)), (0, .ref ((zB z).size + 35)), (1, .int v1), (2, .int v2)]) hz1 dX0_reckonInverse_109 4 rfl rfl rfl rfl ?_
      refine am_goto (tgt := 31) hz1 dX0_reckonInverse_112 (by decide) ?_
      exact am_sub (lv' := [(0, .ref ((zB z).size + 35)), (1, .int v1), (2, .int v2), (3, .int (v3 + (-1)))]) [2, 3, 4, 0] rfl h
set_option maxRecDepth 100000 in
set_option maxHeartbeats 4000000 in
theorem c_X0_reckonInverse {l : Launch} {D : va_G} {B : Heap} {G : amG} {I : amI} {L : amL}  (hG : Lay G)  (v1 : Int32) {n x : Nat} {A : Nat → Int32} {b : Bool} (hO : OI I 3 n A) (hb : I 34 1 = bI b) (hx : x < 4) (hv1 : v1 = nI x) : Mx l D B yX0_reckonInverse cX0_reckonInverse 5 none 3 0 0 [.ref (B.size + 35), .int v1] G I L (fun r G1 I1 L1 => r = none ∧ G1 = G ∧ I1 = sI I (bI (b || orN (fun c => orN (fun a => ivO n A (Ffn L x) a c) n) n)) ∧ ∃ (f : Nat → Int64) (t : Int64), L1 = sL (setL L 37 f) t ∧ KV (iv n A (Ffn L x)) n f) := by
  refine Mx.of (by decide) rfl rfl (fun z e1 e2 e3 hz => ?_)
  subst e1; subst e2; subst e3
  refine b_X0_reckonInverse_0 hz hG ?_
  subst hv1
  have hn := hO.1
  have h16 := hO.2.2.1
  have hP := hO.2.2.2.2.2.1
  have hD := hO.2.2.2.2.2.2
  have hK : ∀ v, sI I v 3 0 = nI n := fun v => by rw [sI_o (by decide), hn]
  have hpl : ∀ y, y < n → pos n A y < n := fun y hy => pos_lt hy
  have main : ∀ (f : Nat → Int64) (t : Int64), KI (iv n A (Ffn L x)) (pos n A) n 0 n f → Wx z 0 0 10 [(0, .ref ((zB z).size + 35)), (1, .int (nI x)), (2, .int (nI 0))] [] G (sI I (bI (b || orN (fun c => orN (fun a => ivO n A (Ffn L x) a c) n) 0))) (sL (setL L 37 f) t) := by
    refine for_up (P := fun c => ∀ (f : Nat → Int64) (t : Int64), KI (iv n A (Ffn L x)) (pos n A) n c n f → Wx z 0 0 10 [(0, .ref ((zB z).size + 35)), (1, .int (nI x)), (2, .int (nI c))] [] G (sI I (bI (b || orN (fun c => orN (fun a => ivO n A (Ffn L x) a c) n) c))) (sL (setL L 37 f) t)) (n := n) ?_ ?_ (Nat.zero_le n)
    · intro f t hf
      refine b_X0_reckonInverse_10 hz hG ⟨fun _ => ⟨rfl, rfl, rfl, f, t, rfl, fun p q hp hq => ?_⟩, fun h => absurd (sz_le (hK _) h16) h⟩
      rw [hf p q hp hq]
      by_cases cc : p < n ∧ q < n
      · rw [if_pos cc, if_pos (by omega)]
      · rw [if_neg cc, if_neg (by omega)]
    · intro c hc ih f t hf
      refine b_X0_reckonInverse_10 hz hG ⟨fun h => absurd h (sz_ge (hK _) h16 hc), fun _ => ?_⟩
      rw [hK]
      have inner : ∀ m, m ≤ n → ∀ (f : Nat → Int64) (t : Int64), KI (iv n A (Ffn L x)) (pos n A) n c m f → Wx z 0 0 31 [(0, .ref ((zB z).size + 35)), (1, .int (nI x)), (2, .int (nI c)), (3, .int (nI m - 1))] [] G (sI I (bI ((b || orN (fun c => orN (fun a => ivO n A (Ffn L x) a c) n) c) || cFl (ivO n A (Ffn L x)) (pos n A) n c m))) (sL (setL L 37 f) t) := by
        intro m
        induction m with
        | zero =>
          intro _ f t hf
          refine b_X0_reckonInverse_31 hz hG ⟨fun _ => ?_, fun h => absurd i_neg h⟩
          rw [nI_1, cFl_0]
          have := ih f t (fun p q hp hq => by
            rw [hf p q hp hq]
            by_cases cc : p < n ∧ q < n ∧ (q < c ∨ q = c ∧ 0 ≤ pos n A p)
            · rw [if_pos cc, if_pos (by omega)]
            · rw [if_neg cc, if_neg (fun g => by
                rcases g with ⟨g1, g2, g3 | g3⟩
                · exact cc ⟨g1, g2, by omega⟩
                · have := hpl p g1; omega)])
          rw [orN_or] at this
          exact this
        | succ m mh =>
          intro hm f t hf
          obtain ⟨a, ha, ea, pa⟩ := row_of h16 hD.2.2.2.1 m (by omega)
          have hrow : ∀ v, sI I v 9 (nI m).toNatClampNeg = nI a := fun v => by rw [sI_o (by decide), cl_nI (by omega)]; exact ea
          have hinj : ∀ w, w < n → pos n A w = m → w = a := fun w hw e => pos_inj hw ha (e.trans pa.symm)
          have next : ∀ (v : Int64), v = iv n A (Ffn L x) a c → KI (iv n A (Ffn L x)) (pos n A) n c m (vp_updL f (16 * a + c) v) := by
            intro v hv p q hp hq
            by_cases e : 16 * p + q = 16 * a + c
            · have e1 : p = a := by omega
              have e2 : q = c := by omega
              subst e1; subst e2
              rw [pk_uLs, if_pos ⟨ha, hc, Or.inr ⟨rfl, by omega⟩⟩, hv]
            · rw [pk_uLn e, hf p q hp hq]
              by_cases cc : p < n ∧ q < n ∧ (q < c ∨ q = c ∧ m + 1 ≤ pos n A p)
              · rw [if_pos cc, if_pos (by omega)]
              · rw [if_neg cc, if_neg (fun g => by
                  rcases g with ⟨g1, g2, g3 | ⟨g3, g4⟩⟩
                  · exact cc ⟨g1, g2, Or.inl g3⟩
                  · by_cases e9 : pos n A p = m
                    · have := hinj p g1 e9; omega
                    · exact cc ⟨g1, g2, Or.inr ⟨g3, by omega⟩⟩)]
          have none_ : iv n A (Ffn L x) a c = 0 → KI (iv n A (Ffn L x)) (pos n A) n c m f := by
            intro h0 p q hp hq
            rw [hf p q hp hq]
            by_cases e : p = a ∧ q = c
            · obtain ⟨rfl, rfl⟩ := e
              rw [if_neg (by omega)]
              by_cases cc : p < n ∧ q < n ∧ (q < q ∨ q = q ∧ m ≤ pos n A p)
              · rw [if_pos cc, h0]
              · rw [if_neg cc]
            · by_cases cc : p < n ∧ q < n ∧ (q < c ∨ q = c ∧ m + 1 ≤ pos n A p)
              · rw [if_pos cc, if_pos (by omega)]
              · rw [if_neg cc, if_neg (fun g => by
                  rcases g with ⟨g1, g2, g3 | ⟨g3, g4⟩⟩
                  · exact cc ⟨g1, g2, Or.inl g3⟩
                  · by_cases e9 : pos n A p = m
                    · exact e ⟨hinj p g1 e9, g3⟩
                    · exact cc ⟨g1, g2, Or.inr ⟨g3, by omega⟩⟩)]
          have mh := mh (by omega)
          rw [cFl_s ha pa hinj] at mh
          refine b_X0_reckonInverse_31 hz hG ⟨fun h => absurd h (i_nneg (by omega)), fun _ => ?_⟩
          rw [nI_pred, hrow, i_dn]
          have hO2 : OI (sI I (bI ((b || orN (fun c => orN (fun a => ivO n A (Ffn L x) a c) n) c) || cFl (ivO n A (Ffn L x)) (pos n A) n c (m + 1)))) 3 n A := OI_sI hO isO_3
          refine ⟨in_nI (by omega) (by decide), fun hne => ⟨hO2.sz, fun hbl => ?_, fun hbl => ?_⟩, fun he => ⟨?_, ?_, ?_⟩⟩
          · rw [nI_eq (by omega) (by omega)] at hne
            rw [hO2.below ha hc] at hbl
            have h0 : iv n A (Ffn L x) a c = 0 := by rw [iv_is hP ha, if_neg hne, if_neg (by rw [hbl]; decide)]
            have hfl : ivO n A (Ffn L x) a c = false := by rw [ivO, hbl, Bool.false_and]
            have := mh f t (none_ h0)
            rw [hfl, Bool.or_false] at this
            exact this
          · rw [nI_eq (by omega) (by omega)] at hne
            rw [hO2.below ha hc] at hbl
            have hF : ∀ p, Ffn (sL (setL L 37 f) t) x p = Ffn L x p := fun p => by funext w; rw [Ffn, Ffn, sL_36, s37_36]
            refine ⟨2, _, rfl, c_X0_inverseAt hG (nI x) (nI a) (nI c) hO2 sI_v hx ha hc rfl rfl rfl (W := fun y => iv n A (Ffn L x) y c) (fun y hy hby => ?_), ?_⟩
            · rw [sL_37, setL_s, hf y c (by omega) (by omega), if_pos]
              rw [b_and, Bool.and_eq_true] at hby
              have := pos_up ha (key_up hP ha hy hby.1)
              exact ⟨hy, hc, Or.inr ⟨rfl, by omega⟩⟩
            · rintro ro G1 I1 L1 ⟨rfl, rfl, rfl, t', rfl⟩
              refine ⟨_, rfl, hG, by rw [cell_0]; exact in_nI (by omega) (by decide), ?_⟩
              rw [cell_0, cl_nI (by omega), sL_s, sL_37, setL_s, sL_sw (by decide), setL_ss, sI_s, hF]
              have := mh (vp_updL f (16 * a + c) ((-Ffn L x a a) * tS (Ffn L x a) (fun y => iv n A (Ffn L x) y c) (A a &&& dnS n A c) n)) t' (next _ (by rw [iv_is hP ha, if_neg hne, if_pos hbl]; rfl))
              rw [show ivO n A (Ffn L x) a c = (oS (Ffn L x a) (fun y => iv n A (Ffn L x) y c) (A a &&& dnS n A c) n || q_tl (-Ffn L x a a) (tS (Ffn L x a) (fun y => iv n A (Ffn L x) y c) (A a &&& dnS n A c) n)) by rw [ivO, hbl, Bool.true_and]; rfl, ← Bool.or_assoc] at this
              exact this
          · rw [cell_n]; exact in_nI (by omega) (by decide)
          · rw [cell_0]; exact in_nI (by omega) (by decide)
          · rw [nI_eq (by omega) (by omega)] at he
            subst he
            rw [cell_0, cell_n, cl_nI (n := 16 * a + a) (by omega), cl_nI (n := 256 * x + 16 * a + a) (by omega), sL_37, sL_36, s37_36, setL_s, sL_sw (by decide), setL_ss]
            have hfl : ivO n A (Ffn L x) a a = false := by rw [ivO, hP.2.1 a ha, Bool.false_and]
            have := mh _ t (next (L 36 (256 * x + 16 * a + a)) (by rw [iv_is hP ha, if_pos rfl]; rfl))
            rw [hfl, Bool.or_false] at this
            exact this
      have := inner n (Nat.le_refl _) f t hf
      rw [cFl_n hpl, Bool.or_false] at this
      exact this
  have := main (q_fill (L 37) 256 0) (L 34 0) (fun p q hp hq => by
    rw [if_neg (fun g => by
      rcases g with ⟨g1, g2, g3 | ⟨g3, g4⟩⟩
      · omega
      · have := hpl p g1; omega), q_fill, if_pos (by omega)])
  rw [orN, Bool.or_false, ← hb, sI_id] at this
  have e : sL (setL L 37 (q_fill (L 37) 256 0)) (L 34 0) = setL L 37 (q_fill (L 37) 256 0) := by
    have := sL_id (L := setL L 37 (q_fill (L 37) 256 0))
    rwa [setL_n (by decide)] at this
  rw [e] at this
  exact this
