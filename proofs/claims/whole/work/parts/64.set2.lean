/-! SETS COUNTED: the class's down-sets, the widest -/
def q_cmp (I : amI) (x : Int32) : Int32 := I 4 x.toNatClampNeg ||| I 5 x.toNatClampNeg
def cmp (n : Nat) (A : Nat → Int32) (x : Nat) : Int32 := A x ||| bn n A x
theorem cmp_b {n x i : Nat} {A : Nat → Int32} (h32 : n ≤ 32) (hi : i < n) : bt (cmp n A x) i = (bt (A x) i || bt (A i) x) := by rw [cmp, b_or, bn_bt h32 (by omega), decide_eq_true hi, Bool.true_and]
theorem OI.cmq {I : amI} {n : Nat} {A : Nat → Int32} (h : OI I 3 n A) {x : Nat} (hx : x < n) : q_cmp I (nI x) = cmp n A x := by
  have := h.2.2.1
  rw [q_cmp, cl_nI (by omega), h.2.2.2.1 x hx, h.2.2.2.2.2.2.1 x hx]; rfl
set_option maxRecDepth 100000 in
set_option maxHeartbeats 4000000 in
theorem b_X7_comparable_0 {z : amZ} {post : amP} {G : amG} {I : amI} {L : amL} (hz : Go z cX7_comparable RX7 2 (some .int) 0 0 0 post) (hG : Lay G) {v1 : Int32} (h : vp_in v1 16 ∧ vp_in v1 16 ∧ post (some (.int ((I 4 v1.toNatClampNeg) ||| (I 5 v1.toNatClampNeg)))) G I L) : Wx z 0 0 0 [(0, .ref ((zB z).size + 56)), (1, .int v1)] [] G I L := by
  have hz1 := hz.1
  refine am_aload_n hz1 dX7_comparable_0 0 rfl rfl ?_
  refine am_getR hz1 fl_X7_25 (ln_56 hG) (lk_56 hG) (lr_56_0 hG) rfl dX7_comparable_1 ?_
  refine am_getR hz1 fl_X7_79 (ln_3 hG) (lk_3 hG) (lr_3_1 hG) rfl dX7_comparable_4 ?_
  refine am_iload_n hz1 dX7_comparable_7 1 rfl rfl ?_
  obtain ⟨g1, h⟩ := h
  refine am_iald hz1 (ln_4 hG) (lk_4 hG) (by rw [(ll_4 hG)]; exact g1) dX7_comparable_8 ?_
  refine am_aload_n hz1 dX7_comparable_9 0 rfl rfl ?_
  refine am_getR hz1 fl_X7_25 (ln_56 hG) (lk_56 hG) (lr_56_0 hG) rfl dX7_comparable_10 ?_
  refine am_getR hz1 fl_X7_82 (ln_3 hG) (lk_3 hG) (lr_3_2 hG) rfl dX7_comparable_13 ?_
  refine am_iload_n hz1 dX7_comparable_16 1 rfl rfl ?_
  obtain ⟨g2, h⟩ := h
  refine am_iald hz1 (ln_5 hG) (lk_5 hG) (by rw [(ll_5 hG)]; exact g2) dX7_comparable_17 ?_
  refine am_ior hz1 dX7_comparable_18 ?_
  exact am_ireturn hz dX7_comparable_19 h
set_option maxRecDepth 100000 in
set_option maxHeartbeats 4000000 in
theorem c_X7_comparable {l : Launch} {D : va_G} {B : Heap} {G : amG} {I : amI} {L : amL}  (hG : Lay G)  (v1 : Int32) (h1 : vp_in v1 16) : Fx l D B yX7_comparable cX7_comparable 2 (some .int) 0 [.ref (B.size + 56), .int v1] G I L (some (.int (q_cmp I v1))) I L := by
  refine Mx.of (by decide) rfl rfl (fun z e1 e2 e3 hz => ?_)
  subst e1; subst e2; subst e3
  refine b_X7_comparable_0 hz hG ?_
  exact ⟨h1, h1, rfl, rfl, rfl, rfl⟩
set_option maxRecDepth 100000 in
set_option maxHeartbeats 4000000 in
theorem b_X7_forget_0 {z : amZ} {post : amP} {G : amG} {I : amI} {L : amL} (hz : Go z cX7_forget RX7 1 none 0 0 0 post) (hG : Lay G)  (h : post none G (setI (setI I 56 (upd (I 56) 5 (0 : Int32))) 56 (upd ((setI I 56 (upd (I 56) 5 (0 : Int32))) 56) 6 (0 : Int32))) L) : Wx z 0 0 0 [(0, .ref ((zB z).size + 56))] [] G I L := by
  have hz1 := hz.1
  refine am_aload_n hz1 dX7_forget_0 0 rfl rfl ?_
  refine am_iconst (v := 0) hz1 dX7_forget_1 (by decide) ?_
  refine am_putI hz1 fl_X7_29 (ln_56 hG) (lk_56 hG) rfl rfl (fun _ => rfl) dX7_forget_2 ?_
  refine am_aload_n hz1 dX7_forget_5 0 rfl rfl ?_
  refine am_iconst (v := 0) hz1 dX7_forget_6 (by decide) ?_
  refine am_putI hz1 fl_X7_33 (ln_56 hG) (lk_56 hG) rfl rfl (fun _ => rfl) dX7_forget_7 ?_
  exact am_return hz dX7_forget_10 h
set_option maxRecDepth 100000 in
set_option maxHeartbeats 4000000 in
theorem c_X7_forget {l : Launch} {D : va_G} {B : Heap} {G : amG} {I : amI} {L : amL}  (hG : Lay G)    : Fx l D B yX7_forget cX7_forget 1 none 0 [.ref (B.size + 56)] G I L none (setI (setI I 56 (upd (I 56) 5 0)) 56 (upd ((setI I 56 (upd (I 56) 5 0)) 56) 6 0)) L := by
  refine Mx.of (by decide) rfl rfl (fun z e1 e2 e3 hz => ?_)
  subst e1; subst e2; subst e3
  refine b_X7_forget_0 hz hG ?_
  exact ⟨rfl, rfl, rfl, rfl⟩
theorem sub_in {n : Nat} {s r : Int32} (hs : ∀ i, i < 32 → bt s i = true → i < n) : ∀ i, i < 32 → bt (s &&& r) i = true → i < n := fun i hi q => by rw [b_and, Bool.and_eq_true] at q; exact hs i hi q.1
set_option maxRecDepth 100000 in
set_option maxHeartbeats 4000000 in
theorem b_X7_busiestOf_0 {z : amZ} {post : amP} {G : amG} {I : amI} {L : amL} (hz : Go z cX7_busiestOf RX7 6 (some .int) 1 0 0 post) (hG : Lay G) {v1 : Int32} (h : Wx z 0 0 7 [(0, .ref ((zB z).size + 56)), (1, .int v1), (2, .int (-1)), (3, .int 0), (4, .int 0)] [] G I L) : Wx z 0 0 0 [(0, .ref ((zB z).size + 56)), (1, .int v1)] [] G I L := by
  have hz1 := hz.1
  refine am_iconst (v := (-1)) hz1 dX7_busiestOf_0 (by decide) ?_
  refine am_istore_n (lv' := [(2, .int (-1)), (0, .ref ((zB z).size + 56)), (1, .int v1)]) hz1 dX7_busiestOf_1 rfl rfl rfl ?_
  refine am_iconst (v := 0) hz1 dX7_busiestOf_2 (by decide) ?_
  refine am_istore_n (lv' := [(3, .int 0), (2, .int (-1)), (0, .ref ((zB z).size + 56)), (1, .int v1)]) hz1 dX7_busiestOf_3 rfl rfl rfl ?_
  refine am_iconst (v := 0) hz1 dX7_busiestOf_4 (by decide) ?_
  refine am_istore (lv' := [(4, .int 0), (3, .int 0), (2, .int (-1)), (0, .ref ((zB z).size + 56)), (1, .int v1)]) hz1 dX7_busiestOf_5 rfl rfl ?_
  exact am_sub (lv' := [(0, .ref ((zB z).size + 56)), (1, .int v1), (2, .int (-1)), (3, .int 0), (4, .int 0)]) [3, 4, 2, 1, 0] rfl h
set_option maxRecDepth 100000 in
set_option maxHeartbeats 4000000 in
theorem b_X7_busiestOf_7 {z : amZ} {post : amP} {G : amG} {I : amI} {L : amL} (hz : Go z cX7_busiestOf RX7 6 (some .int) 1 0 0 post) (hG : Lay G) {v1 : Int32} {v2 : Int32} {v3 : Int32} {v4 : Int32} (h : (((I 3 0) ≤ v4) → post (some (.int v2)) G I L) ∧ ((¬ (I 3 0) ≤ v4) → (vp_in v4 16) ∧ ((¬ ((v1 >>> (v4 &&& 31)) &&& (1 : Int32)) = (1 : Int32)) → Wx z 0 0 7 [(0, .ref ((zB z).size + 56)), (1, .int v1), (2, .int v2), (3, .int v3), (4, .int (v4 + 1))] [] G I L) ∧ ((((v1 >>> (v4 &&& 31)) &&& (1 : Int32)) = (1 : Int32)) → (((q_bc (v1 &&& (q_cmp I v4))) ≤ v3) → Wx z 0 0 7 [(0, .ref ((zB z).size + 56)), (1, .int v1), (2, .int v2), (3, .int v3), (4, .int (v4 + 1))] [] G I L) ∧ ((¬ (q_bc (v1 &&& (q_cmp I v4))) ≤ v3) → Wx z 0 0 7 [(0, .ref ((zB z).size + 56)), (1, .int v1), (2, .int v4), (3, .int (q_bc (v1 &&& (q_cmp I v4)))), (4, .int (v4 + 1))] [] G I L)))) : Wx z 0 0 7 [(0, .ref ((zB z).size + 56)), (1, .int v1), (2, .int v2), (3, .int v3), (4, .int v4)] [] G I L := by
  have hz1 := hz.1
  refine am_iload hz1 dX7_busiestOf_7 4 rfl ?_
  refine am_aload_n hz1 dX7_busiestOf_9 0 rfl rfl ?_
  refine am_getR hz1 fl_X7_25 (ln_56 hG) (lk_56 hG) (lr_56_0 hG) rfl dX7_busiestOf_10 ?_
  refine am_getI hz1 fl_X7_36 (ln_3 hG) (lk_3 hG) rfl dX7_busiestOf_13 ?_
  refine am_icmp_ge (tgt := 60) hz1 dX7_busiestOf_16 (by decide) (fun c1 => ?_) (fun c1 => ?_)
  · replace h := h.1 c1
    refine am_iload_n hz1 dX7_busiestOf_60 2 rfl rfl ?_
    exact am_ireturn hz dX7_busiestOf_61 h
  · replace h := h.2 c1
    refine am_iload_n hz1 dX7_busiestOf_19 1 rfl rfl ?_
    refine am_aload_n hz1 dX7_busiestOf_20 0 rfl rfl ?_
    refine am_iload hz1 dX7_busiestOf_21 4 rfl ?_
    obtain ⟨g2, h⟩ := h
    refine am_cVf hz cv_X7_85 [.int v4] [.int v1] (c_X7_comparable hG v4 g2) (ln_56 hG) (lk_56 hG) rfl rfl rfl ⟨Nat.le_refl _, Nat.le_refl _⟩ (Nat.le_of_ble_eq_true rfl) dX7_busiestOf_23 ?_
    refine am_iand hz1 dX7_busiestOf_26 ?_
    refine am_cSf hz ct_X7_64 [.int (v1 &&& (q_cmp I v4))] [] (c_J6_bitCount_0f7a4 hG (v1 &&& (q_cmp I v4)) ) rfl rfl rfl ⟨Nat.le_refl _, Nat.le_refl _⟩ (Nat.le_of_ble_eq_true rfl) dX7_busiestOf_27 ?_
    refine am_istore (lv' := [(5, .int (q_bc (v1 &&& (q_cmp I v4)))), (0, .ref ((zB z).size + 56)), (1, .int v1), (2, .int v2), (3, .int v3), (4, .int v4)]) hz1 dX7_busiestOf_30 rfl rfl ?_
    refine am_iload_n hz1 dX7_busiestOf_32 2 rfl rfl ?_
    refine am_iload hz1 dX7_busiestOf_33 5 rfl ?_
    refine am_ishr hz1 dX7_busiestOf_35 ?_
    refine am_iconst (v := 1) hz1 dX7_busiestOf_36 (by decide) ?_
    refine am_iand hz1 dX7_busiestOf_37 ?_
    refine am_iconst (v := 1) hz1 dX7_busiestOf_38 (by decide) ?_
    refine am_icmp_ne (tgt := 54) hz1 dX7_busiestOf_39 (by decide) (fun c3 => ?_) (fun c3 => ?_)
    · replace h := h.1 c3
      refine am_iinc (v := v4 + 1) (lv' := [(4, .int (v4 + 1)), (5, .int (q_bc (v1 &&& (q_cmp I v4)))), (0, .ref ((zB z).size + 56)), (1, .int v1), (2, .int v2), (3, .int v3)]) hz1 dX7_busiestOf_54 5 rfl rfl rfl rfl ?_
      refine am_goto (tgt := 7) hz1 dX7_busiestOf_57 (by decide) ?_
      exact am_sub (lv' := [(0, .ref ((zB z).size + 56)), (1, .int v1), (2, .int v2), (3, .int v3), (4, .int (v4 + 1))]) [2, 3, 4, 5, 0] rfl h
    · replace h := h.2 c3
      refine am_iload hz1 dX7_busiestOf_42 0 rfl ?_
      refine am_iload_n hz1 dX7_busiestOf_44 4 rfl rfl ?_
      refine am_icmp_le (tgt := 54) hz1 dX7_busiestOf_45 (by decide) (fun c4 => ?_) (fun c4 => ?_)
      · replace h := h.1 c4
        refine am_iinc (v := v4 + 1) (lv' := [(4, .int (v4 + 1)), (5, .int (q_bc (v1 &&& (q_cmp I v4)))), (0, .ref ((zB z).size + 56)), (1, .int v1), (2, .int v2), (3, .int v3)]) hz1 dX7_busiestOf_54 5 rfl rfl rfl rfl ?_
        refine am_goto (tgt := 7) hz1 dX7_busiestOf_57 (by decide) ?_
        exact am_sub (lv' := [(0, .ref ((zB z).size + 56)), (1, .int v1), (2, .int v2), (3, .int v3), (4, .int (v4 + 1))]) [2, 3, 4, 5, 0] rfl h
      · replace h := h.2 c4
        refine am_iload hz1 dX7_busiestOf_48 5 rfl ?_
        refine am_istore_n (lv' := [(2, .int v4), (5, .int (q_bc (v1 &&& (q_cmp I v4)))), (0, .ref ((zB z).size + 56)), (1, .int v1), (3, .int v3), (4, .int v4)]) hz1 dX7_busiestOf_50 rfl rfl rfl ?_
        refine am_iload hz1 dX7_busiestOf_51 1 rfl ?_
        refine am_istore_n (lv' := [(3, .int (q_bc (v1 &&& (q_cmp I v4)))), (2, .int v4), (5, .int (q_bc (v1 &&& (q_cmp I v4)))), (0, .ref ((zB z).size + 56)), (1, .int v1), (4, .int v4)]) hz1 dX7_busiestOf_53 rfl rfl rfl ?_
        refine am_iinc (v := v4 + 1) (lv' := [(4, .int (v4 + 1)), (3, .int (q_bc (v1 &&& (q_cmp I v4)))), (2, .int v4), (5, .int (q_bc (v1 &&& (q_cmp I v4)))), (0, .ref ((zB z).size + 56)), (1, .int v1)]) hz1 dX7_busiestOf_54 5 rfl rfl rfl rfl ?_
        refine am_goto (tgt := 7) hz1 dX7_busiestOf_57 (by decide) ?_
        exact am_sub (lv' := [(0, .ref ((zB z).size + 56)), (1, .int v1), (2, .int v4), (3, .int (q_bc (v1 &&& (q_cmp I v4)))), (4, .int (v4 + 1))]) [4, 5, 2, 1, 0] rfl h
set_option maxRecDepth 100000 in
set_option maxHeartbeats 4000000 in
theorem c_X7_busiestOf {l : Launch} {D : va_G} {B : Heap} {G : amG} {I : amI} {L : amL}  (hG : Lay G)  (v1 : Int32) {n : Nat} {A : Nat → Int32} (hO : OI I 3 n A) (hs : ∀ i, i < 32 → bt v1 i = true → i < n) : Mx l D B yX7_busiestOf cX7_busiestOf 6 (some .int) 1 0 0 [.ref (B.size + 56), .int v1] G I L (fun r G1 I1 L1 => G1 = G ∧ I1 = I ∧ L1 = L ∧ ((r = some (.int (-1)) ∧ ∀ x y, x < n → y < n → bt v1 x = true → bt v1 y = true → bt (A x) y = false) ∨ ∃ x, r = some (.int (nI x)) ∧ x < n ∧ bt v1 x = true)) := by
  refine Mx.of (by decide) rfl rfl (fun z e1 e2 e3 hz => ?_)
  subst e1; subst e2; subst e3
  refine b_X7_busiestOf_0 hz hG ?_
  have h16 := hO.2.2.1
  have hn := hO.1
  have hbc : ∀ x, x < n → q_bc (v1 &&& q_cmp I (nI x)) = nI (ct (bt (v1 &&& cmp n A x)) n) := fun x hx => by rw [hO.cmq hx, bc_ct h16 (sub_in hs)]
  have main : ∀ b m : Int32, ((b = -1 ∧ m = nI 0 ∧ ∀ x, x < 0 → bt v1 x = true → ct (bt (v1 &&& cmp n A x)) n = 0) ∨ ∃ x k, b = nI x ∧ x < n ∧ bt v1 x = true ∧ m = nI k ∧ k ≤ 16) → Wx z 0 0 7 [(0, .ref ((zB z).size + 56)), (1, .int v1), (2, .int b), (3, .int m), (4, .int (nI 0))] [] G I L := by
    refine for_up (P := fun i => ∀ b m : Int32, ((b = -1 ∧ m = nI 0 ∧ ∀ x, x < i → bt v1 x = true → ct (bt (v1 &&& cmp n A x)) n = 0) ∨ ∃ x k, b = nI x ∧ x < n ∧ bt v1 x = true ∧ m = nI k ∧ k ≤ 16) → Wx z 0 0 7 [(0, .ref ((zB z).size + 56)), (1, .int v1), (2, .int b), (3, .int m), (4, .int (nI i))] [] G I L) (n := n) ?_ ?_ (Nat.zero_le _)
    · intro b m h
      refine b_X7_busiestOf_7 hz hG ⟨fun _ => ⟨rfl, rfl, rfl, ?_⟩, fun w => absurd (sz_le hn h16) w⟩
      rcases h with ⟨rfl, _, h⟩ | ⟨x, k, rfl, hx, hb, _⟩
      · refine Or.inl ⟨rfl, fun x y hx hy hbx hby => ?_⟩
        have := ct_0.mp (h x hx hbx) y hy
        rw [b_and, hby, Bool.true_and, cmp_b (by omega) hy, Bool.or_eq_false_iff] at this
        exact this.1
      · exact Or.inr ⟨x, rfl, hx, hb⟩
    · intro i hi ih b m h
      have hc := Nat.le_trans (ct_le (bt (v1 &&& cmp n A i)) n) h16
      refine b_X7_busiestOf_7 hz hG ⟨fun w => absurd w (sz_ge hn h16 hi), fun _ => ⟨in16 h16 hi, ?_⟩⟩
      rw [b_bit _ _ (show i < 32 by omega), hbc i hi, nI_1]
      refine ⟨fun w => ih b m ?_, fun w => ⟨fun g => ih b m ?_, fun g => ih _ _ (Or.inr ⟨i, _, rfl, hi, w, rfl, hc⟩)⟩⟩
      · rcases h with ⟨h1, h2, h3⟩ | h
        · refine Or.inl ⟨h1, h2, fun x hx hb => ?_⟩
          by_cases e : x = i
          · rw [e] at hb; exact absurd hb w
          · exact h3 x (by omega) hb
        · exact Or.inr h
      · rcases h with ⟨h1, h2, h3⟩ | h
        · refine Or.inl ⟨h1, h2, fun x hx hb => ?_⟩
          by_cases e : x = i
          · rw [h2] at g
            have := (nI_leI (by omega) (by omega)).mp g
            rw [e]; omega
          · exact h3 x (by omega) hb
        · exact Or.inr h
  exact main (-1) 0 (Or.inl ⟨rfl, rfl, fun x hx => absurd hx (Nat.not_lt_zero _)⟩)
set_option maxRecDepth 100000 in
set_option maxHeartbeats 4000000 in
theorem b_X7_fillChoices_0 {z : amZ} {post : amP} {G : amG} {I : amI} {L : amL} (hz : Go z cX7_fillChoices RX7 4 none 1 0 0 post) (hG : Lay G) {v1 : Int32} (h : Wx z 0 0 17 [(0, .ref ((zB z).size + 56)), (1, .int v1), (2, .int 0)] [] G I (setL (setL L 58 (q_fill (L 58) 17 (0 : Int64))) 58 (vp_updL ((setL L 58 (q_fill (L 58) 17 (0 : Int64))) 58) (0 : Int32).toNatClampNeg (1 : Int64)))) : Wx z 0 0 0 [(0, .ref ((zB z).size + 56)), (1, .int v1)] [] G I L := by
  have hz1 := hz.1
  refine am_aload_n hz1 dX7_fillChoices_0 0 rfl rfl ?_
  refine am_getR hz1 fl_X7_15 (ln_56 hG) (lk_56 hG) (lr_56_2 hG) rfl dX7_fillChoices_1 ?_
  refine am_lconst (v := 0) hz1 dX7_fillChoices_4 (by decide) ?_
  refine am_cSf hz ct_X7_46 [.ref ((zB z).size + 58), .long (0 : Int64)] [] (c_J7_fill_d0a16 hG (ln_58 hG) (lk_58 hG) (ll_58 hG) (0 : Int64) (by decide)) rfl rfl rfl ⟨Nat.le_refl _, Nat.le_refl _⟩ (Nat.le_of_ble_eq_true rfl) dX7_fillChoices_5 ?_
  refine am_aload_n hz1 dX7_fillChoices_8 0 rfl rfl ?_
  refine am_getR hz1 fl_X7_15 (ln_56 hG) (lk_56 hG) (lr_56_2 hG) rfl dX7_fillChoices_9 ?_
  refine am_iconst (v := 0) hz1 dX7_fillChoices_12 (by decide) ?_
  refine am_lconst (v := 1) hz1 dX7_fillChoices_13 (by decide) ?_
  refine am_last hz1 (ln_58 hG) (lk_58 hG) (by rw [(ll_58 hG)]; exact in_nI (n := 0) (by decide) (by decide)) dX7_fillChoices_14 ?_
  refine am_iconst (v := 0) hz1 dX7_fillChoices_15 (by decide) ?_
  refine am_istore_n (lv' := [(2, .int 0), (0, .ref ((zB z).size + 56)), (1, .int v1)]) hz1 dX7_fillChoices_16 rfl rfl rfl ?_
  exact am_sub (lv' := [(0, .ref ((zB z).size + 56)), (1, .int v1), (2, .int 0)]) [1, 2, 0] rfl h
set_option maxRecDepth 100000 in
set_option maxHeartbeats 4000000 in
theorem b_X7_fillChoices_17 {z : amZ} {post : amP} {G : amG} {I : amI} {L : amL} (hz : Go z cX7_fillChoices RX7 4 none 1 0 0 post) (hG : Lay G) {v1 : Int32} {v2 : Int32} (h : ((v1 ≤ v2) → post none G I L) ∧ ((¬ v1 ≤ v2) → Wx z 0 0 25 [(0, .ref ((zB z).size + 56)), (1, .int v1), (2, .int v2), (3, .int 16)] [] G I L)) : Wx z 0 0 17 [(0, .ref ((zB z).size + 56)), (1, .int v1), (2, .int v2)] [] G I L := by
  have hz1 := hz.1
  refine am_iload_n hz1 dX7_fillChoices_17 2 rfl rfl ?_
  refine am_iload_n hz1 dX7_fillChoices_18 1 rfl rfl ?_
  refine am_icmp_ge (tgt := 58) hz1 dX7_fillChoices_19 (by decide) (fun c1 => ?_) (fun c1 => ?_)
  · replace h := h.1 c1
    exact am_return hz dX7_fillChoices_58 h
  · replace h := h.2 c1
    refine am_bipush (v := 16) hz1 dX7_fillChoices_22 (by decide) ?_
    refine am_istore_n (lv' := [(3, .int 16), (0, .ref ((zB z).size + 56)), (1, .int v1), (2, .int v2)]) hz1 dX7_fillChoices_24 rfl rfl rfl ?_
    exact am_sub (lv' := [(0, .ref ((zB z).size + 56)), (1, .int v1), (2, .int v2), (3, .int 16)]) [1, 2, 3, 0] rfl h
set_option maxRecDepth 100000 in
set_option maxHeartbeats 4000000 in
theorem b_X7_fillChoices_25 {z : amZ} {post : amP} {G : amG} {I : amI} {L : amL} (hz : Go z cX7_fillChoices RX7 4 none 1 0 0 post) (hG : Lay G) {v1 : Int32} {v2 : Int32} {v3 : Int32} (h : ((v3 ≤ 0) → Wx z 0 0 17 [(0, .ref ((zB z).size + 56)), (1, .int v1), (2, .int (v2 + 1))] [] G I L) ∧ ((¬ v3 ≤ 0) → vp_in v3 17 ∧ vp_in (v3 - (1 : Int32)) 17 ∧ vp_in v3 17 ∧ Wx z 0 0 25 [(0, .ref ((zB z).size + 56)), (1, .int v1), (2, .int v2), (3, .int (v3 + (-1)))] [] G I (setL L 58 (vp_updL (L 58) v3.toNatClampNeg ((L 58 v3.toNatClampNeg) + (L 58 (v3 - (1 : Int32)).toNatClampNeg)))))) : Wx z 0 0 25 [(0, .ref ((zB z).size + 56)), (1, .int v1), (2, .int v2), (3, .int v3)] [] G I L := by
  have hz1 := hz.1
  refine am_iload_n hz1 dX7_fillChoices_25 3 rfl rfl ?_
  refine am_if_le (tgt := 52) hz1 dX7_fillChoices_26 (by decide) (fun c1 => ?_) (fun c1 => ?_)
  · replace h := h.1 c1
    refine am_iinc (v := v2 + 1) (lv' := [(2, .int (v2 + 1)), (0, .ref ((zB z).size + 56)), (1, .int v1), (3, .int v3)]) hz1 dX7_fillChoices_52 2 rfl rfl rfl rfl ?_
    refine am_goto (tgt := 17) hz1 dX7_fillChoices_55 (by decide) ?_
    exact am_sub (lv' := [(0, .ref ((zB z).size + 56)), (1, .int v1), (2, .int (v2 + 1))]) [1, 2, 0] rfl h
  · replace h := h.2 c1
    refine am_aload_n hz1 dX7_fillChoices_29 0 rfl rfl ?_
    refine am_getR hz1 fl_X7_15 (ln_56 hG) (lk_56 hG) (lr_56_2 hG) rfl dX7_fillChoices_30 ?_
    refine am_iload_n hz1 dX7_fillChoices_33 3 rfl rfl ?_
    refine am_dup2 hz1 dX7_fillChoices_34 rfl rfl ?_
    obtain ⟨g2, h⟩ := h
    refine am_lald hz1 (ln_58 hG) (lk_58 hG) (by rw [(ll_58 hG)]; exact g2) dX7_fillChoices_35 ?_
    refine am_aload_n hz1 dX7_fillChoices_36 0 rfl rfl ?_
    refine am_getR hz1 fl_X7_15 (ln_56 hG) (lk_56 hG) (lr_56_2 hG) rfl dX7_fillChoices_37 ?_
    refine am_iload_n hz1 dX7_fillChoices_40 3 rfl rfl ?_
    refine am_iconst (v := 1) hz1 dX7_fillChoices_41 (by decide) ?_
    refine am_isub hz1 dX7_fillChoices_42 ?_
    obtain ⟨g3, h⟩ := h
    refine am_lald hz1 (ln_58 hG) (lk_58 hG) (by rw [(ll_58 hG)]; exact g3) dX7_fillChoices_43 ?_
    refine am_ladd hz1 dX7_fillChoices_44 ?_
    obtain ⟨g4, h⟩ := h
    refine am_last hz1 (ln_58 hG) (lk_58 hG) (by rw [(ll_58 hG)]; exact g4) dX7_fillChoices_45 ?_
    refine am_iinc (v := v3 + (-1)) (lv' := [(3, .int (v3 + (-1))), (0, .ref ((zB z).size + 56)), (1, .int v1), (2, .int v2)]) hz1 dX7_fillChoices_46 3 rfl rfl rfl rfl ?_
    refine am_goto (tgt := 25) hz1 dX7_fillChoices_49 (by decide) ?_
    exact am_sub (lv' := [(0, .ref ((zB z).size + 56)), (1, .int v1), (2, .int v2), (3, .int (v3 + (-1)))]) [1, 2, 3, 0] rfl h
set_option maxRecDepth 100000 in
set_option maxHeartbeats 4000000 in
theorem c_X7_fillChoices {l : Launch} {D : va_G} {B : Heap} {G : amG} {I : amI} {L : amL}  (hG : Lay G)  (v1 : Int32) {m : Nat} (hm : v1 = nI m) (h16 : m ≤ 16) : Mx l D B yX7_fillChoices cX7_fillChoices 4 none 1 0 0 [.ref (B.size + 56), .int v1] G I L (fun r G1 I1 L1 => r = none ∧ G1 = G ∧ I1 = I ∧ ∃ f, L1 = setL L 58 f ∧ ∀ j, j ≤ 16 → f j = lN (chN m j)) := by
  refine Mx.of (by decide) rfl rfl (fun z e1 e2 e3 hz => ?_)
  subst e1; subst e2; subst e3
  refine b_X7_fillChoices_0 hz hG ?_
  subst hm
  have outer : ∀ f : Nat → Int64, (∀ j, j ≤ 16 → f j = lN (chN 0 j)) → Wx z 0 0 17 [(0, .ref ((zB z).size + 56)), (1, .int (nI m)), (2, .int (nI 0))] [] G I (setL L 58 f) := by
    refine for_up (P := fun i => ∀ f : Nat → Int64, (∀ j, j ≤ 16 → f j = lN (chN i j)) → Wx z 0 0 17 [(0, .ref ((zB z).size + 56)), (1, .int (nI m)), (2, .int (nI i))] [] G I (setL L 58 f)) (n := m) ?_ ?_ (Nat.zero_le _)
    · intro f hf
      exact b_X7_fillChoices_17 hz hG ⟨fun _ => ⟨rfl, rfl, rfl, f, rfl, hf⟩, fun w => absurd (nI_le (Nat.le_refl _) (by omega)) w⟩
    · intro i hi ih f hf
      refine b_X7_fillChoices_17 hz hG ⟨fun w => absurd w (nI_ge hi (by omega)), fun _ => ?_⟩
      have inner : ∀ k, k ≤ 16 → ∀ f : Nat → Int64, (∀ j, j ≤ 16 → f j = if k < j then lN (chN (i + 1) j) else lN (chN i j)) → Wx z 0 0 25 [(0, .ref ((zB z).size + 56)), (1, .int (nI m)), (2, .int (nI i)), (3, .int (nI k))] [] G I (setL L 58 f) := by
        intro k
        induction k with
        | zero =>
          intro _ f hf
          refine b_X7_fillChoices_25 hz hG ⟨fun _ => ?_, fun w => absurd (nI_le (a := 0) (b := 0) (Nat.le_refl _) (by decide)) w⟩
          rw [nI_1]
          refine ih f (fun j hj => ?_)
          rw [hf j hj]
          by_cases e : 0 < j
          · rw [if_pos e]
          · rw [if_neg e, show j = 0 by omega, chN, if_neg (by decide)]; rfl
        | succ k kh =>
          intro hk f hf
          refine b_X7_fillChoices_25 hz hG ⟨fun w => absurd ((nI_leI (b := 0) (by omega) (by decide)).mp w) (by omega), fun _ => ?_⟩
          have e1 : nI (k + 1) + (-1) = nI k := by rw [← Int32.sub_eq_add_neg]; exact nI_pred k
          rw [nI_pred, e1, cl_nI (n := k + 1) (by omega), cl_nI (n := k) (by omega), setL_ss, setL_s]
          refine ⟨in_nI (by omega) (by decide), in_nI (by omega) (by decide), in_nI (by omega) (by decide), kh (by omega) _ (fun j hj => ?_)⟩
          by_cases e : j = k + 1
          · rw [e, updL_s, hf (k + 1) (by omega), hf k (by omega), if_neg (by omega), if_neg (by omega), if_pos (by omega), chN, if_pos (by omega), Nat.add_sub_cancel, lN_add]
          · rw [updL_n e, hf j hj]
            by_cases e2 : k + 1 < j
            · rw [if_pos e2, if_pos (by omega)]
            · rw [if_neg e2, if_neg (by omega)]
      exact inner 16 (Nat.le_refl _) f (fun j hj => by rw [if_neg (by omega)]; exact hf j hj)
  rw [setL_ss, setL_s]
  refine outer _ (fun j hj => ?_)
  show vp_updL (q_fill (L 58) 17 0) 0 1 j = lN (if j = 0 then 1 else 0)
  by_cases e : j = 0
  · rw [e, updL_s, if_pos rfl]; rfl
  · rw [updL_n e, if_neg e, q_fill, if_pos (by omega)]; rfl
theorem chN_0 : ∀ m j, m < j → chN m j = 0
  | 0, j, h => by rw [chN, if_neg (by omega)]
  | m + 1, j, h => by rw [chN, chN_0 m j (by omega), if_pos (by omega), chN_0 m (j - 1) (by omega)]
def frS (L L1 : amL) : Prop := ∀ q, q ≠ 57 → q ≠ 58 → L1 q = L q
set_option maxRecDepth 100000 in
set_option maxHeartbeats 4000000 in
theorem b_X7_addDownSets_0 {z : amZ} {d : Nat} {post : amP} {G : amG} {I : amI} {L : amL} (hz : Go z cX7_addDownSets RX7 7 none d 0 0 post) (hG : Lay G) (hd : 6 ≤ d) {v1 : Int32} {v2 : Int32} {v3 : Int32} (h : ∃ (dq1 : Nat) (postq1 : amP), Nat.ble (dq1 + 1) d = true ∧ Mx (zL z) (zD z) (zB z) yX7_busiestOf cX7_busiestOf 6 (some .int) dq1 0 0 [.ref ((zB z).size + 56), .int v1] G I L postq1 ∧ ∀ (roq1 : Option Value) (Gq1 : amG) (Iq1 : amI) (Lq1 : amL), postq1 roq1 Gq1 Iq1 Lq1 → ∃ (rq1 : Int32), roq1 = some (.int rq1) ∧ Lay Gq1 ∧ ((rq1 < 0) → ∃ (dq3 : Nat) (postq3 : amP), Nat.ble (dq3 + 1) d = true ∧ Mx (zL z) (zD z) (zB z) yX7_fillChoices cX7_fillChoices 4 none dq3 0 0 [.ref ((zB z).size + 56), .int (q_bc v1)] Gq1 Iq1 Lq1 postq3 ∧ ∀ (roq3 : Option Value) (Gq3 : amG) (Iq3 : amI) (Lq3 : amL), postq3 roq3 Gq3 Iq3 Lq3 → roq3 = none ∧ Lay Gq3 ∧ Wx z 0 0 33 [(0, .ref ((zB z).size + 56)), (2, .int v2), (5, .int (q_bc v1)), (6, .int 0)] [] Gq3 Iq3 Lq3) ∧ ((¬ rq1 < 0) → ((v3 ≤ (16 : Int32)) → (szOk Iq1 3) ∧ ∃ (dq6 : Nat) (postq6 : amP), Nat.ble (dq6 + 1) d = true ∧ Mx (zL z) (zD z) (zB z) yX7_addDownSets cX7_addDownSets 7 none dq6 0 0 [.ref ((zB z).size + 56), .int (v1 &&& ((v1 &&& (q_upTo Iq1 3 rq1)) ^^^ (-1 : Int32))), .int (v2 + (q_bc (v1 &&& (q_upTo Iq1 3 rq1)))), .int (v3 + (1 : Int32))] Gq1 Iq1 Lq1 postq6 ∧ ∀ (roq6 : Option Value) (Gq6 : amG) (Iq6 : amI) (Lq6 : amL), postq6 roq6 Gq6 Iq6 Lq6 → roq6 = none ∧ Lay Gq6 ∧ (szOk Iq6 3) ∧ ∃ (dq8 : Nat) (postq8 : amP), Nat.ble (dq8 + 1) d = true ∧ Mx (zL z) (zD z) (zB z) yX7_addDownSets cX7_addDownSets 7 none dq8 0 0 [.ref ((zB z).size + 56), .int (v1 &&& ((q_from Iq6 3 rq1) ^^^ (-1 : Int32))), .int v2, .int (v3 + (1 : Int32))] Gq6 Iq6 Lq6 postq8 ∧ ∀ (roq8 : Option Value) (Gq8 : amG) (Iq8 : amI) (Lq8 : amL), postq8 roq8 Gq8 Iq8 Lq8 → roq8 = none ∧ Lay Gq8 ∧ post none Gq8 Iq8 Lq8) ∧ ((¬ v3 ≤ (16 : Int32)) → ∃ (dq9 : Nat) (postq9 : amP), Nat.ble (dq9 + 1) d = true ∧ Mx (zL z) (zD z) (zB z) yX7_fillChoices cX7_fillChoices 4 none dq9 0 0 [.ref ((zB z).size + 56), .int (q_bc v1)] Gq1 Iq1 Lq1 postq9 ∧ ∀ (roq9 : Option Value) (Gq9 : amG) (Iq9 : amI) (Lq9 : amL), postq9 roq9 Gq9 Iq9 Lq9 → roq9 = none ∧ Lay Gq9 ∧ Wx z 0 0 33 [(0, .ref ((zB z).size + 56)), (2, .int v2), (5, .int (q_bc v1)), (6, .int 0)] [] Gq9 Iq9 Lq9))) : Wx z 0 0 0 [(0, .ref ((zB z).size + 56)), (1, .int v1), (2, .int v2), (3, .int v3)] [] G I L := by
  have hz1 := hz.1
  refine am_aload_n hz1 dX7_addDownSets_0 0 rfl rfl ?_
  refine am_iload_n hz1 dX7_addDownSets_1 1 rfl rfl ?_
  obtain ⟨dq1, postq1, hdq1, hMq1, h⟩ := h
  refine am_callV hz1 cv_X7_60 [.int v1] [] hMq1 (ln_56 hG) (lk_56 hG) rfl rfl (hz.fr hdq1) (hz.lo hdq1) (by rw [hz.2.1]; exact ⟨Nat.le_refl _, Nat.le_refl _⟩) (Nat.le_of_ble_eq_true rfl) dX7_addDownSets_2 (fun roq1 Gq1 Iq1 Lq1 hpq1 => ?_)
  obtain ⟨rq1, rfl, hGq1, h⟩ := h roq1 Gq1 Iq1 Lq1 hpq1
  refine am_istore (lv' := [(4, .int rq1), (0, .ref ((zB z).size + 56)), (1, .int v1), (2, .int v2), (3, .int v3)]) hz1 dX7_addDownSets_5 rfl rfl ?_
  refine am_iload hz1 dX7_addDownSets_7 0 rfl ?_
  refine am_if_lt (tgt := 18) hz1 dX7_addDownSets_9 (by decide) (fun c2 => ?_) (fun c2 => ?_)
  · replace h := h.1 c2
    refine am_iload_n hz1 dX7_addDownSets_18 2 rfl rfl ?_
    refine am_cSf hz ct_X7_64 [.int v1] [] (c_J6_bitCount_0f7a4 hGq1 v1 ) rfl rfl (ble_d hd rfl) ⟨Nat.le_refl _, Nat.le_refl _⟩ (Nat.le_of_ble_eq_true rfl) dX7_addDownSets_19 ?_
    refine am_istore (lv' := [(5, .int (q_bc v1)), (4, .int rq1), (0, .ref ((zB z).size + 56)), (1, .int v1), (2, .int v2), (3, .int v3)]) hz1 dX7_addDownSets_22 rfl rfl ?_
    refine am_aload_n hz1 dX7_addDownSets_24 2 rfl rfl ?_
    refine am_iload hz1 dX7_addDownSets_25 0 rfl ?_
    obtain ⟨dq3, postq3, hdq3, hMq3, h⟩ := h
    refine am_callV hz1 cv_X7_69 [.int (q_bc v1)] [] hMq3 (ln_56 hGq1) (lk_56 hGq1) rfl rfl (hz.fr hdq3) (hz.lo hdq3) (by rw [hz.2.1]; exact ⟨Nat.le_refl _, Nat.le_refl _⟩) (Nat.le_of_ble_eq_true rfl) dX7_addDownSets_27 (fun roq3 Gq3 Iq3 Lq3 hpq3 => ?_)
    obtain ⟨rfl, hGq3, h⟩ := h roq3 Gq3 Iq3 Lq3 hpq3
    refine am_iconst (v := 0) hz1 dX7_addDownSets_30 (by decide) ?_
    refine am_istore (lv' := [(6, .int 0), (5, .int (q_bc v1)), (4, .int rq1), (0, .ref ((zB z).size + 56)), (1, .int v1), (2, .int v2), (3, .int v3)]) hz1 dX7_addDownSets_31 rfl rfl ?_
    exact am_sub (lv' := [(0, .ref ((zB z).size + 56)), (2, .int v2), (5, .int (q_bc v1)), (6, .int 0)]) [3, 5, 1, 0] rfl h
  · replace h := h.2 c2
    refine am_iload_n hz1 dX7_addDownSets_12 4 rfl rfl ?_
    refine am_bipush (v := 16) hz1 dX7_addDownSets_13 (by decide) ?_
    refine am_icmp_le (tgt := 75) hz1 dX7_addDownSets_15 (by decide) (fun c4 => ?_) (fun c4 => ?_)
    · replace h := h.1 c4
      refine am_iload_n hz1 dX7_addDownSets_75 2 rfl rfl ?_
      refine am_aload_n hz1 dX7_addDownSets_76 1 rfl rfl ?_
      refine am_getR hz1 fl_X7_25 (ln_56 hGq1) (lk_56 hGq1) (lr_56_0 hGq1) rfl dX7_addDownSets_77 ?_
      refine am_iload hz1 dX7_addDownSets_80 0 rfl ?_
      obtain ⟨g5, h⟩ := h
      refine am_cVf hz cv_X7_73 [.int rq1] [.int v1] (c_X4_upTo hGq1 isO_3 rq1 g5) (ln_3 hGq1) (lk_3 hGq1) rfl rfl (ble_d hd rfl) ⟨Nat.le_refl _, Nat.le_refl _⟩ (Nat.le_of_ble_eq_true rfl) dX7_addDownSets_82 ?_
      refine am_iand hz1 dX7_addDownSets_85 ?_
      refine am_istore (lv' := [(5, .int (v1 &&& (q_upTo Iq1 3 rq1))), (4, .int rq1), (0, .ref ((zB z).size + 56)), (1, .int v1), (2, .int v2), (3, .int v3)]) hz1 dX7_addDownSets_86 rfl rfl ?_
      refine am_aload_n hz1 dX7_addDownSets_88 2 rfl rfl ?_
      refine am_iload_n hz1 dX7_addDownSets_89 3 rfl rfl ?_
      refine am_iload hz1 dX7_addDownSets_90 0 rfl ?_
      refine am_iconst (v := (-1)) hz1 dX7_addDownSets_92 (by decide) ?_
      refine am_ixor hz1 dX7_addDownSets_93 ?_
      refine am_iand hz1 dX7_addDownSets_94 ?_
      refine am_iload_n hz1 dX7_addDownSets_95 4 rfl rfl ?_
      refine am_iload hz1 dX7_addDownSets_96 0 rfl ?_
      refine am_cSf hz ct_X7_64 [.int (v1 &&& (q_upTo Iq1 3 rq1))] [.int v2, .int (v1 &&& ((v1 &&& (q_upTo Iq1 3 rq1)) ^^^ (-1 : Int32))), .ref ((zB z).size + 56)] (c_J6_bitCount_0f7a4 hGq1 (v1 &&& (q_upTo Iq1 3 rq1)) ) rfl rfl (ble_d hd rfl) ⟨Nat.le_refl _, Nat.le_refl _⟩ (Nat.le_of_ble_eq_true rfl) dX7_addDownSets_98 ?_
      refine am_iadd hz1 dX7_addDownSets_101 ?_
      refine am_iload_n hz1 dX7_addDownSets_102 5 rfl rfl ?_
      refine am_iconst (v := 1) hz1 dX7_addDownSets_103 (by decide) ?_
      refine am_iadd hz1 dX7_addDownSets_104 ?_
      obtain ⟨dq6, postq6, hdq6, hMq6, h⟩ := h
      refine am_callV hz1 cv_X7_56 [.int (v1 &&& ((v1 &&& (q_upTo Iq1 3 rq1)) ^^^ (-1 : Int32))), .int (v2 + (q_bc (v1 &&& (q_upTo Iq1 3 rq1)))), .int (v3 + (1 : Int32))] [] hMq6 (ln_56 hGq1) (lk_56 hGq1) rfl rfl (hz.fr hdq6) (hz.lo hdq6) (by rw [hz.2.1]; exact ⟨Nat.le_refl _, Nat.le_refl _⟩) (Nat.le_of_ble_eq_true rfl) dX7_addDownSets_105 (fun roq6 Gq6 Iq6 Lq6 hpq6 => ?_)
      obtain ⟨rfl, hGq6, h⟩ := h roq6 Gq6 Iq6 Lq6 hpq6
      refine am_aload_n hz1 dX7_addDownSets_108 2 rfl rfl ?_
      refine am_iload_n hz1 dX7_addDownSets_109 3 rfl rfl ?_
      refine am_aload_n hz1 dX7_addDownSets_110 2 rfl rfl ?_
      refine am_getR hz1 fl_X7_25 (ln_56 hGq6) (lk_56 hGq6) (lr_56_0 hGq6) rfl dX7_addDownSets_111 ?_
      refine am_iload hz1 dX7_addDownSets_114 1 rfl ?_
      obtain ⟨g7, h⟩ := h
      refine am_cVf hz cv_X7_76 [.int rq1] [.int v1, .ref ((zB z).size + 56)] (c_X4_from hGq6 isO_3 rq1 g7) (ln_3 hGq6) (lk_3 hGq6) rfl rfl (ble_d hd rfl) ⟨Nat.le_refl _, Nat.le_refl _⟩ (Nat.le_of_ble_eq_true rfl) dX7_addDownSets_116 ?_
      refine am_iconst (v := (-1)) hz1 dX7_addDownSets_119 (by decide) ?_
      refine am_ixor hz1 dX7_addDownSets_120 ?_
      refine am_iand hz1 dX7_addDownSets_121 ?_
      refine am_iload_n hz1 dX7_addDownSets_122 4 rfl rfl ?_
      refine am_iload_n hz1 dX7_addDownSets_123 5 rfl rfl ?_
      refine am_iconst (v := 1) hz1 dX7_addDownSets_124 (by decide) ?_
      refine am_iadd hz1 dX7_addDownSets_125 ?_
      obtain ⟨dq8, postq8, hdq8, hMq8, h⟩ := h
      refine am_callV hz1 cv_X7_56 [.int (v1 &&& ((q_from Iq6 3 rq1) ^^^ (-1 : Int32))), .int v2, .int (v3 + (1 : Int32))] [] hMq8 (ln_56 hGq6) (lk_56 hGq6) rfl rfl (hz.fr hdq8) (hz.lo hdq8) (by rw [hz.2.1]; exact ⟨Nat.le_refl _, Nat.le_refl _⟩) (Nat.le_of_ble_eq_true rfl) dX7_addDownSets_126 (fun roq8 Gq8 Iq8 Lq8 hpq8 => ?_)
      obtain ⟨rfl, hGq8, h⟩ := h roq8 Gq8 Iq8 Lq8 hpq8
      exact am_return hz dX7_addDownSets_129 h
    · replace h := h.2 c4
      refine am_iload_n hz1 dX7_addDownSets_18 2 rfl rfl ?_
      refine am_cSf hz ct_X7_64 [.int v1] [] (c_J6_bitCount_0f7a4 hGq1 v1 ) rfl rfl (ble_d hd rfl) ⟨Nat.le_refl _, Nat.le_refl _⟩ (Nat.le_of_ble_eq_true rfl) dX7_addDownSets_19 ?_
      refine am_istore (lv' := [(5, .int (q_bc v1)), (4, .int rq1), (0, .ref ((zB z).size + 56)), (1, .int v1), (2, .int v2), (3, .int v3)]) hz1 dX7_addDownSets_22 rfl rfl ?_
      refine am_aload_n hz1 dX7_addDownSets_24 2 rfl rfl ?_
      refine am_iload hz1 dX7_addDownSets_25 0 rfl ?_
      obtain ⟨dq9, postq9, hdq9, hMq9, h⟩ := h
      refine am_callV hz1 cv_X7_69 [.int (q_bc v1)] [] hMq9 (ln_56 hGq1) (lk_56 hGq1) rfl rfl (hz.fr hdq9) (hz.lo hdq9) (by rw [hz.2.1]; exact ⟨Nat.le_refl _, Nat.le_refl _⟩) (Nat.le_of_ble_eq_true rfl) dX7_addDownSets_27 (fun roq9 Gq9 Iq9 Lq9 hpq9 => ?_)
      obtain ⟨rfl, hGq9, h⟩ := h roq9 Gq9 Iq9 Lq9 hpq9
      refine am_iconst (v := 0) hz1 dX7_addDownSets_30 (by decide) ?_
      refine am_istore (lv' := [(6, .int 0), (5, .int (q_bc v1)), (4, .int rq1), (0, .ref ((zB z).size + 56)), (1, .int v1), (2, .int v2), (3, .int v3)]) hz1 dX7_addDownSets_31 rfl rfl ?_
      exact am_sub (lv' := [(0, .ref ((zB z).size + 56)), (2, .int v2), (5, .int (q_bc v1)), (6, .int 0)]) [3, 5, 1, 0] rfl h
set_option maxRecDepth 100000 in
set_option maxHeartbeats 4000000 in
theorem b_X7_addDownSets_33 {z : amZ} {d : Nat} {post : amP} {G : amG} {I : amI} {L : amL} (hz : Go z cX7_addDownSets RX7 7 none d 0 0 post) (hG : Lay G) (hd : 6 ≤ d) {v2 : Int32} {v5 : Int32} {v6 : Int32} (h : ((v5 < v6) → post none G I L) ∧ ((¬ v5 < v6) → (((16 : Int32) < (v2 + v6)) → post none G I L) ∧ ((¬ (16 : Int32) < (v2 + v6)) → vp_in (v2 + v6) 17 ∧ vp_in v6 17 ∧ vp_in (v2 + v6) 17 ∧ Wx z 0 0 33 [(0, .ref ((zB z).size + 56)), (2, .int v2), (5, .int v5), (6, .int (v6 + 1))] [] G I (setL L 57 (vp_updL (L 57) (v2 + v6).toNatClampNeg ((L 57 (v2 + v6).toNatClampNeg) + (L 58 v6.toNatClampNeg))))))) : Wx z 0 0 33 [(0, .ref ((zB z).size + 56)), (2, .int v2), (5, .int v5), (6, .int v6)] [] G I L := by
  have hz1 := hz.1
  refine am_iload hz1 dX7_addDownSets_33 3 rfl ?_
  refine am_iload hz1 dX7_addDownSets_35 2 rfl ?_
  refine am_icmp_gt (tgt := 74) hz1 dX7_addDownSets_37 (by decide) (fun c1 => ?_) (fun c1 => ?_)
  · replace h := h.1 c1
    exact am_return hz dX7_addDownSets_74 h
  · replace h := h.2 c1
    refine am_iload_n hz1 dX7_addDownSets_40 1 rfl rfl ?_
    refine am_iload hz1 dX7_addDownSets_41 3 rfl ?_
    refine am_iadd hz1 dX7_addDownSets_43 ?_
    refine am_bipush (v := 16) hz1 dX7_addDownSets_44 (by decide) ?_
    refine am_icmp_gt (tgt := 74) hz1 dX7_addDownSets_46 (by decide) (fun c2 => ?_) (fun c2 => ?_)
    · replace h := h.1 c2
      exact am_return hz dX7_addDownSets_74 h
    · replace h := h.2 c2
      refine am_aload_n hz1 dX7_addDownSets_49 0 rfl rfl ?_
      refine am_getR hz1 fl_X7_9 (ln_56 hG) (lk_56 hG) (lr_56_1 hG) rfl dX7_addDownSets_50 ?_
      refine am_iload_n hz1 dX7_addDownSets_53 1 rfl rfl ?_
      refine am_iload hz1 dX7_addDownSets_54 3 rfl ?_
      refine am_iadd hz1 dX7_addDownSets_56 ?_
      refine am_dup2 hz1 dX7_addDownSets_57 rfl rfl ?_
      obtain ⟨g3, h⟩ := h
      refine am_lald hz1 (ln_57 hG) (lk_57 hG) (by rw [(ll_57 hG)]; exact g3) dX7_addDownSets_58 ?_
      refine am_aload_n hz1 dX7_addDownSets_59 0 rfl rfl ?_
      refine am_getR hz1 fl_X7_15 (ln_56 hG) (lk_56 hG) (lr_56_2 hG) rfl dX7_addDownSets_60 ?_
      refine am_iload hz1 dX7_addDownSets_63 3 rfl ?_
      obtain ⟨g4, h⟩ := h
      refine am_lald hz1 (ln_58 hG) (lk_58 hG) (by rw [(ll_58 hG)]; exact g4) dX7_addDownSets_65 ?_
      refine am_ladd hz1 dX7_addDownSets_66 ?_
      obtain ⟨g5, h⟩ := h
      refine am_last hz1 (ln_57 hG) (lk_57 hG) (by rw [(ll_57 hG)]; exact g5) dX7_addDownSets_67 ?_
      refine am_iinc (v := v6 + 1) (lv' := [(6, .int (v6 + 1)), (0, .ref ((zB z).size + 56)), (2, .int v2), (5, .int v5)]) hz1 dX7_addDownSets_68 3 rfl rfl rfl rfl ?_
      refine am_goto (tgt := 33) hz1 dX7_addDownSets_71 (by decide) ?_
      exact am_sub (lv' := [(0, .ref ((zB z).size + 56)), (2, .int v2), (5, .int v5), (6, .int (v6 + 1))]) [1, 2, 3, 0] rfl h
set_option maxRecDepth 100000 in
set_option maxHeartbeats 4000000 in
theorem c_X7_addDownSets {l : Launch} {D : va_G} {B : Heap} {G : amG} {I : amI} {n : Nat} {A : Nat → Int32} (hG : Lay G) (hO : OI I 3 n A) : ∀ (m : Nat) (s : Int32) (tk dp d : Nat) (L : amL), (∀ i, i < 32 → bt s i = true → i < n) → ct (bt s) n ≤ m → tk + ct (bt s) n ≤ 16 → dp + m ≤ 16 → 6 + m ≤ d →
    Mx l D B yX7_addDownSets cX7_addDownSets 7 none d 0 0 [.ref (B.size + 56), .int s, .int (nI tk), .int (nI dp)] G I L (fun r G1 I1 L1 => r = none ∧ G1 = G ∧ I1 = I ∧ frS L L1 ∧ ∀ k, k ≤ 16 → L1 57 k = L 57 k + if tk ≤ k then lN (dC n A (bt s) (k - tk)) else 0) := by
  have h16 := hO.2.2.1
  have hP := hO.2.2.2.2.2.1
  have base : ∀ (z : amZ) (s : Int32) (tk d : Nat) (L : amL), Go z cX7_addDownSets yX7_addDownSets.cls 7 none d 0 0 (fun r G1 I1 L1 => r = none ∧ G1 = G ∧ I1 = I ∧ frS L L1 ∧ ∀ k, k ≤ 16 → L1 57 k = L 57 k + if tk ≤ k then lN (dC n A (bt s) (k - tk)) else 0) → 6 ≤ d → (∀ i, i < 32 → bt s i = true → i < n) → tk + ct (bt s) n ≤ 16 → (∀ x y, x < n → y < n → bt s x = true → bt s y = true → bt (A x) y = false) → ∃ (dq : Nat) (post : amP), Nat.ble (dq + 1) d = true ∧ Mx (zL z) (zD z) (zB z) yX7_fillChoices cX7_fillChoices 4 none dq 0 0 [.ref ((zB z).size + 56), .int (q_bc s)] G I L post ∧ ∀ (ro : Option Value) (G3 : amG) (I3 : amI) (L3 : amL), post ro G3 I3 L3 → ro = none ∧ Lay G3 ∧ Wx z 0 0 33 [(0, .ref ((zB z).size + 56)), (2, .int (nI tk)), (5, .int (q_bc s)), (6, .int 0)] [] G3 I3 L3 := by
    intro z s tk d L hz hd hs htk hA
    have hc := bc_ct h16 hs
    have hc16 := Nat.le_trans (ct_le (bt s) n) h16
    rw [hc]
    refine ⟨1, _, ble_d (show 2 ≤ d by omega) rfl, c_X7_fillChoices hG _ rfl hc16, fun ro G3 I3 L3 ⟨e1, e2, e3, f, e4, e5⟩ => ⟨e1, by rw [e2]; exact hG, ?_⟩⟩
    rw [e2, e3, e4]
    have hd2 := dC_a hP h16 _ (bt s) rfl hA
    generalize hmm : ct (bt s) n = mm at *
    have main : ∀ X : amL, frS L X → (∀ j, j ≤ 16 → X 58 j = lN (chN mm j)) → (∀ k, k ≤ 16 → X 57 k = L 57 k + if tk ≤ k ∧ k < tk + 0 then lN (chN mm (k - tk)) else 0) → Wx z 0 0 33 [(0, .ref ((zB z).size + 56)), (2, .int (nI tk)), (5, .int (nI mm)), (6, .int (nI 0))] [] G I X := by
      refine for_up (P := fun i => ∀ X : amL, frS L X → (∀ j, j ≤ 16 → X 58 j = lN (chN mm j)) → (∀ k, k ≤ 16 → X 57 k = L 57 k + if tk ≤ k ∧ k < tk + i then lN (chN mm (k - tk)) else 0) → Wx z 0 0 33 [(0, .ref ((zB z).size + 56)), (2, .int (nI tk)), (5, .int (nI mm)), (6, .int (nI i))] [] G I X) (n := mm + 1) ?_ ?_ (Nat.zero_le _)
      · intro X x1 x2 x3
        refine b_X7_addDownSets_33 hz hG hd ⟨fun _ => ⟨rfl, rfl, rfl, x1, fun k hk => ?_⟩, fun w => absurd (nI_lt (Nat.lt_succ_self _) (by omega)) w⟩
        rw [x3 k hk]
        congr 1
        by_cases h1 : tk ≤ k
        · rw [if_pos h1, hd2]
          by_cases h2 : k < tk + (mm + 1)
          · rw [if_pos ⟨h1, h2⟩]
          · rw [if_neg (fun w => h2 w.2), chN_0 _ _ (by omega)]; rfl
        · rw [if_neg h1, if_neg (fun w => h1 w.1)]
      · intro i hi ih X x1 x2 x3
        refine b_X7_addDownSets_33 hz hG hd ⟨fun w => absurd ((nI_ltI (by omega) (by omega)).mp w) (by omega), fun _ => ?_⟩
        rw [nI_add, nI_1]
        refine ⟨fun w => absurd ((nI_ltI (a := 16) (by decide) (by omega)).mp w) (by omega), fun _ => ?_⟩
        rw [cl_nI (n := tk + i) (by omega), cl_nI (n := i) (by omega)]
        refine ⟨in_nI (by omega) (by decide), in_nI (by omega) (by decide), in_nI (by omega) (by decide), ih _ (fun q a b => by rw [setL_n a]; exact x1 q a b) (fun j hj => by rw [setL_n (by decide)]; exact x2 j hj) (fun k hk => ?_)⟩
        rw [setL_s]
        by_cases e : k = tk + i
        · rw [e, updL_s, x3 (tk + i) (by omega), if_neg (by omega), if_pos (by omega), x2 i (by omega), Nat.add_sub_cancel_left, Int64.add_zero]
        · rw [updL_n e, x3 k hk]
          congr 1
          by_cases h1 : tk ≤ k ∧ k < tk + i
          · rw [if_pos h1, if_pos (by omega)]
          · rw [if_neg h1, if_neg (by omega)]
    refine main _ (fun q _ b => setL_n b) (fun j hj => by rw [setL_s]; exact e5 j hj) (fun k hk => ?_)
    rw [setL_n (by decide), if_neg (by omega), Int64.add_zero]
  intro m
  induction m with
  | zero =>
    intro s tk dp d L hs hm htk hdp hd
    refine Mx.of (by decide) rfl rfl (fun z e1 e2 e3 hz => ?_)
    subst e1; subst e2; subst e3
    have hno : ∀ x, x < n → bt s x = false := ct_0.mp (by omega)
    refine b_X7_addDownSets_0 hz hG (by omega) ⟨1, _, ble_d (show 2 ≤ d by omega) rfl, c_X7_busiestOf hG s hO hs, fun ro G2 I2 L2 ⟨e1, e2, e3, e4⟩ => ?_⟩
    rcases e4 with ⟨e4, e5⟩ | ⟨x, _, hx, hb⟩
    · refine ⟨_, e4, by rw [e1]; exact hG, fun _ => ?_, fun w => absurd (by decide) w⟩
      rw [e1, e2, e3]
      exact base z s tk d L hz (by omega) hs htk e5
    · rw [hno x hx] at hb; cases hb
  | succ m ih =>
    intro s tk dp d L hs hm htk hdp hd
    refine Mx.of (by decide) rfl rfl (fun z e1 e2 e3 hz => ?_)
    subst e1; subst e2; subst e3
    refine b_X7_addDownSets_0 hz hG (by omega) ⟨1, _, ble_d (show 2 ≤ d by omega) rfl, c_X7_busiestOf hG s hO hs, fun ro G2 I2 L2 ⟨e1, e2, e3, e4⟩ => ?_⟩
    rcases e4 with ⟨e4, e5⟩ | ⟨x, e4, hx, hb⟩
    · refine ⟨_, e4, by rw [e1]; exact hG, fun _ => ?_, fun w => absurd (by decide) w⟩
      rw [e1, e2, e3]
      exact base z s tk d L hz (by omega) hs htk e5
    · refine ⟨_, e4, by rw [e1]; exact hG, fun w => absurd w (nI_pos (by omega)), fun _ => ⟨fun _ => ?_, fun w => absurd (nI_le (a := dp) (b := 16) (by omega) (by decide)) w⟩⟩
      rw [e1, e2, e3, hO.upTo hx]
      have hlb : ∀ i, i < 32 → bt (s &&& dnS n A x) i = (bt s i && (decide (i < n) && le A i x)) := fun i hi => by rw [b_and, dn_b (by omega) hx hi]
      have hlow : ∀ i, i < n → bt (s &&& dnS n A x) i = (bt s i && le A i x) := fun i hi => by rw [hlb i (by omega), decide_eq_true hi, Bool.true_and]
      have hs1 : ∀ i, i < 32 → bt (s &&& ((s &&& dnS n A x) ^^^ (-1))) i = true → i < n := sub_in hs
      have hb1 : ∀ i, i < n → bt (s &&& ((s &&& dnS n A x) ^^^ (-1))) i = (bt s i && !le A i x) := fun i hi => by
        rw [b_and, b_not _ (by omega), hlow i hi]
        cases bt s i <;> cases le A i x <;> rfl
      have hs2 : ∀ i, i < 32 → bt (s &&& (upS A x ^^^ (-1))) i = true → i < n := sub_in hs
      have hb2 : ∀ i, i < n → bt (s &&& (upS A x ^^^ (-1))) i = (bt s i && !le A x i) := fun i hi => by rw [b_and, b_not _ (by omega), up_b]
      have hxx : le A x x = true := le_rf (by omega)
      have hc1 : ct (bt (s &&& ((s &&& dnS n A x) ^^^ (-1)))) n + ct (fun i => bt s i && le A i x) n = ct (bt s) n := by
        rw [ct_cong hb1, Nat.add_comm]
        exact (ct_split (p := bt s) (q := fun i => le A i x)).symm
      have hc2 : ct (bt (s &&& (upS A x ^^^ (-1)))) n + ct (fun i => bt s i && le A x i) n = ct (bt s) n := by
        rw [ct_cong hb2, Nat.add_comm]
        exact (ct_split (p := bt s) (q := fun i => le A x i)).symm
      have hlow1 : 1 ≤ ct (fun i => bt s i && le A i x) n := by
        rcases Nat.eq_zero_or_pos (ct (fun i => bt s i && le A i x) n) with h | h
        · have := ct_0.mp h x hx
          rw [hb, hxx] at this; cases this
        · exact h
      have hup1 : 1 ≤ ct (fun i => bt s i && le A x i) n := by
        rcases Nat.eq_zero_or_pos (ct (fun i => bt s i && le A x i) n) with h | h
        · have := ct_0.mp h x hx
          rw [hb, hxx] at this; cases this
        · exact h
      have hq : q_bc (s &&& dnS n A x) = nI (ct (fun i => bt s i && le A i x) n) := by rw [bc_ct h16 (sub_in hs), ct_cong hlow]
      rw [hq, nI_add, nI_1]
      refine ⟨hO.sz, d - 1, _, by rw [show d - 1 + 1 = d by omega]; exact Nat.ble_self_eq_true d, ih _ _ (dp + 1) (d - 1) L hs1 (by omega) (by omega) (by omega) (by omega), fun ro3 G3 I3 L3 ⟨d1, d2, d3, d4, d5⟩ => ⟨d1, by rw [d2]; exact hG, ?_⟩⟩
      rw [d2, d3, hO.from hx]
      refine ⟨hO.sz, d - 1, _, by rw [show d - 1 + 1 = d by omega]; exact Nat.ble_self_eq_true d, ih _ tk (dp + 1) (d - 1) L3 hs2 (by omega) (by omega) (by omega) (by omega), fun ro4 G4 I4 L4 ⟨c1, c2, c3, c4, c5⟩ => ⟨c1, by rw [c2]; exact hG, ?_⟩⟩
      refine ⟨rfl, c2, c3, fun q a b => by rw [c4 q a b, d4 q a b], fun k hk => ?_⟩
      rw [c5 k hk, d5 k hk, Int64.add_assoc]
      congr 1
      by_cases hk1 : tk ≤ k
      · rw [if_pos hk1, if_pos hk1, dC_s hP h16 hx hb (k - tk), ← lN_add, dC_c hb2, Int64.add_comm]
        congr 1
        by_cases hk2 : tk + ct (fun i => bt s i && le A i x) n ≤ k
        · rw [if_pos hk2, if_pos (by omega), dC_c hb1, Nat.sub_sub]
        · rw [if_neg hk2, if_neg (by omega)]; rfl
      · rw [if_neg hk1, if_neg hk1, if_neg (by omega)]; rfl
/-! the sizes known -/
def DK (L : amL) (n : Nat) (A : Nat → Int32) : Prop := ∀ k, k ≤ 16 → L 57 k = lN (dC n A (fun _ => true) k)
theorem all_in {n : Nat} (h16 : n ≤ 16) : ∀ i, i < 32 → bt (allS n) i = true → i < n := fun i hi h => by rw [b_all n h16 i hi] at h; exact of_decide_eq_true h
theorem all_bt {n : Nat} (h16 : n ≤ 16) : ∀ i, i < n → bt (allS n) i = true := fun i hi => by rw [b_all n h16 i (by omega), decide_eq_true hi]
theorem ct_all {n : Nat} : ∀ k, ct (fun _ => true) k = k
  | 0 => rfl
  | k + 1 => by rw [ct, ct_all (n := n) k, if_pos rfl]
theorem OI.all {I : amI} {n : Nat} {A : Nat → Int32} (h : OI I 3 n A) : q_all I 3 = allS n := by rw [q_all, h.1]
set_option maxRecDepth 100000 in
set_option maxHeartbeats 4000000 in
theorem b_X7_downSetsOf_0 {z : amZ} {post : amP} {G : amG} {I : amI} {L : amL} (hz : Go z cX7_downSetsOf RX7 2 (some .long) 41 0 0 post) (hG : Lay G) {v1 : Int32} (h : ((¬ (I 56 5) = 0) → ((v1 < 0) → post (some (.long (0 : Int64))) G I L) ∧ ((¬ v1 < 0) → (((16 : Int32) < v1) → post (some (.long (0 : Int64))) G I L) ∧ ((¬ (16 : Int32) < v1) → vp_in v1 17 ∧ post (some (.long (L 57 v1.toNatClampNeg))) G I L))) ∧ (((I 56 5) = 0) → ∃ (dq5 : Nat) (postq5 : amP), Nat.ble (dq5 + 1) 41 = true ∧ Mx (zL z) (zD z) (zB z) yX7_addDownSets cX7_addDownSets 7 none dq5 0 0 [.ref ((zB z).size + 56), .int (q_all I 3), .int 0, .int 0] G I (setL L 57 (q_fill (L 57) 17 (0 : Int64))) postq5 ∧ ∀ (roq5 : Option Value) (Gq5 : amG) (Iq5 : amI) (Lq5 : amL), postq5 roq5 Gq5 Iq5 Lq5 → roq5 = none ∧ Lay Gq5 ∧ ((v1 < 0) → post (some (.long (0 : Int64))) Gq5 (setI Iq5 56 (upd (Iq5 56) 5 (1 : Int32))) Lq5) ∧ ((¬ v1 < 0) → (((16 : Int32) < v1) → post (some (.long (0 : Int64))) Gq5 (setI Iq5 56 (upd (Iq5 56) 5 (1 : Int32))) Lq5) ∧ ((¬ (16 : Int32) < v1) → vp_in v1 17 ∧ post (some (.long (Lq5 57 v1.toNatClampNeg))) Gq5 (setI Iq5 56 (upd (Iq5 56) 5 (1 : Int32))) Lq5)))) : Wx z 0 0 0 [(0, .ref ((zB z).size + 56)), (1, .int v1)] [] G I L := by
  have hz1 := hz.1
  refine am_aload_n hz1 dX7_downSetsOf_0 0 rfl rfl ?_
  refine am_getI hz1 fl_X7_29 (ln_56 hG) (lk_56 hG) rfl dX7_downSetsOf_1 ?_
  refine am_if_ne (tgt := 33) hz1 dX7_downSetsOf_4 (by decide) (fun c1 => ?_) (fun c1 => ?_)
  · replace h := h.1 c1
    refine am_iload_n hz1 dX7_downSetsOf_33 1 rfl rfl ?_
    refine am_if_lt (tgt := 52) hz1 dX7_downSetsOf_34 (by decide) (fun c2 => ?_) (fun c2 => ?_)
    · replace h := h.1 c2
      refine am_lconst (v := 0) hz1 dX7_downSetsOf_52 (by decide) ?_
      exact am_lreturn hz dX7_downSetsOf_53 h
    · replace h := h.2 c2
      refine am_iload_n hz1 dX7_downSetsOf_37 1 rfl rfl ?_
      refine am_bipush (v := 16) hz1 dX7_downSetsOf_38 (by decide) ?_
      refine am_icmp_gt (tgt := 52) hz1 dX7_downSetsOf_40 (by decide) (fun c3 => ?_) (fun c3 => ?_)
      · replace h := h.1 c3
        refine am_lconst (v := 0) hz1 dX7_downSetsOf_52 (by decide) ?_
        exact am_lreturn hz dX7_downSetsOf_53 h
      · replace h := h.2 c3
        refine am_aload_n hz1 dX7_downSetsOf_43 0 rfl rfl ?_
        refine am_getR hz1 fl_X7_9 (ln_56 hG) (lk_56 hG) (lr_56_1 hG) rfl dX7_downSetsOf_44 ?_
        refine am_iload_n hz1 dX7_downSetsOf_47 1 rfl rfl ?_
        obtain ⟨g4, h⟩ := h
        refine am_lald hz1 (ln_57 hG) (lk_57 hG) (by rw [(ll_57 hG)]; exact g4) dX7_downSetsOf_48 ?_
        refine am_goto (tgt := 53) hz1 dX7_downSetsOf_49 (by decide) ?_
        exact am_lreturn hz dX7_downSetsOf_53 h
  · replace h := h.2 c1
    refine am_aload_n hz1 dX7_downSetsOf_7 0 rfl rfl ?_
    refine am_getR hz1 fl_X7_9 (ln_56 hG) (lk_56 hG) (lr_56_1 hG) rfl dX7_downSetsOf_8 ?_
    refine am_lconst (v := 0) hz1 dX7_downSetsOf_11 (by decide) ?_
    refine am_cSf hz ct_X7_46 [.ref ((zB z).size + 57), .long (0 : Int64)] [] (c_J7_fill_d0a16 hG (ln_57 hG) (lk_57 hG) (ll_57 hG) (0 : Int64) (by decide)) rfl rfl rfl ⟨Nat.le_refl _, Nat.le_refl _⟩ (Nat.le_of_ble_eq_true rfl) dX7_downSetsOf_12 ?_
    refine am_aload_n hz1 dX7_downSetsOf_15 0 rfl rfl ?_
    refine am_aload_n hz1 dX7_downSetsOf_16 0 rfl rfl ?_
    refine am_getR hz1 fl_X7_25 (ln_56 hG) (lk_56 hG) (lr_56_0 hG) rfl dX7_downSetsOf_17 ?_
    refine am_cVf hz cv_X7_52 [] [.ref ((zB z).size + 56)] (c_X4_all hG isO_3  ) (ln_3 hG) (lk_3 hG) rfl rfl rfl ⟨Nat.le_refl _, Nat.le_refl _⟩ (Nat.le_of_ble_eq_true rfl) dX7_downSetsOf_20 ?_
    refine am_iconst (v := 0) hz1 dX7_downSetsOf_23 (by decide) ?_
    refine am_iconst (v := 0) hz1 dX7_downSetsOf_24 (by decide) ?_
    obtain ⟨dq5, postq5, hdq5, hMq5, h⟩ := h
    refine am_callV hz1 cv_X7_56 [.int (q_all I 3), .int 0, .int 0] [] hMq5 (ln_56 hG) (lk_56 hG) rfl rfl (hz.fr hdq5) (hz.lo hdq5) (by rw [hz.2.1]; exact ⟨Nat.le_refl _, Nat.le_refl _⟩) (Nat.le_of_ble_eq_true rfl) dX7_downSetsOf_25 (fun roq5 Gq5 Iq5 Lq5 hpq5 => ?_)
    obtain ⟨rfl, hGq5, h⟩ := h roq5 Gq5 Iq5 Lq5 hpq5
    refine am_aload_n hz1 dX7_downSetsOf_28 0 rfl rfl ?_
    refine am_iconst (v := 1) hz1 dX7_downSetsOf_29 (by decide) ?_
    refine am_putI hz1 fl_X7_29 (ln_56 hGq5) (lk_56 hGq5) rfl rfl (fun _ => rfl) dX7_downSetsOf_30 ?_
    refine am_iload_n hz1 dX7_downSetsOf_33 1 rfl rfl ?_
    refine am_if_lt (tgt := 52) hz1 dX7_downSetsOf_34 (by decide) (fun c6 => ?_) (fun c6 => ?_)
    · replace h := h.1 c6
      refine am_lconst (v := 0) hz1 dX7_downSetsOf_52 (by decide) ?_
      exact am_lreturn hz dX7_downSetsOf_53 h
    · replace h := h.2 c6
      refine am_iload_n hz1 dX7_downSetsOf_37 1 rfl rfl ?_
      refine am_bipush (v := 16) hz1 dX7_downSetsOf_38 (by decide) ?_
      refine am_icmp_gt (tgt := 52) hz1 dX7_downSetsOf_40 (by decide) (fun c7 => ?_) (fun c7 => ?_)
      · replace h := h.1 c7
        refine am_lconst (v := 0) hz1 dX7_downSetsOf_52 (by decide) ?_
        exact am_lreturn hz dX7_downSetsOf_53 h
      · replace h := h.2 c7
        refine am_aload_n hz1 dX7_downSetsOf_43 0 rfl rfl ?_
        refine am_getR hz1 fl_X7_9 (ln_56 hGq5) (lk_56 hGq5) (lr_56_1 hGq5) rfl dX7_downSetsOf_44 ?_
        refine am_iload_n hz1 dX7_downSetsOf_47 1 rfl rfl ?_
        obtain ⟨g8, h⟩ := h
        refine am_lald hz1 (ln_57 hGq5) (lk_57 hGq5) (by rw [(ll_57 hGq5)]; exact g8) dX7_downSetsOf_48 ?_
        refine am_goto (tgt := 53) hz1 dX7_downSetsOf_49 (by decide) ?_
        exact am_lreturn hz dX7_downSetsOf_53 h
set_option maxRecDepth 100000 in
set_option maxHeartbeats 4000000 in
theorem c_X7_downSetsOf {l : Launch} {D : va_G} {B : Heap} {G : amG} {I : amI} {L : amL}  (hG : Lay G)  (v1 : Int32) {n k : Nat} {A : Nat → Int32} (hO : OI I 3 n A) (hk : v1 = nI k) (hk16 : k ≤ 16) (hK : I 56 5 = 0 ∨ DK L n A) : Mx l D B yX7_downSetsOf cX7_downSetsOf 2 (some .long) 41 0 0 [.ref (B.size + 56), .int v1] G I L (fun r G1 I1 L1 => r = some (.long (lN (dC n A (fun _ => true) k))) ∧ G1 = G ∧ (I1 = I ∨ I1 = setI I 56 (upd (I 56) 5 1)) ∧ ¬ I1 56 5 = 0 ∧ frS L L1 ∧ DK L1 n A) := by
  refine Mx.of (by decide) rfl rfl (fun z e1 e2 e3 hz => ?_)
  subst e1; subst e2; subst e3
  refine b_X7_downSetsOf_0 hz hG ?_
  subst hk
  have h16 := hO.2.2.1
  have n0 : ¬ nI k < 0 := nI_pos (by omega)
  have n16 : ¬ (16 : Int32) < nI k := fun w => absurd ((nI_ltI (a := 16) (by decide) (by omega)).mp w) (by omega)
  have hin : vp_in (nI k) 17 := in_nI (by omega) (by decide)
  refine ⟨fun w => ⟨fun g => absurd g n0, fun _ => ⟨fun g => absurd g n16, fun _ => ⟨hin, ?_⟩⟩⟩, fun w => ?_⟩
  · rcases hK with h | h
    · exact absurd h w
    · rw [cl_nI (n := k) (by omega), h k hk16]
      exact ⟨rfl, rfl, Or.inl rfl, w, fun _ _ _ => rfl, h⟩
  · rw [hO.all]
    have hca : ct (bt (allS n)) n = n := by rw [ct_cong (all_bt h16), ct_all (n := n)]
    refine ⟨40, _, rfl, c_X7_addDownSets hG hO 16 (allS n) 0 0 40 _ (all_in h16) (by omega) (by omega) (by omega) (by omega), fun ro G2 I2 L2 ⟨e1, e2, e3, e4, e5⟩ => ⟨e1, by rw [e2]; exact hG, fun g => absurd g n0, fun _ => ⟨fun g => absurd g n16, fun _ => ⟨hin, ?_⟩⟩⟩⟩
    have hD : DK L2 n A := fun j hj => by
      rw [e5 j hj, if_pos (Nat.zero_le _), Nat.sub_zero, setL_s, q_fill, if_pos (by omega), Int64.zero_add, dC_c (all_bt h16)]
    rw [cl_nI (n := k) (by omega), hD k hk16, e3]
    exact ⟨rfl, e2, Or.inr rfl, by rw [setI_s, upd_s]; decide, fun q a b => by rw [e4 q a b, setL_n a], hD⟩
set_option maxRecDepth 100000 in
set_option maxHeartbeats 4000000 in
theorem b_X7_downSets_0 {z : amZ} {post : amP} {G : amG} {I : amI} {L : amL} (hz : Go z cX7_downSets RX7 4 (some .long) 42 0 0 post) (hG : Lay G)  (h : Wx z 0 0 4 [(0, .ref ((zB z).size + 56)), (1, .long (0 : Int64)), (3, .int 0)] [] G I L) : Wx z 0 0 0 [(0, .ref ((zB z).size + 56))] [] G I L := by
  have hz1 := hz.1
  refine am_lconst (v := 0) hz1 dX7_downSets_0 (by decide) ?_
  refine am_lstore_n (lv' := [(1, .long (0 : Int64)), (0, .ref ((zB z).size + 56))]) hz1 dX7_downSets_1 rfl rfl rfl ?_
  refine am_iconst (v := 0) hz1 dX7_downSets_2 (by decide) ?_
  refine am_istore_n (lv' := [(3, .int 0), (1, .long (0 : Int64)), (0, .ref ((zB z).size + 56))]) hz1 dX7_downSets_3 rfl rfl rfl ?_
  exact am_sub (lv' := [(0, .ref ((zB z).size + 56)), (1, .long (0 : Int64)), (3, .int 0)]) [2, 1, 0] rfl h
set_option maxRecDepth 100000 in
set_option maxHeartbeats 4000000 in
theorem b_X7_downSets_4 {z : amZ} {post : amP} {G : amG} {I : amI} {L : amL} (hz : Go z cX7_downSets RX7 4 (some .long) 42 0 0 post) (hG : Lay G) {v1 : Int64} {v3 : Int32} (h : (((I 3 0) < v3) → post (some (.long v1)) G I L) ∧ ((¬ (I 3 0) < v3) → ∃ (dq2 : Nat) (postq2 : amP), Nat.ble (dq2 + 1) 42 = true ∧ Mx (zL z) (zD z) (zB z) yX7_downSetsOf cX7_downSetsOf 2 (some .long) dq2 0 0 [.ref ((zB z).size + 56), .int v3] G I L postq2 ∧ ∀ (roq2 : Option Value) (Gq2 : amG) (Iq2 : amI) (Lq2 : amL), postq2 roq2 Gq2 Iq2 Lq2 → ∃ (rq2 : Int64), roq2 = some (.long rq2) ∧ Lay Gq2 ∧ Wx z 0 0 4 [(0, .ref ((zB z).size + 56)), (1, .long (v1 + rq2)), (3, .int (v3 + 1))] [] Gq2 Iq2 Lq2)) : Wx z 0 0 4 [(0, .ref ((zB z).size + 56)), (1, .long v1), (3, .int v3)] [] G I L := by
  have hz1 := hz.1
  refine am_iload_n hz1 dX7_downSets_4 2 rfl rfl ?_
  refine am_aload_n hz1 dX7_downSets_5 0 rfl rfl ?_
  refine am_getR hz1 fl_X7_25 (ln_56 hG) (lk_56 hG) (lr_56_0 hG) rfl dX7_downSets_6 ?_
  refine am_getI hz1 fl_X7_36 (ln_3 hG) (lk_3 hG) rfl dX7_downSets_9 ?_
  refine am_icmp_gt (tgt := 29) hz1 dX7_downSets_12 (by decide) (fun c1 => ?_) (fun c1 => ?_)
  · replace h := h.1 c1
    refine am_lload_n hz1 dX7_downSets_29 1 rfl rfl ?_
    exact am_lreturn hz dX7_downSets_30 h
  · replace h := h.2 c1
    refine am_lload_n hz1 dX7_downSets_15 1 rfl rfl ?_
    refine am_aload_n hz1 dX7_downSets_16 0 rfl rfl ?_
    refine am_iload_n hz1 dX7_downSets_17 2 rfl rfl ?_
    obtain ⟨dq2, postq2, hdq2, hMq2, h⟩ := h
    refine am_callV hz1 cv_X7_42 [.int v3] [.long v1] hMq2 (ln_56 hG) (lk_56 hG) rfl rfl (hz.fr hdq2) (hz.lo hdq2) (by rw [hz.2.1]; exact ⟨Nat.le_refl _, Nat.le_refl _⟩) (Nat.le_of_ble_eq_true rfl) dX7_downSets_18 (fun roq2 Gq2 Iq2 Lq2 hpq2 => ?_)
    obtain ⟨rq2, rfl, hGq2, h⟩ := h roq2 Gq2 Iq2 Lq2 hpq2
    refine am_ladd hz1 dX7_downSets_21 ?_
    refine am_lstore_n (lv' := [(1, .long (v1 + rq2)), (0, .ref ((zB z).size + 56)), (3, .int v3)]) hz1 dX7_downSets_22 rfl rfl rfl ?_
    refine am_iinc (v := v3 + 1) (lv' := [(3, .int (v3 + 1)), (1, .long (v1 + rq2)), (0, .ref ((zB z).size + 56))]) hz1 dX7_downSets_23 2 rfl rfl rfl rfl ?_
    refine am_goto (tgt := 4) hz1 dX7_downSets_26 (by decide) ?_
    exact am_sub (lv' := [(0, .ref ((zB z).size + 56)), (1, .long (v1 + rq2)), (3, .int (v3 + 1))]) [2, 1, 0] rfl h
set_option maxRecDepth 100000 in
set_option maxHeartbeats 4000000 in
theorem c_X7_downSets {l : Launch} {D : va_G} {B : Heap} {G : amG} {I : amI} {L : amL}  (hG : Lay G)   {n : Nat} {A : Nat → Int32} (hO : OI I 3 n A) (hK : I 56 5 = 0 ∨ DK L n A) : Mx l D B yX7_downSets cX7_downSets 4 (some .long) 42 0 0 [.ref (B.size + 56)] G I L (fun r G1 I1 L1 => r = some (.long (sumN (fun k => lN (dC n A (fun _ => true) k)) (n + 1))) ∧ G1 = G ∧ (I1 = I ∨ I1 = setI I 56 (upd (I 56) 5 1)) ∧ ¬ I1 56 5 = 0 ∧ frS L L1 ∧ DK L1 n A) := by
  refine Mx.of (by decide) rfl rfl (fun z e1 e2 e3 hz => ?_)
  subst e1; subst e2; subst e3
  refine b_X7_downSets_0 hz hG ?_
  have h16 := hO.2.2.1
  have h1 := hO.2.1
  have main : ∀ (X : amI) (Y : amL), (X = I ∨ X = setI I 56 (upd (I 56) 5 1)) → frS L Y → (X 56 5 = 0 ∨ DK Y n A) → (0 < 0 → ¬ X 56 5 = 0 ∧ DK Y n A) → Wx z 0 0 4 [(0, .ref ((zB z).size + 56)), (1, .long (sumN (fun k => lN (dC n A (fun _ => true) k)) 0)), (3, .int (nI 0))] [] G X Y := by
    refine for_up (P := fun k => ∀ (X : amI) (Y : amL), (X = I ∨ X = setI I 56 (upd (I 56) 5 1)) → frS L Y → (X 56 5 = 0 ∨ DK Y n A) → (0 < k → ¬ X 56 5 = 0 ∧ DK Y n A) → Wx z 0 0 4 [(0, .ref ((zB z).size + 56)), (1, .long (sumN (fun k => lN (dC n A (fun _ => true) k)) k)), (3, .int (nI k))] [] G X Y) (n := n + 1) ?_ ?_ (Nat.zero_le _)
    · intro X Y x1 x2 x3 x4
      have xn : X 3 0 = nI n := by rcases x1 with rfl | rfl; exact hO.1; rw [setI_n (by decide)]; exact hO.1
      obtain ⟨y1, y2⟩ := x4 (by omega)
      exact b_X7_downSets_4 hz hG ⟨fun _ => ⟨rfl, rfl, x1, y1, x2, y2⟩, fun w => absurd (by rw [xn]; exact nI_lt (Nat.lt_succ_self _) (by omega)) w⟩
    · intro k hk ih X Y x1 x2 x3 x4
      have xn : X 3 0 = nI n := by rcases x1 with rfl | rfl; exact hO.1; rw [setI_n (by decide)]; exact hO.1
      have hOX : OI X 3 n A := by
        rcases x1 with rfl | rfl
        · exact hO
        · exact OI_c hO (fun j hj => setI_n (by omega))
      refine b_X7_downSets_4 hz hG ⟨fun w => absurd ((nI_ltI (a := n) (b := k) (by omega) (by omega)).mp (by rw [xn] at w; exact w)) (by omega), fun _ => ⟨41, _, rfl, c_X7_downSetsOf hG _ hOX rfl (by omega) x3, fun ro G2 I2 L2 ⟨e1, e2, e3, e4, e5, e6⟩ => ⟨_, e1, by rw [e2]; exact hG, ?_⟩⟩⟩
      rw [e2, nI_1]
      refine ih I2 L2 ?_ (fun q a b => by rw [e5 q a b, x2 q a b]) (Or.inr e6) (fun _ => ⟨e4, e6⟩)
      rcases e3 with e3 | e3
      · rw [e3]; exact x1
      · rcases x1 with rfl | rfl
        · exact Or.inr e3
        · right; rw [e3, setI_ss, setI_s, upd_upd]
  exact main I L (Or.inl rfl) (fun _ _ _ => rfl) hK (fun w => absurd w (Nat.lt_irrefl _))
