/-! LIKENESS: alike sets, types -/
/-- only the rows of Likeness change -/
def frL (I I1 : amI) : Prop := ∀ q, (q < 46 ∨ 55 < q) → I1 q = I q
theorem frL_t {I I1 I2 : amI} (h : frL I I1) (h2 : frL I1 I2) : frL I I2 := fun q hq => by rw [h2 q hq, h q hq]
theorem frL_r {I : amI} : frL I I := fun _ _ => rfl
theorem frL_I {I : amI} {p : Nat} {f : Nat → Int32} (h1 : 46 ≤ p) (h2 : p ≤ 55) : frL I (setI I p f) := fun q hq => setI_n (by omega)
theorem OI_L {I I1 : amI} {n : Nat} {A : Nat → Int32} (h : OI I 3 n A) (hf : frL I I1) : OI I1 3 n A := OI_c h (fun j hj => hf (3 + j) (by omega))
/-- what working on marks and pairs changes -/
def frW (I I1 : amI) : Prop := (∀ q, q ≠ 46 → q ≠ 51 → q ≠ 53 → q ≠ 54 → q ≠ 55 → I1 q = I q) ∧ ∀ k, k ≠ 10 → I1 46 k = I 46 k
theorem frW_r {I : amI} : frW I I := ⟨fun _ _ _ _ _ _ => rfl, fun _ _ => rfl⟩
theorem frW_t {I I1 I2 : amI} (h : frW I I1) (h2 : frW I1 I2) : frW I I2 := ⟨fun q a b c d e => by rw [h2.1 q a b c d e, h.1 q a b c d e], fun k a => by rw [h2.2 k a, h.2 k a]⟩
theorem frW.L {I I1 : amI} (h : frW I I1) : frL I I1 := fun q hq => h.1 q (by omega) (by omega) (by omega) (by omega) (by omega)
set_option maxRecDepth 100000 in
set_option maxHeartbeats 4000000 in
theorem b_X2_isAlike_0 {z : amZ} {post : amP} {G : amG} {I : amI} {L : amL} (hz : Go z cX2_isAlike RX2 4 (some .boolean) 41 0 0 post) (hG : Lay G) {v1 : Int32} {v2 : Int32} (h : (((q_bc v1) = (q_bc v2)) → ∃ (dq2 : Nat) (postq2 : amP), Nat.ble (dq2 + 1) 41 = true ∧ Mx (zL z) (zD z) (zB z) yX2_markAll cX2_markAll 7 (some .int) dq2 0 0 [.ref ((zB z).size + 46), .int v2, .ref ((zB z).size + 53)] G I L postq2 ∧ ∀ (roq2 : Option Value) (Gq2 : amG) (Iq2 : amI) (Lq2 : amL), postq2 roq2 Gq2 Iq2 Lq2 → ∃ (rq2 : Int32), roq2 = some (.int rq2) ∧ Lay Gq2 ∧ Wx z 0 0 30 [(0, .ref ((zB z).size + 46)), (1, .int v1), (2, .int v2), (3, .int 0)] [] Gq2 (setI Iq2 46 (upd (Iq2 46) 10 (0 : Int32))) Lq2) ∧ ((¬ (q_bc v1) = (q_bc v2)) → post (some (.int 0)) G I L)) : Wx z 0 0 0 [(0, .ref ((zB z).size + 46)), (1, .int v1), (2, .int v2)] [] G I L := by
  have hz1 := hz.1
  refine am_iload_n hz1 dX2_isAlike_0 1 rfl rfl ?_
  refine am_cSf hz ct_X2_81 [.int v1] [] (c_J6_bitCount_0f7a4 hG v1 ) rfl rfl rfl ⟨Nat.le_refl _, Nat.le_refl _⟩ (Nat.le_of_ble_eq_true rfl) dX2_isAlike_1 ?_
  refine am_iload_n hz1 dX2_isAlike_4 2 rfl rfl ?_
  refine am_cSf hz ct_X2_81 [.int v2] [.int (q_bc v1)] (c_J6_bitCount_0f7a4 hG v2 ) rfl rfl rfl ⟨Nat.le_refl _, Nat.le_refl _⟩ (Nat.le_of_ble_eq_true rfl) dX2_isAlike_5 ?_
  refine am_icmp_eq (tgt := 13) hz1 dX2_isAlike_8 (by decide) (fun c1 => ?_) (fun c1 => ?_)
  · replace h := h.1 c1
    refine am_aload_n hz1 dX2_isAlike_13 0 rfl rfl ?_
    refine am_iload_n hz1 dX2_isAlike_14 2 rfl rfl ?_
    refine am_aload_n hz1 dX2_isAlike_15 0 rfl rfl ?_
    refine am_getR hz1 fl_X2_30 (ln_46 hG) (lk_46 hG) (lr_46_7 hG) rfl dX2_isAlike_16 ?_
    obtain ⟨dq2, postq2, hdq2, hMq2, h⟩ := h
    refine am_callV hz1 cv_X2_71 [.int v2, .ref ((zB z).size + 53)] [] hMq2 (ln_46 hG) (lk_46 hG) rfl rfl (hz.fr hdq2) (hz.lo hdq2) (by rw [hz.2.1]; exact ⟨Nat.le_refl _, Nat.le_refl _⟩) (Nat.le_of_ble_eq_true rfl) dX2_isAlike_19 (fun roq2 Gq2 Iq2 Lq2 hpq2 => ?_)
    obtain ⟨rq2, rfl, hGq2, h⟩ := h roq2 Gq2 Iq2 Lq2 hpq2
    refine am_pop hz1 dX2_isAlike_22 rfl ?_
    refine am_aload_n hz1 dX2_isAlike_23 0 rfl rfl ?_
    refine am_iconst (v := 0) hz1 dX2_isAlike_24 (by decide) ?_
    refine am_putI hz1 fl_X2_93 (ln_46 hGq2) (lk_46 hGq2) rfl rfl (fun _ => rfl) dX2_isAlike_25 ?_
    refine am_iconst (v := 0) hz1 dX2_isAlike_28 (by decide) ?_
    refine am_istore_n (lv' := [(3, .int 0), (0, .ref ((zB z).size + 46)), (1, .int v1), (2, .int v2)]) hz1 dX2_isAlike_29 rfl rfl rfl ?_
    exact am_sub (lv' := [(0, .ref ((zB z).size + 46)), (1, .int v1), (2, .int v2), (3, .int 0)]) [1, 2, 3, 0] rfl h
  · replace h := h.2 c1
    refine am_iconst (v := 0) hz1 dX2_isAlike_11 (by decide) ?_
    exact am_zreturn hz (by decide) dX2_isAlike_12 h
set_option maxRecDepth 100000 in
set_option maxHeartbeats 4000000 in
theorem b_X2_isAlike_30 {z : amZ} {post : amP} {G : amG} {I : amI} {L : amL} (hz : Go z cX2_isAlike RX2 4 (some .boolean) 41 0 0 post) (hG : Lay G) {v1 : Int32} {v2 : Int32} {v3 : Int32} (h : (((I 3 0) ≤ v3) → ∃ (dq2 : Nat) (postq2 : amP), Nat.ble (dq2 + 1) 41 = true ∧ Mx (zL z) (zD z) (zB z) yX2_pairOff cX2_pairOff 9 (some .boolean) dq2 0 0 [.ref ((zB z).size + 46), .int 0, .int v1, .int v2, .int v2] G I L postq2 ∧ ∀ (roq2 : Option Value) (Gq2 : amG) (Iq2 : amI) (Lq2 : amL), postq2 roq2 Gq2 Iq2 Lq2 → ∃ (rq2 : Int32), roq2 = some (.int rq2) ∧ Lay Gq2 ∧ ((rq2) = 0 ∨ (rq2) = 1) ∧ post (some (.int rq2)) Gq2 Iq2 Lq2) ∧ ((¬ (I 3 0) ≤ v3) → vp_in v3 16 ∧ ((¬ ((v1 >>> ((I 9 v3.toNatClampNeg) &&& 31)) &&& (1 : Int32)) = (1 : Int32)) → Wx z 0 0 30 [(0, .ref ((zB z).size + 46)), (1, .int v1), (2, .int v2), (3, .int (v3 + 1))] [] G I L) ∧ ((((v1 >>> ((I 9 v3.toNatClampNeg) &&& 31)) &&& (1 : Int32)) = (1 : Int32)) → (((16 : Int32) ≤ (I 46 10)) → Wx z 0 0 30 [(0, .ref ((zB z).size + 46)), (1, .int v1), (2, .int v2), (3, .int (v3 + 1))] [] G I L) ∧ ((¬ (16 : Int32) ≤ (I 46 10)) → vp_in v3 16 ∧ vp_in (I 46 10) 16 ∧ Wx z 0 0 30 [(0, .ref ((zB z).size + 46)), (1, .int v1), (2, .int v2), (3, .int (v3 + 1))] [] G (setI (setI I 54 (upd (I 54) (I 46 10).toNatClampNeg (I 9 v3.toNatClampNeg))) 46 (upd ((setI I 54 (upd (I 54) (I 46 10).toNatClampNeg (I 9 v3.toNatClampNeg))) 46) 10 (((setI I 54 (upd (I 54) (I 46 10).toNatClampNeg (I 9 v3.toNatClampNeg))) 46 10) + (1 : Int32)))) L)))) : Wx z 0 0 30 [(0, .ref ((zB z).size + 46)), (1, .int v1), (2, .int v2), (3, .int v3)] [] G I L := by
  have hz1 := hz.1
  refine am_iload_n hz1 dX2_isAlike_30 3 rfl rfl ?_
  refine am_aload_n hz1 dX2_isAlike_31 0 rfl rfl ?_
  refine am_getR hz1 fl_X2_39 (ln_46 hG) (lk_46 hG) (lr_46_2 hG) rfl dX2_isAlike_32 ?_
  refine am_getI hz1 fl_X2_60 (ln_3 hG) (lk_3 hG) rfl dX2_isAlike_35 ?_
  refine am_icmp_ge (tgt := 101) hz1 dX2_isAlike_38 (by decide) (fun c1 => ?_) (fun c1 => ?_)
  · replace h := h.1 c1
    refine am_aload_n hz1 dX2_isAlike_101 0 rfl rfl ?_
    refine am_iconst (v := 0) hz1 dX2_isAlike_102 (by decide) ?_
    refine am_iload_n hz1 dX2_isAlike_103 1 rfl rfl ?_
    refine am_iload_n hz1 dX2_isAlike_104 2 rfl rfl ?_
    refine am_iload_n hz1 dX2_isAlike_105 2 rfl rfl ?_
    obtain ⟨dq2, postq2, hdq2, hMq2, h⟩ := h
    refine am_callV hz1 cv_X2_99 [.int 0, .int v1, .int v2, .int v2] [] hMq2 (ln_46 hG) (lk_46 hG) rfl rfl (hz.fr hdq2) (hz.lo hdq2) (by rw [hz.2.1]; exact ⟨Nat.le_refl _, Nat.le_refl _⟩) (Nat.le_of_ble_eq_true rfl) dX2_isAlike_106 (fun roq2 Gq2 Iq2 Lq2 hpq2 => ?_)
    obtain ⟨rq2, rfl, hGq2, h⟩ := h roq2 Gq2 Iq2 Lq2 hpq2
    obtain ⟨g3, h⟩ := h
    exact am_zreturn hz g3 dX2_isAlike_109 h
  · replace h := h.2 c1
    refine am_iload_n hz1 dX2_isAlike_41 1 rfl rfl ?_
    refine am_aload_n hz1 dX2_isAlike_42 0 rfl rfl ?_
    refine am_getR hz1 fl_X2_39 (ln_46 hG) (lk_46 hG) (lr_46_2 hG) rfl dX2_isAlike_43 ?_
    refine am_getR hz1 fl_X2_96 (ln_3 hG) (lk_3 hG) (lr_3_6 hG) rfl dX2_isAlike_46 ?_
    refine am_iload_n hz1 dX2_isAlike_49 3 rfl rfl ?_
    obtain ⟨g4, h⟩ := h
    refine am_iald hz1 (ln_9 hG) (lk_9 hG) (by rw [(ll_9 hG)]; exact g4) dX2_isAlike_50 ?_
    refine am_ishr hz1 dX2_isAlike_51 ?_
    refine am_iconst (v := 1) hz1 dX2_isAlike_52 (by decide) ?_
    refine am_iand hz1 dX2_isAlike_53 ?_
    refine am_iconst (v := 1) hz1 dX2_isAlike_54 (by decide) ?_
    refine am_icmp_ne (tgt := 95) hz1 dX2_isAlike_55 (by decide) (fun c5 => ?_) (fun c5 => ?_)
    · replace h := h.1 c5
      refine am_iinc (v := v3 + 1) (lv' := [(3, .int (v3 + 1)), (0, .ref ((zB z).size + 46)), (1, .int v1), (2, .int v2)]) hz1 dX2_isAlike_95 3 rfl rfl rfl rfl ?_
      refine am_goto (tgt := 30) hz1 dX2_isAlike_98 (by decide) ?_
      exact am_sub (lv' := [(0, .ref ((zB z).size + 46)), (1, .int v1), (2, .int v2), (3, .int (v3 + 1))]) [1, 2, 3, 0] rfl h
    · replace h := h.2 c5
      refine am_aload_n hz1 dX2_isAlike_58 0 rfl rfl ?_
      refine am_getI hz1 fl_X2_93 (ln_46 hG) (lk_46 hG) rfl dX2_isAlike_59 ?_
      refine am_bipush (v := 16) hz1 dX2_isAlike_62 (by decide) ?_
      refine am_icmp_ge (tgt := 95) hz1 dX2_isAlike_64 (by decide) (fun c6 => ?_) (fun c6 => ?_)
      · replace h := h.1 c6
        refine am_iinc (v := v3 + 1) (lv' := [(3, .int (v3 + 1)), (0, .ref ((zB z).size + 46)), (1, .int v1), (2, .int v2)]) hz1 dX2_isAlike_95 3 rfl rfl rfl rfl ?_
        refine am_goto (tgt := 30) hz1 dX2_isAlike_98 (by decide) ?_
        exact am_sub (lv' := [(0, .ref ((zB z).size + 46)), (1, .int v1), (2, .int v2), (3, .int (v3 + 1))]) [1, 2, 3, 0] rfl h
      · replace h := h.2 c6
        refine am_aload_n hz1 dX2_isAlike_67 0 rfl rfl ?_
        refine am_getR hz1 fl_X2_33 (ln_46 hG) (lk_46 hG) (lr_46_8 hG) rfl dX2_isAlike_68 ?_
        refine am_aload_n hz1 dX2_isAlike_71 0 rfl rfl ?_
        refine am_getI hz1 fl_X2_93 (ln_46 hG) (lk_46 hG) rfl dX2_isAlike_72 ?_
        refine am_aload_n hz1 dX2_isAlike_75 0 rfl rfl ?_
        refine am_getR hz1 fl_X2_39 (ln_46 hG) (lk_46 hG) (lr_46_2 hG) rfl dX2_isAlike_76 ?_
        refine am_getR hz1 fl_X2_96 (ln_3 hG) (lk_3 hG) (lr_3_6 hG) rfl dX2_isAlike_79 ?_
        refine am_iload_n hz1 dX2_isAlike_82 3 rfl rfl ?_
        obtain ⟨g7, h⟩ := h
        refine am_iald hz1 (ln_9 hG) (lk_9 hG) (by rw [(ll_9 hG)]; exact g7) dX2_isAlike_83 ?_
        obtain ⟨g8, h⟩ := h
        refine am_iast hz1 (ln_54 hG) (lk_54 hG) (by rw [(ll_54 hG)]; exact g8) dX2_isAlike_84 ?_
        refine am_aload_n hz1 dX2_isAlike_85 0 rfl rfl ?_
        refine am_dup hz1 dX2_isAlike_86 rfl ?_
        refine am_getI hz1 fl_X2_93 (ln_46 hG) (lk_46 hG) rfl dX2_isAlike_87 ?_
        refine am_iconst (v := 1) hz1 dX2_isAlike_90 (by decide) ?_
        refine am_iadd hz1 dX2_isAlike_91 ?_
        refine am_putI hz1 fl_X2_93 (ln_46 hG) (lk_46 hG) rfl rfl (fun _ => rfl) dX2_isAlike_92 ?_
        refine am_iinc (v := v3 + 1) (lv' := [(3, .int (v3 + 1)), (0, .ref ((zB z).size + 46)), (1, .int v1), (2, .int v2)]) hz1 dX2_isAlike_95 3 rfl rfl rfl rfl ?_
        refine am_goto (tgt := 30) hz1 dX2_isAlike_98 (by decide) ?_
        exact am_sub (lv' := [(0, .ref ((zB z).size + 46)), (1, .int v1), (2, .int v2), (3, .int (v3 + 1))]) [1, 2, 3, 0] rfl h
set_option maxRecDepth 100000 in
set_option maxHeartbeats 4000000 in
theorem c_X2_isAlike {l : Launch} {D : va_G} {B : Heap} {G : amG} {I : amI} {L : amL}  (hG : Lay G)  (v1 : Int32) (v2 : Int32) {n : Nat} {A : Nat → Int32} (hO : OI I 3 n A) (hs : ∀ i, i < 32 → bt v1 i = true → i < n) (ht : ∀ i, i < 32 → bt v2 i = true → i < n) (hm : ∀ x, x < n → bt v1 x = true → I 52 x = ouM n A v1 x) : Mx l D B yX2_isAlike cX2_isAlike 4 (some .boolean) 41 0 0 [.ref (B.size + 46), .int v1, .int v2] G I L (fun r G1 I1 L1 => r = some (.int (bI (alB n A v1 v2))) ∧ G1 = G ∧ L1 = L ∧ frW I I1) := by
  refine Mx.of (by decide) rfl rfl (fun z e1 e2 e3 hz => ?_)
  subst e1; subst e2; subst e3
  refine b_X2_isAlike_0 hz hG ?_
  have h1 := hO.2.1
  have h16 := hO.2.2.1
  have hP := hO.2.2.2.2.2.1
  rw [bc_ct h16 hs, bc_ct h16 ht, nI_eq (by have := ct_le (bt v1) n; omega) (by have := ct_le (bt v2) n; omega)]
  refine ⟨fun q => ?_, fun q => ?_⟩
  · refine ⟨1, _, rfl, c_X2_markAll hG (ln_53 hG) (lk_53 hG) (ll_53 hG) v2 hO (Or.inr rfl), fun ro G2 I2 L2 ⟨e1, e2, e3, e4, e5⟩ => ⟨_, e1, by rw [e2]; exact hG, ?_⟩⟩
    rw [e2, e3]
    have hO2 : OI I2 3 n A := OI_c hO (fun j hj => e4 (3 + j) (by omega) (by omega))
    have i9 : ∀ y, y < n → I2 9 (pos n A y) = nI y := hO2.2.2.2.2.2.2.2.2.2.1
    have hrow := row_of h16 i9
    generalize hr : (fun i => (I2 9 i).toNatClampNeg) = r
    have hri : ∀ i, i < n → r i < n ∧ I2 9 i = nI (r i) ∧ pos n A (r i) = i := fun i hi => by
      obtain ⟨x, hx, e, e'⟩ := hrow i hi
      have : r i = x := by rw [← hr]; show (I2 9 i).toNatClampNeg = x; rw [e]; exact cl_nI (by omega)
      rw [this]
      exact ⟨hx, e, e'⟩
    have hrp : ∀ x, x < n → r (pos n A x) = x := fun x hx => pos_inj (hri _ (pos_lt hx)).1 hx (hri _ (pos_lt hx)).2.2
    have hcs : ct (fun i => bt v1 (r i)) n = ct (bt v1) n := by
      apply Nat.le_antisymm
      · exact ct_inj (f := r) (fun i hi hp => ⟨(hri i hi).1, hp⟩) (fun i j hi hj _ _ e => by rw [← (hri i hi).2.2, ← (hri j hj).2.2, e])
      · exact ct_inj (f := pos n A) (fun x hx hp => ⟨pos_lt hx, by show bt v1 (r (pos n A x)) = true; rw [hrp x hx]; exact hp⟩) (fun i j hi hj _ _ e => pos_inj hi hj e)
    have main : ∀ X : amI, frW I2 X → X 46 10 = nI (ct (fun i => bt v1 (r i)) 0) → (∀ i, i < 0 → bt v1 (r i) = true → X 54 (ct (fun i => bt v1 (r i)) i) = nI (r i)) → X 53 = I2 53 → Wx z 0 0 30 [(0, .ref ((zB z).size + 46)), (1, .int v1), (2, .int v2), (3, .int (nI 0))] [] G X L := by
      refine for_up (P := fun k => ∀ X : amI, frW I2 X → X 46 10 = nI (ct (fun i => bt v1 (r i)) k) → (∀ i, i < k → bt v1 (r i) = true → X 54 (ct (fun i => bt v1 (r i)) i) = nI (r i)) → X 53 = I2 53 → Wx z 0 0 30 [(0, .ref ((zB z).size + 46)), (1, .int v1), (2, .int v2), (3, .int (nI k))] [] G X L) (n := n) ?_ ?_ (Nat.zero_le _)
      · intro X x1 x2 x3 x4
        have xn : X 3 0 = nI n := by rw [x1.1 3 (by decide) (by decide) (by decide) (by decide) (by decide)]; exact hO2.1
        refine b_X2_isAlike_30 hz hG ⟨fun _ => ?_, fun h => absurd (sz_le xn h16) h⟩
        have hln : ∀ j, j < ct (fun i => bt v1 (r i)) n → ∃ i, i < n ∧ bt v1 (r i) = true ∧ ct (fun i => bt v1 (r i)) i = j ∧ X 54 j = nI (r i) := fun j hj => by
          obtain ⟨i, hi, hb, e⟩ := ct_sur hj
          exact ⟨i, hi, hb, e, by rw [← e]; exact x3 i hi hb⟩
        have hc16 : ct (fun i => bt v1 (r i)) n ≤ 16 := Nat.le_trans (ct_le _ _) h16
        refine ⟨40, _, rfl, c_X2_pairOff (n := n) (c := ct (fun i => bt v1 (r i)) n) (A := A) (mn := fun j => (X 54 j).toNatClampNeg) (ix := fun x => ct (fun i => bt v1 (r i)) (pos n A x)) (M1 := ouM n A v1) (M2 := ouM n A v2) hG h1 h16 hP hs ht (fun j hj => ?_) (fun x hx hb => ?_) (fun x y hx hy hbx hby hlt => ?_) (by rw [hcs, q]) (fun f g hi x hx hb => (iso_ou h16 hs ht hi hx hb).symm) (ct (fun i => bt v1 (r i)) n) 0 40 X (fun _ => 0) v2 (by omega) (by omega) xn (fun x hx => ?_) x2 (fun i hi => ?_) (fun x hx hb => ?_) (fun y hy hb => ?_) (fun i hi => absurd hi (Nat.not_lt_zero _)) (fun i j hi => absurd hi (Nat.not_lt_zero _)) (fun i j hi => absurd hi (Nat.not_lt_zero _)) (fun i w hi => absurd hi (Nat.not_lt_zero _)) (fun w hw => ⟨fun h => ⟨h, fun i hi => absurd hi (Nat.not_lt_zero _)⟩, fun h => h.1⟩) (by rw [hcs, q]; rfl), fun ro3 G3 I3 L3 ⟨d1, d2, d3, _, b, d5, d6⟩ => ⟨_, d5, by rw [d1]; exact hG, bI_01 _, ?_⟩⟩
        · obtain ⟨i, hi, hb, e, e2⟩ := hln j hj
          have hmn : (X 54 j).toNatClampNeg = r i := by rw [e2]; exact cl_nI (by have := (hri i hi).1; omega)
          show (X 54 j).toNatClampNeg < n ∧ bt v1 (X 54 j).toNatClampNeg = true ∧ ct (fun i => bt v1 (r i)) (pos n A (X 54 j).toNatClampNeg) = j
          rw [hmn, (hri i hi).2.2]
          exact ⟨(hri i hi).1, hb, e⟩
        · have hp := pos_lt (A := A) hx
          have hbr : bt v1 (r (pos n A x)) = true := by rw [hrp x hx]; exact hb
          refine ⟨?_, ?_⟩
          · show ct (fun i => bt v1 (r i)) (pos n A x) < ct (fun i => bt v1 (r i)) n
            exact ct_lt (f := fun i => bt v1 (r i)) hp hbr
          · show (X 54 (ct (fun i => bt v1 (r i)) (pos n A x))).toNatClampNeg = x
            rw [x3 _ hp hbr, hrp x hx]
            exact cl_nI (by omega)
        · have hpp := pos_up (A := A) hx (key_up hP hx hy hlt)
          have hbr : bt v1 (r (pos n A x)) = true := by rw [hrp x hx]; exact hbx
          exact ct_lt (f := fun i => bt v1 (r i)) hpp hbr
        · rw [x1.1 5 (by decide) (by decide) (by decide) (by decide) (by decide)]; exact hO2.2.2.2.2.2.2.1 x hx
        · obtain ⟨i', hi', hb, e, e2⟩ := hln i hi
          show X 54 i = nI (X 54 i).toNatClampNeg
          rw [e2, cl_nI (by have := (hri i' hi').1; omega)]
        · rw [x1.1 52 (by decide) (by decide) (by decide) (by decide) (by decide), e4 52 (by decide) (by decide)]; exact hm x hx hb
        · rw [x4]; exact e5 y hy hb
        · rw [d1, d2]
          have hb : b = alB n A v1 v2 := by
            rw [Bool.eq_iff_iff, d6, alB_t]
            exact ⟨fun ⟨f, g, h, _⟩ => ⟨f, g, h⟩, fun ⟨f, g, h⟩ => ⟨f, g, h, fun i hi => absurd hi (Nat.not_lt_zero _)⟩⟩
          rw [hb]
          refine ⟨rfl, rfl, rfl, ?_⟩
          have f1 : frW I I2 := ⟨fun q _ a b _ _ => e4 q a b, fun k _ => by rw [e4 46 (by decide) (by decide)]⟩
          have f2 : frW X I3 := ⟨fun q _ _ _ _ a => d3 q a, fun k _ => by rw [d3 46 (by decide)]⟩
          exact frW_t f1 (frW_t x1 f2)
      · intro k hk ih X x1 x2 x3 x4
        have xn : X 3 0 = nI n := by rw [x1.1 3 (by decide) (by decide) (by decide) (by decide) (by decide)]; exact hO2.1
        obtain ⟨r1, r2, r3⟩ := hri k hk
        have hck := ct_le (fun i => bt v1 (r i)) k
        have x9 : X 9 k = nI (r k) := by rw [x1.1 9 (by decide) (by decide) (by decide) (by decide) (by decide)]; exact r2
        refine b_X2_isAlike_30 hz hG ⟨fun h => absurd h (sz_ge xn h16 hk), fun _ => ⟨in16 h16 hk, ?_⟩⟩
        rw [cl_nI (n := k) (by omega), x9, b_bit _ _ (show r k < 32 by omega), x2, cl_nI (n := ct (fun i => bt v1 (r i)) k) (by omega), nI_1 k]
        refine ⟨fun w => ?_, fun w => ⟨fun g => absurd ((nI_leI (a := 16) (by decide) (by omega)).mp g) (by omega), fun _ => ⟨in16 h16 hk, in_nI (by omega) (by decide), ?_⟩⟩⟩
        · have hs1 : ct (fun i => bt v1 (r i)) (k + 1) = ct (fun i => bt v1 (r i)) k := by rw [ct, if_neg w, Nat.add_zero]
          refine ih X x1 (by rw [hs1]; exact x2) (fun i hi hb => ?_) x4
          by_cases e : i = k
          · rw [e] at hb; exact absurd hb w
          · exact x3 i (by omega) hb
        · have hs1 : ct (fun i => bt v1 (r i)) (k + 1) = ct (fun i => bt v1 (r i)) k + 1 := by rw [ct, if_pos w]
          have y10 : setI X 54 (upd (X 54) (ct (fun i => bt v1 (r i)) k) (nI (r k))) 46 10 + 1 = nI (ct (fun i => bt v1 (r i)) (k + 1)) := by rw [setI_n (by decide), x2, nI_1, hs1]
          rw [y10]
          refine ih _ (frW_t x1 ⟨fun q a _ _ b _ => by rw [setI_n a, setI_n b], fun j hj => by rw [setI_s, upd_n hj, setI_n (by decide)]⟩) (by rw [setI_s, upd_s]) (fun i hi hb => ?_) (by rw [setI_n (by decide), setI_n (by decide)]; exact x4)
          rw [setI_n (by decide), setI_s]
          by_cases e : i = k
          · rw [e, upd_s]
          · have hlt : ct (fun i => bt v1 (r i)) i < ct (fun i => bt v1 (r i)) k := ct_lt (f := fun i => bt v1 (r i)) (by omega) hb
            rw [upd_n (by omega)]
            exact x3 i (by omega) hb
    exact main _ ⟨fun q a _ _ _ _ => setI_n a, fun k hk => by rw [setI_s, upd_n hk]⟩ (by rw [setI_s, upd_s]; rfl) (fun i hi => absurd hi (Nat.not_lt_zero _)) (by rw [setI_n (by decide)])
  · have hno : alB n A v1 v2 = false := by
      rw [Bool.eq_false_iff]
      intro h
      obtain ⟨f, g, hi⟩ := alB_t.mp h
      exact q (iso_size hi)
    rw [hno]
    exact ⟨rfl, rfl, rfl, frW_r⟩
/-- what the rows of Likeness hold, as far as they are learnt -/
def LkM (I : amI) (n : Nat) (A : Nat → Int32) (σ : TyS) (a b : Nat) : Prop := I 46 11 = nI σ.tm ∧ (∀ x y, x < n → y < n → le A x y = true → (x < a ∨ x = a ∧ y < b) → I 50 (16 * x + y) = nI (σ.ty (16 * x + y))) ∧ ∀ t, t < σ.tm → I 47 t = nI (σ.fs t / 16) ∧ I 48 t = nI (σ.fs t % 16) ∧ I 49 t = mkM n A (ivS n A (σ.fs t / 16) (σ.fs t % 16))
def LK (I : amI) (n : Nat) (A : Nat → Int32) : Prop := I 46 12 = 1 ∧ LkM I n A (tyO n A) n 0
theorem iv_in {n : Nat} {A : Nat → Int32} (h16 : n ≤ 16) {a b : Nat} (hb : b < n) : ∀ i, i < 32 → bt (ivS n A a b) i = true → i < n := fun i hi h => by
  rw [iv_b (by omega) hb hi, Bool.and_eq_true, decide_eq_true_eq] at h
  exact h.1
/-- what finding a type changes -/
def frF (I I1 : amI) : Prop := frL I I1 ∧ I1 50 = I 50 ∧ I1 46 12 = I 46 12
set_option maxRecDepth 100000 in
set_option maxHeartbeats 4000000 in
theorem b_X2_findOrAdd_0 {z : amZ} {post : amP} {G : amG} {I : amI} {L : amL} (hz : Go z cX2_findOrAdd RX2 6 (some .int) 42 0 0 post) (hG : Lay G) {v1 : Int32} {v2 : Int32} (h : (szOk I 3) ∧ ∃ (dq2 : Nat) (postq2 : amP), Nat.ble (dq2 + 1) 42 = true ∧ Mx (zL z) (zD z) (zB z) yX2_markAll cX2_markAll 7 (some .int) dq2 0 0 [.ref ((zB z).size + 46), .int (q_between I 3 v1 v2), .ref ((zB z).size + 52)] G I L postq2 ∧ ∀ (roq2 : Option Value) (Gq2 : amG) (Iq2 : amI) (Lq2 : amL), postq2 roq2 Gq2 Iq2 Lq2 → ∃ (rq2 : Int32), roq2 = some (.int rq2) ∧ Lay Gq2 ∧ Wx z 0 0 24 [(0, .ref ((zB z).size + 46)), (1, .int v1), (2, .int v2), (3, .int (q_between I 3 v1 v2)), (4, .int rq2), (5, .int 0)] [] Gq2 Iq2 Lq2) : Wx z 0 0 0 [(0, .ref ((zB z).size + 46)), (1, .int v1), (2, .int v2)] [] G I L := by
  have hz1 := hz.1
  refine am_aload_n hz1 dX2_findOrAdd_0 0 rfl rfl ?_
  refine am_getR hz1 fl_X2_39 (ln_46 hG) (lk_46 hG) (lr_46_2 hG) rfl dX2_findOrAdd_1 ?_
  refine am_iload_n hz1 dX2_findOrAdd_4 1 rfl rfl ?_
  refine am_iload_n hz1 dX2_findOrAdd_5 2 rfl rfl ?_
  obtain ⟨g1, h⟩ := h
  refine am_cVf hz cv_X2_54 [.int v1, .int v2] [] (c_X4_between hG isO_3 v1 v2 g1) (ln_3 hG) (lk_3 hG) rfl rfl rfl ⟨Nat.le_refl _, Nat.le_refl _⟩ (Nat.le_of_ble_eq_true rfl) dX2_findOrAdd_6 ?_
  refine am_istore_n (lv' := [(3, .int (q_between I 3 v1 v2)), (0, .ref ((zB z).size + 46)), (1, .int v1), (2, .int v2)]) hz1 dX2_findOrAdd_9 rfl rfl rfl ?_
  refine am_aload_n hz1 dX2_findOrAdd_10 1 rfl rfl ?_
  refine am_iload_n hz1 dX2_findOrAdd_11 0 rfl rfl ?_
  refine am_aload_n hz1 dX2_findOrAdd_12 1 rfl rfl ?_
  refine am_getR hz1 fl_X2_27 (ln_46 hG) (lk_46 hG) (lr_46_6 hG) rfl dX2_findOrAdd_13 ?_
  obtain ⟨dq2, postq2, hdq2, hMq2, h⟩ := h
  refine am_callV hz1 cv_X2_71 [.int (q_between I 3 v1 v2), .ref ((zB z).size + 52)] [] hMq2 (ln_46 hG) (lk_46 hG) rfl rfl (hz.fr hdq2) (hz.lo hdq2) (by rw [hz.2.1]; exact ⟨Nat.le_refl _, Nat.le_refl _⟩) (Nat.le_of_ble_eq_true rfl) dX2_findOrAdd_16 (fun roq2 Gq2 Iq2 Lq2 hpq2 => ?_)
  obtain ⟨rq2, rfl, hGq2, h⟩ := h roq2 Gq2 Iq2 Lq2 hpq2
  refine am_istore (lv' := [(4, .int rq2), (3, .int (q_between I 3 v1 v2)), (0, .ref ((zB z).size + 46)), (1, .int v1), (2, .int v2)]) hz1 dX2_findOrAdd_19 rfl rfl ?_
  refine am_iconst (v := 0) hz1 dX2_findOrAdd_21 (by decide) ?_
  refine am_istore (lv' := [(5, .int 0), (4, .int rq2), (3, .int (q_between I 3 v1 v2)), (0, .ref ((zB z).size + 46)), (1, .int v1), (2, .int v2)]) hz1 dX2_findOrAdd_22 rfl rfl ?_
  exact am_sub (lv' := [(0, .ref ((zB z).size + 46)), (1, .int v1), (2, .int v2), (3, .int (q_between I 3 v1 v2)), (4, .int rq2), (5, .int 0)]) [3, 4, 5, 2, 1, 0] rfl h
set_option maxRecDepth 100000 in
set_option maxHeartbeats 4000000 in
theorem b_X2_findOrAdd_24 {z : amZ} {post : amP} {G : amG} {I : amI} {L : amL} (hz : Go z cX2_findOrAdd RX2 6 (some .int) 42 0 0 post) (hG : Lay G) {v1 : Int32} {v2 : Int32} {v3 : Int32} {v4 : Int32} {v5 : Int32} (h : (((I 46 11) ≤ v5) → (((136 : Int32) ≤ (I 46 11)) → post (some (.int (I 46 11))) G I L) ∧ ((¬ (136 : Int32) ≤ (I 46 11)) → vp_in (I 46 11) 136 ∧ vp_in ((setI I 47 (upd (I 47) (I 46 11).toNatClampNeg v1)) 46 11) 136 ∧ vp_in ((setI (setI I 47 (upd (I 47) (I 46 11).toNatClampNeg v1)) 48 (upd ((setI I 47 (upd (I 47) (I 46 11).toNatClampNeg v1)) 48) ((setI I 47 (upd (I 47) (I 46 11).toNatClampNeg v1)) 46 11).toNatClampNeg v2)) 46 11) 136 ∧ post (some (.int (I 46 11))) G (setI (setI (setI (setI I 47 (upd (I 47) (I 46 11).toNatClampNeg v1)) 48 (upd ((setI I 47 (upd (I 47) (I 46 11).toNatClampNeg v1)) 48) ((setI I 47 (upd (I 47) (I 46 11).toNatClampNeg v1)) 46 11).toNatClampNeg v2)) 49 (upd ((setI (setI I 47 (upd (I 47) (I 46 11).toNatClampNeg v1)) 48 (upd ((setI I 47 (upd (I 47) (I 46 11).toNatClampNeg v1)) 48) ((setI I 47 (upd (I 47) (I 46 11).toNatClampNeg v1)) 46 11).toNatClampNeg v2)) 49) ((setI (setI I 47 (upd (I 47) (I 46 11).toNatClampNeg v1)) 48 (upd ((setI I 47 (upd (I 47) (I 46 11).toNatClampNeg v1)) 48) ((setI I 47 (upd (I 47) (I 46 11).toNatClampNeg v1)) 46 11).toNatClampNeg v2)) 46 11).toNatClampNeg v4)) 46 (upd ((setI (setI (setI I 47 (upd (I 47) (I 46 11).toNatClampNeg v1)) 48 (upd ((setI I 47 (upd (I 47) (I 46 11).toNatClampNeg v1)) 48) ((setI I 47 (upd (I 47) (I 46 11).toNatClampNeg v1)) 46 11).toNatClampNeg v2)) 49 (upd ((setI (setI I 47 (upd (I 47) (I 46 11).toNatClampNeg v1)) 48 (upd ((setI I 47 (upd (I 47) (I 46 11).toNatClampNeg v1)) 48) ((setI I 47 (upd (I 47) (I 46 11).toNatClampNeg v1)) 46 11).toNatClampNeg v2)) 49) ((setI (setI I 47 (upd (I 47) (I 46 11).toNatClampNeg v1)) 48 (upd ((setI I 47 (upd (I 47) (I 46 11).toNatClampNeg v1)) 48) ((setI I 47 (upd (I 47) (I 46 11).toNatClampNeg v1)) 46 11).toNatClampNeg v2)) 46 11).toNatClampNeg v4)) 46) 11 (((setI (setI (setI I 47 (upd (I 47) (I 46 11).toNatClampNeg v1)) 48 (upd ((setI I 47 (upd (I 47) (I 46 11).toNatClampNeg v1)) 48) ((setI I 47 (upd (I 47) (I 46 11).toNatClampNeg v1)) 46 11).toNatClampNeg v2)) 49 (upd ((setI (setI I 47 (upd (I 47) (I 46 11).toNatClampNeg v1)) 48 (upd ((setI I 47 (upd (I 47) (I 46 11).toNatClampNeg v1)) 48) ((setI I 47 (upd (I 47) (I 46 11).toNatClampNeg v1)) 46 11).toNatClampNeg v2)) 49) ((setI (setI I 47 (upd (I 47) (I 46 11).toNatClampNeg v1)) 48 (upd ((setI I 47 (upd (I 47) (I 46 11).toNatClampNeg v1)) 48) ((setI I 47 (upd (I 47) (I 46 11).toNatClampNeg v1)) 46 11).toNatClampNeg v2)) 46 11).toNatClampNeg v4)) 46 11) + (1 : Int32)))) L)) ∧ ((¬ (I 46 11) ≤ v5) → vp_in v5 136 ∧ ((¬ (I 49 v5.toNatClampNeg) = v4) → Wx z 0 0 24 [(0, .ref ((zB z).size + 46)), (1, .int v1), (2, .int v2), (3, .int v3), (4, .int v4), (5, .int (v5 + 1))] [] G I L) ∧ (((I 49 v5.toNatClampNeg) = v4) → vp_in v5 136 ∧ vp_in v5 136 ∧ (szOk I 3) ∧ ∃ (dq11 : Nat) (postq11 : amP), Nat.ble (dq11 + 1) 42 = true ∧ Mx (zL z) (zD z) (zB z) yX2_isAlike cX2_isAlike 4 (some .boolean) dq11 0 0 [.ref ((zB z).size + 46), .int v3, .int (q_between I 3 (I 47 v5.toNatClampNeg) (I 48 v5.toNatClampNeg))] G I L postq11 ∧ ∀ (roq11 : Option Value) (Gq11 : amG) (Iq11 : amI) (Lq11 : amL), postq11 roq11 Gq11 Iq11 Lq11 → ∃ (rq11 : Int32), roq11 = some (.int rq11) ∧ Lay Gq11 ∧ ((rq11 = 0) → Wx z 0 0 24 [(0, .ref ((zB z).size + 46)), (1, .int v1), (2, .int v2), (3, .int v3), (4, .int v4), (5, .int (v5 + 1))] [] Gq11 Iq11 Lq11) ∧ ((¬ rq11 = 0) → post (some (.int v5)) Gq11 Iq11 Lq11)))) : Wx z 0 0 24 [(0, .ref ((zB z).size + 46)), (1, .int v1), (2, .int v2), (3, .int v3), (4, .int v4), (5, .int v5)] [] G I L := by
  have hz1 := hz.1
  refine am_iload hz1 dX2_findOrAdd_24 5 rfl ?_
  refine am_aload_n hz1 dX2_findOrAdd_26 0 rfl rfl ?_
  refine am_getI hz1 fl_X2_50 (ln_46 hG) (lk_46 hG) rfl dX2_findOrAdd_27 ?_
  refine am_icmp_ge (tgt := 83) hz1 dX2_findOrAdd_30 (by decide) (fun c1 => ?_) (fun c1 => ?_)
  · replace h := h.1 c1
    refine am_aload_n hz1 dX2_findOrAdd_83 0 rfl rfl ?_
    refine am_getI hz1 fl_X2_50 (ln_46 hG) (lk_46 hG) rfl dX2_findOrAdd_84 ?_
    refine am_istore (lv' := [(5, .int (I 46 11)), (0, .ref ((zB z).size + 46)), (1, .int v1), (2, .int v2), (3, .int v3), (4, .int v4)]) hz1 dX2_findOrAdd_87 rfl rfl ?_
    refine am_aload_n hz1 dX2_findOrAdd_89 1 rfl rfl ?_
    refine am_getI hz1 fl_X2_50 (ln_46 hG) (lk_46 hG) rfl dX2_findOrAdd_90 ?_
    refine am_sipush (v := 136) hz1 dX2_findOrAdd_93 (by decide) ?_
    refine am_icmp_ge (tgt := 140) hz1 dX2_findOrAdd_96 (by decide) (fun c2 => ?_) (fun c2 => ?_)
    · replace h := h.1 c2
      refine am_iload hz1 dX2_findOrAdd_140 0 rfl ?_
      exact am_ireturn hz dX2_findOrAdd_142 h
    · replace h := h.2 c2
      refine am_aload_n hz1 dX2_findOrAdd_99 1 rfl rfl ?_
      refine am_getR hz1 fl_X2_9 (ln_46 hG) (lk_46 hG) (lr_46_0 hG) rfl dX2_findOrAdd_100 ?_
      refine am_aload_n hz1 dX2_findOrAdd_103 1 rfl rfl ?_
      refine am_getI hz1 fl_X2_50 (ln_46 hG) (lk_46 hG) rfl dX2_findOrAdd_104 ?_
      refine am_iload_n hz1 dX2_findOrAdd_107 2 rfl rfl ?_
      obtain ⟨g3, h⟩ := h
      refine am_iast hz1 (ln_47 hG) (lk_47 hG) (by rw [(ll_47 hG)]; exact g3) dX2_findOrAdd_108 ?_
      refine am_aload_n hz1 dX2_findOrAdd_109 1 rfl rfl ?_
      refine am_getR hz1 fl_X2_15 (ln_46 hG) (lk_46 hG) (lr_46_1 hG) rfl dX2_findOrAdd_110 ?_
      refine am_aload_n hz1 dX2_findOrAdd_113 1 rfl rfl ?_
      refine am_getI hz1 fl_X2_50 (ln_46 hG) (lk_46 hG) rfl dX2_findOrAdd_114 ?_
      refine am_iload_n hz1 dX2_findOrAdd_117 3 rfl rfl ?_
      obtain ⟨g4, h⟩ := h
      refine am_iast hz1 (ln_48 hG) (lk_48 hG) (by rw [(ll_48 hG)]; exact g4) dX2_findOrAdd_118 ?_
      refine am_aload_n hz1 dX2_findOrAdd_119 1 rfl rfl ?_
      refine am_getR hz1 fl_X2_18 (ln_46 hG) (lk_46 hG) (lr_46_3 hG) rfl dX2_findOrAdd_120 ?_
      refine am_aload_n hz1 dX2_findOrAdd_123 1 rfl rfl ?_
      refine am_getI hz1 fl_X2_50 (ln_46 hG) (lk_46 hG) rfl dX2_findOrAdd_124 ?_
      refine am_iload hz1 dX2_findOrAdd_127 5 rfl ?_
      obtain ⟨g5, h⟩ := h
      refine am_iast hz1 (ln_49 hG) (lk_49 hG) (by rw [(ll_49 hG)]; exact g5) dX2_findOrAdd_129 ?_
      refine am_aload_n hz1 dX2_findOrAdd_130 1 rfl rfl ?_
      refine am_dup hz1 dX2_findOrAdd_131 rfl ?_
      refine am_getI hz1 fl_X2_50 (ln_46 hG) (lk_46 hG) rfl dX2_findOrAdd_132 ?_
      refine am_iconst (v := 1) hz1 dX2_findOrAdd_135 (by decide) ?_
      refine am_iadd hz1 dX2_findOrAdd_136 ?_
      refine am_putI hz1 fl_X2_50 (ln_46 hG) (lk_46 hG) rfl rfl (fun _ => rfl) dX2_findOrAdd_137 ?_
      refine am_iload hz1 dX2_findOrAdd_140 0 rfl ?_
      exact am_ireturn hz dX2_findOrAdd_142 h
  · replace h := h.2 c1
    refine am_aload_n hz1 dX2_findOrAdd_33 0 rfl rfl ?_
    refine am_getR hz1 fl_X2_18 (ln_46 hG) (lk_46 hG) (lr_46_3 hG) rfl dX2_findOrAdd_34 ?_
    refine am_iload hz1 dX2_findOrAdd_37 5 rfl ?_
    obtain ⟨g6, h⟩ := h
    refine am_iald hz1 (ln_49 hG) (lk_49 hG) (by rw [(ll_49 hG)]; exact g6) dX2_findOrAdd_39 ?_
    refine am_iload hz1 dX2_findOrAdd_40 4 rfl ?_
    refine am_icmp_ne (tgt := 77) hz1 dX2_findOrAdd_42 (by decide) (fun c7 => ?_) (fun c7 => ?_)
    · replace h := h.1 c7
      refine am_iinc (v := v5 + 1) (lv' := [(5, .int (v5 + 1)), (0, .ref ((zB z).size + 46)), (1, .int v1), (2, .int v2), (3, .int v3), (4, .int v4)]) hz1 dX2_findOrAdd_77 5 rfl rfl rfl rfl ?_
      refine am_goto (tgt := 24) hz1 dX2_findOrAdd_80 (by decide) ?_
      exact am_sub (lv' := [(0, .ref ((zB z).size + 46)), (1, .int v1), (2, .int v2), (3, .int v3), (4, .int v4), (5, .int (v5 + 1))]) [1, 2, 3, 4, 5, 0] rfl h
    · replace h := h.2 c7
      refine am_aload_n hz1 dX2_findOrAdd_45 0 rfl rfl ?_
      refine am_iload_n hz1 dX2_findOrAdd_46 3 rfl rfl ?_
      refine am_aload_n hz1 dX2_findOrAdd_47 0 rfl rfl ?_
      refine am_getR hz1 fl_X2_39 (ln_46 hG) (lk_46 hG) (lr_46_2 hG) rfl dX2_findOrAdd_48 ?_
      refine am_aload_n hz1 dX2_findOrAdd_51 0 rfl rfl ?_
      refine am_getR hz1 fl_X2_9 (ln_46 hG) (lk_46 hG) (lr_46_0 hG) rfl dX2_findOrAdd_52 ?_
      refine am_iload hz1 dX2_findOrAdd_55 5 rfl ?_
      obtain ⟨g8, h⟩ := h
      refine am_iald hz1 (ln_47 hG) (lk_47 hG) (by rw [(ll_47 hG)]; exact g8) dX2_findOrAdd_57 ?_
      refine am_aload_n hz1 dX2_findOrAdd_58 0 rfl rfl ?_
      refine am_getR hz1 fl_X2_15 (ln_46 hG) (lk_46 hG) (lr_46_1 hG) rfl dX2_findOrAdd_59 ?_
      refine am_iload hz1 dX2_findOrAdd_62 5 rfl ?_
      obtain ⟨g9, h⟩ := h
      refine am_iald hz1 (ln_48 hG) (lk_48 hG) (by rw [(ll_48 hG)]; exact g9) dX2_findOrAdd_64 ?_
      obtain ⟨g10, h⟩ := h
      refine am_cVf hz cv_X2_54 [.int (I 47 v5.toNatClampNeg), .int (I 48 v5.toNatClampNeg)] [.int v3, .ref ((zB z).size + 46)] (c_X4_between hG isO_3 (I 47 v5.toNatClampNeg) (I 48 v5.toNatClampNeg) g10) (ln_3 hG) (lk_3 hG) rfl rfl rfl ⟨Nat.le_refl _, Nat.le_refl _⟩ (Nat.le_of_ble_eq_true rfl) dX2_findOrAdd_65 ?_
      obtain ⟨dq11, postq11, hdq11, hMq11, h⟩ := h
      refine am_callV hz1 cv_X2_75 [.int v3, .int (q_between I 3 (I 47 v5.toNatClampNeg) (I 48 v5.toNatClampNeg))] [] hMq11 (ln_46 hG) (lk_46 hG) rfl rfl (hz.fr hdq11) (hz.lo hdq11) (by rw [hz.2.1]; exact ⟨Nat.le_refl _, Nat.le_refl _⟩) (Nat.le_of_ble_eq_true rfl) dX2_findOrAdd_68 (fun roq11 Gq11 Iq11 Lq11 hpq11 => ?_)
      obtain ⟨rq11, rfl, hGq11, h⟩ := h roq11 Gq11 Iq11 Lq11 hpq11
      refine am_if_eq (tgt := 77) hz1 dX2_findOrAdd_71 (by decide) (fun c12 => ?_) (fun c12 => ?_)
      · replace h := h.1 c12
        refine am_iinc (v := v5 + 1) (lv' := [(5, .int (v5 + 1)), (0, .ref ((zB z).size + 46)), (1, .int v1), (2, .int v2), (3, .int v3), (4, .int v4)]) hz1 dX2_findOrAdd_77 5 rfl rfl rfl rfl ?_
        refine am_goto (tgt := 24) hz1 dX2_findOrAdd_80 (by decide) ?_
        exact am_sub (lv' := [(0, .ref ((zB z).size + 46)), (1, .int v1), (2, .int v2), (3, .int v3), (4, .int v4), (5, .int (v5 + 1))]) [1, 2, 3, 4, 5, 0] rfl h
      · replace h := h.2 c12
        refine am_iload hz1 dX2_findOrAdd_74 5 rfl ?_
        exact am_ireturn hz dX2_findOrAdd_76 h
set_option maxRecDepth 100000 in
set_option maxHeartbeats 4000000 in
theorem c_X2_findOrAdd {l : Launch} {D : va_G} {B : Heap} {G : amG} {I : amI} {L : amL}  (hG : Lay G)  (v1 : Int32) (v2 : Int32) {n a b c : Nat} {A : Nat → Int32} {σ : TyS} (hO : OI I 3 n A) (ha : a < n) (hb : b < n) (hl : le A a b = true) (h1 : v1 = nI a) (h2 : v2 = nI b) (hI : TyI n A σ c) (hK : LkM I n A σ a b) (hm : σ.tm < 136) : Mx l D B yX2_findOrAdd cX2_findOrAdd 6 (some .int) 42 0 0 [.ref (B.size + 46), .int v1, .int v2] G I L (fun r G1 I1 L1 => r = some (.int (nI (tyT n A σ a b))) ∧ G1 = G ∧ L1 = L ∧ frF I I1 ∧ I1 46 11 = nI (tyStep n A σ a b).tm ∧ ∀ t, t < (tyStep n A σ a b).tm → I1 47 t = nI ((tyStep n A σ a b).fs t / 16) ∧ I1 48 t = nI ((tyStep n A σ a b).fs t % 16) ∧ I1 49 t = mkM n A (ivS n A ((tyStep n A σ a b).fs t / 16) ((tyStep n A σ a b).fs t % 16))) := by
  refine Mx.of (by decide) rfl rfl (fun z e1 e2 e3 hz => ?_)
  subst e1; subst e2; subst e3
  refine b_X2_findOrAdd_0 hz hG ?_
  subst h1; subst h2
  have h16 := hO.2.2.1
  have hP := hO.2.2.2.2.2.1
  refine ⟨hO.sz, 1, _, rfl, c_X2_markAll hG (ln_52 hG) (lk_52 hG) (ll_52 hG) _ hO (Or.inl rfl), fun ro G2 I2 L2 ⟨e1, e2, e3, e4, e5⟩ => ⟨_, e1, by rw [e2]; exact hG, ?_⟩⟩
  rw [e2, e3]
  rw [hO.btw ha hb] at e5 ⊢
  have hO2 : OI I2 3 n A := OI_c hO (fun j hj => e4 (3 + j) (by omega) (by omega))
  have hs := iv_in (A := A) h16 (a := a) hb
  have hfs : ∀ t, t < σ.tm → σ.fs t / 16 < n ∧ σ.fs t % 16 < n := fun t ht => by
    obtain ⟨x, y, hx, hy, _, e⟩ := hI.2 t ht
    rw [e]
    omega
  have main : ∀ X : amI, frW I2 X → scan (fun t => alB n A (ivS n A a b) (ivS n A (σ.fs t / 16) (σ.fs t % 16))) id σ.tm (σ.tm - 0) 0 = tyT n A σ a b → Wx z 0 0 24 [(0, .ref ((zB z).size + 46)), (1, .int (nI a)), (2, .int (nI b)), (3, .int (ivS n A a b)), (4, .int (mkM n A (ivS n A a b))), (5, .int (nI 0))] [] G X L := by
    refine for_up (P := fun t => ∀ X : amI, frW I2 X → scan (fun t => alB n A (ivS n A a b) (ivS n A (σ.fs t / 16) (σ.fs t % 16))) id σ.tm (σ.tm - t) t = tyT n A σ a b → Wx z 0 0 24 [(0, .ref ((zB z).size + 46)), (1, .int (nI a)), (2, .int (nI b)), (3, .int (ivS n A a b)), (4, .int (mkM n A (ivS n A a b))), (5, .int (nI t))] [] G X L) (n := σ.tm) ?_ ?_ (Nat.zero_le _)
    · intro X x1 e
      rw [scan_0] at e
      have x11 : X 46 11 = nI σ.tm := by rw [x1.2 11 (by decide), e4 46 (by decide) (by decide)]; exact hK.1
      have hstep : tyStep n A σ a b = ⟨σ.tm + 1, fun k => if k = 16 * a + b then σ.tm else σ.ty k, fun k => if k = σ.tm then 16 * a + b else σ.fs k⟩ := by rw [tyStep, if_pos hl, if_neg (by omega)]
      have xq : ∀ q, (q = 47 ∨ q = 48 ∨ q = 49) → X q = I q := fun q hq => by rw [x1.1 q (by omega) (by omega) (by omega) (by omega) (by omega), e4 q (by omega) (by omega)]
      refine b_X2_findOrAdd_24 hz hG ⟨fun _ => ⟨fun h => absurd ((nI_leI (a := 136) (b := σ.tm) (by decide) (by omega)).mp (by rw [x11] at h; exact h)) (by omega), fun _ => ?_⟩, fun h => absurd (by rw [x11]; exact nI_le (Nat.le_refl _) (by omega)) h⟩
      rw [setI_n (q := 46) (p := 47) (by decide), setI_n (q := 46) (p := 48) (by decide), setI_n (q := 46) (p := 47) (by decide), setI_n (q := 46) (p := 49) (by decide), setI_n (q := 46) (p := 48) (by decide), setI_n (q := 46) (p := 47) (by decide), setI_n (q := 48) (p := 47) (by decide), setI_n (q := 49) (p := 48) (by decide), setI_n (q := 49) (p := 47) (by decide), x11, cl_nI (n := σ.tm) (by omega), nI_1]
      have hin : vp_in (nI σ.tm) 136 := in_nI hm (by decide)
      refine ⟨hin, hin, hin, by rw [← e], rfl, rfl, ⟨fun q hq => ?_, ?_, ?_⟩, ?_, fun t ht => ?_⟩
      · rw [setI_n (by omega), setI_n (by omega), setI_n (by omega), setI_n (by omega), x1.L q hq, e4 q (by omega) (by omega)]
      · rw [setI_n (by decide), setI_n (by decide), setI_n (by decide), setI_n (by decide), x1.1 50 (by decide) (by decide) (by decide) (by decide) (by decide), e4 50 (by decide) (by decide)]
      · rw [setI_s, upd_n (by decide), x1.2 12 (by decide), e4 46 (by decide) (by decide)]
      · rw [setI_s, upd_s, hstep]
      · rw [hstep] at ht ⊢
        have ht' : t < σ.tm + 1 := ht
        rw [setI_n (by decide), setI_n (by decide), setI_n (by decide), setI_s, setI_n (by decide), setI_n (by decide), setI_s, setI_n (by decide), setI_s]
        show upd (X 47) σ.tm (nI a) t = nI ((if t = σ.tm then 16 * a + b else σ.fs t) / 16) ∧ upd (X 48) σ.tm (nI b) t = nI ((if t = σ.tm then 16 * a + b else σ.fs t) % 16) ∧ upd (X 49) σ.tm (mkM n A (ivS n A a b)) t = mkM n A (ivS n A ((if t = σ.tm then 16 * a + b else σ.fs t) / 16) ((if t = σ.tm then 16 * a + b else σ.fs t) % 16))
        by_cases et : t = σ.tm
        · rw [if_pos et, et, upd_s, upd_s, upd_s, show (16 * a + b) / 16 = a by omega, show (16 * a + b) % 16 = b by omega]
          exact ⟨rfl, rfl, rfl⟩
        · rw [if_neg et, upd_n et, upd_n et, upd_n et, xq 47 (by omega), xq 48 (by omega), xq 49 (by omega)]
          exact hK.2.2 t (by omega)
    · intro t ht ih X x1 e
      rw [scan_s ht] at e
      have x11 : X 46 11 = nI σ.tm := by rw [x1.2 11 (by decide), e4 46 (by decide) (by decide)]; exact hK.1
      have xq : ∀ q, (q = 47 ∨ q = 48 ∨ q = 49) → X q = I q := fun q hq => by rw [x1.1 q (by omega) (by omega) (by omega) (by omega) (by omega), e4 q (by omega) (by omega)]
      obtain ⟨k1, k2, k3⟩ := hK.2.2 t ht
      obtain ⟨f1, f2⟩ := hfs t ht
      have hOX : OI X 3 n A := OI_L hO2 x1.L
      have hs2 := iv_in (A := A) h16 (a := σ.fs t / 16) f2
      refine b_X2_findOrAdd_24 hz hG ⟨fun h => absurd h (by rw [x11]; exact nI_ge ht (by omega)), fun _ => ?_⟩
      rw [cl_nI (n := t) (by omega), xq 47 (by omega), xq 48 (by omega), xq 49 (by omega), k1, k2, k3, nI_1, hOX.btw f1 f2]
      have hin : vp_in (nI t) 136 := in_nI (by omega) (by decide)
      refine ⟨hin, fun w => ?_, fun w => ⟨hin, hin, hOX.sz, ?_⟩⟩
      · have hno : alB n A (ivS n A a b) (ivS n A (σ.fs t / 16) (σ.fs t % 16)) = false := by
          rw [Bool.eq_false_iff]
          intro h
          obtain ⟨f, g, hi⟩ := alB_t.mp h
          exact w (iso_mk h16 hs hs2 hi).symm
        exact ih X x1 (by rw [← e, if_neg (by rw [hno]; decide)])
      · refine ⟨41, _, rfl, c_X2_isAlike hG _ _ hOX hs hs2 (fun x hx hbx => by rw [x1.1 52 (by decide) (by decide) (by decide) (by decide) (by decide)]; exact e5 x hx hbx), fun ro3 G3 I3 L3 ⟨d1, d2, d3, d4⟩ => ⟨_, d1, by rw [d2]; exact hG, ?_⟩⟩
        rw [d2, d3, bI_ne, bI_eq]
        refine ⟨fun w2 => ih I3 (frW_t x1 d4) (by rw [← e, if_neg (by rw [w2]; decide)]), fun w2 => ?_⟩
        rw [if_pos w2] at e
        have et : t = tyT n A σ a b := e
        have hstep : tyStep n A σ a b = ⟨σ.tm, fun k => if k = 16 * a + b then tyT n A σ a b else σ.ty k, σ.fs⟩ := by rw [tyStep, if_pos hl, if_pos (by omega)]
        have f4 : frW I2 I3 := frW_t x1 d4
        have yq : ∀ q, (q = 47 ∨ q = 48 ∨ q = 49) → I3 q = I q := fun q hq => by rw [f4.1 q (by omega) (by omega) (by omega) (by omega) (by omega), e4 q (by omega) (by omega)]
        rw [hstep]
        refine ⟨by rw [et], rfl, rfl, ⟨fun q hq => by rw [f4.L q hq, e4 q (by omega) (by omega)], by rw [f4.1 50 (by decide) (by decide) (by decide) (by decide) (by decide), e4 50 (by decide) (by decide)], by rw [f4.2 12 (by decide), e4 46 (by decide) (by decide)]⟩, by rw [f4.2 11 (by decide), e4 46 (by decide) (by decide)]; exact hK.1, fun t' ht' => ?_⟩
        rw [yq 47 (by omega), yq 48 (by omega), yq 49 (by omega)]
        exact hK.2.2 t' ht'
  exact main I2 frW_r rfl
set_option maxRecDepth 100000 in
set_option maxHeartbeats 4000000 in
theorem b_X2_learn_0 {z : amZ} {post : amP} {G : amG} {I : amI} {L : amL} (hz : Go z cX2_learn RX2 3 none 43 0 0 post) (hG : Lay G)  (h : (((I 46 12) = 0) → Wx z 0 0 20 [(0, .ref ((zB z).size + 46)), (1, .int 0)] [] G (setI (setI I 46 (upd (I 46) 12 (1 : Int32))) 46 (upd ((setI I 46 (upd (I 46) 12 (1 : Int32))) 46) 11 (0 : Int32))) L) ∧ ((¬ (I 46 12) = 0) → post none G I L)) : Wx z 0 0 0 [(0, .ref ((zB z).size + 46))] [] G I L := by
  have hz1 := hz.1
  refine am_aload_n hz1 dX2_learn_0 0 rfl rfl ?_
  refine am_getI hz1 fl_X2_43 (ln_46 hG) (lk_46 hG) rfl dX2_learn_1 ?_
  refine am_if_eq (tgt := 8) hz1 dX2_learn_4 (by decide) (fun c1 => ?_) (fun c1 => ?_)
  · replace h := h.1 c1
    refine am_aload_n hz1 dX2_learn_8 0 rfl rfl ?_
    refine am_iconst (v := 1) hz1 dX2_learn_9 (by decide) ?_
    refine am_putI hz1 fl_X2_43 (ln_46 hG) (lk_46 hG) rfl rfl (fun _ => rfl) dX2_learn_10 ?_
    refine am_aload_n hz1 dX2_learn_13 0 rfl rfl ?_
    refine am_iconst (v := 0) hz1 dX2_learn_14 (by decide) ?_
    refine am_putI hz1 fl_X2_50 (ln_46 hG) (lk_46 hG) rfl rfl (fun _ => rfl) dX2_learn_15 ?_
    refine am_iconst (v := 0) hz1 dX2_learn_18 (by decide) ?_
    refine am_istore_n (lv' := [(1, .int 0), (0, .ref ((zB z).size + 46))]) hz1 dX2_learn_19 rfl rfl rfl ?_
    exact am_sub (lv' := [(0, .ref ((zB z).size + 46)), (1, .int 0)]) [1, 0] rfl h
  · replace h := h.2 c1
    exact am_return hz dX2_learn_7 h
set_option maxRecDepth 100000 in
set_option maxHeartbeats 4000000 in
theorem b_X2_learn_20 {z : amZ} {post : amP} {G : amG} {I : amI} {L : amL} (hz : Go z cX2_learn RX2 3 none 43 0 0 post) (hG : Lay G) {v1 : Int32} (h : (((I 3 0) ≤ v1) → post none G I L) ∧ ((¬ (I 3 0) ≤ v1) → Wx z 0 0 33 [(0, .ref ((zB z).size + 46)), (1, .int v1), (2, .int 0)] [] G I L)) : Wx z 0 0 20 [(0, .ref ((zB z).size + 46)), (1, .int v1)] [] G I L := by
  have hz1 := hz.1
  refine am_iload_n hz1 dX2_learn_20 1 rfl rfl ?_
  refine am_aload_n hz1 dX2_learn_21 0 rfl rfl ?_
  refine am_getR hz1 fl_X2_39 (ln_46 hG) (lk_46 hG) (lr_46_2 hG) rfl dX2_learn_22 ?_
  refine am_getI hz1 fl_X2_60 (ln_3 hG) (lk_3 hG) rfl dX2_learn_25 ?_
  refine am_icmp_ge (tgt := 85) hz1 dX2_learn_28 (by decide) (fun c1 => ?_) (fun c1 => ?_)
  · replace h := h.1 c1
    exact am_return hz dX2_learn_85 h
  · replace h := h.2 c1
    refine am_iconst (v := 0) hz1 dX2_learn_31 (by decide) ?_
    refine am_istore_n (lv' := [(2, .int 0), (0, .ref ((zB z).size + 46)), (1, .int v1)]) hz1 dX2_learn_32 rfl rfl rfl ?_
    exact am_sub (lv' := [(0, .ref ((zB z).size + 46)), (1, .int v1), (2, .int 0)]) [1, 2, 0] rfl h
set_option maxRecDepth 100000 in
set_option maxHeartbeats 4000000 in
theorem b_X2_learn_33 {z : amZ} {post : amP} {G : amG} {I : amI} {L : amL} (hz : Go z cX2_learn RX2 3 none 43 0 0 post) (hG : Lay G) {v1 : Int32} {v2 : Int32} (h : (((I 3 0) ≤ v2) → Wx z 0 0 20 [(0, .ref ((zB z).size + 46)), (1, .int (v1 + 1))] [] G I L) ∧ ((¬ (I 3 0) ≤ v2) → (szOk I 3) ∧ ((q_atMost I 3 v1 v2 = false) → Wx z 0 0 33 [(0, .ref ((zB z).size + 46)), (1, .int v1), (2, .int (v2 + 1))] [] G I L) ∧ ((q_atMost I 3 v1 v2 = true) → ∃ (dq4 : Nat) (postq4 : amP), Nat.ble (dq4 + 1) 43 = true ∧ Mx (zL z) (zD z) (zB z) yX2_findOrAdd cX2_findOrAdd 6 (some .int) dq4 0 0 [.ref ((zB z).size + 46), .int v1, .int v2] G I L postq4 ∧ ∀ (roq4 : Option Value) (Gq4 : amG) (Iq4 : amI) (Lq4 : amL), postq4 roq4 Gq4 Iq4 Lq4 → ∃ (rq4 : Int32), roq4 = some (.int rq4) ∧ Lay Gq4 ∧ vp_in ((v1 * (16 : Int32)) + v2) 256 ∧ Wx z 0 0 33 [(0, .ref ((zB z).size + 46)), (1, .int v1), (2, .int (v2 + 1))] [] Gq4 (setI Iq4 50 (upd (Iq4 50) ((v1 * (16 : Int32)) + v2).toNatClampNeg rq4)) Lq4))) : Wx z 0 0 33 [(0, .ref ((zB z).size + 46)), (1, .int v1), (2, .int v2)] [] G I L := by
  have hz1 := hz.1
  refine am_iload_n hz1 dX2_learn_33 2 rfl rfl ?_
  refine am_aload_n hz1 dX2_learn_34 0 rfl rfl ?_
  refine am_getR hz1 fl_X2_39 (ln_46 hG) (lk_46 hG) (lr_46_2 hG) rfl dX2_learn_35 ?_
  refine am_getI hz1 fl_X2_60 (ln_3 hG) (lk_3 hG) rfl dX2_learn_38 ?_
  refine am_icmp_ge (tgt := 79) hz1 dX2_learn_41 (by decide) (fun c1 => ?_) (fun c1 => ?_)
  · replace h := h.1 c1
    refine am_iinc (v := v1 + 1) (lv' := [(1, .int (v1 + 1)), (0, .ref ((zB z).size + 46)), (2, .int v2)]) hz1 dX2_learn_79 1 rfl rfl rfl rfl ?_
    refine am_goto (tgt := 20) hz1 dX2_learn_82 (by decide) ?_
    exact am_sub (lv' := [(0, .ref ((zB z).size + 46)), (1, .int (v1 + 1))]) [1, 0] rfl h
  · replace h := h.2 c1
    refine am_aload_n hz1 dX2_learn_44 0 rfl rfl ?_
    refine am_getR hz1 fl_X2_39 (ln_46 hG) (lk_46 hG) (lr_46_2 hG) rfl dX2_learn_45 ?_
    refine am_iload_n hz1 dX2_learn_48 1 rfl rfl ?_
    refine am_iload_n hz1 dX2_learn_49 2 rfl rfl ?_
    obtain ⟨g2, h⟩ := h
    refine am_cVf hz cv_X2_64 [.int v1, .int v2] [] (c_X4_atMost hG isO_3 v1 v2 g2) (ln_3 hG) (lk_3 hG) rfl rfl rfl ⟨Nat.le_refl _, Nat.le_refl _⟩ (Nat.le_of_ble_eq_true rfl) dX2_learn_50 ?_
    refine am_ifb_eq (tgt := 73) hz1 dX2_learn_53 (by decide) (fun c3 => ?_) (fun c3 => ?_)
    · replace h := h.1 c3
      refine am_iinc (v := v2 + 1) (lv' := [(2, .int (v2 + 1)), (0, .ref ((zB z).size + 46)), (1, .int v1)]) hz1 dX2_learn_73 2 rfl rfl rfl rfl ?_
      refine am_goto (tgt := 33) hz1 dX2_learn_76 (by decide) ?_
      exact am_sub (lv' := [(0, .ref ((zB z).size + 46)), (1, .int v1), (2, .int (v2 + 1))]) [1, 2, 0] rfl h
    · replace h := h.2 c3
      refine am_aload_n hz1 dX2_learn_56 0 rfl rfl ?_
      refine am_getR hz1 fl_X2_21 (ln_46 hG) (lk_46 hG) (lr_46_4 hG) rfl dX2_learn_57 ?_
      refine am_iload_n hz1 dX2_learn_60 1 rfl rfl ?_
      refine am_bipush (v := 16) hz1 dX2_learn_61 (by decide) ?_
      refine am_imul hz1 dX2_learn_63 ?_
      refine am_iload_n hz1 dX2_learn_64 2 rfl rfl ?_
      refine am_iadd hz1 dX2_learn_65 ?_
      refine am_aload_n hz1 dX2_learn_66 0 rfl rfl ?_
      refine am_iload_n hz1 dX2_learn_67 1 rfl rfl ?_
      refine am_iload_n hz1 dX2_learn_68 2 rfl rfl ?_
      obtain ⟨dq4, postq4, hdq4, hMq4, h⟩ := h
      refine am_callV hz1 cv_X2_68 [.int v1, .int v2] [.int ((v1 * (16 : Int32)) + v2), .ref ((zB z).size + 50)] hMq4 (ln_46 hG) (lk_46 hG) rfl rfl (hz.fr hdq4) (hz.lo hdq4) (by rw [hz.2.1]; exact ⟨Nat.le_refl _, Nat.le_refl _⟩) (Nat.le_of_ble_eq_true rfl) dX2_learn_69 (fun roq4 Gq4 Iq4 Lq4 hpq4 => ?_)
      obtain ⟨rq4, rfl, hGq4, h⟩ := h roq4 Gq4 Iq4 Lq4 hpq4
      obtain ⟨g5, h⟩ := h
      refine am_iast hz1 (ln_50 hGq4) (lk_50 hGq4) (by rw [(ll_50 hGq4)]; exact g5) dX2_learn_72 ?_
      refine am_iinc (v := v2 + 1) (lv' := [(2, .int (v2 + 1)), (0, .ref ((zB z).size + 46)), (1, .int v1)]) hz1 dX2_learn_73 2 rfl rfl rfl rfl ?_
      refine am_goto (tgt := 33) hz1 dX2_learn_76 (by decide) ?_
      exact am_sub (lv' := [(0, .ref ((zB z).size + 46)), (1, .int v1), (2, .int (v2 + 1))]) [1, 2, 0] rfl h
set_option maxRecDepth 100000 in
set_option maxHeartbeats 4000000 in
theorem c_X2_learn {l : Launch} {D : va_G} {B : Heap} {G : amG} {I : amI} {L : amL}  (hG : Lay G)   {n : Nat} {A : Nat → Int32} (hO : OI I 3 n A) (hK : I 46 12 = 0 ∨ LK I n A) : Mx l D B yX2_learn cX2_learn 3 none 43 0 0 [.ref (B.size + 46)] G I L (fun r G1 I1 L1 => r = none ∧ G1 = G ∧ L1 = L ∧ frL I I1 ∧ LK I1 n A) := by
  refine Mx.of (by decide) rfl rfl (fun z e1 e2 e3 hz => ?_)
  subst e1; subst e2; subst e3
  refine b_X2_learn_0 hz hG ?_
  have h16 := hO.2.2.1
  have hP := hO.2.2.2.2.2.1
  refine ⟨fun _ => ?_, fun w => ?_⟩
  · have outer : ∀ X : amI, frL I X → X 46 12 = 1 → LkM X n A (tyAll n A 0) 0 0 → Wx z 0 0 20 [(0, .ref ((zB z).size + 46)), (1, .int (nI 0))] [] G X L := by
      refine for_up (P := fun a => ∀ X : amI, frL I X → X 46 12 = 1 → LkM X n A (tyAll n A a) a 0 → Wx z 0 0 20 [(0, .ref ((zB z).size + 46)), (1, .int (nI a))] [] G X L) (n := n) ?_ ?_ (Nat.zero_le _)
      · intro X x1 x2 x3
        have xn : X 3 0 = nI n := by rw [x1 3 (by omega)]; exact hO.1
        exact b_X2_learn_20 hz hG ⟨fun _ => ⟨rfl, rfl, rfl, x1, x2, x3⟩, fun h => absurd (sz_le xn h16) h⟩
      · intro a ha ah X x1 x2 x3
        have xn : X 3 0 = nI n := by rw [x1 3 (by omega)]; exact hO.1
        refine b_X2_learn_20 hz hG ⟨fun h => absurd h (sz_ge xn h16 ha), fun _ => ?_⟩
        have inner : ∀ X : amI, frL I X → X 46 12 = 1 → LkM X n A (tyRow n A (tyAll n A a) a 0) a 0 → Wx z 0 0 33 [(0, .ref ((zB z).size + 46)), (1, .int (nI a)), (2, .int (nI 0))] [] G X L := by
          refine for_up (P := fun b => ∀ X : amI, frL I X → X 46 12 = 1 → LkM X n A (tyRow n A (tyAll n A a) a b) a b → Wx z 0 0 33 [(0, .ref ((zB z).size + 46)), (1, .int (nI a)), (2, .int (nI b))] [] G X L) (n := n) ?_ ?_ (Nat.zero_le _)
          · intro X x1 x2 x3
            have xn : X 3 0 = nI n := by rw [x1 3 (by omega)]; exact hO.1
            refine b_X2_learn_33 hz hG ⟨fun _ => ?_, fun h => absurd (sz_le xn h16) h⟩
            rw [nI_1]
            exact ah X x1 x2 ⟨x3.1, fun x y hx hy hl h => x3.2.1 x y hx hy hl (by omega), x3.2.2⟩
          · intro b hb bh X x1 x2 x3
            have hOX := OI_L hO x1
            have xn := hOX.1
            refine b_X2_learn_33 hz hG ⟨fun h => absurd h (sz_ge xn h16 hb), fun _ => ⟨hOX.sz, ?_⟩⟩
            rw [hOX.am ha hb, nI_1]
            refine ⟨fun w => ?_, fun w => ?_⟩
            · have hst : tyRow n A (tyAll n A a) a (b + 1) = tyRow n A (tyAll n A a) a b := by rw [tyRow, tyStep, if_neg (by rw [w]; decide)]
              refine bh X x1 x2 ?_
              rw [hst]
              exact ⟨x3.1, fun x y hx hy hl h => x3.2.1 x y hx hy hl (by
                rcases h with h | ⟨h1, h2⟩
                · exact Or.inl h
                · refine Or.inr ⟨h1, ?_⟩
                  have : y ≠ b := fun e => by rw [h1, e, w] at hl; cases hl
                  omega), x3.2.2⟩
            · have hI := tyRow_I (A := A) (tyAll_I (A := A) a (by omega)) ha b (by omega)
              have h136 := ty_136 hP h16 ha hb w
              refine ⟨42, _, rfl, c_X2_findOrAdd hG _ _ hOX ha hb w rfl rfl hI x3 h136, fun ro2 G2 I2 L2 ⟨d1, d2, d3, d4, d5, d6⟩ => ⟨_, d1, by rw [d2]; exact hG, ?_⟩⟩
              have hix : nI a * 16 + nI b = nI (16 * a + b) := by rw [show (16 : Int32) = nI 16 from rfl, nI_mul, nI_add, Nat.mul_comm]
              rw [d2, d3, hix, cl_nI (n := 16 * a + b) (by omega)]
              refine ⟨in_nI (by omega) (by decide), bh _ (frL_t x1 (frL_t d4.1 (frL_I (by decide) (by decide)))) (by rw [setI_n (by decide), d4.2.2]; exact x2) ?_⟩
              show LkM _ n A (tyStep n A (tyRow n A (tyAll n A a) a b) a b) a (b + 1)
              refine ⟨by rw [setI_n (by decide)]; exact d5, fun x y hx hy hl h => ?_, fun t ht => ?_⟩
              · rw [setI_s]
                by_cases e : 16 * x + y = 16 * a + b
                · have ex : x = a := by omega
                  have ey : y = b := by omega
                  rw [e, upd_s, (tyStep_s w).1]
                · rw [upd_n e, d4.2.1, tyStep_k e]
                  exact x3.2.1 x y hx hy hl (by omega)
              · rw [setI_n (by decide), setI_n (by decide), setI_n (by decide)]
                exact d6 t ht
        exact inner X x1 x2 x3
    refine outer _ (frL_t (frL_I (by decide) (by decide)) (frL_I (by decide) (by decide))) (by rw [setI_s, upd_n (by decide), setI_s, upd_s]) ⟨by rw [setI_s, upd_s]; rfl, fun x y _ _ _ h => by omega, fun t ht => absurd ht (Nat.not_lt_zero _)⟩
  · rcases hK with h | h
    · exact absurd h w
    · exact ⟨rfl, rfl, rfl, frL_r, h⟩
/-! the questions on types -/
theorem fsP {n : Nat} {A : Nat → Int32} (hP : PO n A) (h16 : n ≤ 16) {t : Nat} (ht : t < (tyO n A).tm) : (tyO n A).fs t / 16 < n ∧ (tyO n A).fs t % 16 < n ∧ le A ((tyO n A).fs t / 16) ((tyO n A).fs t % 16) = true := by
  obtain ⟨x, y, hx, hy, hl, e⟩ := (tyO_I hP h16).2 t ht
  rw [e, show (16 * x + y) / 16 = x by omega, show (16 * x + y) % 16 = y by omega]
  exact ⟨hx, hy, hl⟩
set_option maxRecDepth 100000 in
set_option maxHeartbeats 4000000 in
theorem b_X2_countTypes_0 {z : amZ} {post : amP} {G : amG} {I : amI} {L : amL} (hz : Go z cX2_countTypes RX2 1 (some .int) 44 0 0 post) (hG : Lay G)  (h : ∃ (dq1 : Nat) (postq1 : amP), Nat.ble (dq1 + 1) 44 = true ∧ Mx (zL z) (zD z) (zB z) yX2_learn cX2_learn 3 none dq1 0 0 [.ref ((zB z).size + 46)] G I L postq1 ∧ ∀ (roq1 : Option Value) (Gq1 : amG) (Iq1 : amI) (Lq1 : amL), postq1 roq1 Gq1 Iq1 Lq1 → roq1 = none ∧ Lay Gq1 ∧ post (some (.int (Iq1 46 11))) Gq1 Iq1 Lq1) : Wx z 0 0 0 [(0, .ref ((zB z).size + 46))] [] G I L := by
  have hz1 := hz.1
  refine am_aload_n hz1 dX2_countTypes_0 0 rfl rfl ?_
  obtain ⟨dq1, postq1, hdq1, hMq1, h⟩ := h
  refine am_callV hz1 cv_X2_47 [] [] hMq1 (ln_46 hG) (lk_46 hG) rfl rfl (hz.fr hdq1) (hz.lo hdq1) (by rw [hz.2.1]; exact ⟨Nat.le_refl _, Nat.le_refl _⟩) (Nat.le_of_ble_eq_true rfl) dX2_countTypes_1 (fun roq1 Gq1 Iq1 Lq1 hpq1 => ?_)
  obtain ⟨rfl, hGq1, h⟩ := h roq1 Gq1 Iq1 Lq1 hpq1
  refine am_aload_n hz1 dX2_countTypes_4 0 rfl rfl ?_
  refine am_getI hz1 fl_X2_50 (ln_46 hGq1) (lk_46 hGq1) rfl dX2_countTypes_5 ?_
  exact am_ireturn hz dX2_countTypes_8 h
set_option maxRecDepth 100000 in
set_option maxHeartbeats 4000000 in
theorem c_X2_countTypes {l : Launch} {D : va_G} {B : Heap} {G : amG} {I : amI} {L : amL}  (hG : Lay G)   {n : Nat} {A : Nat → Int32} (hO : OI I 3 n A) (hK : I 46 12 = 0 ∨ LK I n A) : Mx l D B yX2_countTypes cX2_countTypes 1 (some .int) 44 0 0 [.ref (B.size + 46)] G I L (fun r G1 I1 L1 => r = some (.int (nI (tyO n A).tm)) ∧ G1 = G ∧ L1 = L ∧ frL I I1 ∧ LK I1 n A) := by
  refine Mx.of (by decide) rfl rfl (fun z e1 e2 e3 hz => ?_)
  subst e1; subst e2; subst e3
  refine b_X2_countTypes_0 hz hG ?_
  refine ⟨43, _, rfl, c_X2_learn hG hO hK, fun ro G2 I2 L2 ⟨d1, d2, d3, d4, d5⟩ => ⟨d1, by rw [d2]; exact hG, ?_⟩⟩
  rw [d5.2.1]
  exact ⟨rfl, d2, d3, d4, d5⟩
set_option maxRecDepth 100000 in
set_option maxHeartbeats 4000000 in
theorem b_X2_hasType_0 {z : amZ} {post : amP} {G : amG} {I : amI} {L : amL} (hz : Go z cX2_hasType RX2 2 (some .boolean) 0 0 0 post) (hG : Lay G) {v1 : Int32} (h : ((v1 < 0) → post (some (.int 0)) G I L) ∧ ((¬ v1 < 0) → (((I 46 11) ≤ v1) → post (some (.int 0)) G I L) ∧ ((¬ (I 46 11) ≤ v1) → post (some (.int 1)) G I L))) : Wx z 0 0 0 [(0, .ref ((zB z).size + 46)), (1, .int v1)] [] G I L := by
  have hz1 := hz.1
  refine am_iload_n hz1 dX2_hasType_0 1 rfl rfl ?_
  refine am_if_lt (tgt := 16) hz1 dX2_hasType_1 (by decide) (fun c1 => ?_) (fun c1 => ?_)
  · replace h := h.1 c1
    refine am_iconst (v := 0) hz1 dX2_hasType_16 (by decide) ?_
    exact am_zreturn hz (by decide) dX2_hasType_17 h
  · replace h := h.2 c1
    refine am_iload_n hz1 dX2_hasType_4 1 rfl rfl ?_
    refine am_aload_n hz1 dX2_hasType_5 0 rfl rfl ?_
    refine am_getI hz1 fl_X2_50 (ln_46 hG) (lk_46 hG) rfl dX2_hasType_6 ?_
    refine am_icmp_ge (tgt := 16) hz1 dX2_hasType_9 (by decide) (fun c2 => ?_) (fun c2 => ?_)
    · replace h := h.1 c2
      refine am_iconst (v := 0) hz1 dX2_hasType_16 (by decide) ?_
      exact am_zreturn hz (by decide) dX2_hasType_17 h
    · replace h := h.2 c2
      refine am_iconst (v := 1) hz1 dX2_hasType_12 (by decide) ?_
      refine am_goto (tgt := 17) hz1 dX2_hasType_13 (by decide) ?_
      exact am_zreturn hz (by decide) dX2_hasType_17 h
set_option maxRecDepth 100000 in
set_option maxHeartbeats 4000000 in
theorem c_X2_hasType {l : Launch} {D : va_G} {B : Heap} {G : amG} {I : amI} {L : amL}  (hG : Lay G)  (v1 : Int32) {n : Nat} {A : Nat → Int32} (hK : LK I n A) : Mx l D B yX2_hasType cX2_hasType 2 (some .boolean) 0 0 0 [.ref (B.size + 46), .int v1] G I L (fun r G1 I1 L1 => r = some (.int (bI (elB (tyO n A).tm v1))) ∧ G1 = G ∧ L1 = L ∧ frL I I1 ∧ LK I1 n A) := by
  refine Mx.of (by decide) rfl rfl (fun z e1 e2 e3 hz => ?_)
  subst e1; subst e2; subst e3
  refine b_X2_hasType_0 hz hG ?_
  rw [hK.2.1]
  refine ⟨fun w => ?_, fun w => ⟨fun w2 => ?_, fun w2 => ?_⟩⟩
  · have : elB (tyO n A).tm v1 = false := by rw [elB, decide_eq_false (Int32.not_le.mpr w)]; rfl
    rw [this]; exact ⟨rfl, rfl, rfl, frL_r, hK⟩
  · have : elB (tyO n A).tm v1 = false := by rw [elB, decide_eq_false (Int32.not_lt.mpr w2), Bool.and_false]
    rw [this]; exact ⟨rfl, rfl, rfl, frL_r, hK⟩
  · have : elB (tyO n A).tm v1 = true := by rw [elB, decide_eq_true (Int32.not_lt.mp w), decide_eq_true (Int32.not_le.mp w2)]; rfl
    rw [this]; exact ⟨rfl, rfl, rfl, frL_r, hK⟩
set_option maxRecDepth 100000 in
set_option maxHeartbeats 4000000 in
theorem b_X2_typeOf_0 {z : amZ} {post : amP} {G : amG} {I : amI} {L : amL} (hz : Go z cX2_typeOf RX2 3 (some .int) 0 0 0 post) (hG : Lay G) {v1 : Int32} {v2 : Int32} (h : vp_in ((v1 * (16 : Int32)) + v2) 256 ∧ post (some (.int (I 50 ((v1 * (16 : Int32)) + v2).toNatClampNeg))) G I L) : Wx z 0 0 0 [(0, .ref ((zB z).size + 46)), (1, .int v1), (2, .int v2)] [] G I L := by
  have hz1 := hz.1
  refine am_aload_n hz1 dX2_typeOf_0 0 rfl rfl ?_
  refine am_getR hz1 fl_X2_21 (ln_46 hG) (lk_46 hG) (lr_46_4 hG) rfl dX2_typeOf_1 ?_
  refine am_iload_n hz1 dX2_typeOf_4 1 rfl rfl ?_
  refine am_bipush (v := 16) hz1 dX2_typeOf_5 (by decide) ?_
  refine am_imul hz1 dX2_typeOf_7 ?_
  refine am_iload_n hz1 dX2_typeOf_8 2 rfl rfl ?_
  refine am_iadd hz1 dX2_typeOf_9 ?_
  obtain ⟨g1, h⟩ := h
  refine am_iald hz1 (ln_50 hG) (lk_50 hG) (by rw [(ll_50 hG)]; exact g1) dX2_typeOf_10 ?_
  exact am_ireturn hz dX2_typeOf_11 h
set_option maxRecDepth 100000 in
set_option maxHeartbeats 4000000 in
theorem c_X2_typeOf {l : Launch} {D : va_G} {B : Heap} {G : amG} {I : amI} {L : amL}  (hG : Lay G)  (v1 : Int32) (v2 : Int32) {n a b : Nat} {A : Nat → Int32} (hO : OI I 3 n A) (hK : LK I n A) (h1 : v1 = nI a) (h2 : v2 = nI b) (ha : a < n) (hb : b < n) (hl : le A a b = true) : Mx l D B yX2_typeOf cX2_typeOf 3 (some .int) 0 0 0 [.ref (B.size + 46), .int v1, .int v2] G I L (fun r G1 I1 L1 => r = some (.int (nI ((tyO n A).ty (16 * a + b)))) ∧ G1 = G ∧ L1 = L ∧ frL I I1 ∧ LK I1 n A) := by
  refine Mx.of (by decide) rfl rfl (fun z e1 e2 e3 hz => ?_)
  subst e1; subst e2; subst e3
  refine b_X2_typeOf_0 hz hG ?_
  subst h1; subst h2
  have h16 := hO.2.2.1
  have hix : nI a * 16 + nI b = nI (16 * a + b) := by rw [show (16 : Int32) = nI 16 from rfl, nI_mul, nI_add, Nat.mul_comm]
  rw [hix, cl_nI (n := 16 * a + b) (by omega), hK.2.2.1 a b ha hb hl (Or.inl ha)]
  exact ⟨in_nI (by omega) (by decide), rfl, rfl, rfl, frL_r, hK⟩
set_option maxRecDepth 100000 in
set_option maxHeartbeats 4000000 in
theorem b_X2_splits_0 {z : amZ} {post : amP} {G : amG} {I : amI} {L : amL} (hz : Go z cX2_splits RX2 9 (some .int) 3 0 0 post) (hG : Lay G) {v1 : Int32} {v2 : Int32} {v3 : Int32} (h : vp_in v1 136 ∧ vp_in v1 136 ∧ (szOk I 3) ∧ Wx z 0 0 35 [(0, .ref ((zB z).size + 46)), (2, .int v2), (3, .int v3), (4, .int (I 47 v1.toNatClampNeg)), (5, .int (I 48 v1.toNatClampNeg)), (6, .int (q_between I 3 (I 47 v1.toNatClampNeg) (I 48 v1.toNatClampNeg))), (7, .int 0), (8, .int 0)] [] G I L) : Wx z 0 0 0 [(0, .ref ((zB z).size + 46)), (1, .int v1), (2, .int v2), (3, .int v3)] [] G I L := by
  have hz1 := hz.1
  refine am_aload_n hz1 dX2_splits_0 0 rfl rfl ?_
  refine am_getR hz1 fl_X2_9 (ln_46 hG) (lk_46 hG) (lr_46_0 hG) rfl dX2_splits_1 ?_
  refine am_iload_n hz1 dX2_splits_4 1 rfl rfl ?_
  obtain ⟨g1, h⟩ := h
  refine am_iald hz1 (ln_47 hG) (lk_47 hG) (by rw [(ll_47 hG)]; exact g1) dX2_splits_5 ?_
  refine am_istore (lv' := [(4, .int (I 47 v1.toNatClampNeg)), (0, .ref ((zB z).size + 46)), (1, .int v1), (2, .int v2), (3, .int v3)]) hz1 dX2_splits_6 rfl rfl ?_
  refine am_aload_n hz1 dX2_splits_8 1 rfl rfl ?_
  refine am_getR hz1 fl_X2_15 (ln_46 hG) (lk_46 hG) (lr_46_1 hG) rfl dX2_splits_9 ?_
  refine am_iload_n hz1 dX2_splits_12 2 rfl rfl ?_
  obtain ⟨g2, h⟩ := h
  refine am_iald hz1 (ln_48 hG) (lk_48 hG) (by rw [(ll_48 hG)]; exact g2) dX2_splits_13 ?_
  refine am_istore (lv' := [(5, .int (I 48 v1.toNatClampNeg)), (4, .int (I 47 v1.toNatClampNeg)), (0, .ref ((zB z).size + 46)), (1, .int v1), (2, .int v2), (3, .int v3)]) hz1 dX2_splits_14 rfl rfl ?_
  refine am_aload_n hz1 dX2_splits_16 2 rfl rfl ?_
  refine am_getR hz1 fl_X2_39 (ln_46 hG) (lk_46 hG) (lr_46_2 hG) rfl dX2_splits_17 ?_
  refine am_iload hz1 dX2_splits_20 1 rfl ?_
  refine am_iload hz1 dX2_splits_22 0 rfl ?_
  obtain ⟨g3, h⟩ := h
  refine am_cVf hz cv_X2_54 [.int (I 47 v1.toNatClampNeg), .int (I 48 v1.toNatClampNeg)] [] (c_X4_between hG isO_3 (I 47 v1.toNatClampNeg) (I 48 v1.toNatClampNeg) g3) (ln_3 hG) (lk_3 hG) rfl rfl rfl ⟨Nat.le_refl _, Nat.le_refl _⟩ (Nat.le_of_ble_eq_true rfl) dX2_splits_24 ?_
  refine am_istore (lv' := [(6, .int (q_between I 3 (I 47 v1.toNatClampNeg) (I 48 v1.toNatClampNeg))), (5, .int (I 48 v1.toNatClampNeg)), (4, .int (I 47 v1.toNatClampNeg)), (0, .ref ((zB z).size + 46)), (1, .int v1), (2, .int v2), (3, .int v3)]) hz1 dX2_splits_27 rfl rfl ?_
  refine am_iconst (v := 0) hz1 dX2_splits_29 (by decide) ?_
  refine am_istore (lv' := [(7, .int 0), (6, .int (q_between I 3 (I 47 v1.toNatClampNeg) (I 48 v1.toNatClampNeg))), (5, .int (I 48 v1.toNatClampNeg)), (4, .int (I 47 v1.toNatClampNeg)), (0, .ref ((zB z).size + 46)), (1, .int v1), (2, .int v2), (3, .int v3)]) hz1 dX2_splits_30 rfl rfl ?_
  refine am_iconst (v := 0) hz1 dX2_splits_32 (by decide) ?_
  refine am_istore (lv' := [(8, .int 0), (7, .int 0), (6, .int (q_between I 3 (I 47 v1.toNatClampNeg) (I 48 v1.toNatClampNeg))), (5, .int (I 48 v1.toNatClampNeg)), (4, .int (I 47 v1.toNatClampNeg)), (0, .ref ((zB z).size + 46)), (1, .int v1), (2, .int v2), (3, .int v3)]) hz1 dX2_splits_33 rfl rfl ?_
  exact am_sub (lv' := [(0, .ref ((zB z).size + 46)), (2, .int v2), (3, .int v3), (4, .int (I 47 v1.toNatClampNeg)), (5, .int (I 48 v1.toNatClampNeg)), (6, .int (q_between I 3 (I 47 v1.toNatClampNeg) (I 48 v1.toNatClampNeg))), (7, .int 0), (8, .int 0)]) [5, 7, 8, 4, 3, 2, 1, 0] rfl h
set_option maxRecDepth 100000 in
set_option maxHeartbeats 4000000 in
theorem b_X2_splits_35 {z : amZ} {post : amP} {G : amG} {I : amI} {L : amL} (hz : Go z cX2_splits RX2 9 (some .int) 3 0 0 post) (hG : Lay G) {v2 : Int32} {v3 : Int32} {v4 : Int32} {v5 : Int32} {v6 : Int32} {v7 : Int32} {v8 : Int32} (h : (((I 3 0) ≤ v8) → post (some (.int v7)) G I L) ∧ ((¬ (I 3 0) ≤ v8) → ((¬ ((v6 >>> (v8 &&& 31)) &&& (1 : Int32)) = (1 : Int32)) → Wx z 0 0 35 [(0, .ref ((zB z).size + 46)), (2, .int v2), (3, .int v3), (4, .int v4), (5, .int v5), (6, .int v6), (7, .int v7), (8, .int (v8 + 1))] [] G I L) ∧ ((((v6 >>> (v8 &&& 31)) &&& (1 : Int32)) = (1 : Int32)) → ∃ (dq3 : Nat) (postq3 : amP), Nat.ble (dq3 + 1) 3 = true ∧ Mx (zL z) (zD z) (zB z) yX2_typeOf cX2_typeOf 3 (some .int) dq3 0 0 [.ref ((zB z).size + 46), .int v4, .int v8] G I L postq3 ∧ ∀ (roq3 : Option Value) (Gq3 : amG) (Iq3 : amI) (Lq3 : amL), postq3 roq3 Gq3 Iq3 Lq3 → ∃ (rq3 : Int32), roq3 = some (.int rq3) ∧ Lay Gq3 ∧ ((¬ rq3 = v2) → Wx z 0 0 35 [(0, .ref ((zB z).size + 46)), (2, .int v2), (3, .int v3), (4, .int v4), (5, .int v5), (6, .int v6), (7, .int v7), (8, .int (v8 + 1))] [] Gq3 Iq3 Lq3) ∧ ((rq3 = v2) → ∃ (dq5 : Nat) (postq5 : amP), Nat.ble (dq5 + 1) 3 = true ∧ Mx (zL z) (zD z) (zB z) yX2_typeOf cX2_typeOf 3 (some .int) dq5 0 0 [.ref ((zB z).size + 46), .int v8, .int v5] Gq3 Iq3 Lq3 postq5 ∧ ∀ (roq5 : Option Value) (Gq5 : amG) (Iq5 : amI) (Lq5 : amL), postq5 roq5 Gq5 Iq5 Lq5 → ∃ (rq5 : Int32), roq5 = some (.int rq5) ∧ Lay Gq5 ∧ ((¬ rq5 = v3) → Wx z 0 0 35 [(0, .ref ((zB z).size + 46)), (2, .int v2), (3, .int v3), (4, .int v4), (5, .int v5), (6, .int v6), (7, .int v7), (8, .int (v8 + 1))] [] Gq5 Iq5 Lq5) ∧ ((rq5 = v3) → Wx z 0 0 35 [(0, .ref ((zB z).size + 46)), (2, .int v2), (3, .int v3), (4, .int v4), (5, .int v5), (6, .int v6), (7, .int (v7 + 1)), (8, .int (v8 + 1))] [] Gq5 Iq5 Lq5))))) : Wx z 0 0 35 [(0, .ref ((zB z).size + 46)), (2, .int v2), (3, .int v3), (4, .int v4), (5, .int v5), (6, .int v6), (7, .int v7), (8, .int v8)] [] G I L := by
  have hz1 := hz.1
  refine am_iload hz1 dX2_splits_35 7 rfl ?_
  refine am_aload_n hz1 dX2_splits_37 0 rfl rfl ?_
  refine am_getR hz1 fl_X2_39 (ln_46 hG) (lk_46 hG) (lr_46_2 hG) rfl dX2_splits_38 ?_
  refine am_getI hz1 fl_X2_60 (ln_3 hG) (lk_3 hG) rfl dX2_splits_41 ?_
  refine am_icmp_ge (tgt := 91) hz1 dX2_splits_44 (by decide) (fun c1 => ?_) (fun c1 => ?_)
  · replace h := h.1 c1
    refine am_iload hz1 dX2_splits_91 6 rfl ?_
    exact am_ireturn hz dX2_splits_93 h
  · replace h := h.2 c1
    refine am_iload hz1 dX2_splits_47 5 rfl ?_
    refine am_iload hz1 dX2_splits_49 7 rfl ?_
    refine am_ishr hz1 dX2_splits_51 ?_
    refine am_iconst (v := 1) hz1 dX2_splits_52 (by decide) ?_
    refine am_iand hz1 dX2_splits_53 ?_
    refine am_iconst (v := 1) hz1 dX2_splits_54 (by decide) ?_
    refine am_icmp_ne (tgt := 85) hz1 dX2_splits_55 (by decide) (fun c2 => ?_) (fun c2 => ?_)
    · replace h := h.1 c2
      refine am_iinc (v := v8 + 1) (lv' := [(8, .int (v8 + 1)), (0, .ref ((zB z).size + 46)), (2, .int v2), (3, .int v3), (4, .int v4), (5, .int v5), (6, .int v6), (7, .int v7)]) hz1 dX2_splits_85 7 rfl rfl rfl rfl ?_
      refine am_goto (tgt := 35) hz1 dX2_splits_88 (by decide) ?_
      exact am_sub (lv' := [(0, .ref ((zB z).size + 46)), (2, .int v2), (3, .int v3), (4, .int v4), (5, .int v5), (6, .int v6), (7, .int v7), (8, .int (v8 + 1))]) [1, 2, 3, 4, 5, 6, 7, 0] rfl h
    · replace h := h.2 c2
      refine am_aload_n hz1 dX2_splits_58 0 rfl rfl ?_
      refine am_iload hz1 dX2_splits_59 3 rfl ?_
      refine am_iload hz1 dX2_splits_61 7 rfl ?_
      obtain ⟨dq3, postq3, hdq3, hMq3, h⟩ := h
      refine am_callV hz1 cv_X2_61 [.int v4, .int v8] [] hMq3 (ln_46 hG) (lk_46 hG) rfl rfl (hz.fr hdq3) (hz.lo hdq3) (by rw [hz.2.1]; exact ⟨Nat.le_refl _, Nat.le_refl _⟩) (Nat.le_of_ble_eq_true rfl) dX2_splits_63 (fun roq3 Gq3 Iq3 Lq3 hpq3 => ?_)
      obtain ⟨rq3, rfl, hGq3, h⟩ := h roq3 Gq3 Iq3 Lq3 hpq3
      refine am_iload_n hz1 dX2_splits_66 1 rfl rfl ?_
      refine am_icmp_ne (tgt := 85) hz1 dX2_splits_67 (by decide) (fun c4 => ?_) (fun c4 => ?_)
      · replace h := h.1 c4
        refine am_iinc (v := v8 + 1) (lv' := [(8, .int (v8 + 1)), (0, .ref ((zB z).size + 46)), (2, .int v2), (3, .int v3), (4, .int v4), (5, .int v5), (6, .int v6), (7, .int v7)]) hz1 dX2_splits_85 7 rfl rfl rfl rfl ?_
        refine am_goto (tgt := 35) hz1 dX2_splits_88 (by decide) ?_
        exact am_sub (lv' := [(0, .ref ((zB z).size + 46)), (2, .int v2), (3, .int v3), (4, .int v4), (5, .int v5), (6, .int v6), (7, .int v7), (8, .int (v8 + 1))]) [1, 2, 3, 4, 5, 6, 7, 0] rfl h
      · replace h := h.2 c4
        refine am_aload_n hz1 dX2_splits_70 0 rfl rfl ?_
        refine am_iload hz1 dX2_splits_71 7 rfl ?_
        refine am_iload hz1 dX2_splits_73 4 rfl ?_
        obtain ⟨dq5, postq5, hdq5, hMq5, h⟩ := h
        refine am_callV hz1 cv_X2_61 [.int v8, .int v5] [] hMq5 (ln_46 hGq3) (lk_46 hGq3) rfl rfl (hz.fr hdq5) (hz.lo hdq5) (by rw [hz.2.1]; exact ⟨Nat.le_refl _, Nat.le_refl _⟩) (Nat.le_of_ble_eq_true rfl) dX2_splits_75 (fun roq5 Gq5 Iq5 Lq5 hpq5 => ?_)
        obtain ⟨rq5, rfl, hGq5, h⟩ := h roq5 Gq5 Iq5 Lq5 hpq5
        refine am_iload_n hz1 dX2_splits_78 2 rfl rfl ?_
        refine am_icmp_ne (tgt := 85) hz1 dX2_splits_79 (by decide) (fun c6 => ?_) (fun c6 => ?_)
        · replace h := h.1 c6
          refine am_iinc (v := v8 + 1) (lv' := [(8, .int (v8 + 1)), (0, .ref ((zB z).size + 46)), (2, .int v2), (3, .int v3), (4, .int v4), (5, .int v5), (6, .int v6), (7, .int v7)]) hz1 dX2_splits_85 7 rfl rfl rfl rfl ?_
          refine am_goto (tgt := 35) hz1 dX2_splits_88 (by decide) ?_
          exact am_sub (lv' := [(0, .ref ((zB z).size + 46)), (2, .int v2), (3, .int v3), (4, .int v4), (5, .int v5), (6, .int v6), (7, .int v7), (8, .int (v8 + 1))]) [1, 2, 3, 4, 5, 6, 7, 0] rfl h
        · replace h := h.2 c6
          refine am_iinc (v := v7 + 1) (lv' := [(7, .int (v7 + 1)), (0, .ref ((zB z).size + 46)), (2, .int v2), (3, .int v3), (4, .int v4), (5, .int v5), (6, .int v6), (8, .int v8)]) hz1 dX2_splits_82 6 rfl rfl rfl rfl ?_
          refine am_iinc (v := v8 + 1) (lv' := [(8, .int (v8 + 1)), (7, .int (v7 + 1)), (0, .ref ((zB z).size + 46)), (2, .int v2), (3, .int v3), (4, .int v4), (5, .int v5), (6, .int v6)]) hz1 dX2_splits_85 7 rfl rfl rfl rfl ?_
          refine am_goto (tgt := 35) hz1 dX2_splits_88 (by decide) ?_
          exact am_sub (lv' := [(0, .ref ((zB z).size + 46)), (2, .int v2), (3, .int v3), (4, .int v4), (5, .int v5), (6, .int v6), (7, .int (v7 + 1)), (8, .int (v8 + 1))]) [2, 3, 4, 5, 6, 7, 1, 0] rfl h
noncomputable def spP (n : Nat) (A : Nat → Int32) (t r s x : Nat) : Bool := bt (ivS n A ((tyO n A).fs t / 16) ((tyO n A).fs t % 16)) x && (decide ((tyO n A).ty (16 * ((tyO n A).fs t / 16) + x) = r) && decide ((tyO n A).ty (16 * x + (tyO n A).fs t % 16) = s))
set_option maxRecDepth 100000 in
set_option maxHeartbeats 4000000 in
theorem c_X2_splits {l : Launch} {D : va_G} {B : Heap} {G : amG} {I : amI} {L : amL}  (hG : Lay G)  (v1 : Int32) (v2 : Int32) (v3 : Int32) {n t r s : Nat} {A : Nat → Int32} (hO : OI I 3 n A) (hK : LK I n A) (h1 : v1 = nI t) (h2 : v2 = nI r) (h3 : v3 = nI s) (ht : t < (tyO n A).tm) (hr : r < (tyO n A).tm) (hs : s < (tyO n A).tm) : Mx l D B yX2_splits cX2_splits 9 (some .int) 3 0 0 [.ref (B.size + 46), .int v1, .int v2, .int v3] G I L (fun ro G1 I1 L1 => ro = some (.int (nI (ct (spP n A t r s) n))) ∧ G1 = G ∧ L1 = L ∧ frL I I1 ∧ LK I1 n A) := by
  refine Mx.of (by decide) rfl rfl (fun z e1 e2 e3 hz => ?_)
  subst e1; subst e2; subst e3
  refine b_X2_splits_0 hz hG ?_
  subst h1; subst h2; subst h3
  have h16 := hO.2.2.1
  have hP := hO.2.2.2.2.2.1
  obtain ⟨f1, f2, f3⟩ := fsP hP h16 ht
  have h136 := (tyO_I hP h16).1
  obtain ⟨k1, k2, _⟩ := hK.2.2.2 t ht
  rw [cl_nI (n := t) (by omega), k1, k2, hO.btw f1 f2]
  refine ⟨in_nI (by omega) (by decide), in_nI (by omega) (by decide), hO.sz, ?_⟩
  have main : ∀ X : amI, frL I X → LK X n A → Wx z 0 0 35 [(0, .ref ((zB z).size + 46)), (2, .int (nI r)), (3, .int (nI s)), (4, .int (nI ((tyO n A).fs t / 16))), (5, .int (nI ((tyO n A).fs t % 16))), (6, .int (ivS n A ((tyO n A).fs t / 16) ((tyO n A).fs t % 16))), (7, .int (nI (ct (spP n A t r s) 0))), (8, .int (nI 0))] [] G X L := by
    refine for_up (P := fun x => ∀ X : amI, frL I X → LK X n A → Wx z 0 0 35 [(0, .ref ((zB z).size + 46)), (2, .int (nI r)), (3, .int (nI s)), (4, .int (nI ((tyO n A).fs t / 16))), (5, .int (nI ((tyO n A).fs t % 16))), (6, .int (ivS n A ((tyO n A).fs t / 16) ((tyO n A).fs t % 16))), (7, .int (nI (ct (spP n A t r s) x))), (8, .int (nI x))] [] G X L) (n := n) ?_ ?_ (Nat.zero_le _)
    · intro X x1 x2
      have xn : X 3 0 = nI n := by rw [x1 3 (by omega)]; exact hO.1
      exact b_X2_splits_35 hz hG ⟨fun _ => ⟨rfl, rfl, rfl, x1, x2⟩, fun h => absurd (sz_le xn h16) h⟩
    · intro x hx ih X x1 x2
      have hOX := OI_L hO x1
      have xn := hOX.1
      have no : spP n A t r s x = false → ∀ X, frL I X → LK X n A → Wx z 0 0 35 [(0, .ref ((zB z).size + 46)), (2, .int (nI r)), (3, .int (nI s)), (4, .int (nI ((tyO n A).fs t / 16))), (5, .int (nI ((tyO n A).fs t % 16))), (6, .int (ivS n A ((tyO n A).fs t / 16) ((tyO n A).fs t % 16))), (7, .int (nI (ct (spP n A t r s) x))), (8, .int (nI (x + 1)))] [] G X L := fun h X y1 y2 => by
        have hs1 : ct (spP n A t r s) (x + 1) = ct (spP n A t r s) x := by rw [ct, if_neg (by rw [h]; decide), Nat.add_zero]
        rw [hs1] at ih
        exact ih X y1 y2
      refine b_X2_splits_35 hz hG ⟨fun h => absurd h (sz_ge xn h16 hx), fun _ => ?_⟩
      rw [b_bit _ _ (show x < 32 by omega), nI_1 x]
      refine ⟨fun w => no (by rw [spP, Bool.not_eq_true] at *; rw [w]; rfl) X x1 x2, fun w => ?_⟩
      have hw := w
      rw [iv_b (by omega) f2 (by omega), Bool.and_eq_true, Bool.and_eq_true] at hw
      have t1 := tyO_lt (A := A) h16 f1 hx hw.2.1
      have t2 := tyO_lt (A := A) h16 hx f2 hw.2.2
      refine ⟨0, _, rfl, c_X2_typeOf hG _ _ hOX x2 rfl rfl f1 hx hw.2.1, fun ro2 G2 I2 L2 ⟨d1, d2, d3, d4, d5⟩ => ⟨_, d1, by rw [d2]; exact hG, ?_⟩⟩
      rw [d2, d3, nI_eq (by omega) (by omega)]
      refine ⟨fun g => no (by rw [spP, w, decide_eq_false g]; rfl) I2 (frL_t x1 d4) d5, fun g => ?_⟩
      refine ⟨0, _, rfl, c_X2_typeOf hG _ _ (OI_L hOX d4) d5 rfl rfl hx f2 hw.2.2, fun ro3 G3 I3 L3 ⟨c1, c2, c3, c4, c5⟩ => ⟨_, c1, by rw [c2]; exact hG, ?_⟩⟩
      rw [c2, c3, nI_eq (by omega) (by omega), nI_1]
      refine ⟨fun g2 => no (by rw [spP, w, decide_eq_true g, decide_eq_false g2]; rfl) I3 (frL_t x1 (frL_t d4 c4)) c5, fun g2 => ?_⟩
      have hs1 : ct (spP n A t r s) (x + 1) = ct (spP n A t r s) x + 1 := by rw [ct, if_pos (by rw [spP, w, decide_eq_true g, decide_eq_true g2]; rfl)]
      rw [hs1] at ih
      exact ih I3 (frL_t x1 (frL_t d4 c4)) c5
  exact main I frL_r hK
set_option maxRecDepth 100000 in
set_option maxHeartbeats 4000000 in
theorem b_X2_forget_0 {z : amZ} {post : amP} {G : amG} {I : amI} {L : amL} (hz : Go z cX2_forget RX2 1 none 0 0 0 post) (hG : Lay G)  (h : post none G (setI I 46 (upd (I 46) 12 (0 : Int32))) L) : Wx z 0 0 0 [(0, .ref ((zB z).size + 46))] [] G I L := by
  have hz1 := hz.1
  refine am_aload_n hz1 dX2_forget_0 0 rfl rfl ?_
  refine am_iconst (v := 0) hz1 dX2_forget_1 (by decide) ?_
  refine am_putI hz1 fl_X2_43 (ln_46 hG) (lk_46 hG) rfl rfl (fun _ => rfl) dX2_forget_2 ?_
  exact am_return hz dX2_forget_5 h
set_option maxRecDepth 100000 in
set_option maxHeartbeats 4000000 in
theorem c_X2_forget {l : Launch} {D : va_G} {B : Heap} {G : amG} {I : amI} {L : amL}  (hG : Lay G)    : Fx l D B yX2_forget cX2_forget 1 none 0 [.ref (B.size + 46)] G I L none (setI I 46 (upd (I 46) 12 0)) L := by
  refine Mx.of (by decide) rfl rfl (fun z e1 e2 e3 hz => ?_)
  subst e1; subst e2; subst e3
  refine b_X2_forget_0 hz hG ?_
  exact ⟨rfl, rfl, rfl, rfl⟩
