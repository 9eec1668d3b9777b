/-! THE REFERENCE: acts, second part: inverses, powers, tape, undone, kept, related, formed -/
def invM (n : Nat) (F : Nat → Nat → Int64) : Bool := scan (fun a => decide (¬ F a a = 1) && decide (¬ F a a = -1)) (fun _ => false) true n 0
def xInvert (s : St) (f x : Int32) : Int32 × St :=
  if (inR 3 f && inR 3 x) = true then
    (if invM (rN (sC s)) (fnF s x.toNatClampNeg) = true then (if anyB (rN (sC s)) (rA (sC s)) (ivO (rN (sC s)) (rA (sC s)) (fnF s x.toNatClampNeg)) = true then (-3, s) else (1, storeS s f.toNatClampNeg (iv (rN (sC s)) (rA (sC s)) (fnF s x.toNatClampNeg)))) else (-2, s))
  else (-1, s)
theorem ivx_M {L : amL} {n : Nat} {A : Nat → Int32} (hM : MO L n A) {a b : Nat} (ha : a < n) (hb : b < n) : m_ivx L (nI a) (nI b) = A a &&& dnS n A b := by
  have h16 := hM.2.1
  have hP := hM.2.2.1
  apply b_ext
  intro i hi
  rw [ivx_b (by omega) hi, hM.iv ha hb, iv_b (by omega) hb hi, b_and, dn_b (by omega) hb hi]
  by_cases hn : i < n
  · rw [lt_b hP (by omega) ha hn, decide_eq_true hn]
    rw [show decide (i = a) = !decide (¬ a = i) from by
      by_cases e : a = i
      · rw [decide_eq_true e.symm, decide_eq_false (not_not_intro e)]; rfl
      · rw [decide_eq_false (Ne.symm e), decide_eq_true e]; rfl]
    cases le A a i <;> cases le A i b <;> cases decide (¬ a = i) <;> rfl
  · rw [decide_eq_false hn]; simp
theorem inv_M {L : amL} {n : Nat} {A : Nat → Int32} {F : Nat → Nat → Int64} (hM : MO L n A) (h73 : ∀ a b, a < n → b < n → L 73 (16 * a + b) = F a b) {a b : Nat} (ha : a < n) (hb : b < n) (hl : le A a b = true) (h72 : ∀ y, y < n → le A a y = true → le A y b = true → y ≠ a → L 72 (16 * y + b) = iv n A F y b) : m_inv L (nI a) (nI b) = iv n A F a b ∧ m_invO L (nI a) (nI b) = ivO n A F a b := by
  have h16 := hM.2.1
  have hP := hM.2.2.1
  have hc : ∀ w, w < n → bt (A a &&& dnS n A b) w = true → L 73 (16 * a + w) = F a w ∧ L 72 (16 * w + b) = iv n A F w b := by
    intro w hw q
    rw [b_and, dn_b (by omega) hb (by omega), lt_b hP (by omega) ha hw, Bool.and_eq_true, Bool.and_eq_true, Bool.and_eq_true, decide_eq_true_eq] at q
    exact ⟨h73 a w ha hw, h72 w hw q.1.2 q.2.2 (Ne.symm q.1.1)⟩
  rw [iv_is hP ha, m_inv, m_invO, m_invT, ivx_M hM ha hb, hM.N, cl_nI (n := a) (by omega), cl_nI (n := b) (by omega), h73 a a ha ha, ivO, ivT]
  rw [tS_c (f' := F a) (g' := fun y => iv n A F y b) hc, oS_c (f' := F a) (g' := fun y => iv n A F y b) hc]
  by_cases e : a = b
  · subst e
    rw [if_pos rfl, if_pos rfl, if_pos rfl, hP.2.1 a ha]; exact ⟨rfl, rfl⟩
  · have hlt : bt (A a) b = true := by rw [lt_b hP (by omega) ha hb, hl, decide_eq_true e]; rfl
    rw [if_neg (fun q => e ((nI_eq (by omega) (by omega)).mp q)), if_neg e, if_pos hlt, if_neg (fun q => e ((nI_eq (by omega) (by omega)).mp q)), hlt, Bool.true_and]
    exact ⟨rfl, rfl⟩
theorem iv_0 {n : Nat} {A : Nat → Int32} {F : Nat → Nat → Int64} (hP : PO n A) (h32 : n ≤ 32) {a b : Nat} (ha : a < n) (hb : b < n) (hl : le A a b = false) : iv n A F a b = 0 := by
  rw [le_b (by omega) (by omega), Bool.or_eq_false_iff, decide_eq_false_iff_not] at hl
  rw [iv_is hP ha, if_neg (Ne.symm hl.2), if_neg (by rw [hl.1]; decide)]
set_option maxRecDepth 100000 in
set_option maxHeartbeats 4000000 in
theorem b_X12_invert_0 {z : amZ} {post : amP} {G : amG} {I : amI} {L : amL} (hz : Go z cX12_invert RX12 6 (some .int) 5 0 0 post) (hG : Lay G) {v1 : Int32} {v2 : Int32} (h : ((m_isIn v1.toInt64 0 3 = false) → post (some (.int (-1))) G I L) ∧ ((m_isIn v1.toInt64 0 3 = true) → ((m_isIn v2.toInt64 0 3 = true) → (73 ≠ 65) ∧ (fnOk v2) ∧ Wx z 0 0 27 [(0, .ref ((zB z).size + 64)), (1, .int v1), (3, .int 0)] [] G I (setL L 73 (wr (L 73) 0 256 (fun j => L 65 (17 + 256 * v2.toNatClampNeg + j))))) ∧ ((m_isIn v2.toInt64 0 3 = false) → post (some (.int (-1))) G I L))) : Wx z 0 0 0 [(0, .ref ((zB z).size + 64)), (1, .int v1), (2, .int v2)] [] G I L := by
  have hz1 := hz.1
  refine am_iload_n hz1 dX12_invert_0 1 rfl rfl ?_
  refine am_cSf hz ct_X12_290 [.int v1] [] (c_X12_isFunction hG v1 ) rfl rfl rfl ⟨Nat.le_refl _, Nat.le_refl _⟩ (Nat.le_of_ble_eq_true rfl) dX12_invert_1 ?_
  refine am_ifb_eq (tgt := 14) hz1 dX12_invert_4 (by decide) (fun c1 => ?_) (fun c1 => ?_)
  · replace h := h.1 c1
    refine am_iconst (v := (-1)) hz1 dX12_invert_14 (by decide) ?_
    exact am_ireturn hz dX12_invert_15 h
  · replace h := h.2 c1
    refine am_iload_n hz1 dX12_invert_7 2 rfl rfl ?_
    refine am_cSf hz ct_X12_290 [.int v2] [] (c_X12_isFunction hG v2 ) rfl rfl rfl ⟨Nat.le_refl _, Nat.le_refl _⟩ (Nat.le_of_ble_eq_true rfl) dX12_invert_8 ?_
    refine am_ifb_ne (tgt := 16) hz1 dX12_invert_11 (by decide) (fun c2 => ?_) (fun c2 => ?_)
    · replace h := h.1 c2
      refine am_aload_n hz1 dX12_invert_16 0 rfl rfl ?_
      refine am_aload_n hz1 dX12_invert_17 0 rfl rfl ?_
      refine am_getR hz1 fl_X12_38 (ln_64 hG) (lk_64 hG) (lr_64_17 hG) rfl dX12_invert_18 ?_
      refine am_iload_n hz1 dX12_invert_21 2 rfl rfl ?_
      obtain ⟨g3, h⟩ := h
      obtain ⟨g4, h⟩ := h
      refine am_cVf hz cv_X12_320 [.ref ((zB z).size + 73), .int v2] [] (c_X12_takes hG (ln_73 hG) (lk_73 hG) (ll_73 hG) v2 g3 g4) (ln_64 hG) (lk_64 hG) rfl rfl rfl ⟨Nat.le_refl _, Nat.le_refl _⟩ (Nat.le_of_ble_eq_true rfl) dX12_invert_22 ?_
      refine am_iconst (v := 0) hz1 dX12_invert_25 (by decide) ?_
      refine am_istore_n (lv' := [(3, .int 0), (0, .ref ((zB z).size + 64)), (1, .int v1), (2, .int v2)]) hz1 dX12_invert_26 rfl rfl rfl ?_
      exact am_sub (lv' := [(0, .ref ((zB z).size + 64)), (1, .int v1), (3, .int 0)]) [1, 2, 0] rfl h
    · replace h := h.2 c2
      refine am_iconst (v := (-1)) hz1 dX12_invert_14 (by decide) ?_
      exact am_ireturn hz dX12_invert_15 h
set_option maxRecDepth 100000 in
set_option maxHeartbeats 4000000 in
theorem b_X12_invert_27 {z : amZ} {post : amP} {G : amG} {I : amI} {L : amL} (hz : Go z cX12_invert RX12 6 (some .int) 5 0 0 post) (hG : Lay G) {v1 : Int32} {v3 : Int32} (h : (((m_many L) ≤ v3) → Wx z 0 0 89 [(0, .ref ((zB z).size + 64)), (1, .int v1), (3, .int 1)] [] G (setI I 64 (upd (I 64) 15 (0 : Int32))) (setL L 72 (wr (L 72) 0 256 (fun _ => 0)))) ∧ ((¬ (m_many L) ≤ v3) → vp_in (((16 : Int32) * v3) + v3) 256 ∧ (((L 73 (((16 : Int32) * v3) + v3).toNatClampNeg) = (1 : Int64)) → Wx z 0 0 27 [(0, .ref ((zB z).size + 64)), (1, .int v1), (3, .int (v3 + 1))] [] G I L) ∧ ((¬ (L 73 (((16 : Int32) * v3) + v3).toNatClampNeg) = (1 : Int64)) → vp_in (((16 : Int32) * v3) + v3) 256 ∧ (((L 73 (((16 : Int32) * v3) + v3).toNatClampNeg) = (-1 : Int64)) → Wx z 0 0 27 [(0, .ref ((zB z).size + 64)), (1, .int v1), (3, .int (v3 + 1))] [] G I L) ∧ ((¬ (L 73 (((16 : Int32) * v3) + v3).toNatClampNeg) = (-1 : Int64)) → post (some (.int (-2))) G I L)))) : Wx z 0 0 27 [(0, .ref ((zB z).size + 64)), (1, .int v1), (3, .int v3)] [] G I L := by
  have hz1 := hz.1
  refine am_iload_n hz1 dX12_invert_27 2 rfl rfl ?_
  refine am_aload_n hz1 dX12_invert_28 0 rfl rfl ?_
  refine am_cVf hz cv_X12_78 [] [.int v3] (c_X12_many hG  ) (ln_64 hG) (lk_64 hG) rfl rfl rfl ⟨Nat.le_refl _, Nat.le_refl _⟩ (Nat.le_of_ble_eq_true rfl) dX12_invert_29 ?_
  refine am_icmp_ge (tgt := 78) hz1 dX12_invert_32 (by decide) (fun c1 => ?_) (fun c1 => ?_)
  · replace h := h.1 c1
    refine am_aload_n hz1 dX12_invert_78 0 rfl rfl ?_
    refine am_iconst (v := 0) hz1 dX12_invert_79 (by decide) ?_
    refine am_putI hz1 fl_X12_271 (ln_64 hG) (lk_64 hG) rfl rfl (fun _ => rfl) dX12_invert_80 ?_
    refine am_aload_n hz1 dX12_invert_83 0 rfl rfl ?_
    refine am_cVf hz cv_X12_276 [] [] (c_X12_empties hG  ) (ln_64 hG) (lk_64 hG) rfl rfl rfl ⟨Nat.le_refl _, Nat.le_refl _⟩ (Nat.le_of_ble_eq_true rfl) dX12_invert_84 ?_
    refine am_iconst (v := 1) hz1 dX12_invert_87 (by decide) ?_
    refine am_istore_n (lv' := [(3, .int 1), (0, .ref ((zB z).size + 64)), (1, .int v1)]) hz1 dX12_invert_88 rfl rfl rfl ?_
    exact am_sub (lv' := [(0, .ref ((zB z).size + 64)), (1, .int v1), (3, .int 1)]) [1, 2, 0] rfl h
  · replace h := h.2 c1
    refine am_aload_n hz1 dX12_invert_35 0 rfl rfl ?_
    refine am_getR hz1 fl_X12_38 (ln_64 hG) (lk_64 hG) (lr_64_17 hG) rfl dX12_invert_36 ?_
    refine am_bipush (v := 16) hz1 dX12_invert_39 (by decide) ?_
    refine am_iload_n hz1 dX12_invert_41 2 rfl rfl ?_
    refine am_imul hz1 dX12_invert_42 ?_
    refine am_iload_n hz1 dX12_invert_43 2 rfl rfl ?_
    refine am_iadd hz1 dX12_invert_44 ?_
    obtain ⟨g2, h⟩ := h
    refine am_lald hz1 (ln_73 hG) (lk_73 hG) (by rw [(ll_73 hG)]; exact g2) dX12_invert_45 ?_
    refine am_lconst (v := 1) hz1 dX12_invert_46 (by decide) ?_
    refine am_lif_eq (tgt := 72) hz1 dX12_invert_47 dX12_invert_48 (by decide) (fun c3 => ?_) (fun c3 => ?_)
    · replace h := h.1 c3
      refine am_iinc (v := v3 + 1) (lv' := [(3, .int (v3 + 1)), (0, .ref ((zB z).size + 64)), (1, .int v1)]) hz1 dX12_invert_72 2 rfl rfl rfl rfl ?_
      refine am_goto (tgt := 27) hz1 dX12_invert_75 (by decide) ?_
      exact am_sub (lv' := [(0, .ref ((zB z).size + 64)), (1, .int v1), (3, .int (v3 + 1))]) [1, 2, 0] rfl h
    · replace h := h.2 c3
      refine am_aload_n hz1 dX12_invert_51 0 rfl rfl ?_
      refine am_getR hz1 fl_X12_38 (ln_64 hG) (lk_64 hG) (lr_64_17 hG) rfl dX12_invert_52 ?_
      refine am_bipush (v := 16) hz1 dX12_invert_55 (by decide) ?_
      refine am_iload_n hz1 dX12_invert_57 2 rfl rfl ?_
      refine am_imul hz1 dX12_invert_58 ?_
      refine am_iload_n hz1 dX12_invert_59 2 rfl rfl ?_
      refine am_iadd hz1 dX12_invert_60 ?_
      obtain ⟨g4, h⟩ := h
      refine am_lald hz1 (ln_73 hG) (lk_73 hG) (by rw [(ll_73 hG)]; exact g4) dX12_invert_61 ?_
      refine am_ldc2 hz1 kc_X12_118 dX12_invert_62 ?_
      refine am_lif_eq (tgt := 72) hz1 dX12_invert_65 dX12_invert_66 (by decide) (fun c5 => ?_) (fun c5 => ?_)
      · replace h := h.1 c5
        refine am_iinc (v := v3 + 1) (lv' := [(3, .int (v3 + 1)), (0, .ref ((zB z).size + 64)), (1, .int v1)]) hz1 dX12_invert_72 2 rfl rfl rfl rfl ?_
        refine am_goto (tgt := 27) hz1 dX12_invert_75 (by decide) ?_
        exact am_sub (lv' := [(0, .ref ((zB z).size + 64)), (1, .int v1), (3, .int (v3 + 1))]) [1, 2, 0] rfl h
      · replace h := h.2 c5
        refine am_bipush (v := (-2)) hz1 dX12_invert_69 (by decide) ?_
        exact am_ireturn hz dX12_invert_71 h
set_option maxRecDepth 100000 in
set_option maxHeartbeats 4000000 in
theorem b_X12_invert_89 {z : amZ} {post : amP} {G : amG} {I : amI} {L : amL} (hz : Go z cX12_invert RX12 6 (some .int) 5 0 0 post) (hG : Lay G) {v1 : Int32} {v3 : Int32} (h : (((m_many L) < v3) → (((I 64 15) = 0) → (muOk I) ∧ (fnOk v1) ∧ post (some (.int 1)) G (setI I 64 (upd (I 64) 2 (nI (kaU I + 1)))) (setL (setL L 66 (m_ka I L)) 65 (wr ((setL L 66 (m_ka I L)) 65) (17 + 256 * v1.toNatClampNeg) 256 ((setL L 66 (m_ka I L)) 72)))) ∧ ((¬ (I 64 15) = 0) → post (some (.int (-3))) G I L)) ∧ ((¬ (m_many L) < v3) → Wx z 0 0 100 [(0, .ref ((zB z).size + 64)), (1, .int v1), (3, .int v3), (4, .int 0)] [] G I L)) : Wx z 0 0 89 [(0, .ref ((zB z).size + 64)), (1, .int v1), (3, .int v3)] [] G I L := by
  have hz1 := hz.1
  refine am_iload_n hz1 dX12_invert_89 2 rfl rfl ?_
  refine am_aload_n hz1 dX12_invert_90 0 rfl rfl ?_
  refine am_cVf hz cv_X12_78 [] [.int v3] (c_X12_many hG  ) (ln_64 hG) (lk_64 hG) rfl rfl rfl ⟨Nat.le_refl _, Nat.le_refl _⟩ (Nat.le_of_ble_eq_true rfl) dX12_invert_91 ?_
  refine am_icmp_gt (tgt := 186) hz1 dX12_invert_94 (by decide) (fun c1 => ?_) (fun c1 => ?_)
  · replace h := h.1 c1
    refine am_aload_n hz1 dX12_invert_186 0 rfl rfl ?_
    refine am_getI hz1 fl_X12_271 (ln_64 hG) (lk_64 hG) rfl dX12_invert_187 ?_
    refine am_if_eq (tgt := 196) hz1 dX12_invert_190 (by decide) (fun c2 => ?_) (fun c2 => ?_)
    · replace h := h.1 c2
      refine am_aload_n hz1 dX12_invert_196 0 rfl rfl ?_
      obtain ⟨g3, h⟩ := h
      refine am_cVf hz cv_X12_233 [] [] (c_X12_keepsAct hG  g3) (ln_64 hG) (lk_64 hG) rfl rfl rfl ⟨Nat.le_refl _, Nat.le_refl _⟩ (Nat.le_of_ble_eq_true rfl) dX12_invert_197 ?_
      refine am_aload_n hz1 dX12_invert_200 0 rfl rfl ?_
      refine am_iload_n hz1 dX12_invert_201 1 rfl rfl ?_
      obtain ⟨g4, h⟩ := h
      refine am_cVf hz cv_X12_298 [.int v1] [] (c_X12_takesMade hG v1 g4) (ln_64 hG) (lk_64 hG) rfl rfl rfl ⟨Nat.le_refl _, Nat.le_refl _⟩ (Nat.le_of_ble_eq_true rfl) dX12_invert_202 ?_
      refine am_iconst (v := 1) hz1 dX12_invert_205 (by decide) ?_
      exact am_ireturn hz dX12_invert_206 h
    · replace h := h.2 c2
      refine am_bipush (v := (-3)) hz1 dX12_invert_193 (by decide) ?_
      exact am_ireturn hz dX12_invert_195 h
  · replace h := h.2 c1
    refine am_iconst (v := 0) hz1 dX12_invert_97 (by decide) ?_
    refine am_istore (lv' := [(4, .int 0), (0, .ref ((zB z).size + 64)), (1, .int v1), (3, .int v3)]) hz1 dX12_invert_98 rfl rfl ?_
    exact am_sub (lv' := [(0, .ref ((zB z).size + 64)), (1, .int v1), (3, .int v3), (4, .int 0)]) [1, 2, 3, 0] rfl h
set_option maxRecDepth 100000 in
set_option maxHeartbeats 4000000 in
theorem b_X12_invert_100 {z : amZ} {post : amP} {G : amG} {I : amI} {L : amL} (hz : Go z cX12_invert RX12 6 (some .int) 5 0 0 post) (hG : Lay G) {v1 : Int32} {v3 : Int32} {v4 : Int32} (h : (((m_many L) ≤ v4) → Wx z 0 0 89 [(0, .ref ((zB z).size + 64)), (1, .int v1), (3, .int (v3 + 1))] [] G I L) ∧ ((¬ (m_many L) ≤ v4) → Wx z 0 0 112 [(0, .ref ((zB z).size + 64)), (1, .int v1), (3, .int v3), (4, .int v4), (5, .int 0)] [] G I L)) : Wx z 0 0 100 [(0, .ref ((zB z).size + 64)), (1, .int v1), (3, .int v3), (4, .int v4)] [] G I L := by
  have hz1 := hz.1
  refine am_iload hz1 dX12_invert_100 3 rfl ?_
  refine am_aload_n hz1 dX12_invert_102 0 rfl rfl ?_
  refine am_cVf hz cv_X12_78 [] [.int v4] (c_X12_many hG  ) (ln_64 hG) (lk_64 hG) rfl rfl rfl ⟨Nat.le_refl _, Nat.le_refl _⟩ (Nat.le_of_ble_eq_true rfl) dX12_invert_103 ?_
  refine am_icmp_ge (tgt := 180) hz1 dX12_invert_106 (by decide) (fun c1 => ?_) (fun c1 => ?_)
  · replace h := h.1 c1
    refine am_iinc (v := v3 + 1) (lv' := [(3, .int (v3 + 1)), (0, .ref ((zB z).size + 64)), (1, .int v1), (4, .int v4)]) hz1 dX12_invert_180 2 rfl rfl rfl rfl ?_
    refine am_goto (tgt := 89) hz1 dX12_invert_183 (by decide) ?_
    exact am_sub (lv' := [(0, .ref ((zB z).size + 64)), (1, .int v1), (3, .int (v3 + 1))]) [1, 2, 0] rfl h
  · replace h := h.2 c1
    refine am_iconst (v := 0) hz1 dX12_invert_109 (by decide) ?_
    refine am_istore (lv' := [(5, .int 0), (0, .ref ((zB z).size + 64)), (1, .int v1), (3, .int v3), (4, .int v4)]) hz1 dX12_invert_110 rfl rfl ?_
    exact am_sub (lv' := [(0, .ref ((zB z).size + 64)), (1, .int v1), (3, .int v3), (4, .int v4), (5, .int 0)]) [1, 2, 3, 4, 0] rfl h
set_option maxRecDepth 100000 in
set_option maxHeartbeats 4000000 in
theorem b_X12_invert_112 {z : amZ} {post : amP} {G : amG} {I : amI} {L : amL} (hz : Go z cX12_invert RX12 6 (some .int) 5 0 0 post) (hG : Lay G) {v1 : Int32} {v3 : Int32} {v4 : Int32} {v5 : Int32} (h : (((m_many L) ≤ v5) → Wx z 0 0 100 [(0, .ref ((zB z).size + 64)), (1, .int v1), (3, .int v3), (4, .int (v4 + 1))] [] G I L) ∧ ((¬ (m_many L) ≤ v5) → (vp_in v4 16) ∧ ((m_am L v4 v5 = false) → Wx z 0 0 112 [(0, .ref ((zB z).size + 64)), (1, .int v1), (3, .int v3), (4, .int v4), (5, .int (v5 + 1))] [] G I L) ∧ ((m_am L v4 v5 = true) → (mOk L) ∧ (vp_in v4 16) ∧ (s16 (m_iv L v4 v5)) ∧ ((¬ (m_size (m_iv L v4 v5)) = v3) → Wx z 0 0 112 [(0, .ref ((zB z).size + 64)), (1, .int v1), (3, .int v3), (4, .int v4), (5, .int (v5 + 1))] [] G I L) ∧ (((m_size (m_iv L v4 v5)) = v3) → (mOk L) ∧ (vp_in v4 16) ∧ (vp_in v5 16) ∧ vp_in (((16 : Int32) * v4) + v5) 256 ∧ Wx z 0 0 112 [(0, .ref ((zB z).size + 64)), (1, .int v1), (3, .int v3), (4, .int v4), (5, .int (v5 + 1))] [] G (oI I (m_invO L v4 v5)) (setL L 72 (vp_updL (L 72) (((16 : Int32) * v4) + v5).toNatClampNeg (m_inv L v4 v5))))))) : Wx z 0 0 112 [(0, .ref ((zB z).size + 64)), (1, .int v1), (3, .int v3), (4, .int v4), (5, .int v5)] [] G I L := by
  have hz1 := hz.1
  refine am_iload hz1 dX12_invert_112 4 rfl ?_
  refine am_aload_n hz1 dX12_invert_114 0 rfl rfl ?_
  refine am_cVf hz cv_X12_78 [] [.int v5] (c_X12_many hG  ) (ln_64 hG) (lk_64 hG) rfl rfl rfl ⟨Nat.le_refl _, Nat.le_refl _⟩ (Nat.le_of_ble_eq_true rfl) dX12_invert_115 ?_
  refine am_icmp_ge (tgt := 174) hz1 dX12_invert_118 (by decide) (fun c1 => ?_) (fun c1 => ?_)
  · replace h := h.1 c1
    refine am_iinc (v := v4 + 1) (lv' := [(4, .int (v4 + 1)), (0, .ref ((zB z).size + 64)), (1, .int v1), (3, .int v3), (5, .int v5)]) hz1 dX12_invert_174 3 rfl rfl rfl rfl ?_
    refine am_goto (tgt := 100) hz1 dX12_invert_177 (by decide) ?_
    exact am_sub (lv' := [(0, .ref ((zB z).size + 64)), (1, .int v1), (3, .int v3), (4, .int (v4 + 1))]) [1, 2, 3, 0] rfl h
  · replace h := h.2 c1
    refine am_aload_n hz1 dX12_invert_121 0 rfl rfl ?_
    refine am_iload hz1 dX12_invert_122 3 rfl ?_
    refine am_iload hz1 dX12_invert_124 4 rfl ?_
    obtain ⟨g2, h⟩ := h
    refine am_cVf hz cv_X12_94 [.int v4, .int v5] [] (c_X12_isAtMost hG v4 v5 g2) (ln_64 hG) (lk_64 hG) rfl rfl rfl ⟨Nat.le_refl _, Nat.le_refl _⟩ (Nat.le_of_ble_eq_true rfl) dX12_invert_126 ?_
    refine am_ifb_eq (tgt := 168) hz1 dX12_invert_129 (by decide) (fun c3 => ?_) (fun c3 => ?_)
    · replace h := h.1 c3
      refine am_iinc (v := v5 + 1) (lv' := [(5, .int (v5 + 1)), (0, .ref ((zB z).size + 64)), (1, .int v1), (3, .int v3), (4, .int v4)]) hz1 dX12_invert_168 4 rfl rfl rfl rfl ?_
      refine am_goto (tgt := 112) hz1 dX12_invert_171 (by decide) ?_
      exact am_sub (lv' := [(0, .ref ((zB z).size + 64)), (1, .int v1), (3, .int v3), (4, .int v4), (5, .int (v5 + 1))]) [1, 2, 3, 4, 0] rfl h
    · replace h := h.2 c3
      refine am_aload_n hz1 dX12_invert_132 0 rfl rfl ?_
      refine am_iload hz1 dX12_invert_133 3 rfl ?_
      refine am_iload hz1 dX12_invert_135 4 rfl ?_
      obtain ⟨g4, h⟩ := h
      obtain ⟨g5, h⟩ := h
      refine am_cVf hz cv_X12_107 [.int v4, .int v5] [] (c_X12_interval hG v4 v5 g4 g5) (ln_64 hG) (lk_64 hG) rfl rfl rfl ⟨Nat.le_refl _, Nat.le_refl _⟩ (Nat.le_of_ble_eq_true rfl) dX12_invert_137 ?_
      obtain ⟨g6, h⟩ := h
      refine am_cSf hz ct_X12_111 [.int (m_iv L v4 v5)] [] (c_X12_size hG (m_iv L v4 v5) g6) rfl rfl rfl ⟨Nat.le_refl _, Nat.le_refl _⟩ (Nat.le_of_ble_eq_true rfl) dX12_invert_140 ?_
      refine am_iload_n hz1 dX12_invert_143 2 rfl rfl ?_
      refine am_icmp_ne (tgt := 168) hz1 dX12_invert_144 (by decide) (fun c7 => ?_) (fun c7 => ?_)
      · replace h := h.1 c7
        refine am_iinc (v := v5 + 1) (lv' := [(5, .int (v5 + 1)), (0, .ref ((zB z).size + 64)), (1, .int v1), (3, .int v3), (4, .int v4)]) hz1 dX12_invert_168 4 rfl rfl rfl rfl ?_
        refine am_goto (tgt := 112) hz1 dX12_invert_171 (by decide) ?_
        exact am_sub (lv' := [(0, .ref ((zB z).size + 64)), (1, .int v1), (3, .int v3), (4, .int v4), (5, .int (v5 + 1))]) [1, 2, 3, 4, 0] rfl h
      · replace h := h.2 c7
        refine am_aload_n hz1 dX12_invert_147 0 rfl rfl ?_
        refine am_getR hz1 fl_X12_35 (ln_64 hG) (lk_64 hG) (lr_64_16 hG) rfl dX12_invert_148 ?_
        refine am_bipush (v := 16) hz1 dX12_invert_151 (by decide) ?_
        refine am_iload hz1 dX12_invert_153 3 rfl ?_
        refine am_imul hz1 dX12_invert_155 ?_
        refine am_iload hz1 dX12_invert_156 4 rfl ?_
        refine am_iadd hz1 dX12_invert_158 ?_
        refine am_aload_n hz1 dX12_invert_159 0 rfl rfl ?_
        refine am_iload hz1 dX12_invert_160 3 rfl ?_
        refine am_iload hz1 dX12_invert_162 4 rfl ?_
        obtain ⟨g8, h⟩ := h
        obtain ⟨g9, h⟩ := h
        obtain ⟨g10, h⟩ := h
        refine am_cVf hz cv_X12_327 [.int v4, .int v5] [.int (((16 : Int32) * v4) + v5), .ref ((zB z).size + 72)] (c_X12_inverted hG v4 v5 g8 g9 g10) (ln_64 hG) (lk_64 hG) rfl rfl rfl ⟨Nat.le_refl _, Nat.le_refl _⟩ (Nat.le_of_ble_eq_true rfl) dX12_invert_164 ?_
        obtain ⟨g11, h⟩ := h
        refine am_last hz1 (ln_72 hG) (lk_72 hG) (by rw [(ll_72 hG)]; exact g11) dX12_invert_167 ?_
        refine am_iinc (v := v5 + 1) (lv' := [(5, .int (v5 + 1)), (0, .ref ((zB z).size + 64)), (1, .int v1), (3, .int v3), (4, .int v4)]) hz1 dX12_invert_168 4 rfl rfl rfl rfl ?_
        refine am_goto (tgt := 112) hz1 dX12_invert_171 (by decide) ?_
        exact am_sub (lv' := [(0, .ref ((zB z).size + 64)), (1, .int v1), (3, .int v3), (4, .int v4), (5, .int (v5 + 1))]) [1, 2, 3, 4, 0] rfl h
set_option maxRecDepth 100000 in
set_option maxHeartbeats 4000000 in
theorem c_X12_invert {l : Launch} {D : va_G} {B : Heap} {G : amG} {I : amI} {L : amL}  (hG : Lay G)  (v1 : Int32) (v2 : Int32) {s : St} (hs : RI s I L) (hw : WF s) : Mx l D B yX12_invert cX12_invert 6 (some .int) 5 0 0 [.ref (B.size + 64), .int v1, .int v2] G I L (fun r G1 I1 L1 => r = some (.int (xInvert s v1 v2).1) ∧ G1 = G ∧ RI (xInvert s v1 v2).2 I1 L1 ∧ frM I L I1 L1) := by
  refine Mx.of (by decide) rfl rfl (fun z e1 e2 e3 hz => ?_)
  subst e1; subst e2; subst e3
  refine b_X12_invert_0 hz hG ?_
  have hM := hs.1.mo
  have h16 := hM.2.1
  have h1 := hM.1
  have hP := hM.2.2.1
  have hno : (inR 3 v1 && inR 3 v2) = false → xInvert s v1 v2 = (-1, s) := fun h => by rw [xInvert, if_neg (by rw [h]; decide)]
  rw [isIn3, isIn3]
  refine ⟨fun h => ?_, fun h => ⟨fun h2 => ?_, fun h2 => ?_⟩⟩
  · rw [hno (by rw [h]; rfl)]; exact ⟨rfl, rfl, hs, frM_r⟩
  · obtain ⟨f, hf, rfl⟩ := fnR h
    obtain ⟨x, hx, rfl⟩ := fnR h2
    have ef : (nI f).toNatClampNeg = f := cl_nI (by omega)
    have ex : (nI x).toNatClampNeg = x := cl_nI (by omega)
    refine ⟨by decide, ⟨x, hx, rfl⟩, ?_⟩
    rw [ex]
    generalize hL0 : setL L 73 (wr (L 73) 0 256 (fun j => L 65 (17 + 256 * x + j))) = L0
    have e65 : L0 65 = L 65 := by rw [← hL0, setL_n (by decide)]
    have e66 : L0 66 = L 66 := by rw [← hL0, setL_n (by decide)]
    have e73 : ∀ a b, a < 16 → b < 16 → L0 73 (16 * a + b) = fnF s x a b := fun a b ha hb => by
      rw [← hL0, setL_s, wr_in (by omega), Nat.sub_zero]
      exact one_F hs hx (by omega) rfl
    have fr0 : frM I L I L0 := by rw [← hL0]; exact frM_L (by decide) (by decide)
    have hM0 : MO L0 (rN (sC s)) (rA (sC s)) := MO_c hM e65
    have hs0 : RI s I L0 := RI_L hs e65 e66
    have hxi : xInvert s (nI f) (nI x) = if invM (rN (sC s)) (fnF s x) = true then (if anyB (rN (sC s)) (rA (sC s)) (ivO (rN (sC s)) (rA (sC s)) (fnF s x)) = true then (-3, s) else (1, storeS s f (iv (rN (sC s)) (rA (sC s)) (fnF s x)))) else (-2, s) := by
      rw [xInvert, if_pos (by rw [h, h2]; rfl), ef, ex]
    refine for_up (P := fun i => scan (fun a => decide (¬ fnF s x a a = 1) && decide (¬ fnF s x a a = -1)) (fun _ => false) true (rN (sC s) - i) i = invM (rN (sC s)) (fnF s x) → Wx z 0 0 27 [(0, .ref ((zB z).size + 64)), (1, .int (nI f)), (3, .int (nI i))] [] G I L0) (n := rN (sC s)) ?_ ?_ (Nat.zero_le _) (by rw [Nat.sub_zero, invM])
    · intro e
      rw [scan_0] at e
      rw [if_pos e.symm] at hxi
      refine b_X12_invert_27 hz hG ⟨fun _ => ?_, fun q => absurd (mm_le hM0) q⟩
      have hM' : ∀ g, MO (setL L0 72 g) (rN (sC s)) (rA (sC s)) := fun g => MO_72 hM0 (by decide)
      have outer : ∀ g c, RK (rN (sC s)) (le (rA (sC s))) (rkS (rN (sC s)) (rA (sC s))) (iv (rN (sC s)) (rA (sC s)) (fnF s x)) (ivO (rN (sC s)) (rA (sC s)) (fnF s x)) (1 + 0) 0 0 g c → Wx z 0 0 89 [(0, .ref ((zB z).size + 64)), (1, .int (nI f)), (3, .int (nI (1 + 0)))] [] G (oI (setI I 64 (upd (I 64) 15 0)) c) (setL L0 72 g) := by
        refine for_up (P := fun k => ∀ g c, RK (rN (sC s)) (le (rA (sC s))) (rkS (rN (sC s)) (rA (sC s))) (iv (rN (sC s)) (rA (sC s)) (fnF s x)) (ivO (rN (sC s)) (rA (sC s)) (fnF s x)) (1 + k) 0 0 g c → Wx z 0 0 89 [(0, .ref ((zB z).size + 64)), (1, .int (nI f)), (3, .int (nI (1 + k)))] [] G (oI (setI I 64 (upd (I 64) 15 0)) c) (setL L0 72 g)) (n := rN (sC s)) ?_ ?_ (Nat.zero_le _)
        · intro g c hg
          rw [Nat.add_comm 1 (rN (sC s))] at hg ⊢
          obtain ⟨hK, hc⟩ := RK_end hg (fun a b ha hb _ => rk_le h16 hb)
          have hs2 : RI s (oI (setI I 64 (upd (I 64) 15 0)) c) (setL L0 72 g) := RI_L (RI_o (RI_64 hs0 (by decide) (by decide) (by decide) (by decide) (by decide))) (setL_n (by decide)) (setL_n (by decide))
          have fr2 : frM I L (oI (setI I 64 (upd (I 64) 15 0)) c) (setL L0 72 g) := frM_t fr0 (frM_t frM_64 (frM_t frM_o (frM_L (by decide) (by decide))))
          have hc2 : c = anyB (rN (sC s)) (rA (sC s)) (ivO (rN (sC s)) (rA (sC s)) (fnF s x)) := by rw [Bool.eq_iff_iff, hc, anyB_t]
          have h15 : oI (setI I 64 (upd (I 64) 15 0)) c 64 15 = bI c := by rw [oI_v (b := false) (by rw [setI_s, upd_s]; rfl), Bool.false_or]
          refine b_X12_invert_89 hz hG ⟨fun _ => ?_, fun q => absurd (mm_lt' (hM' g)) q⟩
          rw [h15, bI_z]
          refine ⟨fun q => ⟨mu_ok hs2 hw, ⟨f, hf, rfl⟩, ?_⟩, fun q => ?_⟩
          · rw [if_neg (by rw [← hc2, q]; decide)] at hxi
            rw [hxi, ef, setL_n (q := 72) (by decide)]
            refine ⟨rfl, rfl, ?_, frM_t fr2 (frM_t KA_fr (frM_L (by decide) (by decide)))⟩
            refine STO (KA hs2 hw) hf ?_
            rw [setL_s]
            refine KV_c hK (fun a b ha hb => ?_)
            show (if le (rA (sC s)) a b = true then iv (rN (sC s)) (rA (sC s)) (fnF s x) a b else 0) = _
            by_cases hl : le (rA (sC s)) a b = true
            · rw [if_pos hl]
            · rw [if_neg hl]
              rw [Bool.not_eq_true] at hl
              rw [iv_0 hP (by omega) ha hb hl]
          · rw [Bool.not_eq_false] at q
            rw [if_pos (by rw [← hc2, q])] at hxi
            rw [hxi]
            exact ⟨rfl, rfl, hs2, fr2⟩
        · intro k hk ih g c hg
          refine b_X12_invert_89 hz hG ⟨fun q => absurd q (mm_lt (hM' g) (by omega)), fun _ => ?_⟩
          have rows : ∀ g c, RK (rN (sC s)) (le (rA (sC s))) (rkS (rN (sC s)) (rA (sC s))) (iv (rN (sC s)) (rA (sC s)) (fnF s x)) (ivO (rN (sC s)) (rA (sC s)) (fnF s x)) (1 + k) 0 0 g c → Wx z 0 0 100 [(0, .ref ((zB z).size + 64)), (1, .int (nI f)), (3, .int (nI (1 + k))), (4, .int (nI 0))] [] G (oI (setI I 64 (upd (I 64) 15 0)) c) (setL L0 72 g) := by
            refine for_up (P := fun a => ∀ g c, RK (rN (sC s)) (le (rA (sC s))) (rkS (rN (sC s)) (rA (sC s))) (iv (rN (sC s)) (rA (sC s)) (fnF s x)) (ivO (rN (sC s)) (rA (sC s)) (fnF s x)) (1 + k) a 0 g c → Wx z 0 0 100 [(0, .ref ((zB z).size + 64)), (1, .int (nI f)), (3, .int (nI (1 + k))), (4, .int (nI a))] [] G (oI (setI I 64 (upd (I 64) 15 0)) c) (setL L0 72 g)) (n := rN (sC s)) ?_ ?_ (Nat.zero_le _)
            · intro g c hg
              refine b_X12_invert_100 hz hG ⟨fun _ => ?_, fun q => absurd (mm_le (hM' g)) q⟩
              rw [nI_1]
              exact ih g c (RK_blk hg)
            · intro a ha ah g c hg
              refine b_X12_invert_100 hz hG ⟨fun q => absurd q (mm_ge (hM' g) ha), fun _ => ?_⟩
              have cols : ∀ g c, RK (rN (sC s)) (le (rA (sC s))) (rkS (rN (sC s)) (rA (sC s))) (iv (rN (sC s)) (rA (sC s)) (fnF s x)) (ivO (rN (sC s)) (rA (sC s)) (fnF s x)) (1 + k) a 0 g c → Wx z 0 0 112 [(0, .ref ((zB z).size + 64)), (1, .int (nI f)), (3, .int (nI (1 + k))), (4, .int (nI a)), (5, .int (nI 0))] [] G (oI (setI I 64 (upd (I 64) 15 0)) c) (setL L0 72 g) := by
                refine for_up (P := fun b => ∀ g c, RK (rN (sC s)) (le (rA (sC s))) (rkS (rN (sC s)) (rA (sC s))) (iv (rN (sC s)) (rA (sC s)) (fnF s x)) (ivO (rN (sC s)) (rA (sC s)) (fnF s x)) (1 + k) a b g c → Wx z 0 0 112 [(0, .ref ((zB z).size + 64)), (1, .int (nI f)), (3, .int (nI (1 + k))), (4, .int (nI a)), (5, .int (nI b))] [] G (oI (setI I 64 (upd (I 64) 15 0)) c) (setL L0 72 g)) (n := rN (sC s)) ?_ ?_ (Nat.zero_le _)
                · intro g c hg
                  refine b_X12_invert_112 hz hG ⟨fun _ => ?_, fun q => absurd (mm_le (hM' g)) q⟩
                  rw [nI_1]
                  exact ah g c (RK_row hg)
                · intro b hb bh g c hg
                  have hO := hM' g
                  refine b_X12_invert_112 hz hG ⟨fun q => absurd q (mm_ge hO hb), fun _ => ⟨in16 h16 ha, fun q => ?_, fun q => ⟨⟨_, _, hO⟩, in16 h16 ha, m_iv_16 ⟨_, _, hO⟩, fun q2 => ?_, fun q2 => ⟨⟨_, _, hO⟩, in16 h16 ha, in16 h16 hb, by rw [c16]; exact in_nI (by omega) (by decide), ?_⟩⟩⟩⟩
                  · rw [hO.am ha (by omega)] at q
                    rw [nI_1]
                    exact bh g c (RK_n hg (fun w => by rw [q] at w; cases w))
                  · rw [msz hO ha hb] at q2
                    rw [nI_1]
                    exact bh g c (RK_n hg (fun _ e => q2 (by rw [e])))
                  · rw [hO.am ha (by omega)] at q
                    rw [msz hO ha hb] at q2
                    have hr : rkS (rN (sC s)) (rA (sC s)) a b = 1 + k := (nI_eq (by have := rk_le (A := rA (sC s)) (a := a) h16 hb; omega) (by omega)).mp q2
                    obtain ⟨i1, i2⟩ := inv_M (F := fnF s x) hO (fun a b ha hb => by rw [setL_n (by decide)]; exact e73 a b (by omega) (by omega)) ha hb q (fun y hy g1 g2 g3 => by
                      rw [setL_s]
                      exact RK_get h16 hg hy hb g2 (by have := rk_dn hP h16 ha hy hb g1 g2 (Ne.symm g3); omega))
                    rw [i1, i2, nI_1, c16, cl_nI (n := 16 * a + b) (by omega), setL_ss, setL_s, oI_oI]
                    exact bh _ _ (RK_s h16 hg ha hb q hr rfl)
              exact cols g c hg
          exact rows g c hg
      exact outer _ false (RK_0 (fun a b ha hb hl => rk_1 h16 ha hb hl))
    · intro i hi ih e
      rw [scan_s hi] at e
      refine b_X12_invert_27 hz hG ⟨fun q => absurd q (mm_ge hM0 hi), fun _ => ?_⟩
      rw [c16, cl_nI (n := 16 * i + i) (by omega), e73 i i (by omega) (by omega), nI_1]
      have hin : vp_in (nI (16 * i + i)) 256 := in_nI (by omega) (by decide)
      refine ⟨hin, fun q => ?_, fun q => ⟨hin, fun q2 => ?_, fun q2 => ?_⟩⟩
      · rw [if_neg (by rw [decide_eq_false (not_not_intro q)]; simp)] at e
        exact ih e
      · rw [if_neg (by rw [decide_eq_false (not_not_intro q2)]; simp)] at e
        exact ih e
      · rw [if_pos (by rw [decide_eq_true q, decide_eq_true q2]; rfl)] at e
        rw [if_neg (by rw [← e]; decide)] at hxi
        rw [hxi]
        exact ⟨rfl, rfl, hs0, fr0⟩
  · rw [hno (by rw [h2, Bool.and_false])]; exact ⟨rfl, rfl, hs, frM_r⟩
def xRaise (s : St) (f x k : Int32) : Int32 × St :=
  if (inR 3 f && (inR 3 x && inR 20 k)) = true then
    (if orN (fun j => anyB (rN (sC s)) (rA (sC s)) (pwMO (rN (sC s)) (rA (sC s)) (fnF s x.toNatClampNeg) j)) k.toNatClampNeg = true then (-3, s) else (1, storeS s f.toNatClampNeg (pwM (rN (sC s)) (rA (sC s)) (fnF s x.toNatClampNeg) k.toNatClampNeg)))
  else (-1, s)
theorem pwM_c {n : Nat} {A : Nat → Int32} (hP : PO n A) (h16 : n ≤ 16) {F F' : Nat → Nat → Int64} (h : ∀ a b, a < n → b < n → F a b = F' a b) : ∀ k a b, b < n → pwM n A F k a b = pwM n A F' k a b
  | 0, _, _, _ => rfl
  | k + 1, a, b, hb => by
    show (if le A a b = true then tS (fun w => if a < n ∧ w < n then pwM n A F k a w else 0) (fun w => F w b) (ivS n A a b) n else 0) = (if le A a b = true then tS (fun w => if a < n ∧ w < n then pwM n A F' k a w else 0) (fun w => F' w b) (ivS n A a b) n else 0)
    rw [tS_c (f' := fun w => if a < n ∧ w < n then pwM n A F' k a w else 0) (g' := fun w => F' w b) (fun w hw _ => ⟨by rw [pwM_c hP h16 h k a w hw], h w b hw hb⟩)]
theorem pwMO_c {n : Nat} {A : Nat → Int32} (hP : PO n A) (h16 : n ≤ 16) {F F' : Nat → Nat → Int64} (h : ∀ a b, a < n → b < n → F a b = F' a b) {k a b : Nat} (hb : b < n) : pwMO n A F k a b = pwMO n A F' k a b := by
  rw [pwMO, pwMO]
  exact oS_c (fun w hw _ => ⟨by rw [pwM_c hP h16 h k a w hw], h w b hw hb⟩)
set_option maxRecDepth 100000 in
set_option maxHeartbeats 4000000 in
theorem b_X12_raise_0 {z : amZ} {post : amP} {G : amG} {I : amI} {L : amL} (hz : Go z cX12_raise RX12 4 (some .int) 8 0 0 post) (hG : Lay G) {v1 : Int32} {v2 : Int32} {v3 : Int32} (h : ((m_isIn v1.toInt64 0 3 = false) → post (some (.int (-1))) G I L) ∧ ((m_isIn v1.toInt64 0 3 = true) → ((m_isIn v2.toInt64 0 3 = false) → post (some (.int (-1))) G I L) ∧ ((m_isIn v2.toInt64 0 3 = true) → ((m_isIn v3.toInt64 (0 : Int64) (20 : Int64) = true) → (74 ≠ 65) ∧ (fnOk v2) ∧ ∃ (dq6 : Nat) (postq6 : amP), Nat.ble (dq6 + 1) 8 = true ∧ Mx (zL z) (zD z) (zB z) yX12_raises cX12_raises 4 none dq6 0 0 [.ref ((zB z).size + 64), .int v3] G (setI I 64 (upd (I 64) 15 (0 : Int32))) (setL L 74 (wr (L 74) 0 256 (fun j => L 65 (17 + 256 * v2.toNatClampNeg + j)))) postq6 ∧ ∀ (roq6 : Option Value) (Gq6 : amG) (Iq6 : amI) (Lq6 : amL), postq6 roq6 Gq6 Iq6 Lq6 → roq6 = none ∧ Lay Gq6 ∧ (((Iq6 64 15) = 0) → (muOk Iq6) ∧ (fnOk v1) ∧ post (some (.int 1)) Gq6 (setI Iq6 64 (upd (Iq6 64) 2 (nI (kaU Iq6 + 1)))) (setL (setL Lq6 66 (m_ka Iq6 Lq6)) 65 (wr ((setL Lq6 66 (m_ka Iq6 Lq6)) 65) (17 + 256 * v1.toNatClampNeg) 256 ((setL Lq6 66 (m_ka Iq6 Lq6)) 72)))) ∧ ((¬ (Iq6 64 15) = 0) → post (some (.int (-3))) Gq6 Iq6 Lq6)) ∧ ((m_isIn v3.toInt64 (0 : Int64) (20 : Int64) = false) → post (some (.int (-1))) G I L)))) : Wx z 0 0 0 [(0, .ref ((zB z).size + 64)), (1, .int v1), (2, .int v2), (3, .int v3)] [] G I L := by
  have hz1 := hz.1
  refine am_iload_n hz1 dX12_raise_0 1 rfl rfl ?_
  refine am_cSf hz ct_X12_290 [.int v1] [] (c_X12_isFunction hG v1 ) rfl rfl rfl ⟨Nat.le_refl _, Nat.le_refl _⟩ (Nat.le_of_ble_eq_true rfl) dX12_raise_1 ?_
  refine am_ifb_eq (tgt := 26) hz1 dX12_raise_4 (by decide) (fun c1 => ?_) (fun c1 => ?_)
  · replace h := h.1 c1
    refine am_iconst (v := (-1)) hz1 dX12_raise_26 (by decide) ?_
    exact am_ireturn hz dX12_raise_27 h
  · replace h := h.2 c1
    refine am_iload_n hz1 dX12_raise_7 2 rfl rfl ?_
    refine am_cSf hz ct_X12_290 [.int v2] [] (c_X12_isFunction hG v2 ) rfl rfl rfl ⟨Nat.le_refl _, Nat.le_refl _⟩ (Nat.le_of_ble_eq_true rfl) dX12_raise_8 ?_
    refine am_ifb_eq (tgt := 26) hz1 dX12_raise_11 (by decide) (fun c2 => ?_) (fun c2 => ?_)
    · replace h := h.1 c2
      refine am_iconst (v := (-1)) hz1 dX12_raise_26 (by decide) ?_
      exact am_ireturn hz dX12_raise_27 h
    · replace h := h.2 c2
      refine am_iload_n hz1 dX12_raise_14 3 rfl rfl ?_
      refine am_i2l hz1 dX12_raise_15 ?_
      refine am_lconst (v := 0) hz1 dX12_raise_16 (by decide) ?_
      refine am_ldc2 hz1 kc_X12_330 dX12_raise_17 ?_
      refine am_cSf hz ct_X12_82 [.long v3.toInt64, .long (0 : Int64), .long (20 : Int64)] [] (c_X12_isIn hG v3.toInt64 (0 : Int64) (20 : Int64) ) rfl rfl rfl ⟨Nat.le_refl _, Nat.le_refl _⟩ (Nat.le_of_ble_eq_true rfl) dX12_raise_20 ?_
      refine am_ifb_ne (tgt := 28) hz1 dX12_raise_23 (by decide) (fun c3 => ?_) (fun c3 => ?_)
      · replace h := h.1 c3
        refine am_aload_n hz1 dX12_raise_28 0 rfl rfl ?_
        refine am_iconst (v := 0) hz1 dX12_raise_29 (by decide) ?_
        refine am_putI hz1 fl_X12_271 (ln_64 hG) (lk_64 hG) rfl rfl (fun _ => rfl) dX12_raise_30 ?_
        refine am_aload_n hz1 dX12_raise_33 0 rfl rfl ?_
        refine am_aload_n hz1 dX12_raise_34 0 rfl rfl ?_
        refine am_getR hz1 fl_X12_41 (ln_64 hG) (lk_64 hG) (lr_64_18 hG) rfl dX12_raise_35 ?_
        refine am_iload_n hz1 dX12_raise_38 2 rfl rfl ?_
        obtain ⟨g4, h⟩ := h
        obtain ⟨g5, h⟩ := h
        refine am_cVf hz cv_X12_320 [.ref ((zB z).size + 74), .int v2] [] (c_X12_takes hG (ln_74 hG) (lk_74 hG) (ll_74 hG) v2 g4 g5) (ln_64 hG) (lk_64 hG) rfl rfl rfl ⟨Nat.le_refl _, Nat.le_refl _⟩ (Nat.le_of_ble_eq_true rfl) dX12_raise_39 ?_
        refine am_aload_n hz1 dX12_raise_42 0 rfl rfl ?_
        refine am_iload_n hz1 dX12_raise_43 3 rfl rfl ?_
        obtain ⟨dq6, postq6, hdq6, hMq6, h⟩ := h
        refine am_callV hz1 cv_X12_332 [.int v3] [] hMq6 (ln_64 hG) (lk_64 hG) rfl rfl (hz.fr hdq6) (hz.lo hdq6) (by rw [hz.2.1]; exact ⟨Nat.le_refl _, Nat.le_refl _⟩) (Nat.le_of_ble_eq_true rfl) dX12_raise_44 (fun roq6 Gq6 Iq6 Lq6 hpq6 => ?_)
        obtain ⟨rfl, hGq6, h⟩ := h roq6 Gq6 Iq6 Lq6 hpq6
        refine am_aload_n hz1 dX12_raise_47 0 rfl rfl ?_
        refine am_getI hz1 fl_X12_271 (ln_64 hGq6) (lk_64 hGq6) rfl dX12_raise_48 ?_
        refine am_if_eq (tgt := 57) hz1 dX12_raise_51 (by decide) (fun c7 => ?_) (fun c7 => ?_)
        · replace h := h.1 c7
          refine am_aload_n hz1 dX12_raise_57 0 rfl rfl ?_
          obtain ⟨g8, h⟩ := h
          refine am_cVf hz cv_X12_233 [] [] (c_X12_keepsAct hGq6  g8) (ln_64 hGq6) (lk_64 hGq6) rfl rfl rfl ⟨Nat.le_refl _, Nat.le_refl _⟩ (Nat.le_of_ble_eq_true rfl) dX12_raise_58 ?_
          refine am_aload_n hz1 dX12_raise_61 0 rfl rfl ?_
          refine am_iload_n hz1 dX12_raise_62 1 rfl rfl ?_
          obtain ⟨g9, h⟩ := h
          refine am_cVf hz cv_X12_298 [.int v1] [] (c_X12_takesMade hGq6 v1 g9) (ln_64 hGq6) (lk_64 hGq6) rfl rfl rfl ⟨Nat.le_refl _, Nat.le_refl _⟩ (Nat.le_of_ble_eq_true rfl) dX12_raise_63 ?_
          refine am_iconst (v := 1) hz1 dX12_raise_66 (by decide) ?_
          exact am_ireturn hz dX12_raise_67 h
        · replace h := h.2 c7
          refine am_bipush (v := (-3)) hz1 dX12_raise_54 (by decide) ?_
          exact am_ireturn hz dX12_raise_56 h
      · replace h := h.2 c3
        refine am_iconst (v := (-1)) hz1 dX12_raise_26 (by decide) ?_
        exact am_ireturn hz dX12_raise_27 h
set_option maxRecDepth 100000 in
set_option maxHeartbeats 4000000 in
theorem c_X12_raise {l : Launch} {D : va_G} {B : Heap} {G : amG} {I : amI} {L : amL}  (hG : Lay G)  (v1 : Int32) (v2 : Int32) (v3 : Int32) {s : St} (hs : RI s I L) (hw : WF s) : Mx l D B yX12_raise cX12_raise 4 (some .int) 8 0 0 [.ref (B.size + 64), .int v1, .int v2, .int v3] G I L (fun r G1 I1 L1 => r = some (.int (xRaise s v1 v2 v3).1) ∧ G1 = G ∧ RI (xRaise s v1 v2 v3).2 I1 L1 ∧ frM I L I1 L1) := by
  refine Mx.of (by decide) rfl rfl (fun z e1 e2 e3 hz => ?_)
  subst e1; subst e2; subst e3
  refine b_X12_raise_0 hz hG ?_
  have hM := hs.1.mo
  have h16 := hM.2.1
  have hP := hM.2.2.1
  have hno : (inR 3 v1 && (inR 3 v2 && inR 20 v3)) = false → xRaise s v1 v2 v3 = (-1, s) := fun h => by rw [xRaise, if_neg (by rw [h]; decide)]
  rw [isIn3, isIn3, isIn_R (k := 20) (by decide) (by decide)]
  refine ⟨fun h => ?_, fun h => ⟨fun h2 => ?_, fun h2 => ⟨fun h3 => ?_, fun h3 => ?_⟩⟩⟩
  · rw [hno (by rw [h]; rfl)]; exact ⟨rfl, rfl, hs, frM_r⟩
  · rw [hno (by rw [h2]; simp)]; exact ⟨rfl, rfl, hs, frM_r⟩
  · obtain ⟨f, hf, rfl⟩ := fnR h
    obtain ⟨x, hx, rfl⟩ := fnR h2
    obtain ⟨k, hk, rfl⟩ := (inR_t (by decide)).mp h3
    have ef : (nI f).toNatClampNeg = f := cl_nI (by omega)
    have ex : (nI x).toNatClampNeg = x := cl_nI (by omega)
    have ek : (nI k).toNatClampNeg = k := cl_nI (by omega)
    refine ⟨by decide, ⟨x, hx, rfl⟩, ?_⟩
    rw [ex]
    generalize hL0 : setL L 74 (wr (L 74) 0 256 (fun j => L 65 (17 + 256 * x + j))) = L0
    have e65 : L0 65 = L 65 := by rw [← hL0, setL_n (by decide)]
    have e66 : L0 66 = L 66 := by rw [← hL0, setL_n (by decide)]
    have e74 : ∀ a b, a < rN (sC s) → b < rN (sC s) → L0 74 (16 * a + b) = fnF s x a b := fun a b ha hb => by
      rw [← hL0, setL_s, wr_in (by omega), Nat.sub_zero]
      exact one_F hs hx (by omega) rfl
    have fr0 : frM I L I L0 := by rw [← hL0]; exact frM_L (by decide) (by decide)
    have hM0 : MO L0 (rN (sC s)) (rA (sC s)) := MO_c hM e65
    have hs0 : RI s (setI I 64 (upd (I 64) 15 0)) L0 := RI_L (RI_64 hs (by decide) (by decide) (by decide) (by decide) (by decide)) e65 e66
    refine ⟨7, _, rfl, c_X12_raises hG _ hM0 hk rfl, fun ro G2 I2 L2 ⟨e1, e2, g, hh, c, e3, e4, e5, e6⟩ => ⟨e1, by rw [e2]; exact hG, ?_⟩⟩
    have hc : c = orN (fun j => anyB (rN (sC s)) (rA (sC s)) (pwMO (rN (sC s)) (rA (sC s)) (fnF s x) j)) k := by
      rw [Bool.eq_iff_iff, e6, orN_t]
      constructor
      · rintro ⟨j, a, b, hj, ha, hb, hl, ho⟩
        exact ⟨j, hj, anyB_t.mpr ⟨a, b, ha, hb, hl, by rw [← pwMO_c hP h16 e74 hb]; exact ho⟩⟩
      · rintro ⟨j, hj, h⟩
        obtain ⟨a, b, ha, hb, hl, ho⟩ := anyB_t.mp h
        exact ⟨j, a, b, hj, ha, hb, hl, by rw [pwMO_c hP h16 e74 hb]; exact ho⟩
    have h15 : I2 64 15 = bI c := by rw [e3, oI_v (b := false) (by rw [setI_s, upd_s]; rfl), Bool.false_or]
    have hs2 : RI s I2 L2 := by rw [e3, e4]; exact RI_L (RI_o hs0) (by rw [setL_n (by decide), setL_n (by decide)]) (by rw [setL_n (by decide), setL_n (by decide)])
    have fr2 : frM I L I2 L2 := by rw [e3, e4]; exact frM_t fr0 (frM_t frM_64 (frM_t frM_o (frM_t (frM_L (by decide) (by decide)) (frM_L (by decide) (by decide)))))
    rw [h15, bI_z]
    refine ⟨fun q => ⟨mu_ok hs2 hw, ⟨f, hf, rfl⟩, ?_⟩, fun q => ?_⟩
    · have hx2 : xRaise s (nI f) (nI x) (nI k) = (1, storeS s f (pwM (rN (sC s)) (rA (sC s)) (fnF s x) k)) := by
        rw [xRaise, if_pos (by rw [h, h2, h3]; rfl), ef, ex, ek, if_neg (by rw [← hc, q]; decide)]
      rw [hx2, ef, setL_n (q := 72) (by decide)]
      refine ⟨rfl, e2, ?_, frM_t fr2 (frM_t KA_fr (frM_L (by decide) (by decide)))⟩
      refine STO (KA hs2 hw) hf ?_
      rw [e4, setL_s]
      exact KV_c e5 (fun a b ha hb => pwM_c hP h16 e74 k a b hb)
    · rw [Bool.not_eq_false] at q
      have hx2 : xRaise s (nI f) (nI x) (nI k) = (-3, s) := by
        rw [xRaise, if_pos (by rw [h, h2, h3]; rfl), ex, ek, if_pos (by rw [← hc, q])]
      rw [hx2]
      exact ⟨rfl, e2, hs2, fr2⟩
  · rw [hno (by rw [h3]; simp)]; exact ⟨rfl, rfl, hs, frM_r⟩
/-! the tape -/
def fdV (a b c d e : Int32) (k : Nat) : Int32 := if k < 4 then a else if k < 8 then b else if k < 12 then c else if k < 16 then d else e
def fdB (a b c d e : Int32) (k : Nat) : Int32 := byV (fdV a b c d e k) (nI (24 - 8 * (k % 4)))
def xFeed (s : St) (a b c d e : Int32) : Int32 × St := if (sT s).1 ≤ 100 then (nI ((sT s).1 + 20), (sC s, s0 s, s1 s, sE s, ((sT s).1 + 20, fun i => if i < (sT s).1 then (sT s).2 i else fdB a b c d e (i - (sT s).1) &&& 255), sH s)) else (-1, s)
theorem RI_tp {s : St} {I I1 : amI} {L : amL} {m : Nat} {T : Nat → Int32} (hs : RI s I L) (h7 : I1 64 7 = nI m) (h69 : ∀ i, i < m → I1 69 i &&& 255 = T i) (e2 : I1 64 2 = I 64 2) (e5 : I1 64 5 = I 64 5) (e24 : I1 64 24 = I 64 24) (e25 : I1 64 25 = I 64 25) (eq : ∀ q, q ≠ 64 → q ≠ 69 → I1 q = I q) : RI (sC s, s0 s, s1 s, sE s, (m, T), sH s) I1 L := by
  obtain ⟨h1, h2, h3, h4, h5, h6, h7', h8, h9⟩ := hs
  exact ⟨h1, by rw [e5]; exact h2, shM_c (eq 67 (by decide) (by decide)) (eq 68 (by decide) (by decide)) h3, shM_c (eq 67 (by decide) (by decide)) (eq 68 (by decide) (by decide)) h4, h7, h69, by rw [e2]; exact h7', h8, TyK_c e24 e25 (eq 80 (by decide) (by decide)) (eq 81 (by decide) (by decide)) h9⟩
set_option maxRecDepth 100000 in
set_option maxHeartbeats 4000000 in
theorem b_X12_feed_0 {z : amZ} {post : amP} {G : amG} {I : amI} {L : amL} (hz : Go z cX12_feed RX12 8 (some .int) 0 0 0 post) (hG : Lay G) {v1 : Int32} {v2 : Int32} {v3 : Int32} {v4 : Int32} {v5 : Int32} (h : (((I 64 7) ≤ (100 : Int32)) → Wx z 0 0 14 [(0, .ref ((zB z).size + 64)), (1, .int v1), (2, .int v2), (3, .int v3), (4, .int v4), (5, .int v5), (6, .int 0)] [] G I L) ∧ ((¬ (I 64 7) ≤ (100 : Int32)) → post (some (.int (-1))) G I L)) : Wx z 0 0 0 [(0, .ref ((zB z).size + 64)), (1, .int v1), (2, .int v2), (3, .int v3), (4, .int v4), (5, .int v5)] [] G I L := by
  have hz1 := hz.1
  refine am_aload_n hz1 dX12_feed_0 0 rfl rfl ?_
  refine am_getI hz1 fl_X12_130 (ln_64 hG) (lk_64 hG) rfl dX12_feed_1 ?_
  refine am_bipush (v := 100) hz1 dX12_feed_4 (by decide) ?_
  refine am_icmp_le (tgt := 11) hz1 dX12_feed_6 (by decide) (fun c1 => ?_) (fun c1 => ?_)
  · replace h := h.1 c1
    refine am_iconst (v := 0) hz1 dX12_feed_11 (by decide) ?_
    refine am_istore (lv' := [(6, .int 0), (0, .ref ((zB z).size + 64)), (1, .int v1), (2, .int v2), (3, .int v3), (4, .int v4), (5, .int v5)]) hz1 dX12_feed_12 rfl rfl ?_
    exact am_sub (lv' := [(0, .ref ((zB z).size + 64)), (1, .int v1), (2, .int v2), (3, .int v3), (4, .int v4), (5, .int v5), (6, .int 0)]) [1, 2, 3, 4, 5, 6, 0] rfl h
  · replace h := h.2 c1
    refine am_iconst (v := (-1)) hz1 dX12_feed_9 (by decide) ?_
    exact am_ireturn hz dX12_feed_10 h
set_option maxRecDepth 100000 in
set_option maxHeartbeats 4000000 in
theorem b_X12_feed_14 {z : amZ} {post : amP} {G : amG} {I : amI} {L : amL} (hz : Go z cX12_feed RX12 8 (some .int) 0 0 0 post) (hG : Lay G) {v1 : Int32} {v2 : Int32} {v3 : Int32} {v4 : Int32} {v5 : Int32} {v6 : Int32} (h : (((20 : Int32) ≤ v6) → post (some (.int ((setI I 64 (upd (I 64) 7 ((I 64 7) + (20 : Int32)))) 64 7))) G (setI I 64 (upd (I 64) 7 ((I 64 7) + (20 : Int32)))) L) ∧ ((¬ (20 : Int32) ≤ v6) → (((4 : Int32) ≤ v6) → (((8 : Int32) ≤ v6) → (((12 : Int32) ≤ v6) → (((16 : Int32) ≤ v6) → vp_in ((I 64 7) + v6) 120 ∧ Wx z 0 0 14 [(0, .ref ((zB z).size + 64)), (1, .int v1), (2, .int v2), (3, .int v3), (4, .int v4), (5, .int v5), (6, .int (v6 + 1))] [] G (setI I 69 (upd (I 69) ((I 64 7) + v6).toNatClampNeg (vp_nar .byte ((v5 >>> (((24 : Int32) - ((8 : Int32) * (v6 - v6 / (4 : Int32) * (4 : Int32)))) &&& 31)).toInt8.toInt32)))) L) ∧ ((¬ (16 : Int32) ≤ v6) → vp_in ((I 64 7) + v6) 120 ∧ Wx z 0 0 14 [(0, .ref ((zB z).size + 64)), (1, .int v1), (2, .int v2), (3, .int v3), (4, .int v4), (5, .int v5), (6, .int (v6 + 1))] [] G (setI I 69 (upd (I 69) ((I 64 7) + v6).toNatClampNeg (vp_nar .byte ((v4 >>> (((24 : Int32) - ((8 : Int32) * (v6 - v6 / (4 : Int32) * (4 : Int32)))) &&& 31)).toInt8.toInt32)))) L)) ∧ ((¬ (12 : Int32) ≤ v6) → vp_in ((I 64 7) + v6) 120 ∧ Wx z 0 0 14 [(0, .ref ((zB z).size + 64)), (1, .int v1), (2, .int v2), (3, .int v3), (4, .int v4), (5, .int v5), (6, .int (v6 + 1))] [] G (setI I 69 (upd (I 69) ((I 64 7) + v6).toNatClampNeg (vp_nar .byte ((v3 >>> (((24 : Int32) - ((8 : Int32) * (v6 - v6 / (4 : Int32) * (4 : Int32)))) &&& 31)).toInt8.toInt32)))) L)) ∧ ((¬ (8 : Int32) ≤ v6) → vp_in ((I 64 7) + v6) 120 ∧ Wx z 0 0 14 [(0, .ref ((zB z).size + 64)), (1, .int v1), (2, .int v2), (3, .int v3), (4, .int v4), (5, .int v5), (6, .int (v6 + 1))] [] G (setI I 69 (upd (I 69) ((I 64 7) + v6).toNatClampNeg (vp_nar .byte ((v2 >>> (((24 : Int32) - ((8 : Int32) * (v6 - v6 / (4 : Int32) * (4 : Int32)))) &&& 31)).toInt8.toInt32)))) L)) ∧ ((¬ (4 : Int32) ≤ v6) → vp_in ((I 64 7) + v6) 120 ∧ Wx z 0 0 14 [(0, .ref ((zB z).size + 64)), (1, .int v1), (2, .int v2), (3, .int v3), (4, .int v4), (5, .int v5), (6, .int (v6 + 1))] [] G (setI I 69 (upd (I 69) ((I 64 7) + v6).toNatClampNeg (vp_nar .byte ((v1 >>> (((24 : Int32) - ((8 : Int32) * (v6 - v6 / (4 : Int32) * (4 : Int32)))) &&& 31)).toInt8.toInt32)))) L))) : Wx z 0 0 14 [(0, .ref ((zB z).size + 64)), (1, .int v1), (2, .int v2), (3, .int v3), (4, .int v4), (5, .int v5), (6, .int v6)] [] G I L := by
  have hz1 := hz.1
  refine am_iload hz1 dX12_feed_14 6 rfl ?_
  refine am_bipush (v := 20) hz1 dX12_feed_16 (by decide) ?_
  refine am_icmp_ge (tgt := 101) hz1 dX12_feed_18 (by decide) (fun c1 => ?_) (fun c1 => ?_)
  · replace h := h.1 c1
    refine am_aload_n hz1 dX12_feed_101 0 rfl rfl ?_
    refine am_dup hz1 dX12_feed_102 rfl ?_
    refine am_getI hz1 fl_X12_130 (ln_64 hG) (lk_64 hG) rfl dX12_feed_103 ?_
    refine am_bipush (v := 20) hz1 dX12_feed_106 (by decide) ?_
    refine am_iadd hz1 dX12_feed_108 ?_
    refine am_putI hz1 fl_X12_130 (ln_64 hG) (lk_64 hG) rfl rfl (fun _ => rfl) dX12_feed_109 ?_
    refine am_aload_n hz1 dX12_feed_112 0 rfl rfl ?_
    refine am_getI hz1 fl_X12_130 (ln_64 hG) (lk_64 hG) rfl dX12_feed_113 ?_
    exact am_ireturn hz dX12_feed_116 h
  · replace h := h.2 c1
    refine am_iload hz1 dX12_feed_21 6 rfl ?_
    refine am_iconst (v := 4) hz1 dX12_feed_23 (by decide) ?_
    refine am_icmp_ge (tgt := 31) hz1 dX12_feed_24 (by decide) (fun c2 => ?_) (fun c2 => ?_)
    · replace h := h.1 c2
      refine am_iload hz1 dX12_feed_31 6 rfl ?_
      refine am_bipush (v := 8) hz1 dX12_feed_33 (by decide) ?_
      refine am_icmp_ge (tgt := 42) hz1 dX12_feed_35 (by decide) (fun c3 => ?_) (fun c3 => ?_)
      · replace h := h.1 c3
        refine am_iload hz1 dX12_feed_42 6 rfl ?_
        refine am_bipush (v := 12) hz1 dX12_feed_44 (by decide) ?_
        refine am_icmp_ge (tgt := 53) hz1 dX12_feed_46 (by decide) (fun c4 => ?_) (fun c4 => ?_)
        · replace h := h.1 c4
          refine am_iload hz1 dX12_feed_53 6 rfl ?_
          refine am_bipush (v := 16) hz1 dX12_feed_55 (by decide) ?_
          refine am_icmp_ge (tgt := 65) hz1 dX12_feed_57 (by decide) (fun c5 => ?_) (fun c5 => ?_)
          · replace h := h.1 c5
            refine am_iload hz1 dX12_feed_65 5 rfl ?_
            refine am_istore (lv' := [(7, .int v5), (0, .ref ((zB z).size + 64)), (1, .int v1), (2, .int v2), (3, .int v3), (4, .int v4), (5, .int v5), (6, .int v6)]) hz1 dX12_feed_67 rfl rfl ?_
            refine am_aload_n hz1 dX12_feed_69 1 rfl rfl ?_
            refine am_getR hz1 fl_X12_25 (ln_64 hG) (lk_64 hG) (lr_64_6 hG) rfl dX12_feed_70 ?_
            refine am_aload_n hz1 dX12_feed_73 1 rfl rfl ?_
            refine am_getI hz1 fl_X12_130 (ln_64 hG) (lk_64 hG) rfl dX12_feed_74 ?_
            refine am_iload hz1 dX12_feed_77 7 rfl ?_
            refine am_iadd hz1 dX12_feed_79 ?_
            refine am_iload hz1 dX12_feed_80 0 rfl ?_
            refine am_bipush (v := 24) hz1 dX12_feed_82 (by decide) ?_
            refine am_bipush (v := 8) hz1 dX12_feed_84 (by decide) ?_
            refine am_iload hz1 dX12_feed_86 7 rfl ?_
            refine am_iconst (v := 4) hz1 dX12_feed_88 (by decide) ?_
            refine am_irem hz1 dX12_feed_89 (by decide) ?_
            refine am_imul hz1 dX12_feed_90 ?_
            refine am_isub hz1 dX12_feed_91 ?_
            refine am_ishr hz1 dX12_feed_92 ?_
            refine am_i2b hz1 dX12_feed_93 ?_
            obtain ⟨g7, h⟩ := h
            refine am_bast hz1 (ln_69 hG) (lk_69 hG) (by rw [(ll_69 hG)]; exact g7) dX12_feed_94 ?_
            refine am_iinc (v := v6 + 1) (lv' := [(6, .int (v6 + 1)), (7, .int v5), (0, .ref ((zB z).size + 64)), (1, .int v1), (2, .int v2), (3, .int v3), (4, .int v4), (5, .int v5)]) hz1 dX12_feed_95 7 rfl rfl rfl rfl ?_
            refine am_goto (tgt := 14) hz1 dX12_feed_98 (by decide) ?_
            exact am_sub (lv' := [(0, .ref ((zB z).size + 64)), (1, .int v1), (2, .int v2), (3, .int v3), (4, .int v4), (5, .int v5), (6, .int (v6 + 1))]) [2, 3, 4, 5, 6, 7, 0] rfl h
          · replace h := h.2 c5
            refine am_iload hz1 dX12_feed_60 4 rfl ?_
            refine am_goto (tgt := 67) hz1 dX12_feed_62 (by decide) ?_
            refine am_istore (lv' := [(7, .int v4), (0, .ref ((zB z).size + 64)), (1, .int v1), (2, .int v2), (3, .int v3), (4, .int v4), (5, .int v5), (6, .int v6)]) hz1 dX12_feed_67 rfl rfl ?_
            refine am_aload_n hz1 dX12_feed_69 1 rfl rfl ?_
            refine am_getR hz1 fl_X12_25 (ln_64 hG) (lk_64 hG) (lr_64_6 hG) rfl dX12_feed_70 ?_
            refine am_aload_n hz1 dX12_feed_73 1 rfl rfl ?_
            refine am_getI hz1 fl_X12_130 (ln_64 hG) (lk_64 hG) rfl dX12_feed_74 ?_
            refine am_iload hz1 dX12_feed_77 7 rfl ?_
            refine am_iadd hz1 dX12_feed_79 ?_
            refine am_iload hz1 dX12_feed_80 0 rfl ?_
            refine am_bipush (v := 24) hz1 dX12_feed_82 (by decide) ?_
            refine am_bipush (v := 8) hz1 dX12_feed_84 (by decide) ?_
            refine am_iload hz1 dX12_feed_86 7 rfl ?_
            refine am_iconst (v := 4) hz1 dX12_feed_88 (by decide) ?_
            refine am_irem hz1 dX12_feed_89 (by decide) ?_
            refine am_imul hz1 dX12_feed_90 ?_
            refine am_isub hz1 dX12_feed_91 ?_
            refine am_ishr hz1 dX12_feed_92 ?_
            refine am_i2b hz1 dX12_feed_93 ?_
            obtain ⟨g9, h⟩ := h
            refine am_bast hz1 (ln_69 hG) (lk_69 hG) (by rw [(ll_69 hG)]; exact g9) dX12_feed_94 ?_
            refine am_iinc (v := v6 + 1) (lv' := [(6, .int (v6 + 1)), (7, .int v4), (0, .ref ((zB z).size + 64)), (1, .int v1), (2, .int v2), (3, .int v3), (4, .int v4), (5, .int v5)]) hz1 dX12_feed_95 7 rfl rfl rfl rfl ?_
            refine am_goto (tgt := 14) hz1 dX12_feed_98 (by decide) ?_
            exact am_sub (lv' := [(0, .ref ((zB z).size + 64)), (1, .int v1), (2, .int v2), (3, .int v3), (4, .int v4), (5, .int v5), (6, .int (v6 + 1))]) [2, 3, 4, 5, 6, 7, 0] rfl h
        · replace h := h.2 c4
          refine am_iload_n hz1 dX12_feed_49 3 rfl rfl ?_
          refine am_goto (tgt := 67) hz1 dX12_feed_50 (by decide) ?_
          refine am_istore (lv' := [(7, .int v3), (0, .ref ((zB z).size + 64)), (1, .int v1), (2, .int v2), (3, .int v3), (4, .int v4), (5, .int v5), (6, .int v6)]) hz1 dX12_feed_67 rfl rfl ?_
          refine am_aload_n hz1 dX12_feed_69 1 rfl rfl ?_
          refine am_getR hz1 fl_X12_25 (ln_64 hG) (lk_64 hG) (lr_64_6 hG) rfl dX12_feed_70 ?_
          refine am_aload_n hz1 dX12_feed_73 1 rfl rfl ?_
          refine am_getI hz1 fl_X12_130 (ln_64 hG) (lk_64 hG) rfl dX12_feed_74 ?_
          refine am_iload hz1 dX12_feed_77 7 rfl ?_
          refine am_iadd hz1 dX12_feed_79 ?_
          refine am_iload hz1 dX12_feed_80 0 rfl ?_
          refine am_bipush (v := 24) hz1 dX12_feed_82 (by decide) ?_
          refine am_bipush (v := 8) hz1 dX12_feed_84 (by decide) ?_
          refine am_iload hz1 dX12_feed_86 7 rfl ?_
          refine am_iconst (v := 4) hz1 dX12_feed_88 (by decide) ?_
          refine am_irem hz1 dX12_feed_89 (by decide) ?_
          refine am_imul hz1 dX12_feed_90 ?_
          refine am_isub hz1 dX12_feed_91 ?_
          refine am_ishr hz1 dX12_feed_92 ?_
          refine am_i2b hz1 dX12_feed_93 ?_
          obtain ⟨g11, h⟩ := h
          refine am_bast hz1 (ln_69 hG) (lk_69 hG) (by rw [(ll_69 hG)]; exact g11) dX12_feed_94 ?_
          refine am_iinc (v := v6 + 1) (lv' := [(6, .int (v6 + 1)), (7, .int v3), (0, .ref ((zB z).size + 64)), (1, .int v1), (2, .int v2), (3, .int v3), (4, .int v4), (5, .int v5)]) hz1 dX12_feed_95 7 rfl rfl rfl rfl ?_
          refine am_goto (tgt := 14) hz1 dX12_feed_98 (by decide) ?_
          exact am_sub (lv' := [(0, .ref ((zB z).size + 64)), (1, .int v1), (2, .int v2), (3, .int v3), (4, .int v4), (5, .int v5), (6, .int (v6 + 1))]) [2, 3, 4, 5, 6, 7, 0] rfl h
      · replace h := h.2 c3
        refine am_iload_n hz1 dX12_feed_38 2 rfl rfl ?_
        refine am_goto (tgt := 67) hz1 dX12_feed_39 (by decide) ?_
        refine am_istore (lv' := [(7, .int v2), (0, .ref ((zB z).size + 64)), (1, .int v1), (2, .int v2), (3, .int v3), (4, .int v4), (5, .int v5), (6, .int v6)]) hz1 dX12_feed_67 rfl rfl ?_
        refine am_aload_n hz1 dX12_feed_69 1 rfl rfl ?_
        refine am_getR hz1 fl_X12_25 (ln_64 hG) (lk_64 hG) (lr_64_6 hG) rfl dX12_feed_70 ?_
        refine am_aload_n hz1 dX12_feed_73 1 rfl rfl ?_
        refine am_getI hz1 fl_X12_130 (ln_64 hG) (lk_64 hG) rfl dX12_feed_74 ?_
        refine am_iload hz1 dX12_feed_77 7 rfl ?_
        refine am_iadd hz1 dX12_feed_79 ?_
        refine am_iload hz1 dX12_feed_80 0 rfl ?_
        refine am_bipush (v := 24) hz1 dX12_feed_82 (by decide) ?_
        refine am_bipush (v := 8) hz1 dX12_feed_84 (by decide) ?_
        refine am_iload hz1 dX12_feed_86 7 rfl ?_
        refine am_iconst (v := 4) hz1 dX12_feed_88 (by decide) ?_
        refine am_irem hz1 dX12_feed_89 (by decide) ?_
        refine am_imul hz1 dX12_feed_90 ?_
        refine am_isub hz1 dX12_feed_91 ?_
        refine am_ishr hz1 dX12_feed_92 ?_
        refine am_i2b hz1 dX12_feed_93 ?_
        obtain ⟨g13, h⟩ := h
        refine am_bast hz1 (ln_69 hG) (lk_69 hG) (by rw [(ll_69 hG)]; exact g13) dX12_feed_94 ?_
        refine am_iinc (v := v6 + 1) (lv' := [(6, .int (v6 + 1)), (7, .int v2), (0, .ref ((zB z).size + 64)), (1, .int v1), (2, .int v2), (3, .int v3), (4, .int v4), (5, .int v5)]) hz1 dX12_feed_95 7 rfl rfl rfl rfl ?_
        refine am_goto (tgt := 14) hz1 dX12_feed_98 (by decide) ?_
        exact am_sub (lv' := [(0, .ref ((zB z).size + 64)), (1, .int v1), (2, .int v2), (3, .int v3), (4, .int v4), (5, .int v5), (6, .int (v6 + 1))]) [2, 3, 4, 5, 6, 7, 0] rfl h
    · replace h := h.2 c2
      refine am_iload_n hz1 dX12_feed_27 1 rfl rfl ?_
      refine am_goto (tgt := 67) hz1 dX12_feed_28 (by decide) ?_
      refine am_istore (lv' := [(7, .int v1), (0, .ref ((zB z).size + 64)), (1, .int v1), (2, .int v2), (3, .int v3), (4, .int v4), (5, .int v5), (6, .int v6)]) hz1 dX12_feed_67 rfl rfl ?_
      refine am_aload_n hz1 dX12_feed_69 1 rfl rfl ?_
      refine am_getR hz1 fl_X12_25 (ln_64 hG) (lk_64 hG) (lr_64_6 hG) rfl dX12_feed_70 ?_
      refine am_aload_n hz1 dX12_feed_73 1 rfl rfl ?_
      refine am_getI hz1 fl_X12_130 (ln_64 hG) (lk_64 hG) rfl dX12_feed_74 ?_
      refine am_iload hz1 dX12_feed_77 7 rfl ?_
      refine am_iadd hz1 dX12_feed_79 ?_
      refine am_iload hz1 dX12_feed_80 0 rfl ?_
      refine am_bipush (v := 24) hz1 dX12_feed_82 (by decide) ?_
      refine am_bipush (v := 8) hz1 dX12_feed_84 (by decide) ?_
      refine am_iload hz1 dX12_feed_86 7 rfl ?_
      refine am_iconst (v := 4) hz1 dX12_feed_88 (by decide) ?_
      refine am_irem hz1 dX12_feed_89 (by decide) ?_
      refine am_imul hz1 dX12_feed_90 ?_
      refine am_isub hz1 dX12_feed_91 ?_
      refine am_ishr hz1 dX12_feed_92 ?_
      refine am_i2b hz1 dX12_feed_93 ?_
      obtain ⟨g15, h⟩ := h
      refine am_bast hz1 (ln_69 hG) (lk_69 hG) (by rw [(ll_69 hG)]; exact g15) dX12_feed_94 ?_
      refine am_iinc (v := v6 + 1) (lv' := [(6, .int (v6 + 1)), (7, .int v1), (0, .ref ((zB z).size + 64)), (1, .int v1), (2, .int v2), (3, .int v3), (4, .int v4), (5, .int v5)]) hz1 dX12_feed_95 7 rfl rfl rfl rfl ?_
      refine am_goto (tgt := 14) hz1 dX12_feed_98 (by decide) ?_
      exact am_sub (lv' := [(0, .ref ((zB z).size + 64)), (1, .int v1), (2, .int v2), (3, .int v3), (4, .int v4), (5, .int v5), (6, .int (v6 + 1))]) [2, 3, 4, 5, 6, 7, 0] rfl h
set_option maxRecDepth 100000 in
set_option maxHeartbeats 4000000 in
theorem c_X12_feed {l : Launch} {D : va_G} {B : Heap} {G : amG} {I : amI} {L : amL}  (hG : Lay G)  (v1 : Int32) (v2 : Int32) (v3 : Int32) (v4 : Int32) (v5 : Int32) {s : St} (hs : RI s I L) (hw : WF s) : Mx l D B yX12_feed cX12_feed 8 (some .int) 0 0 0 [.ref (B.size + 64), .int v1, .int v2, .int v3, .int v4, .int v5] G I L (fun r G1 I1 L1 => r = some (.int (xFeed s v1 v2 v3 v4 v5).1) ∧ G1 = G ∧ RI (xFeed s v1 v2 v3 v4 v5).2 I1 L1 ∧ frM I L I1 L1) := by
  refine Mx.of (by decide) rfl rfl (fun z e1 e2 e3 hz => ?_)
  subst e1; subst e2; subst e3
  refine b_X12_feed_0 hz hG ?_
  have hm := hw.2.2.2.2.2.2.1
  have h7 := hs.2.2.2.2.1
  rw [h7, show (100 : Int32) = nI 100 from rfl, nI_leI (by omega) (by decide)]
  refine ⟨fun h => ?_, fun h => by rw [xFeed, if_neg h]; exact ⟨rfl, rfl, hs, frM_r⟩⟩
  have hx2 : xFeed s v1 v2 v3 v4 v5 = (nI ((sT s).1 + 20), (sC s, s0 s, s1 s, sE s, ((sT s).1 + 20, fun i => if i < (sT s).1 then (sT s).2 i else fdB v1 v2 v3 v4 v5 (i - (sT s).1) &&& 255), sH s)) := by rw [xFeed, if_pos h]
  have main : ∀ f : Nat → Int32, (∀ i, i < (sT s).1 → f i = I 69 i) → (∀ i, i < 0 → f ((sT s).1 + i) = fdB v1 v2 v3 v4 v5 i) → Wx z 0 0 14 [(0, .ref ((zB z).size + 64)), (1, .int v1), (2, .int v2), (3, .int v3), (4, .int v4), (5, .int v5), (6, .int (nI 0))] [] G (setI I 69 f) L := by
    refine for_up (P := fun k => ∀ f : Nat → Int32, (∀ i, i < (sT s).1 → f i = I 69 i) → (∀ i, i < k → f ((sT s).1 + i) = fdB v1 v2 v3 v4 v5 i) → Wx z 0 0 14 [(0, .ref ((zB z).size + 64)), (1, .int v1), (2, .int v2), (3, .int v3), (4, .int v4), (5, .int v5), (6, .int (nI k))] [] G (setI I 69 f) L) (n := 20) ?_ ?_ (Nat.zero_le _)
    · intro f h1 h2
      refine b_X12_feed_14 hz hG ⟨fun _ => ?_, fun q => absurd (nI_le (a := 20) (b := 20) (Nat.le_refl _) (by decide)) q⟩
      have e7 : setI I 69 f 64 7 + 20 = nI ((sT s).1 + 20) := by rw [setI_n (by decide), h7, show (20 : Int32) = nI 20 from rfl, nI_add]
      rw [e7, hx2]
      refine ⟨by rw [setI_s, upd_s], rfl, ?_, frM_t (frM_I (by decide) (by decide)) frM_64⟩
      refine RI_tp hs (by rw [setI_s, upd_s]) (fun i hi => ?_) (by rw [setI_s, upd_n (by decide), setI_n (by decide)]) (by rw [setI_s, upd_n (by decide), setI_n (by decide)]) (by rw [setI_s, upd_n (by decide), setI_n (by decide)]) (by rw [setI_s, upd_n (by decide), setI_n (by decide)]) (fun q q1 q2 => by rw [setI_n q1, setI_n q2])
      rw [setI_n (by decide), setI_s]
      by_cases e : i < (sT s).1
      · rw [if_pos e, h1 i e]; exact hs.2.2.2.2.2.1 i e
      · rw [if_neg e]
        have := h2 (i - (sT s).1) (by omega)
        rw [show (sT s).1 + (i - (sT s).1) = i by omega] at this
        rw [this]
    · intro k hk ih f h1 h2
      have hst : ∀ v : Int32, v = fdV v1 v2 v3 v4 v5 k → Wx z 0 0 14 [(0, .ref ((zB z).size + 64)), (1, .int v1), (2, .int v2), (3, .int v3), (4, .int v4), (5, .int v5), (6, .int (nI (k + 1)))] [] G (setI I 69 (upd f ((sT s).1 + k) (byV v (nI (24 - 8 * (k % 4)))))) L := by
        intro v hv
        refine ih _ (fun i hi => by rw [upd_n (by omega)]; exact h1 i hi) (fun i hi => ?_)
        by_cases e : i = k
        · subst e; rw [upd_s, fdB, hv]
        · rw [upd_n (by omega)]; exact h2 i (by omega)
      have hsh : ((24 : Int32) - 8 * (nI k - nI k / 4 * 4)) = nI (24 - 8 * (k % 4)) := by
        rw [show nI k - nI k / (4 : Int32) * 4 = nI (k % 4) from nI_rem (b := 4) (by omega) (by decide) (by decide), show (8 : Int32) = nI 8 from rfl, nI_mul]
        have : k % 4 < 4 := Nat.mod_lt _ (by decide)
        have e : (24 : Int32) = nI (24 - 8 * (k % 4)) + nI (8 * (k % 4)) := by rw [nI_add, show 24 - 8 * (k % 4) + 8 * (k % 4) = 24 by omega]; rfl
        rw [e]
        exact Int32.add_sub_cancel _ _
      have hin : vp_in (setI I 69 f 64 7 + nI k) 120 := by rw [setI_n (by decide), h7, nI_add]; exact in_nI (by omega) (by decide)
      have hcl : (setI I 69 f 64 7 + nI k).toNatClampNeg = (sT s).1 + k := by rw [setI_n (by decide), h7, nI_add]; exact cl_nI (by omega)
      refine b_X12_feed_14 hz hG ⟨fun q => absurd q (nI_ge (b := 20) hk (by decide)), fun _ => ?_⟩
      rw [hsh, hcl, setI_ss, setI_s, nI_1]
      refine ⟨fun q4 => ⟨fun q8 => ⟨fun q12 => ⟨fun q16 => ⟨hin, hst v5 ?_⟩, fun q16 => ⟨hin, ?_⟩⟩, fun q12 => ⟨hin, ?_⟩⟩, fun q8 => ⟨hin, ?_⟩⟩, fun q4 => ⟨hin, ?_⟩⟩
      · rw [show (4 : Int32) = nI 4 from rfl, nI_leI (by decide) (by omega)] at q4
        rw [show (8 : Int32) = nI 8 from rfl, nI_leI (by decide) (by omega)] at q8
        rw [show (12 : Int32) = nI 12 from rfl, nI_leI (by decide) (by omega)] at q12
        rw [show (16 : Int32) = nI 16 from rfl, nI_leI (by decide) (by omega)] at q16
        rw [fdV, if_neg (by omega), if_neg (by omega), if_neg (by omega), if_neg (by omega)]
      · rw [show (12 : Int32) = nI 12 from rfl, nI_leI (by decide) (by omega)] at q12
        rw [show (16 : Int32) = nI 16 from rfl, nI_leI (by decide) (by omega)] at q16
        have := hst v4 (by rw [fdV, if_neg (by omega), if_neg (by omega), if_neg (by omega), if_pos (by omega)])
        rw [setI_ss]
        exact this
      · rw [show (8 : Int32) = nI 8 from rfl, nI_leI (by decide) (by omega)] at q8
        rw [show (12 : Int32) = nI 12 from rfl, nI_leI (by decide) (by omega)] at q12
        have := hst v3 (by rw [fdV, if_neg (by omega), if_neg (by omega), if_pos (by omega)])
        rw [setI_ss]
        exact this
      · rw [show (4 : Int32) = nI 4 from rfl, nI_leI (by decide) (by omega)] at q4
        rw [show (8 : Int32) = nI 8 from rfl, nI_leI (by decide) (by omega)] at q8
        have := hst v2 (by rw [fdV, if_neg (by omega), if_pos (by omega)])
        rw [setI_ss]
        exact this
      · rw [show (4 : Int32) = nI 4 from rfl, nI_leI (by decide) (by omega)] at q4
        have := hst v1 (by rw [fdV, if_pos (by omega)])
        rw [setI_ss]
        exact this
  have := main (I 69) (fun _ _ => rfl) (fun i hi => absurd hi (Nat.not_lt_zero _))
  rw [setI_id] at this
  exact this
def xEnd (s : St) (n : Int32) : Int32 × St := if inR (sT s).1 n = true then (n, (sC s, s0 s, s1 s, sE s, (n.toNatClampNeg, (sT s).2), sH s)) else (-1, s)
set_option maxRecDepth 100000 in
set_option maxHeartbeats 4000000 in
theorem b_X12_end_0 {z : amZ} {post : amP} {G : amG} {I : amI} {L : amL} (hz : Go z cX12_end RX12 2 (some .int) 1 0 0 post) (hG : Lay G) {v1 : Int32} (h : ((m_isIn v1.toInt64 (0 : Int64) ((I 64 7).toInt64) = true) → post (some (.int v1)) G (setI I 64 (upd (I 64) 7 v1)) L) ∧ ((m_isIn v1.toInt64 (0 : Int64) ((I 64 7).toInt64) = false) → post (some (.int (-1))) G I L)) : Wx z 0 0 0 [(0, .ref ((zB z).size + 64)), (1, .int v1)] [] G I L := by
  have hz1 := hz.1
  refine am_iload_n hz1 dX12_end_0 1 rfl rfl ?_
  refine am_i2l hz1 dX12_end_1 ?_
  refine am_lconst (v := 0) hz1 dX12_end_2 (by decide) ?_
  refine am_aload_n hz1 dX12_end_3 0 rfl rfl ?_
  refine am_getI hz1 fl_X12_130 (ln_64 hG) (lk_64 hG) rfl dX12_end_4 ?_
  refine am_i2l hz1 dX12_end_7 ?_
  refine am_cSf hz ct_X12_82 [.long v1.toInt64, .long (0 : Int64), .long ((I 64 7).toInt64)] [] (c_X12_isIn hG v1.toInt64 (0 : Int64) ((I 64 7).toInt64) ) rfl rfl rfl ⟨Nat.le_refl _, Nat.le_refl _⟩ (Nat.le_of_ble_eq_true rfl) dX12_end_8 ?_
  refine am_ifb_ne (tgt := 16) hz1 dX12_end_11 (by decide) (fun c1 => ?_) (fun c1 => ?_)
  · replace h := h.1 c1
    refine am_aload_n hz1 dX12_end_16 0 rfl rfl ?_
    refine am_iload_n hz1 dX12_end_17 1 rfl rfl ?_
    refine am_putI hz1 fl_X12_130 (ln_64 hG) (lk_64 hG) rfl rfl (fun _ => rfl) dX12_end_18 ?_
    refine am_iload_n hz1 dX12_end_21 1 rfl rfl ?_
    exact am_ireturn hz dX12_end_22 h
  · replace h := h.2 c1
    refine am_iconst (v := (-1)) hz1 dX12_end_14 (by decide) ?_
    exact am_ireturn hz dX12_end_15 h
set_option maxRecDepth 100000 in
set_option maxHeartbeats 4000000 in
theorem c_X12_end {l : Launch} {D : va_G} {B : Heap} {G : amG} {I : amI} {L : amL}  (hG : Lay G)  (v1 : Int32) {s : St} (hs : RI s I L) (hw : WF s) : Mx l D B yX12_end cX12_end 2 (some .int) 1 0 0 [.ref (B.size + 64), .int v1] G I L (fun r G1 I1 L1 => r = some (.int (xEnd s v1).1) ∧ G1 = G ∧ RI (xEnd s v1).2 I1 L1 ∧ frM I L I1 L1) := by
  refine Mx.of (by decide) rfl rfl (fun z e1 e2 e3 hz => ?_)
  subst e1; subst e2; subst e3
  refine b_X12_end_0 hz hG ?_
  have hm := hw.2.2.2.2.2.2.1
  have h7 := hs.2.2.2.2.1
  rw [isIn_R (k := (sT s).1) (by omega) (by rw [h7, Int32.toInt_toInt64, nI_toInt (by omega)])]
  refine ⟨fun h => ?_, fun h => by rw [xEnd, if_neg (by rw [h]; decide)]; exact ⟨rfl, rfl, hs, frM_r⟩⟩
  obtain ⟨x, hx, rfl⟩ := (inR_t (by omega)).mp h
  rw [xEnd, if_pos h, cl_nI (by omega)]
  refine ⟨rfl, rfl, RI_tp hs (by rw [setI_s, upd_s]) (fun i hi => by rw [setI_n (by decide)]; exact hs.2.2.2.2.2.1 i (by omega)) (by rw [setI_s, upd_n (by decide)]) (by rw [setI_s, upd_n (by decide)]) (by rw [setI_s, upd_n (by decide)]) (by rw [setI_s, upd_n (by decide)]) (fun q q1 q2 => by rw [setI_n q1]), frM_64⟩
