/-! THE REFERENCE: Moebius values from above, by chains, by cross-cuts -/
theorem nu_step {n : Nat} {A : Nat → Int32} (hP : PO n A) (h16 : n ≤ 16) {x b : Nat} (hx : x < n) (hb : b < n) (hl : le A x b = true) {L : amL} (hM : MO L n A) {g : Nat → Int64} (hr : ∀ y, y < n → le A x y = true → le A y b = true → y ≠ x → g y = nu n A b y) : (if x = b then 1 else 0) - sumC (fun y => decide (¬ nI y = nI x) && m_has (m_iv L (nI x) (nI b)) (nI y)) g n = nu n A b x := by
  have hc : ∀ y, y < n → (decide (¬ nI y = nI x) && m_has (m_iv L (nI x) (nI b)) (nI y)) = bt (dnS n A b &&& A x) y := by
    intro y hy
    rw [hM.iv hx hb, has_b (by omega), iv_b (by omega) hb (by omega), b_and, dn_b (by omega) hb (by omega), decide_eq_true hy, Bool.true_and, Bool.true_and, lt_b hP (by omega) hx hy]
    rw [show decide (¬ nI y = nI x) = decide (¬ x = y) from decide_eq_decide.mpr (not_congr ((nI_eq (by omega) (by omega)).trans ⟨Eq.symm, Eq.symm⟩))]
    cases le A x y <;> cases le A y b <;> cases decide (¬ x = y) <;> rfl
  have hs : sumC (fun y => decide (¬ nI y = nI x) && m_has (m_iv L (nI x) (nI b)) (nI y)) g n = sumS (nu n A b) (dnS n A b &&& A x) n := by
    rw [← sumC_S]
    refine sumC_c (fun y hy => ⟨hc y hy, fun q => ?_⟩)
    rw [hc y hy, b_and, dn_b (by omega) hb (by omega), decide_eq_true hy, Bool.true_and, Bool.and_eq_true, lt_b hP (by omega) hx hy, Bool.and_eq_true, decide_eq_true_eq] at q
    exact hr y hy q.2.2 q.1 (Ne.symm q.2.1)
  rw [hs, nu_is hP x hx]
  by_cases e : x = b
  · subst e
    rw [if_pos rfl, if_pos rfl]
    have h0 : sumS (nu n A x) (dnS n A x &&& A x) n = 0 := by
      have hz : ∀ m, m ≤ n → sumS (nu n A x) (dnS n A x &&& A x) m = 0 := by
        intro m
        induction m with
        | zero => intro _; rfl
        | succ m ih =>
          intro hm
          rw [sumS, if_neg, ih (by omega)]
          rw [b_and, dn_b (by omega) hx (by omega), lt_b hP (by omega) hx (by omega)]
          intro q
          rw [Bool.and_eq_true, Bool.and_eq_true, Bool.and_eq_true, decide_eq_true_eq, decide_eq_true_eq] at q
          exact q.2.1 (le_as hP (by omega) hx (by omega) q.2.2 q.1.2)
      exact hz n (Nat.le_refl _)
    rw [h0, Int64.sub_zero]
  · rw [if_neg e, if_neg e, Int64.zero_sub]
set_option maxRecDepth 100000 in
set_option maxHeartbeats 4000000 in
theorem b_X12_fromAbove_0 {z : amZ} {post : amP} {G : amG} {I : amI} {L : amL} (hz : Go z cX12_fromAbove RX12 8 (some .long) 4 0 0 post) (hG : Lay G) {v1 : Int32} {v2 : Int32} (h : Wx z 0 0 6 [(0, .ref ((zB z).size + 64)), (1, .int v1), (2, .int v2), (3, .int 1)] [] G I (setL L 72 (wr (L 72) 0 256 (fun _ => 0)))) : Wx z 0 0 0 [(0, .ref ((zB z).size + 64)), (1, .int v1), (2, .int v2)] [] G I L := by
  have hz1 := hz.1
  refine am_aload_n hz1 dX12_fromAbove_0 0 rfl rfl ?_
  refine am_cVf hz cv_X12_276 [] [] (c_X12_empties hG  ) (ln_64 hG) (lk_64 hG) rfl rfl rfl ⟨Nat.le_refl _, Nat.le_refl _⟩ (Nat.le_of_ble_eq_true rfl) dX12_fromAbove_1 ?_
  refine am_iconst (v := 1) hz1 dX12_fromAbove_4 (by decide) ?_
  refine am_istore_n (lv' := [(3, .int 1), (0, .ref ((zB z).size + 64)), (1, .int v1), (2, .int v2)]) hz1 dX12_fromAbove_5 rfl rfl rfl ?_
  exact am_sub (lv' := [(0, .ref ((zB z).size + 64)), (1, .int v1), (2, .int v2), (3, .int 1)]) [1, 2, 3, 0] rfl h
set_option maxRecDepth 100000 in
set_option maxHeartbeats 4000000 in
theorem b_X12_fromAbove_6 {z : amZ} {post : amP} {G : amG} {I : amI} {L : amL} (hz : Go z cX12_fromAbove RX12 8 (some .long) 4 0 0 post) (hG : Lay G) {v1 : Int32} {v2 : Int32} {v3 : Int32} (h : (((m_many L) < v3) → vp_in (((16 : Int32) * v1) + v2) 256 ∧ post (some (.long (L 72 (((16 : Int32) * v1) + v2).toNatClampNeg))) G I L) ∧ ((¬ (m_many L) < v3) → Wx z 0 0 17 [(0, .ref ((zB z).size + 64)), (1, .int v1), (2, .int v2), (3, .int v3), (4, .int 0)] [] G I L)) : Wx z 0 0 6 [(0, .ref ((zB z).size + 64)), (1, .int v1), (2, .int v2), (3, .int v3)] [] G I L := by
  have hz1 := hz.1
  refine am_iload_n hz1 dX12_fromAbove_6 3 rfl rfl ?_
  refine am_aload_n hz1 dX12_fromAbove_7 0 rfl rfl ?_
  refine am_cVf hz cv_X12_78 [] [.int v3] (c_X12_many hG  ) (ln_64 hG) (lk_64 hG) rfl rfl rfl ⟨Nat.le_refl _, Nat.le_refl _⟩ (Nat.le_of_ble_eq_true rfl) dX12_fromAbove_8 ?_
  refine am_icmp_gt (tgt := 149) hz1 dX12_fromAbove_11 (by decide) (fun c1 => ?_) (fun c1 => ?_)
  · replace h := h.1 c1
    refine am_aload_n hz1 dX12_fromAbove_149 0 rfl rfl ?_
    refine am_getR hz1 fl_X12_35 (ln_64 hG) (lk_64 hG) (lr_64_16 hG) rfl dX12_fromAbove_150 ?_
    refine am_bipush (v := 16) hz1 dX12_fromAbove_153 (by decide) ?_
    refine am_iload_n hz1 dX12_fromAbove_155 1 rfl rfl ?_
    refine am_imul hz1 dX12_fromAbove_156 ?_
    refine am_iload_n hz1 dX12_fromAbove_157 2 rfl rfl ?_
    refine am_iadd hz1 dX12_fromAbove_158 ?_
    obtain ⟨g2, h⟩ := h
    refine am_lald hz1 (ln_72 hG) (lk_72 hG) (by rw [(ll_72 hG)]; exact g2) dX12_fromAbove_159 ?_
    exact am_lreturn hz dX12_fromAbove_160 h
  · replace h := h.2 c1
    refine am_iconst (v := 0) hz1 dX12_fromAbove_14 (by decide) ?_
    refine am_istore (lv' := [(4, .int 0), (0, .ref ((zB z).size + 64)), (1, .int v1), (2, .int v2), (3, .int v3)]) hz1 dX12_fromAbove_15 rfl rfl ?_
    exact am_sub (lv' := [(0, .ref ((zB z).size + 64)), (1, .int v1), (2, .int v2), (3, .int v3), (4, .int 0)]) [1, 2, 3, 4, 0] rfl h
set_option maxRecDepth 100000 in
set_option maxHeartbeats 4000000 in
theorem b_X12_fromAbove_17 {z : amZ} {post : amP} {G : amG} {I : amI} {L : amL} (hz : Go z cX12_fromAbove RX12 8 (some .long) 4 0 0 post) (hG : Lay G) {v1 : Int32} {v2 : Int32} {v3 : Int32} {v4 : Int32} (h : (((m_many L) ≤ v4) → Wx z 0 0 6 [(0, .ref ((zB z).size + 64)), (1, .int v1), (2, .int v2), (3, .int (v3 + 1))] [] G I L) ∧ ((¬ (m_many L) ≤ v4) → (vp_in v4 16) ∧ ((m_am L v4 v2 = false) → Wx z 0 0 17 [(0, .ref ((zB z).size + 64)), (1, .int v1), (2, .int v2), (3, .int v3), (4, .int (v4 + 1))] [] G I L) ∧ ((m_am L v4 v2 = true) → (mOk L) ∧ (vp_in v4 16) ∧ (s16 (m_iv L v4 v2)) ∧ (((m_size (m_iv L v4 v2)) = v3) → ((¬ v4 = v2) → Wx z 0 0 69 [(0, .ref ((zB z).size + 64)), (1, .int v1), (2, .int v2), (3, .int v3), (4, .int v4), (5, .long (0 : Int64)), (7, .int 0)] [] G I L) ∧ ((v4 = v2) → Wx z 0 0 69 [(0, .ref ((zB z).size + 64)), (1, .int v1), (2, .int v2), (3, .int v3), (4, .int v4), (5, .long (1 : Int64)), (7, .int 0)] [] G I L)) ∧ ((¬ (m_size (m_iv L v4 v2)) = v3) → Wx z 0 0 17 [(0, .ref ((zB z).size + 64)), (1, .int v1), (2, .int v2), (3, .int v3), (4, .int (v4 + 1))] [] G I L)))) : Wx z 0 0 17 [(0, .ref ((zB z).size + 64)), (1, .int v1), (2, .int v2), (3, .int v3), (4, .int v4)] [] G I L := by
  have hz1 := hz.1
  refine am_iload hz1 dX12_fromAbove_17 4 rfl ?_
  refine am_aload_n hz1 dX12_fromAbove_19 0 rfl rfl ?_
  refine am_cVf hz cv_X12_78 [] [.int v4] (c_X12_many hG  ) (ln_64 hG) (lk_64 hG) rfl rfl rfl ⟨Nat.le_refl _, Nat.le_refl _⟩ (Nat.le_of_ble_eq_true rfl) dX12_fromAbove_20 ?_
  refine am_icmp_ge (tgt := 143) hz1 dX12_fromAbove_23 (by decide) (fun c1 => ?_) (fun c1 => ?_)
  · replace h := h.1 c1
    refine am_iinc (v := v3 + 1) (lv' := [(3, .int (v3 + 1)), (0, .ref ((zB z).size + 64)), (1, .int v1), (2, .int v2), (4, .int v4)]) hz1 dX12_fromAbove_143 3 rfl rfl rfl rfl ?_
    refine am_goto (tgt := 6) hz1 dX12_fromAbove_146 (by decide) ?_
    exact am_sub (lv' := [(0, .ref ((zB z).size + 64)), (1, .int v1), (2, .int v2), (3, .int (v3 + 1))]) [1, 2, 3, 0] rfl h
  · replace h := h.2 c1
    refine am_aload_n hz1 dX12_fromAbove_26 0 rfl rfl ?_
    refine am_iload hz1 dX12_fromAbove_27 4 rfl ?_
    refine am_iload_n hz1 dX12_fromAbove_29 2 rfl rfl ?_
    obtain ⟨g2, h⟩ := h
    refine am_cVf hz cv_X12_94 [.int v4, .int v2] [] (c_X12_isAtMost hG v4 v2 g2) (ln_64 hG) (lk_64 hG) rfl rfl rfl ⟨Nat.le_refl _, Nat.le_refl _⟩ (Nat.le_of_ble_eq_true rfl) dX12_fromAbove_30 ?_
    refine am_ifb_eq (tgt := 137) hz1 dX12_fromAbove_33 (by decide) (fun c3 => ?_) (fun c3 => ?_)
    · replace h := h.1 c3
      refine am_iinc (v := v4 + 1) (lv' := [(4, .int (v4 + 1)), (0, .ref ((zB z).size + 64)), (1, .int v1), (2, .int v2), (3, .int v3)]) hz1 dX12_fromAbove_137 4 rfl rfl rfl rfl ?_
      refine am_goto (tgt := 17) hz1 dX12_fromAbove_140 (by decide) ?_
      exact am_sub (lv' := [(0, .ref ((zB z).size + 64)), (1, .int v1), (2, .int v2), (3, .int v3), (4, .int (v4 + 1))]) [1, 2, 3, 4, 0] rfl h
    · replace h := h.2 c3
      refine am_aload_n hz1 dX12_fromAbove_36 0 rfl rfl ?_
      refine am_iload hz1 dX12_fromAbove_37 4 rfl ?_
      refine am_iload_n hz1 dX12_fromAbove_39 2 rfl rfl ?_
      obtain ⟨g4, h⟩ := h
      obtain ⟨g5, h⟩ := h
      refine am_cVf hz cv_X12_107 [.int v4, .int v2] [] (c_X12_interval hG v4 v2 g4 g5) (ln_64 hG) (lk_64 hG) rfl rfl rfl ⟨Nat.le_refl _, Nat.le_refl _⟩ (Nat.le_of_ble_eq_true rfl) dX12_fromAbove_40 ?_
      obtain ⟨g6, h⟩ := h
      refine am_cSf hz ct_X12_111 [.int (m_iv L v4 v2)] [] (c_X12_size hG (m_iv L v4 v2) g6) rfl rfl rfl ⟨Nat.le_refl _, Nat.le_refl _⟩ (Nat.le_of_ble_eq_true rfl) dX12_fromAbove_43 ?_
      refine am_iload_n hz1 dX12_fromAbove_46 3 rfl rfl ?_
      refine am_icmp_eq (tgt := 53) hz1 dX12_fromAbove_47 (by decide) (fun c7 => ?_) (fun c7 => ?_)
      · replace h := h.1 c7
        refine am_iload hz1 dX12_fromAbove_53 4 rfl ?_
        refine am_iload_n hz1 dX12_fromAbove_55 2 rfl rfl ?_
        refine am_icmp_ne (tgt := 63) hz1 dX12_fromAbove_56 (by decide) (fun c8 => ?_) (fun c8 => ?_)
        · replace h := h.1 c8
          refine am_lconst (v := 0) hz1 dX12_fromAbove_63 (by decide) ?_
          refine am_lstore (lv' := [(5, .long (0 : Int64)), (0, .ref ((zB z).size + 64)), (1, .int v1), (2, .int v2), (3, .int v3), (4, .int v4)]) hz1 dX12_fromAbove_64 rfl rfl ?_
          refine am_iconst (v := 0) hz1 dX12_fromAbove_66 (by decide) ?_
          refine am_istore (lv' := [(7, .int 0), (5, .long (0 : Int64)), (0, .ref ((zB z).size + 64)), (1, .int v1), (2, .int v2), (3, .int v3), (4, .int v4)]) hz1 dX12_fromAbove_67 rfl rfl ?_
          exact am_sub (lv' := [(0, .ref ((zB z).size + 64)), (1, .int v1), (2, .int v2), (3, .int v3), (4, .int v4), (5, .long (0 : Int64)), (7, .int 0)]) [2, 3, 4, 5, 6, 1, 0] rfl h
        · replace h := h.2 c8
          refine am_lconst (v := 1) hz1 dX12_fromAbove_59 (by decide) ?_
          refine am_goto (tgt := 64) hz1 dX12_fromAbove_60 (by decide) ?_
          refine am_lstore (lv' := [(5, .long (1 : Int64)), (0, .ref ((zB z).size + 64)), (1, .int v1), (2, .int v2), (3, .int v3), (4, .int v4)]) hz1 dX12_fromAbove_64 rfl rfl ?_
          refine am_iconst (v := 0) hz1 dX12_fromAbove_66 (by decide) ?_
          refine am_istore (lv' := [(7, .int 0), (5, .long (1 : Int64)), (0, .ref ((zB z).size + 64)), (1, .int v1), (2, .int v2), (3, .int v3), (4, .int v4)]) hz1 dX12_fromAbove_67 rfl rfl ?_
          exact am_sub (lv' := [(0, .ref ((zB z).size + 64)), (1, .int v1), (2, .int v2), (3, .int v3), (4, .int v4), (5, .long (1 : Int64)), (7, .int 0)]) [2, 3, 4, 5, 6, 1, 0] rfl h
      · replace h := h.2 c7
        refine am_goto (tgt := 137) hz1 dX12_fromAbove_50 (by decide) ?_
        refine am_iinc (v := v4 + 1) (lv' := [(4, .int (v4 + 1)), (0, .ref ((zB z).size + 64)), (1, .int v1), (2, .int v2), (3, .int v3)]) hz1 dX12_fromAbove_137 4 rfl rfl rfl rfl ?_
        refine am_goto (tgt := 17) hz1 dX12_fromAbove_140 (by decide) ?_
        exact am_sub (lv' := [(0, .ref ((zB z).size + 64)), (1, .int v1), (2, .int v2), (3, .int v3), (4, .int (v4 + 1))]) [1, 2, 3, 4, 0] rfl h
set_option maxRecDepth 100000 in
set_option maxHeartbeats 4000000 in
theorem b_X12_fromAbove_69 {z : amZ} {post : amP} {G : amG} {I : amI} {L : amL} (hz : Go z cX12_fromAbove RX12 8 (some .long) 4 0 0 post) (hG : Lay G) {v1 : Int32} {v2 : Int32} {v3 : Int32} {v4 : Int32} {v5 : Int64} {v7 : Int32} (h : (((m_many L) ≤ v7) → vp_in (((16 : Int32) * v4) + v2) 256 ∧ Wx z 0 0 17 [(0, .ref ((zB z).size + 64)), (1, .int v1), (2, .int v2), (3, .int v3), (4, .int (v4 + 1))] [] G I (setL L 72 (vp_updL (L 72) (((16 : Int32) * v4) + v2).toNatClampNeg v5))) ∧ ((¬ (m_many L) ≤ v7) → ((v7 = v4) → Wx z 0 0 69 [(0, .ref ((zB z).size + 64)), (1, .int v1), (2, .int v2), (3, .int v3), (4, .int v4), (5, .long v5), (7, .int (v7 + 1))] [] G I L) ∧ ((¬ v7 = v4) → (mOk L) ∧ (vp_in v4 16) ∧ ((m_has (m_iv L v4 v2) v7 = false) → Wx z 0 0 69 [(0, .ref ((zB z).size + 64)), (1, .int v1), (2, .int v2), (3, .int v3), (4, .int v4), (5, .long v5), (7, .int (v7 + 1))] [] G I L) ∧ ((m_has (m_iv L v4 v2) v7 = true) → vp_in (((16 : Int32) * v7) + v2) 256 ∧ Wx z 0 0 69 [(0, .ref ((zB z).size + 64)), (1, .int v1), (2, .int v2), (3, .int v3), (4, .int v4), (5, .long (v5 - (L 72 (((16 : Int32) * v7) + v2).toNatClampNeg))), (7, .int (v7 + 1))] [] G I L)))) : Wx z 0 0 69 [(0, .ref ((zB z).size + 64)), (1, .int v1), (2, .int v2), (3, .int v3), (4, .int v4), (5, .long v5), (7, .int v7)] [] G I L := by
  have hz1 := hz.1
  refine am_iload hz1 dX12_fromAbove_69 6 rfl ?_
  refine am_aload_n hz1 dX12_fromAbove_71 0 rfl rfl ?_
  refine am_cVf hz cv_X12_78 [] [.int v7] (c_X12_many hG  ) (ln_64 hG) (lk_64 hG) rfl rfl rfl ⟨Nat.le_refl _, Nat.le_refl _⟩ (Nat.le_of_ble_eq_true rfl) dX12_fromAbove_72 ?_
  refine am_icmp_ge (tgt := 123) hz1 dX12_fromAbove_75 (by decide) (fun c1 => ?_) (fun c1 => ?_)
  · replace h := h.1 c1
    refine am_aload_n hz1 dX12_fromAbove_123 0 rfl rfl ?_
    refine am_getR hz1 fl_X12_35 (ln_64 hG) (lk_64 hG) (lr_64_16 hG) rfl dX12_fromAbove_124 ?_
    refine am_bipush (v := 16) hz1 dX12_fromAbove_127 (by decide) ?_
    refine am_iload hz1 dX12_fromAbove_129 4 rfl ?_
    refine am_imul hz1 dX12_fromAbove_131 ?_
    refine am_iload_n hz1 dX12_fromAbove_132 2 rfl rfl ?_
    refine am_iadd hz1 dX12_fromAbove_133 ?_
    refine am_lload hz1 dX12_fromAbove_134 5 rfl ?_
    obtain ⟨g2, h⟩ := h
    refine am_last hz1 (ln_72 hG) (lk_72 hG) (by rw [(ll_72 hG)]; exact g2) dX12_fromAbove_136 ?_
    refine am_iinc (v := v4 + 1) (lv' := [(4, .int (v4 + 1)), (0, .ref ((zB z).size + 64)), (1, .int v1), (2, .int v2), (3, .int v3), (5, .long v5), (7, .int v7)]) hz1 dX12_fromAbove_137 4 rfl rfl rfl rfl ?_
    refine am_goto (tgt := 17) hz1 dX12_fromAbove_140 (by decide) ?_
    exact am_sub (lv' := [(0, .ref ((zB z).size + 64)), (1, .int v1), (2, .int v2), (3, .int v3), (4, .int (v4 + 1))]) [1, 2, 3, 4, 0] rfl h
  · replace h := h.2 c1
    refine am_iload hz1 dX12_fromAbove_78 6 rfl ?_
    refine am_iload hz1 dX12_fromAbove_80 4 rfl ?_
    refine am_icmp_eq (tgt := 117) hz1 dX12_fromAbove_82 (by decide) (fun c3 => ?_) (fun c3 => ?_)
    · replace h := h.1 c3
      refine am_iinc (v := v7 + 1) (lv' := [(7, .int (v7 + 1)), (0, .ref ((zB z).size + 64)), (1, .int v1), (2, .int v2), (3, .int v3), (4, .int v4), (5, .long v5)]) hz1 dX12_fromAbove_117 6 rfl rfl rfl rfl ?_
      refine am_goto (tgt := 69) hz1 dX12_fromAbove_120 (by decide) ?_
      exact am_sub (lv' := [(0, .ref ((zB z).size + 64)), (1, .int v1), (2, .int v2), (3, .int v3), (4, .int v4), (5, .long v5), (7, .int (v7 + 1))]) [1, 2, 3, 4, 5, 6, 0] rfl h
    · replace h := h.2 c3
      refine am_aload_n hz1 dX12_fromAbove_85 0 rfl rfl ?_
      refine am_iload hz1 dX12_fromAbove_86 4 rfl ?_
      refine am_iload_n hz1 dX12_fromAbove_88 2 rfl rfl ?_
      obtain ⟨g4, h⟩ := h
      obtain ⟨g5, h⟩ := h
      refine am_cVf hz cv_X12_107 [.int v4, .int v2] [] (c_X12_interval hG v4 v2 g4 g5) (ln_64 hG) (lk_64 hG) rfl rfl rfl ⟨Nat.le_refl _, Nat.le_refl _⟩ (Nat.le_of_ble_eq_true rfl) dX12_fromAbove_89 ?_
      refine am_iload hz1 dX12_fromAbove_92 6 rfl ?_
      refine am_cSf hz ct_X12_90 [.int (m_iv L v4 v2), .int v7] [] (c_X12_has hG (m_iv L v4 v2) v7 ) rfl rfl rfl ⟨Nat.le_refl _, Nat.le_refl _⟩ (Nat.le_of_ble_eq_true rfl) dX12_fromAbove_94 ?_
      refine am_ifb_eq (tgt := 117) hz1 dX12_fromAbove_97 (by decide) (fun c6 => ?_) (fun c6 => ?_)
      · replace h := h.1 c6
        refine am_iinc (v := v7 + 1) (lv' := [(7, .int (v7 + 1)), (0, .ref ((zB z).size + 64)), (1, .int v1), (2, .int v2), (3, .int v3), (4, .int v4), (5, .long v5)]) hz1 dX12_fromAbove_117 6 rfl rfl rfl rfl ?_
        refine am_goto (tgt := 69) hz1 dX12_fromAbove_120 (by decide) ?_
        exact am_sub (lv' := [(0, .ref ((zB z).size + 64)), (1, .int v1), (2, .int v2), (3, .int v3), (4, .int v4), (5, .long v5), (7, .int (v7 + 1))]) [1, 2, 3, 4, 5, 6, 0] rfl h
      · replace h := h.2 c6
        refine am_lload hz1 dX12_fromAbove_100 5 rfl ?_
        refine am_aload_n hz1 dX12_fromAbove_102 0 rfl rfl ?_
        refine am_getR hz1 fl_X12_35 (ln_64 hG) (lk_64 hG) (lr_64_16 hG) rfl dX12_fromAbove_103 ?_
        refine am_bipush (v := 16) hz1 dX12_fromAbove_106 (by decide) ?_
        refine am_iload hz1 dX12_fromAbove_108 6 rfl ?_
        refine am_imul hz1 dX12_fromAbove_110 ?_
        refine am_iload_n hz1 dX12_fromAbove_111 2 rfl rfl ?_
        refine am_iadd hz1 dX12_fromAbove_112 ?_
        obtain ⟨g7, h⟩ := h
        refine am_lald hz1 (ln_72 hG) (lk_72 hG) (by rw [(ll_72 hG)]; exact g7) dX12_fromAbove_113 ?_
        refine am_lsub hz1 dX12_fromAbove_114 ?_
        refine am_lstore (lv' := [(5, .long (v5 - (L 72 (((16 : Int32) * v7) + v2).toNatClampNeg))), (0, .ref ((zB z).size + 64)), (1, .int v1), (2, .int v2), (3, .int v3), (4, .int v4), (7, .int v7)]) hz1 dX12_fromAbove_115 rfl rfl ?_
        refine am_iinc (v := v7 + 1) (lv' := [(7, .int (v7 + 1)), (5, .long (v5 - (L 72 (((16 : Int32) * v7) + v2).toNatClampNeg))), (0, .ref ((zB z).size + 64)), (1, .int v1), (2, .int v2), (3, .int v3), (4, .int v4)]) hz1 dX12_fromAbove_117 6 rfl rfl rfl rfl ?_
        refine am_goto (tgt := 69) hz1 dX12_fromAbove_120 (by decide) ?_
        exact am_sub (lv' := [(0, .ref ((zB z).size + 64)), (1, .int v1), (2, .int v2), (3, .int v3), (4, .int v4), (5, .long (v5 - (L 72 (((16 : Int32) * v7) + v2).toNatClampNeg))), (7, .int (v7 + 1))]) [2, 3, 4, 5, 6, 1, 0] rfl h
set_option maxRecDepth 100000 in
set_option maxHeartbeats 4000000 in
theorem c_X12_fromAbove {l : Launch} {D : va_G} {B : Heap} {G : amG} {I : amI} {L : amL}  (hG : Lay G)  (v1 : Int32) (v2 : Int32) {n a b : Nat} {A : Nat → Int32} (hM : MO L n A) (ha : a < n) (hb : b < n) (hl : le A a b = true) (hv1 : v1 = nI a) (hv2 : v2 = nI b) : Mx l D B yX12_fromAbove cX12_fromAbove 8 (some .long) 4 0 0 [.ref (B.size + 64), .int v1, .int v2] G I L (fun r G1 I1 L1 => r = some (.long (nu n A b a)) ∧ G1 = G ∧ I1 = I ∧ ∃ f : Nat → Int64, L1 = setL L 72 f) := by
  refine Mx.of (by decide) rfl rfl (fun z e1 e2 e3 hz => ?_)
  subst e1; subst e2; subst e3
  refine b_X12_fromAbove_0 hz hG ?_
  subst hv1; subst hv2
  have h16 := hM.2.1
  have h1 := hM.1
  have hP := hM.2.2.1
  have hM' : ∀ f, MO (setL L 72 f) n A := fun f => MO_72 hM (by decide)
  let c : Nat → Nat → Bool := fun x y => decide (y = b) && le A x y
  have cb : ∀ x, c x b = le A x b := fun x => by show (decide (b = b) && le A x b) = _; simp
  have cy : ∀ x y, c x y = true → y = b := fun x y h => by
    rw [show c x y = (decide (y = b) && le A x y) from rfl, Bool.and_eq_true, decide_eq_true_eq] at h
    exact h.1
  have outer : ∀ f, RK n c (rkS n A) (fun x y => nu n A b x) (fun _ _ => false) (1 + 0) 0 0 f false → Wx z 0 0 6 [(0, .ref ((zB z).size + 64)), (1, .int (nI a)), (2, .int (nI b)), (3, .int (nI (1 + 0)))] [] G I (setL L 72 f) := by
    refine for_up (P := fun k => ∀ f, RK n c (rkS n A) (fun x y => nu n A b x) (fun _ _ => false) (1 + k) 0 0 f false → Wx z 0 0 6 [(0, .ref ((zB z).size + 64)), (1, .int (nI a)), (2, .int (nI b)), (3, .int (nI (1 + k)))] [] G I (setL L 72 f)) (n := n) ?_ ?_ (Nat.zero_le _)
    · intro f hf
      rw [Nat.add_comm 1 n] at hf ⊢
      have hend := (RK_end hf (fun x y hx hy _ => rk_le h16 hy)).1
      refine b_X12_fromAbove_6 hz hG ⟨fun _ => ⟨by rw [c16]; exact in_nI (by omega) (by decide), ?_, rfl, rfl, f, rfl⟩, fun h => absurd (mm_lt' (hM' f)) h⟩
      rw [c16, cl_nI (by omega), setL_s, hend a b (by omega) (by omega), if_pos ⟨ha, hb⟩]
      show some (Value.long (if c a b = true then nu n A b a else 0)) = _
      rw [if_pos (by rw [cb]; exact hl)]
    · intro k hk ih f hf
      refine b_X12_fromAbove_6 hz hG ⟨fun h => absurd h (mm_lt (hM' f) (by omega)), fun _ => ?_⟩
      have rows : ∀ f, RK n c (rkS n A) (fun x y => nu n A b x) (fun _ _ => false) (1 + k) 0 0 f false → Wx z 0 0 17 [(0, .ref ((zB z).size + 64)), (1, .int (nI a)), (2, .int (nI b)), (3, .int (nI (1 + k))), (4, .int (nI 0))] [] G I (setL L 72 f) := by
        refine for_up (P := fun x => ∀ f, RK n c (rkS n A) (fun x y => nu n A b x) (fun _ _ => false) (1 + k) x 0 f false → Wx z 0 0 17 [(0, .ref ((zB z).size + 64)), (1, .int (nI a)), (2, .int (nI b)), (3, .int (nI (1 + k))), (4, .int (nI x))] [] G I (setL L 72 f)) (n := n) ?_ ?_ (Nat.zero_le _)
        · intro f hf
          refine b_X12_fromAbove_17 hz hG ⟨fun _ => ?_, fun h => absurd (mm_le (hM' f)) h⟩
          rw [nI_1]
          exact ih f (RK_blk hf)
        · intro x hx xh f hf
          have hO := hM' f
          have skip : (c x b = true → rkS n A x b ≠ 1 + k) → RK n c (rkS n A) (fun x y => nu n A b x) (fun _ _ => false) (1 + k) (x + 1) 0 f false := fun hs => by
            refine RK_c hf (fun u w hu hw hc => ?_)
            have hwb := cy u w hc
            subst hwb
            unfold vis
            by_cases e : u = x
            · subst e
              have := hs hc
              omega
            · omega
          refine b_X12_fromAbove_17 hz hG ⟨fun h => absurd h (mm_ge hO hx), fun _ => ⟨in16 h16 hx, fun h => ?_, fun h => ⟨⟨n, A, hO⟩, in16 h16 hx, m_iv_16 ⟨n, A, hO⟩, ?_, fun h2 => ?_⟩⟩⟩
          · rw [hO.am hx (by omega)] at h
            rw [nI_1]
            exact xh f (skip (fun q => by rw [cb, h] at q; cases q))
          · rw [hO.am hx (by omega)] at h
            rw [msz hO hx hb]
            have body : ∀ D : Int64, D = (if x = b then 1 else 0) → rkS n A x b = 1 + k → Wx z 0 0 69 [(0, .ref ((zB z).size + 64)), (1, .int (nI a)), (2, .int (nI b)), (3, .int (nI (1 + k))), (4, .int (nI x)), (5, .long D), (7, .int (nI 0))] [] G I (setL L 72 f) := by
              intro D hD hr
              have main := for_up (P := fun y => Wx z 0 0 69 [(0, .ref ((zB z).size + 64)), (1, .int (nI a)), (2, .int (nI b)), (3, .int (nI (1 + k))), (4, .int (nI x)), (5, .long (D - sumC (fun y => decide (¬ nI y = nI x) && m_has (m_iv (setL L 72 f) (nI x) (nI b)) (nI y)) (fun y => f (16 * y + b)) y)), (7, .int (nI y))] [] G I (setL L 72 f)) (n := n) ?_ ?_ (Nat.zero_le _)
              · rw [sumC, Int64.sub_zero] at main
                exact main
              · refine b_X12_fromAbove_69 hz hG ⟨fun _ => ⟨by rw [c16]; exact in_nI (by omega) (by decide), ?_⟩, fun h => absurd (mm_le hO) h⟩
                rw [c16, cl_nI (n := 16 * x + b) (by omega), setL_ss, setL_s, nI_1]
                have hs := RK_s (v := D - sumC (fun y => decide (¬ nI y = nI x) && m_has (m_iv (setL L 72 f) (nI x) (nI b)) (nI y)) (fun y => f (16 * y + b)) n) h16 (RK_c (N' := 1 + k) (a' := x) (b' := b) hf (fun u w hu hw hc => by have := cy u w hc; unfold vis; omega)) hx hb (by rw [cb]; exact h) hr (hD ▸ nu_step hP h16 hx hb h hO (fun y hy g1 g2 g3 => RK_get h16 hf hy hb (by rw [cb]; exact g2) (by have := rk_dn hP h16 hx hy hb g1 g2 (Ne.symm g3); omega)))
                exact xh _ (RK_c hs (fun u w hu hw hc => by have := cy u w hc; unfold vis; omega))
              · intro y hy yh
                refine b_X12_fromAbove_69 hz hG ⟨fun h => absurd h (mm_ge hO hy), fun _ => ⟨fun g => ?_, fun g => ⟨⟨n, A, hO⟩, in16 h16 hx, fun g2 => ?_, fun g2 => ⟨by rw [c16]; exact in_nI (by omega) (by decide), ?_⟩⟩⟩⟩
                · rw [sumC, if_neg (by rw [decide_eq_false (not_not_intro g)]; simp)] at yh
                  rw [nI_1]
                  exact yh
                · rw [sumC, if_neg (by rw [g2, Bool.and_false]; decide)] at yh
                  rw [nI_1]
                  exact yh
                · rw [sumC, if_pos (by rw [g2, decide_eq_true g]; rfl)] at yh
                  rw [nI_1, c16, cl_nI (n := 16 * y + b) (by omega), setL_s, Int64.sub_sub]
                  exact yh
            refine fun h2 => ⟨fun h3 => ?_, fun h3 => ?_⟩
            · exact body 0 (by rw [if_neg (fun e => h3 (by rw [e]))]) ((nI_eq (by have := rk_le (A := A) (a := x) h16 hb; omega) (by omega)).mp h2)
            · exact body 1 (by rw [if_pos ((nI_eq (by omega) (by omega)).mp h3)]) ((nI_eq (by have := rk_le (A := A) (a := x) h16 hb; omega) (by omega)).mp h2)
          · rw [msz hO hx hb] at h2
            rw [nI_1]
            exact xh f (skip (fun _ e => h2 (by rw [e])))
      exact rows f hf
  exact outer _ (RK_0 (fun x y hx hy h => by
    have e := cy x y h
    subst e
    exact rk_1 h16 hx hy (by rw [← cb]; exact h)))
/-- ways from a, step by step -/
def wayM (n : Nat) (p : Nat → Nat → Bool) (a : Nat) : Nat → Nat → Int64
  | 0 => fun x => if x = a then 1 else 0
  | k + 1 => fun x => sumC (fun y => p y x) (wayM n p a k) n
def altM (n : Nat) (p : Nat → Nat → Bool) (a b : Nat) : Nat → Int64
  | 0 => 0
  | k + 1 => altM n p a b k + (if k % 2 = 0 then wayM n p a k b else -(wayM n p a k b))
theorem chn_way {L : amL} {n a : Nat} {A : Nat → Int32} {v : Int32} (hM : MO L n A) (ha : a < n) : ∀ k x, x < n → m_chn L (nI a) v k 76 x = wayM n (fun y x => if v = 0 then bt (A y) x else cv n A y x) a k x
  | 0, x, hx => by
    have h16 := hM.2.1
    rw [m_chn, setL_s, wr_in (by omega), Nat.sub_zero]
    show (if nI x = nI a then (1 : Int64) else 0) = if x = a then 1 else 0
    by_cases e : x = a
    · rw [if_pos e, if_pos (by rw [e])]
    · rw [if_neg e, if_neg (fun q => e ((nI_eq (by omega) (by omega)).mp q))]
  | k + 1, x, hx => by
    have hk := chn_M (a := nI a) (v := v) hM k
    rw [m_chn, m_stp, setL_s, hk.N, wr_in (by omega), Nat.sub_zero, m_stV, hk.N]
    show _ = sumC (fun y => if v = 0 then bt (A y) x else cv n A y x) (wayM n (fun y x => if v = 0 then bt (A y) x else cv n A y x) a k) n
    refine sumC_c (fun y hy => ⟨?_, fun _ => chn_way hM ha k y hy⟩)
    rw [hk.bl hy hx, hk.cov hy hx]
def chnF (L : amL) (L1 : amL) : Prop := ∀ q, q ≠ 76 → q ≠ 77 → L1 q = L q
set_option maxRecDepth 100000 in
set_option maxHeartbeats 4000000 in
theorem b_X12_byChains_0 {z : amZ} {post : amP} {G : amG} {I : amI} {L : amL} (hz : Go z cX12_byChains RX12 6 (some .long) 7 0 0 post) (hG : Lay G) {v1 : Int32} {v2 : Int32} (h : Wx z 0 0 5 [(0, .ref ((zB z).size + 64)), (1, .int v1), (2, .int v2), (3, .long (0 : Int64)), (5, .int 0)] [] G I L) : Wx z 0 0 0 [(0, .ref ((zB z).size + 64)), (1, .int v1), (2, .int v2)] [] G I L := by
  have hz1 := hz.1
  refine am_lconst (v := 0) hz1 dX12_byChains_0 (by decide) ?_
  refine am_lstore_n (lv' := [(3, .long (0 : Int64)), (0, .ref ((zB z).size + 64)), (1, .int v1), (2, .int v2)]) hz1 dX12_byChains_1 rfl rfl rfl ?_
  refine am_iconst (v := 0) hz1 dX12_byChains_2 (by decide) ?_
  refine am_istore (lv' := [(5, .int 0), (3, .long (0 : Int64)), (0, .ref ((zB z).size + 64)), (1, .int v1), (2, .int v2)]) hz1 dX12_byChains_3 rfl rfl ?_
  exact am_sub (lv' := [(0, .ref ((zB z).size + 64)), (1, .int v1), (2, .int v2), (3, .long (0 : Int64)), (5, .int 0)]) [2, 3, 4, 1, 0] rfl h
set_option maxRecDepth 100000 in
set_option maxHeartbeats 4000000 in
theorem b_X12_byChains_5 {z : amZ} {post : amP} {G : amG} {I : amI} {L : amL} (hz : Go z cX12_byChains RX12 6 (some .long) 7 0 0 post) (hG : Lay G) {v1 : Int32} {v2 : Int32} {v3 : Int64} {v5 : Int32} (h : (((16 : Int32) ≤ v5) → post (some (.long v3)) G I L) ∧ ((¬ (16 : Int32) ≤ v5) → ((¬ (v5 - v5 / (2 : Int32) * (2 : Int32)) = 0) → (mOk L) ∧ (vp_in v2 16) ∧ (w16 v5) ∧ Wx z 0 0 5 [(0, .ref ((zB z).size + 64)), (1, .int v1), (2, .int v2), (3, .long (v3 + (-(m_chn L v1 0 v5.toNatClampNeg 76 v2.toNatClampNeg)))), (5, .int (v5 + 1))] [] G I (m_chn L v1 0 v5.toNatClampNeg)) ∧ (((v5 - v5 / (2 : Int32) * (2 : Int32)) = 0) → (mOk L) ∧ (vp_in v2 16) ∧ (w16 v5) ∧ Wx z 0 0 5 [(0, .ref ((zB z).size + 64)), (1, .int v1), (2, .int v2), (3, .long (v3 + (m_chn L v1 0 v5.toNatClampNeg 76 v2.toNatClampNeg))), (5, .int (v5 + 1))] [] G I (m_chn L v1 0 v5.toNatClampNeg)))) : Wx z 0 0 5 [(0, .ref ((zB z).size + 64)), (1, .int v1), (2, .int v2), (3, .long v3), (5, .int v5)] [] G I L := by
  have hz1 := hz.1
  refine am_iload hz1 dX12_byChains_5 4 rfl ?_
  refine am_bipush (v := 16) hz1 dX12_byChains_7 (by decide) ?_
  refine am_icmp_ge (tgt := 48) hz1 dX12_byChains_9 (by decide) (fun c1 => ?_) (fun c1 => ?_)
  · replace h := h.1 c1
    refine am_lload_n hz1 dX12_byChains_48 3 rfl rfl ?_
    exact am_lreturn hz dX12_byChains_49 h
  · replace h := h.2 c1
    refine am_lload_n hz1 dX12_byChains_12 3 rfl rfl ?_
    refine am_iload hz1 dX12_byChains_13 4 rfl ?_
    refine am_iconst (v := 2) hz1 dX12_byChains_15 (by decide) ?_
    refine am_irem hz1 dX12_byChains_16 (by decide) ?_
    refine am_if_ne (tgt := 31) hz1 dX12_byChains_17 (by decide) (fun c3 => ?_) (fun c3 => ?_)
    · replace h := h.1 c3
      refine am_aload_n hz1 dX12_byChains_31 0 rfl rfl ?_
      refine am_iload_n hz1 dX12_byChains_32 1 rfl rfl ?_
      refine am_iload_n hz1 dX12_byChains_33 2 rfl rfl ?_
      refine am_iload hz1 dX12_byChains_34 4 rfl ?_
      obtain ⟨g4, h⟩ := h
      obtain ⟨g5, h⟩ := h
      obtain ⟨g6, h⟩ := h
      refine am_cVf hz cv_X12_372 [.int v1, .int v2, .int v5] [.long v3] (c_X12_chainsOf hG v1 v2 v5 g4 g5 g6) (ln_64 hG) (lk_64 hG) rfl rfl rfl ⟨Nat.le_refl _, Nat.le_refl _⟩ (Nat.le_of_ble_eq_true rfl) dX12_byChains_36 ?_
      refine am_lneg hz1 dX12_byChains_39 ?_
      refine am_ladd hz1 dX12_byChains_40 ?_
      refine am_lstore_n (lv' := [(3, .long (v3 + (-(m_chn L v1 0 v5.toNatClampNeg 76 v2.toNatClampNeg)))), (0, .ref ((zB z).size + 64)), (1, .int v1), (2, .int v2), (5, .int v5)]) hz1 dX12_byChains_41 rfl rfl rfl ?_
      refine am_iinc (v := v5 + 1) (lv' := [(5, .int (v5 + 1)), (3, .long (v3 + (-(m_chn L v1 0 v5.toNatClampNeg 76 v2.toNatClampNeg)))), (0, .ref ((zB z).size + 64)), (1, .int v1), (2, .int v2)]) hz1 dX12_byChains_42 4 rfl rfl rfl rfl ?_
      refine am_goto (tgt := 5) hz1 dX12_byChains_45 (by decide) ?_
      exact am_sub (lv' := [(0, .ref ((zB z).size + 64)), (1, .int v1), (2, .int v2), (3, .long (v3 + (-(m_chn L v1 0 v5.toNatClampNeg 76 v2.toNatClampNeg)))), (5, .int (v5 + 1))]) [2, 3, 4, 1, 0] rfl h
    · replace h := h.2 c3
      refine am_aload_n hz1 dX12_byChains_20 0 rfl rfl ?_
      refine am_iload_n hz1 dX12_byChains_21 1 rfl rfl ?_
      refine am_iload_n hz1 dX12_byChains_22 2 rfl rfl ?_
      refine am_iload hz1 dX12_byChains_23 4 rfl ?_
      obtain ⟨g7, h⟩ := h
      obtain ⟨g8, h⟩ := h
      obtain ⟨g9, h⟩ := h
      refine am_cVf hz cv_X12_372 [.int v1, .int v2, .int v5] [.long v3] (c_X12_chainsOf hG v1 v2 v5 g7 g8 g9) (ln_64 hG) (lk_64 hG) rfl rfl rfl ⟨Nat.le_refl _, Nat.le_refl _⟩ (Nat.le_of_ble_eq_true rfl) dX12_byChains_25 ?_
      refine am_goto (tgt := 40) hz1 dX12_byChains_28 (by decide) ?_
      refine am_ladd hz1 dX12_byChains_40 ?_
      refine am_lstore_n (lv' := [(3, .long (v3 + (m_chn L v1 0 v5.toNatClampNeg 76 v2.toNatClampNeg))), (0, .ref ((zB z).size + 64)), (1, .int v1), (2, .int v2), (5, .int v5)]) hz1 dX12_byChains_41 rfl rfl rfl ?_
      refine am_iinc (v := v5 + 1) (lv' := [(5, .int (v5 + 1)), (3, .long (v3 + (m_chn L v1 0 v5.toNatClampNeg 76 v2.toNatClampNeg))), (0, .ref ((zB z).size + 64)), (1, .int v1), (2, .int v2)]) hz1 dX12_byChains_42 4 rfl rfl rfl rfl ?_
      refine am_goto (tgt := 5) hz1 dX12_byChains_45 (by decide) ?_
      exact am_sub (lv' := [(0, .ref ((zB z).size + 64)), (1, .int v1), (2, .int v2), (3, .long (v3 + (m_chn L v1 0 v5.toNatClampNeg 76 v2.toNatClampNeg))), (5, .int (v5 + 1))]) [2, 3, 4, 1, 0] rfl h
set_option maxRecDepth 100000 in
set_option maxHeartbeats 4000000 in
theorem c_X12_byChains {l : Launch} {D : va_G} {B : Heap} {G : amG} {I : amI} {L : amL}  (hG : Lay G)  (v1 : Int32) (v2 : Int32) {n a b : Nat} {A : Nat → Int32} (hM : MO L n A) (ha : a < n) (hb : b < n) (hv1 : v1 = nI a) (hv2 : v2 = nI b) : Mx l D B yX12_byChains cX12_byChains 6 (some .long) 7 0 0 [.ref (B.size + 64), .int v1, .int v2] G I L (fun r G1 I1 L1 => r = some (.long (altM n (fun y x => bt (A y) x) a b 16)) ∧ G1 = G ∧ I1 = I ∧ chnF L L1) := by
  refine Mx.of (by decide) rfl rfl (fun z e1 e2 e3 hz => ?_)
  subst e1; subst e2; subst e3
  refine b_X12_byChains_0 hz hG ?_
  subst hv1; subst hv2
  have h16 := hM.2.1
  have main : ∀ L1, chnF L L1 → Wx z 0 0 5 [(0, .ref ((zB z).size + 64)), (1, .int (nI a)), (2, .int (nI b)), (3, .long (altM n (fun y x => bt (A y) x) a b 0)), (5, .int (nI 0))] [] G I L1 := by
    refine for_up (P := fun k => ∀ L1, chnF L L1 → Wx z 0 0 5 [(0, .ref ((zB z).size + 64)), (1, .int (nI a)), (2, .int (nI b)), (3, .long (altM n (fun y x => bt (A y) x) a b k)), (5, .int (nI k))] [] G I L1) (n := 16) ?_ ?_ (Nat.zero_le _)
    · intro L1 hL
      exact b_X12_byChains_5 hz hG ⟨fun _ => ⟨rfl, rfl, rfl, hL⟩, fun h => absurd (nI_le (a := 16) (b := 16) (Nat.le_refl _) (by decide)) h⟩
    · intro k hk ih L1 hL
      have hO : MO L1 n A := MO_c hM (hL 65 (by decide) (by decide))
      have hnext : chnF L (m_chn L1 (nI a) 0 k) := fun q h1 h2 => by rw [chn_o h1 h2, hL q h1 h2]
      have hval : m_chn L1 (nI a) 0 k 76 b = wayM n (fun y x => bt (A y) x) a k b := chn_way (v := 0) hO ha k b hb
      have hrem : nI k - nI k / (2 : Int32) * 2 = nI (k % 2) := nI_rem (b := 2) (by omega) (by decide) (by decide)
      have := ih _ hnext
      rw [altM] at this
      have hw : w16 (nI k) := ⟨k, by omega, rfl⟩
      refine b_X12_byChains_5 hz hG ⟨fun h => absurd h (nI_ge (b := 16) hk (by decide)), fun _ => ?_⟩
      rw [hrem, nI_1, cl_nI (n := k) (by omega), cl_nI (n := b) (by omega), hval]
      refine ⟨fun h => ⟨⟨n, A, hO⟩, in16 h16 hb, hw, ?_⟩, fun h => ⟨⟨n, A, hO⟩, in16 h16 hb, hw, ?_⟩⟩
      · rw [if_neg (fun e => h (by rw [e]; rfl))] at this
        exact this
      · rw [if_pos ((nI_eq (b := 0) (by omega) (by decide)).mp h)] at this
        exact this
  exact main L (fun q _ _ => rfl)
set_option maxRecDepth 100000 in
set_option maxHeartbeats 4000000 in
theorem b_X12_joinWithin_0 {z : amZ} {post : amP} {G : amG} {I : amI} {L : amL} (hz : Go z cX12_joinWithin RX12 4 (some .int) 2 0 0 post) (hG : Lay G) {v1 : Int32} {v2 : Int32} {v3 : Int32} (h : (vp_in v2 16) ∧ (vp_in v3 16) ∧ (mOk L) ∧ post (some (.int (m_least L ((v1 &&& (m_up L v2)) &&& (m_up L v3))))) G I L) : Wx z 0 0 0 [(0, .ref ((zB z).size + 64)), (1, .int v1), (2, .int v2), (3, .int v3)] [] G I L := by
  have hz1 := hz.1
  refine am_aload_n hz1 dX12_joinWithin_0 0 rfl rfl ?_
  refine am_iload_n hz1 dX12_joinWithin_1 1 rfl rfl ?_
  refine am_aload_n hz1 dX12_joinWithin_2 0 rfl rfl ?_
  refine am_iload_n hz1 dX12_joinWithin_3 2 rfl rfl ?_
  obtain ⟨g1, h⟩ := h
  refine am_cVf hz cv_X12_86 [.int v2] [.int v1, .ref ((zB z).size + 64)] (c_X12_up hG v2 g1) (ln_64 hG) (lk_64 hG) rfl rfl rfl ⟨Nat.le_refl _, Nat.le_refl _⟩ (Nat.le_of_ble_eq_true rfl) dX12_joinWithin_4 ?_
  refine am_iand hz1 dX12_joinWithin_7 ?_
  refine am_aload_n hz1 dX12_joinWithin_8 0 rfl rfl ?_
  refine am_iload_n hz1 dX12_joinWithin_9 3 rfl rfl ?_
  obtain ⟨g2, h⟩ := h
  refine am_cVf hz cv_X12_86 [.int v3] [.int (v1 &&& (m_up L v2)), .ref ((zB z).size + 64)] (c_X12_up hG v3 g2) (ln_64 hG) (lk_64 hG) rfl rfl rfl ⟨Nat.le_refl _, Nat.le_refl _⟩ (Nat.le_of_ble_eq_true rfl) dX12_joinWithin_10 ?_
  refine am_iand hz1 dX12_joinWithin_13 ?_
  obtain ⟨g3, h⟩ := h
  refine am_cVf hz cv_X12_347 [.int ((v1 &&& (m_up L v2)) &&& (m_up L v3))] [] (c_X12_leastOf hG ((v1 &&& (m_up L v2)) &&& (m_up L v3)) g3) (ln_64 hG) (lk_64 hG) rfl rfl rfl ⟨Nat.le_refl _, Nat.le_refl _⟩ (Nat.le_of_ble_eq_true rfl) dX12_joinWithin_14 ?_
  exact am_ireturn hz dX12_joinWithin_17 h
set_option maxRecDepth 100000 in
set_option maxHeartbeats 4000000 in
theorem c_X12_joinWithin {l : Launch} {D : va_G} {B : Heap} {G : amG} {I : amI} {L : amL}  (hG : Lay G)  (v1 : Int32) (v2 : Int32) (v3 : Int32) (hM : mOk L) (h1 : vp_in v2 16) (h2 : vp_in v3 16) : Fx l D B yX12_joinWithin cX12_joinWithin 4 (some .int) 2 [.ref (B.size + 64), .int v1, .int v2, .int v3] G I L (some (.int (m_least L ((v1 &&& m_up L v2) &&& m_up L v3)))) I L := by
  refine Mx.of (by decide) rfl rfl (fun z e1 e2 e3 hz => ?_)
  subst e1; subst e2; subst e3
  refine b_X12_joinWithin_0 hz hG ?_
  exact ⟨h1, h2, hM, rfl, rfl, rfl, rfl⟩
def p_arJ (L : amL) (s : Int32) (x y : Nat) : Bool := m_has s (nI x) && (m_has s (nI y) && decide (m_least L ((s &&& m_up L (nI x)) &&& m_up L (nI y)) = -2))
def m_arJ1 (L : amL) (s : Int32) (x : Nat) : Bool := scan (p_arJ L s x) (fun _ => true) false x 0
def m_arJ (L : amL) (s : Int32) : Bool := scan (m_arJ1 L s) (fun _ => false) true (mN L) 0
set_option maxRecDepth 100000 in
set_option maxHeartbeats 4000000 in
theorem b_X12_areJoined_0 {z : amZ} {post : amP} {G : amG} {I : amI} {L : amL} (hz : Go z cX12_areJoined RX12 4 (some .boolean) 3 0 0 post) (hG : Lay G) {v1 : Int32} (h : Wx z 0 0 2 [(0, .ref ((zB z).size + 64)), (1, .int v1), (2, .int 0)] [] G I L) : Wx z 0 0 0 [(0, .ref ((zB z).size + 64)), (1, .int v1)] [] G I L := by
  have hz1 := hz.1
  refine am_iconst (v := 0) hz1 dX12_areJoined_0 (by decide) ?_
  refine am_istore_n (lv' := [(2, .int 0), (0, .ref ((zB z).size + 64)), (1, .int v1)]) hz1 dX12_areJoined_1 rfl rfl rfl ?_
  exact am_sub (lv' := [(0, .ref ((zB z).size + 64)), (1, .int v1), (2, .int 0)]) [1, 2, 0] rfl h
set_option maxRecDepth 100000 in
set_option maxHeartbeats 4000000 in
theorem b_X12_areJoined_2 {z : amZ} {post : amP} {G : amG} {I : amI} {L : amL} (hz : Go z cX12_areJoined RX12 4 (some .boolean) 3 0 0 post) (hG : Lay G) {v1 : Int32} {v2 : Int32} (h : (((m_many L) ≤ v2) → post (some (.int 1)) G I L) ∧ ((¬ (m_many L) ≤ v2) → Wx z 0 0 12 [(0, .ref ((zB z).size + 64)), (1, .int v1), (2, .int v2), (3, .int 0)] [] G I L)) : Wx z 0 0 2 [(0, .ref ((zB z).size + 64)), (1, .int v1), (2, .int v2)] [] G I L := by
  have hz1 := hz.1
  refine am_iload_n hz1 dX12_areJoined_2 2 rfl rfl ?_
  refine am_aload_n hz1 dX12_areJoined_3 0 rfl rfl ?_
  refine am_cVf hz cv_X12_78 [] [.int v2] (c_X12_many hG  ) (ln_64 hG) (lk_64 hG) rfl rfl rfl ⟨Nat.le_refl _, Nat.le_refl _⟩ (Nat.le_of_ble_eq_true rfl) dX12_areJoined_4 ?_
  refine am_icmp_ge (tgt := 59) hz1 dX12_areJoined_7 (by decide) (fun c1 => ?_) (fun c1 => ?_)
  · replace h := h.1 c1
    refine am_iconst (v := 1) hz1 dX12_areJoined_59 (by decide) ?_
    exact am_zreturn hz (by decide) dX12_areJoined_60 h
  · replace h := h.2 c1
    refine am_iconst (v := 0) hz1 dX12_areJoined_10 (by decide) ?_
    refine am_istore_n (lv' := [(3, .int 0), (0, .ref ((zB z).size + 64)), (1, .int v1), (2, .int v2)]) hz1 dX12_areJoined_11 rfl rfl rfl ?_
    exact am_sub (lv' := [(0, .ref ((zB z).size + 64)), (1, .int v1), (2, .int v2), (3, .int 0)]) [1, 2, 3, 0] rfl h
set_option maxRecDepth 100000 in
set_option maxHeartbeats 4000000 in
theorem b_X12_areJoined_12 {z : amZ} {post : amP} {G : amG} {I : amI} {L : amL} (hz : Go z cX12_areJoined RX12 4 (some .boolean) 3 0 0 post) (hG : Lay G) {v1 : Int32} {v2 : Int32} {v3 : Int32} (h : ((v2 ≤ v3) → Wx z 0 0 2 [(0, .ref ((zB z).size + 64)), (1, .int v1), (2, .int (v2 + 1))] [] G I L) ∧ ((¬ v2 ≤ v3) → ((m_has v1 v2 = false) → Wx z 0 0 12 [(0, .ref ((zB z).size + 64)), (1, .int v1), (2, .int v2), (3, .int (v3 + 1))] [] G I L) ∧ ((m_has v1 v2 = true) → ((m_has v1 v3 = false) → Wx z 0 0 12 [(0, .ref ((zB z).size + 64)), (1, .int v1), (2, .int v2), (3, .int (v3 + 1))] [] G I L) ∧ ((m_has v1 v3 = true) → (mOk L) ∧ (vp_in v2 16) ∧ (vp_in v3 16) ∧ ((¬ (m_least L ((v1 &&& m_up L v2) &&& m_up L v3)) = (-2 : Int32)) → Wx z 0 0 12 [(0, .ref ((zB z).size + 64)), (1, .int v1), (2, .int v2), (3, .int (v3 + 1))] [] G I L) ∧ (((m_least L ((v1 &&& m_up L v2) &&& m_up L v3)) = (-2 : Int32)) → post (some (.int 0)) G I L))))) : Wx z 0 0 12 [(0, .ref ((zB z).size + 64)), (1, .int v1), (2, .int v2), (3, .int v3)] [] G I L := by
  have hz1 := hz.1
  refine am_iload_n hz1 dX12_areJoined_12 3 rfl rfl ?_
  refine am_iload_n hz1 dX12_areJoined_13 2 rfl rfl ?_
  refine am_icmp_ge (tgt := 53) hz1 dX12_areJoined_14 (by decide) (fun c1 => ?_) (fun c1 => ?_)
  · replace h := h.1 c1
    refine am_iinc (v := v2 + 1) (lv' := [(2, .int (v2 + 1)), (0, .ref ((zB z).size + 64)), (1, .int v1), (3, .int v3)]) hz1 dX12_areJoined_53 2 rfl rfl rfl rfl ?_
    refine am_goto (tgt := 2) hz1 dX12_areJoined_56 (by decide) ?_
    exact am_sub (lv' := [(0, .ref ((zB z).size + 64)), (1, .int v1), (2, .int (v2 + 1))]) [1, 2, 0] rfl h
  · replace h := h.2 c1
    refine am_iload_n hz1 dX12_areJoined_17 1 rfl rfl ?_
    refine am_iload_n hz1 dX12_areJoined_18 2 rfl rfl ?_
    refine am_cSf hz ct_X12_90 [.int v1, .int v2] [] (c_X12_has hG v1 v2 ) rfl rfl rfl ⟨Nat.le_refl _, Nat.le_refl _⟩ (Nat.le_of_ble_eq_true rfl) dX12_areJoined_19 ?_
    refine am_ifb_eq (tgt := 47) hz1 dX12_areJoined_22 (by decide) (fun c2 => ?_) (fun c2 => ?_)
    · replace h := h.1 c2
      refine am_iinc (v := v3 + 1) (lv' := [(3, .int (v3 + 1)), (0, .ref ((zB z).size + 64)), (1, .int v1), (2, .int v2)]) hz1 dX12_areJoined_47 3 rfl rfl rfl rfl ?_
      refine am_goto (tgt := 12) hz1 dX12_areJoined_50 (by decide) ?_
      exact am_sub (lv' := [(0, .ref ((zB z).size + 64)), (1, .int v1), (2, .int v2), (3, .int (v3 + 1))]) [1, 2, 3, 0] rfl h
    · replace h := h.2 c2
      refine am_iload_n hz1 dX12_areJoined_25 1 rfl rfl ?_
      refine am_iload_n hz1 dX12_areJoined_26 3 rfl rfl ?_
      refine am_cSf hz ct_X12_90 [.int v1, .int v3] [] (c_X12_has hG v1 v3 ) rfl rfl rfl ⟨Nat.le_refl _, Nat.le_refl _⟩ (Nat.le_of_ble_eq_true rfl) dX12_areJoined_27 ?_
      refine am_ifb_eq (tgt := 47) hz1 dX12_areJoined_30 (by decide) (fun c3 => ?_) (fun c3 => ?_)
      · replace h := h.1 c3
        refine am_iinc (v := v3 + 1) (lv' := [(3, .int (v3 + 1)), (0, .ref ((zB z).size + 64)), (1, .int v1), (2, .int v2)]) hz1 dX12_areJoined_47 3 rfl rfl rfl rfl ?_
        refine am_goto (tgt := 12) hz1 dX12_areJoined_50 (by decide) ?_
        exact am_sub (lv' := [(0, .ref ((zB z).size + 64)), (1, .int v1), (2, .int v2), (3, .int (v3 + 1))]) [1, 2, 3, 0] rfl h
      · replace h := h.2 c3
        refine am_aload_n hz1 dX12_areJoined_33 0 rfl rfl ?_
        refine am_iload_n hz1 dX12_areJoined_34 1 rfl rfl ?_
        refine am_iload_n hz1 dX12_areJoined_35 2 rfl rfl ?_
        refine am_iload_n hz1 dX12_areJoined_36 3 rfl rfl ?_
        obtain ⟨g4, h⟩ := h
        obtain ⟨g5, h⟩ := h
        obtain ⟨g6, h⟩ := h
        refine am_cVf hz cv_X12_379 [.int v1, .int v2, .int v3] [] (c_X12_joinWithin hG v1 v2 v3 g4 g5 g6) (ln_64 hG) (lk_64 hG) rfl rfl rfl ⟨Nat.le_refl _, Nat.le_refl _⟩ (Nat.le_of_ble_eq_true rfl) dX12_areJoined_37 ?_
        refine am_bipush (v := (-2)) hz1 dX12_areJoined_40 (by decide) ?_
        refine am_icmp_ne (tgt := 47) hz1 dX12_areJoined_42 (by decide) (fun c7 => ?_) (fun c7 => ?_)
        · replace h := h.1 c7
          refine am_iinc (v := v3 + 1) (lv' := [(3, .int (v3 + 1)), (0, .ref ((zB z).size + 64)), (1, .int v1), (2, .int v2)]) hz1 dX12_areJoined_47 3 rfl rfl rfl rfl ?_
          refine am_goto (tgt := 12) hz1 dX12_areJoined_50 (by decide) ?_
          exact am_sub (lv' := [(0, .ref ((zB z).size + 64)), (1, .int v1), (2, .int v2), (3, .int (v3 + 1))]) [1, 2, 3, 0] rfl h
        · replace h := h.2 c7
          refine am_iconst (v := 0) hz1 dX12_areJoined_45 (by decide) ?_
          exact am_zreturn hz (by decide) dX12_areJoined_46 h
set_option maxRecDepth 100000 in
set_option maxHeartbeats 4000000 in
theorem c_X12_areJoined {l : Launch} {D : va_G} {B : Heap} {G : amG} {I : amI} {L : amL}  (hG : Lay G)  (v1 : Int32) (hM : mOk L) : Fx l D B yX12_areJoined cX12_areJoined 4 (some .boolean) 3 [.ref (B.size + 64), .int v1] G I L (some (.int (bI (m_arJ L v1)))) I L := by
  refine Mx.of (by decide) rfl rfl (fun z e1 e2 e3 hz => ?_)
  subst e1; subst e2; subst e3
  refine b_X12_areJoined_0 hz hG ?_
  have hO := hM
  obtain ⟨n, A, hM⟩ := hM
  have h16 := hM.2.1
  refine for_up (P := fun i => scan (m_arJ1 L v1) (fun _ => false) true (n - i) i = m_arJ L v1 → Wx z 0 0 2 [(0, .ref ((zB z).size + 64)), (1, .int v1), (2, .int (nI i))] [] G I L) (n := n) ?_ ?_ (Nat.zero_le _) (by rw [Nat.sub_zero, m_arJ, hM.N])
  · intro e
    rw [scan_0] at e
    exact b_X12_areJoined_2 hz hG ⟨fun _ => ⟨by rw [← e]; rfl, rfl, rfl, rfl⟩, fun h => absurd (mm_le hM) h⟩
  · intro i hi ih e
    rw [scan_s hi] at e
    refine b_X12_areJoined_2 hz hG ⟨fun h => absurd h (mm_ge hM hi), fun _ => ?_⟩
    refine for_up (P := fun j => scan (p_arJ L v1 i) (fun _ => true) false (i - j) j = m_arJ1 L v1 i → Wx z 0 0 12 [(0, .ref ((zB z).size + 64)), (1, .int v1), (2, .int (nI i)), (3, .int (nI j))] [] G I L) (n := i) ?_ ?_ (Nat.zero_le _) (by rw [Nat.sub_zero, m_arJ1])
    · intro e6
      rw [scan_0] at e6
      refine b_X12_areJoined_12 hz hG ⟨fun _ => ?_, fun h => absurd (nI_le (Nat.le_refl _) (by omega)) h⟩
      rw [if_neg (by rw [← e6]; decide)] at e
      rw [nI_1]
      exact ih e
    · intro j hj jh e6
      rw [scan_s hj] at e6
      refine b_X12_areJoined_12 hz hG ⟨fun h => absurd h (nI_ge hj (by omega)), fun _ => ⟨fun g => ?_, fun g => ⟨fun g2 => ?_, fun g2 => ⟨hO, in16 h16 hi, in_nI (by omega) (by decide), fun q => ?_, fun q => ⟨?_, rfl, rfl, rfl⟩⟩⟩⟩⟩
      · rw [if_neg (by rw [p_arJ, g]; simp)] at e6
        rw [nI_1]
        exact jh e6
      · rw [if_neg (by rw [p_arJ, g2]; simp)] at e6
        rw [nI_1]
        exact jh e6
      · rw [if_neg (by rw [p_arJ, decide_eq_false q]; simp)] at e6
        rw [nI_1]
        exact jh e6
      · rw [if_pos (by rw [p_arJ, g, g2, decide_eq_true q]; rfl)] at e6
        rw [if_pos e6.symm] at e
        rw [← e]; rfl
