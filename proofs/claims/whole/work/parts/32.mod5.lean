/-! THE REFERENCE: functions put together -/
theorem m_many_c {L L' : amL} (e : L' 65 = L 65) : m_many L' = m_many L := by unfold m_many; rw [e]
theorem mN_c {L L' : amL} (e : L' 65 = L 65) : mN L' = mN L := by unfold mN; rw [m_many_c e]
theorem m_up_c {L L' : amL} {x : Int32} (e : L' 65 = L 65) : m_up L' x = m_up L x := by unfold m_up; rw [e]
theorem m_am_c {L L' : amL} {x y : Int32} (e : L' 65 = L 65) : m_am L' x y = m_am L x y := by unfold m_am; rw [m_up_c e]
theorem m_dn_c {L L' : amL} {y : Int32} (e : L' 65 = L 65) : m_dn L' y = m_dn L y := by unfold m_dn; rw [mN_c e]; exact mkset_cong (fun i _ => m_am_c e)
theorem m_iv_c {L L' : amL} {x y : Int32} (e : L' 65 = L 65) : m_iv L' x y = m_iv L x y := by unfold m_iv; rw [m_am_c e, m_up_c e, m_dn_c e]
def m_cvl (L : amL) (a b : Int32) : Int64 := tS (fun x => L 73 (16 * a.toNatClampNeg + x)) (fun x => L 74 (16 * x + b.toNatClampNeg)) (m_iv L a b) (mN L)
def m_cvlO (L : amL) (a b : Int32) : Bool := oS (fun x => L 73 (16 * a.toNatClampNeg + x)) (fun x => L 74 (16 * x + b.toNatClampNeg)) (m_iv L a b) (mN L)
set_option maxRecDepth 100000 in
set_option maxHeartbeats 4000000 in
theorem b_X12_convolved_0 {z : amZ} {post : amP} {G : amG} {I : amI} {L : amL} (hz : Go z cX12_convolved RX12 7 (some .long) 4 0 0 post) (hG : Lay G) {v1 : Int32} {v2 : Int32} (h : (mOk L) ∧ (vp_in v1 16) ∧ Wx z 0 0 13 [(0, .ref ((zB z).size + 64)), (1, .int v1), (2, .int v2), (3, .long (0 : Int64)), (5, .int (m_iv L v1 v2)), (6, .int 0)] [] G I L) : Wx z 0 0 0 [(0, .ref ((zB z).size + 64)), (1, .int v1), (2, .int v2)] [] G I L := by
  have hz1 := hz.1
  refine am_lconst (v := 0) hz1 dX12_convolved_0 (by decide) ?_
  refine am_lstore_n (lv' := [(3, .long (0 : Int64)), (0, .ref ((zB z).size + 64)), (1, .int v1), (2, .int v2)]) hz1 dX12_convolved_1 rfl rfl rfl ?_
  refine am_aload_n hz1 dX12_convolved_2 1 rfl rfl ?_
  refine am_iload_n hz1 dX12_convolved_3 2 rfl rfl ?_
  refine am_iload_n hz1 dX12_convolved_4 3 rfl rfl ?_
  obtain ⟨g1, h⟩ := h
  obtain ⟨g2, h⟩ := h
  refine am_cVf hz cv_X12_107 [.int v1, .int v2] [] (c_X12_interval hG v1 v2 g1 g2) (ln_64 hG) (lk_64 hG) rfl rfl rfl ⟨Nat.le_refl _, Nat.le_refl _⟩ (Nat.le_of_ble_eq_true rfl) dX12_convolved_5 ?_
  refine am_istore (lv' := [(5, .int (m_iv L v1 v2)), (3, .long (0 : Int64)), (0, .ref ((zB z).size + 64)), (1, .int v1), (2, .int v2)]) hz1 dX12_convolved_8 rfl rfl ?_
  refine am_iconst (v := 0) hz1 dX12_convolved_10 (by decide) ?_
  refine am_istore (lv' := [(6, .int 0), (5, .int (m_iv L v1 v2)), (3, .long (0 : Int64)), (0, .ref ((zB z).size + 64)), (1, .int v1), (2, .int v2)]) hz1 dX12_convolved_11 rfl rfl ?_
  exact am_sub (lv' := [(0, .ref ((zB z).size + 64)), (1, .int v1), (2, .int v2), (3, .long (0 : Int64)), (5, .int (m_iv L v1 v2)), (6, .int 0)]) [3, 4, 5, 2, 1, 0] rfl h
set_option maxRecDepth 100000 in
set_option maxHeartbeats 4000000 in
theorem b_X12_convolved_13 {z : amZ} {post : amP} {G : amG} {I : amI} {L : amL} (hz : Go z cX12_convolved RX12 7 (some .long) 4 0 0 post) (hG : Lay G) {v1 : Int32} {v2 : Int32} {v3 : Int64} {v5 : Int32} {v6 : Int32} (h : (((m_many L) ≤ v6) → post (some (.long v3)) G I L) ∧ ((¬ (m_many L) ≤ v6) → ((m_has v5 v6 = false) → Wx z 0 0 13 [(0, .ref ((zB z).size + 64)), (1, .int v1), (2, .int v2), (3, .long v3), (5, .int v5), (6, .int (v6 + 1))] [] G I L) ∧ ((m_has v5 v6 = true) → vp_in (((16 : Int32) * v1) + v6) 256 ∧ vp_in (((16 : Int32) * v6) + v2) 256 ∧ Wx z 0 0 13 [(0, .ref ((zB z).size + 64)), (1, .int v1), (2, .int v2), (3, .long (v3 + ((L 73 (((16 : Int32) * v1) + v6).toNatClampNeg) * (L 74 (((16 : Int32) * v6) + v2).toNatClampNeg)))), (5, .int v5), (6, .int (v6 + 1))] [] G (oI (oI I (q_tl (L 73 (((16 : Int32) * v1) + v6).toNatClampNeg) (L 74 (((16 : Int32) * v6) + v2).toNatClampNeg))) (q_ovc v3 ((L 73 (((16 : Int32) * v1) + v6).toNatClampNeg) * (L 74 (((16 : Int32) * v6) + v2).toNatClampNeg)))) L))) : Wx z 0 0 13 [(0, .ref ((zB z).size + 64)), (1, .int v1), (2, .int v2), (3, .long v3), (5, .int v5), (6, .int v6)] [] G I L := by
  have hz1 := hz.1
  refine am_iload hz1 dX12_convolved_13 5 rfl ?_
  refine am_aload_n hz1 dX12_convolved_15 0 rfl rfl ?_
  refine am_cVf hz cv_X12_78 [] [.int v6] (c_X12_many hG  ) (ln_64 hG) (lk_64 hG) rfl rfl rfl ⟨Nat.le_refl _, Nat.le_refl _⟩ (Nat.le_of_ble_eq_true rfl) dX12_convolved_16 ?_
  refine am_icmp_ge (tgt := 72) hz1 dX12_convolved_19 (by decide) (fun c1 => ?_) (fun c1 => ?_)
  · replace h := h.1 c1
    refine am_lload_n hz1 dX12_convolved_72 3 rfl rfl ?_
    exact am_lreturn hz dX12_convolved_73 h
  · replace h := h.2 c1
    refine am_iload hz1 dX12_convolved_22 4 rfl ?_
    refine am_iload hz1 dX12_convolved_24 5 rfl ?_
    refine am_cSf hz ct_X12_90 [.int v5, .int v6] [] (c_X12_has hG v5 v6 ) rfl rfl rfl ⟨Nat.le_refl _, Nat.le_refl _⟩ (Nat.le_of_ble_eq_true rfl) dX12_convolved_26 ?_
    refine am_ifb_eq (tgt := 66) hz1 dX12_convolved_29 (by decide) (fun c2 => ?_) (fun c2 => ?_)
    · replace h := h.1 c2
      refine am_iinc (v := v6 + 1) (lv' := [(6, .int (v6 + 1)), (0, .ref ((zB z).size + 64)), (1, .int v1), (2, .int v2), (3, .long v3), (5, .int v5)]) hz1 dX12_convolved_66 5 rfl rfl rfl rfl ?_
      refine am_goto (tgt := 13) hz1 dX12_convolved_69 (by decide) ?_
      exact am_sub (lv' := [(0, .ref ((zB z).size + 64)), (1, .int v1), (2, .int v2), (3, .long v3), (5, .int v5), (6, .int (v6 + 1))]) [1, 2, 3, 4, 5, 0] rfl h
    · replace h := h.2 c2
      refine am_aload_n hz1 dX12_convolved_32 0 rfl rfl ?_
      refine am_lload_n hz1 dX12_convolved_33 3 rfl rfl ?_
      refine am_aload_n hz1 dX12_convolved_34 0 rfl rfl ?_
      refine am_aload_n hz1 dX12_convolved_35 0 rfl rfl ?_
      refine am_getR hz1 fl_X12_38 (ln_64 hG) (lk_64 hG) (lr_64_17 hG) rfl dX12_convolved_36 ?_
      refine am_bipush (v := 16) hz1 dX12_convolved_39 (by decide) ?_
      refine am_iload_n hz1 dX12_convolved_41 1 rfl rfl ?_
      refine am_imul hz1 dX12_convolved_42 ?_
      refine am_iload hz1 dX12_convolved_43 5 rfl ?_
      refine am_iadd hz1 dX12_convolved_45 ?_
      obtain ⟨g3, h⟩ := h
      refine am_lald hz1 (ln_73 hG) (lk_73 hG) (by rw [(ll_73 hG)]; exact g3) dX12_convolved_46 ?_
      refine am_aload_n hz1 dX12_convolved_47 0 rfl rfl ?_
      refine am_getR hz1 fl_X12_41 (ln_64 hG) (lk_64 hG) (lr_64_18 hG) rfl dX12_convolved_48 ?_
      refine am_bipush (v := 16) hz1 dX12_convolved_51 (by decide) ?_
      refine am_iload hz1 dX12_convolved_53 5 rfl ?_
      refine am_imul hz1 dX12_convolved_55 ?_
      refine am_iload_n hz1 dX12_convolved_56 2 rfl rfl ?_
      refine am_iadd hz1 dX12_convolved_57 ?_
      obtain ⟨g4, h⟩ := h
      refine am_lald hz1 (ln_74 hG) (lk_74 hG) (by rw [(ll_74 hG)]; exact g4) dX12_convolved_58 ?_
      refine am_cVf hz cv_X12_304 [.long (L 73 (((16 : Int32) * v1) + v6).toNatClampNeg), .long (L 74 (((16 : Int32) * v6) + v2).toNatClampNeg)] [.long v3, .ref ((zB z).size + 64)] (c_X12_times hG (L 73 (((16 : Int32) * v1) + v6).toNatClampNeg) (L 74 (((16 : Int32) * v6) + v2).toNatClampNeg) ) (ln_64 hG) (lk_64 hG) rfl rfl rfl ⟨Nat.le_refl _, Nat.le_refl _⟩ (Nat.le_of_ble_eq_true rfl) dX12_convolved_59 ?_
      refine am_cVf hz cv_X12_308 [.long v3, .long ((L 73 (((16 : Int32) * v1) + v6).toNatClampNeg) * (L 74 (((16 : Int32) * v6) + v2).toNatClampNeg))] [] (c_X12_plus hG v3 ((L 73 (((16 : Int32) * v1) + v6).toNatClampNeg) * (L 74 (((16 : Int32) * v6) + v2).toNatClampNeg)) ) (ln_64 hG) (lk_64 hG) rfl rfl rfl ⟨Nat.le_refl _, Nat.le_refl _⟩ (Nat.le_of_ble_eq_true rfl) dX12_convolved_62 ?_
      refine am_lstore_n (lv' := [(3, .long (v3 + ((L 73 (((16 : Int32) * v1) + v6).toNatClampNeg) * (L 74 (((16 : Int32) * v6) + v2).toNatClampNeg)))), (0, .ref ((zB z).size + 64)), (1, .int v1), (2, .int v2), (5, .int v5), (6, .int v6)]) hz1 dX12_convolved_65 rfl rfl rfl ?_
      refine am_iinc (v := v6 + 1) (lv' := [(6, .int (v6 + 1)), (3, .long (v3 + ((L 73 (((16 : Int32) * v1) + v6).toNatClampNeg) * (L 74 (((16 : Int32) * v6) + v2).toNatClampNeg)))), (0, .ref ((zB z).size + 64)), (1, .int v1), (2, .int v2), (5, .int v5)]) hz1 dX12_convolved_66 5 rfl rfl rfl rfl ?_
      refine am_goto (tgt := 13) hz1 dX12_convolved_69 (by decide) ?_
      exact am_sub (lv' := [(0, .ref ((zB z).size + 64)), (1, .int v1), (2, .int v2), (3, .long (v3 + ((L 73 (((16 : Int32) * v1) + v6).toNatClampNeg) * (L 74 (((16 : Int32) * v6) + v2).toNatClampNeg)))), (5, .int v5), (6, .int (v6 + 1))]) [2, 3, 4, 1, 5, 0] rfl h
set_option maxRecDepth 100000 in
set_option maxHeartbeats 4000000 in
theorem c_X12_convolved {l : Launch} {D : va_G} {B : Heap} {G : amG} {I : amI} {L : amL}  (hG : Lay G)  (v1 : Int32) (v2 : Int32) (hM : mOk L) (hi : vp_in v1 16) (hj : vp_in v2 16) : Fx l D B yX12_convolved cX12_convolved 7 (some .long) 4 [.ref (B.size + 64), .int v1, .int v2] G I L (some (.long (m_cvl L v1 v2))) (oI I (m_cvlO L v1 v2)) L := by
  refine Mx.of (by decide) rfl rfl (fun z e1 e2 e3 hz => ?_)
  subst e1; subst e2; subst e3
  refine b_X12_convolved_0 hz hG ?_
  have hO := hM
  obtain ⟨n, A, hM⟩ := hM
  have h16 := hM.2.1
  obtain ⟨a, ha, rfl⟩ := vp_in_of hi (by decide)
  obtain ⟨b, hb, rfl⟩ := vp_in_of hj (by decide)
  have ea : (nI a).toNatClampNeg = a := cl_nI (by omega)
  have eb : (nI b).toNatClampNeg = b := cl_nI (by omega)
  refine ⟨hO, hi, ?_⟩
  refine for_up (P := fun i => Wx z 0 0 13 [(0, .ref ((zB z).size + 64)), (1, .int (nI a)), (2, .int (nI b)), (3, .long (tS (fun x => L 73 (16 * a + x)) (fun x => L 74 (16 * x + b)) (m_iv L (nI a) (nI b)) i)), (5, .int (m_iv L (nI a) (nI b))), (6, .int (nI i))] [] G (oI I (oS (fun x => L 73 (16 * a + x)) (fun x => L 74 (16 * x + b)) (m_iv L (nI a) (nI b)) i)) L) (n := n) ?_ ?_ (Nat.zero_le _)
  · exact b_X12_convolved_13 hz hG ⟨fun _ => ⟨by rw [m_cvl, ea, eb, hM.N], rfl, by rw [m_cvlO, ea, eb, hM.N], rfl⟩, fun h => absurd (mm_le hM) h⟩
  · intro i hi2 ih
    refine b_X12_convolved_13 hz hG ⟨fun h => absurd h (mm_ge hM hi2), fun _ => ⟨fun h => ?_, fun h => ⟨by rw [c16]; exact in_nI (by omega) (by decide), by rw [c16]; exact in_nI (by omega) (by decide), ?_⟩⟩⟩
    · rw [has_b (by omega)] at h
      rw [tS, if_neg (by rw [h]; decide), oS, h, Bool.false_and, Bool.or_false] at ih
      rw [nI_1]
      exact ih
    · rw [has_b (by omega)] at h
      rw [tS, if_pos h, oS, h, Bool.true_and] at ih
      rw [nI_1, c16, c16, cl_nI (n := 16 * a + i) (by omega), cl_nI (n := 16 * i + b) (by omega), oI_oI, oI_oI]
      exact ih
def m_rk (L : amL) (how a b : Int32) : Int64 := if how = 0 then L 73 (16 * a.toNatClampNeg + b.toNatClampNeg) + L 74 (16 * a.toNatClampNeg + b.toNatClampNeg) else if how = 1 then L 73 (16 * a.toNatClampNeg + b.toNatClampNeg) - L 74 (16 * a.toNatClampNeg + b.toNatClampNeg) else if how = 2 then m_cvl L a b else L 73 (16 * a.toNatClampNeg + b.toNatClampNeg) * L 74 (16 * a.toNatClampNeg + b.toNatClampNeg)
def m_rkO (L : amL) (how a b : Int32) : Bool := if how = 0 then q_ovc (L 73 (16 * a.toNatClampNeg + b.toNatClampNeg)) (L 74 (16 * a.toNatClampNeg + b.toNatClampNeg)) else if how = 1 then q_ovd (L 73 (16 * a.toNatClampNeg + b.toNatClampNeg)) (L 74 (16 * a.toNatClampNeg + b.toNatClampNeg)) else if how = 2 then m_cvlO L a b else q_tl (L 73 (16 * a.toNatClampNeg + b.toNatClampNeg)) (L 74 (16 * a.toNatClampNeg + b.toNatClampNeg))
set_option maxRecDepth 100000 in
set_option maxHeartbeats 4000000 in
theorem b_X12_reckoned_0 {z : amZ} {post : amP} {G : amG} {I : amI} {L : amL} (hz : Go z cX12_reckoned RX12 8 (some .long) 5 0 0 post) (hG : Lay G) {v1 : Int32} {v2 : Int32} {v3 : Int32} (h : vp_in (((16 : Int32) * v2) + v3) 256 ∧ vp_in (((16 : Int32) * v2) + v3) 256 ∧ ((¬ v1 = 0) → ((¬ v1 = (1 : Int32)) → ((¬ v1 = (2 : Int32)) → post (some (.long ((L 73 (((16 : Int32) * v2) + v3).toNatClampNeg) * (L 74 (((16 : Int32) * v2) + v3).toNatClampNeg)))) G (oI I (q_tl (L 73 (((16 : Int32) * v2) + v3).toNatClampNeg) (L 74 (((16 : Int32) * v2) + v3).toNatClampNeg))) L) ∧ ((v1 = (2 : Int32)) → (mOk L) ∧ (vp_in v2 16) ∧ (vp_in v3 16) ∧ post (some (.long (m_cvl L v2 v3))) G (oI I (m_cvlO L v2 v3)) L)) ∧ ((v1 = (1 : Int32)) → post (some (.long ((L 73 (((16 : Int32) * v2) + v3).toNatClampNeg) - (L 74 (((16 : Int32) * v2) + v3).toNatClampNeg)))) G (oI I (q_ovd (L 73 (((16 : Int32) * v2) + v3).toNatClampNeg) (L 74 (((16 : Int32) * v2) + v3).toNatClampNeg))) L)) ∧ ((v1 = 0) → post (some (.long ((L 73 (((16 : Int32) * v2) + v3).toNatClampNeg) + (L 74 (((16 : Int32) * v2) + v3).toNatClampNeg)))) G (oI I (q_ovc (L 73 (((16 : Int32) * v2) + v3).toNatClampNeg) (L 74 (((16 : Int32) * v2) + v3).toNatClampNeg))) L)) : Wx z 0 0 0 [(0, .ref ((zB z).size + 64)), (1, .int v1), (2, .int v2), (3, .int v3)] [] G I L := by
  have hz1 := hz.1
  refine am_aload_n hz1 dX12_reckoned_0 0 rfl rfl ?_
  refine am_getR hz1 fl_X12_38 (ln_64 hG) (lk_64 hG) (lr_64_17 hG) rfl dX12_reckoned_1 ?_
  refine am_bipush (v := 16) hz1 dX12_reckoned_4 (by decide) ?_
  refine am_iload_n hz1 dX12_reckoned_6 2 rfl rfl ?_
  refine am_imul hz1 dX12_reckoned_7 ?_
  refine am_iload_n hz1 dX12_reckoned_8 3 rfl rfl ?_
  refine am_iadd hz1 dX12_reckoned_9 ?_
  obtain ⟨g1, h⟩ := h
  refine am_lald hz1 (ln_73 hG) (lk_73 hG) (by rw [(ll_73 hG)]; exact g1) dX12_reckoned_10 ?_
  refine am_lstore (lv' := [(4, .long (L 73 (((16 : Int32) * v2) + v3).toNatClampNeg)), (0, .ref ((zB z).size + 64)), (1, .int v1), (2, .int v2), (3, .int v3)]) hz1 dX12_reckoned_11 rfl rfl ?_
  refine am_aload_n hz1 dX12_reckoned_13 1 rfl rfl ?_
  refine am_getR hz1 fl_X12_41 (ln_64 hG) (lk_64 hG) (lr_64_18 hG) rfl dX12_reckoned_14 ?_
  refine am_bipush (v := 16) hz1 dX12_reckoned_17 (by decide) ?_
  refine am_iload_n hz1 dX12_reckoned_19 3 rfl rfl ?_
  refine am_imul hz1 dX12_reckoned_20 ?_
  refine am_iload_n hz1 dX12_reckoned_21 4 rfl rfl ?_
  refine am_iadd hz1 dX12_reckoned_22 ?_
  obtain ⟨g2, h⟩ := h
  refine am_lald hz1 (ln_74 hG) (lk_74 hG) (by rw [(ll_74 hG)]; exact g2) dX12_reckoned_23 ?_
  refine am_lstore (lv' := [(6, .long (L 74 (((16 : Int32) * v2) + v3).toNatClampNeg)), (4, .long (L 73 (((16 : Int32) * v2) + v3).toNatClampNeg)), (0, .ref ((zB z).size + 64)), (1, .int v1), (2, .int v2), (3, .int v3)]) hz1 dX12_reckoned_24 rfl rfl ?_
  refine am_iload_n hz1 dX12_reckoned_26 3 rfl rfl ?_
  refine am_if_ne (tgt := 41) hz1 dX12_reckoned_27 (by decide) (fun c3 => ?_) (fun c3 => ?_)
  · replace h := h.1 c3
    refine am_iload_n hz1 dX12_reckoned_41 3 rfl rfl ?_
    refine am_iconst (v := 1) hz1 dX12_reckoned_42 (by decide) ?_
    refine am_icmp_ne (tgt := 57) hz1 dX12_reckoned_43 (by decide) (fun c4 => ?_) (fun c4 => ?_)
    · replace h := h.1 c4
      refine am_iload_n hz1 dX12_reckoned_57 3 rfl rfl ?_
      refine am_iconst (v := 2) hz1 dX12_reckoned_58 (by decide) ?_
      refine am_icmp_ne (tgt := 71) hz1 dX12_reckoned_59 (by decide) (fun c5 => ?_) (fun c5 => ?_)
      · replace h := h.1 c5
        refine am_aload_n hz1 dX12_reckoned_71 2 rfl rfl ?_
        refine am_lload hz1 dX12_reckoned_72 1 rfl ?_
        refine am_lload hz1 dX12_reckoned_74 0 rfl ?_
        refine am_cVf hz cv_X12_304 [.long (L 73 (((16 : Int32) * v2) + v3).toNatClampNeg), .long (L 74 (((16 : Int32) * v2) + v3).toNatClampNeg)] [] (c_X12_times hG (L 73 (((16 : Int32) * v2) + v3).toNatClampNeg) (L 74 (((16 : Int32) * v2) + v3).toNatClampNeg) ) (ln_64 hG) (lk_64 hG) rfl rfl rfl ⟨Nat.le_refl _, Nat.le_refl _⟩ (Nat.le_of_ble_eq_true rfl) dX12_reckoned_76 ?_
        exact am_lreturn hz dX12_reckoned_79 h
      · replace h := h.2 c5
        refine am_aload_n hz1 dX12_reckoned_62 2 rfl rfl ?_
        refine am_iload_n hz1 dX12_reckoned_63 4 rfl rfl ?_
        refine am_iload_n hz1 dX12_reckoned_64 5 rfl rfl ?_
        obtain ⟨g6, h⟩ := h
        obtain ⟨g7, h⟩ := h
        obtain ⟨g8, h⟩ := h
        refine am_cVf hz cv_X12_314 [.int v2, .int v3] [] (c_X12_convolved hG v2 v3 g6 g7 g8) (ln_64 hG) (lk_64 hG) rfl rfl rfl ⟨Nat.le_refl _, Nat.le_refl _⟩ (Nat.le_of_ble_eq_true rfl) dX12_reckoned_65 ?_
        refine am_goto (tgt := 79) hz1 dX12_reckoned_68 (by decide) ?_
        exact am_lreturn hz dX12_reckoned_79 h
    · replace h := h.2 c4
      refine am_aload_n hz1 dX12_reckoned_46 2 rfl rfl ?_
      refine am_lload hz1 dX12_reckoned_47 1 rfl ?_
      refine am_lload hz1 dX12_reckoned_49 0 rfl ?_
      refine am_cVf hz cv_X12_311 [.long (L 73 (((16 : Int32) * v2) + v3).toNatClampNeg), .long (L 74 (((16 : Int32) * v2) + v3).toNatClampNeg)] [] (c_X12_minus hG (L 73 (((16 : Int32) * v2) + v3).toNatClampNeg) (L 74 (((16 : Int32) * v2) + v3).toNatClampNeg) ) (ln_64 hG) (lk_64 hG) rfl rfl rfl ⟨Nat.le_refl _, Nat.le_refl _⟩ (Nat.le_of_ble_eq_true rfl) dX12_reckoned_51 ?_
      refine am_goto (tgt := 79) hz1 dX12_reckoned_54 (by decide) ?_
      exact am_lreturn hz dX12_reckoned_79 h
  · replace h := h.2 c3
    refine am_aload_n hz1 dX12_reckoned_30 2 rfl rfl ?_
    refine am_lload hz1 dX12_reckoned_31 1 rfl ?_
    refine am_lload hz1 dX12_reckoned_33 0 rfl ?_
    refine am_cVf hz cv_X12_308 [.long (L 73 (((16 : Int32) * v2) + v3).toNatClampNeg), .long (L 74 (((16 : Int32) * v2) + v3).toNatClampNeg)] [] (c_X12_plus hG (L 73 (((16 : Int32) * v2) + v3).toNatClampNeg) (L 74 (((16 : Int32) * v2) + v3).toNatClampNeg) ) (ln_64 hG) (lk_64 hG) rfl rfl rfl ⟨Nat.le_refl _, Nat.le_refl _⟩ (Nat.le_of_ble_eq_true rfl) dX12_reckoned_35 ?_
    refine am_goto (tgt := 79) hz1 dX12_reckoned_38 (by decide) ?_
    exact am_lreturn hz dX12_reckoned_79 h
set_option maxRecDepth 100000 in
set_option maxHeartbeats 4000000 in
theorem c_X12_reckoned {l : Launch} {D : va_G} {B : Heap} {G : amG} {I : amI} {L : amL}  (hG : Lay G)  (v1 : Int32) (v2 : Int32) (v3 : Int32) (hM : mOk L) (hi : vp_in v2 16) (hj : vp_in v3 16) : Fx l D B yX12_reckoned cX12_reckoned 8 (some .long) 5 [.ref (B.size + 64), .int v1, .int v2, .int v3] G I L (some (.long (m_rk L v1 v2 v3))) (oI I (m_rkO L v1 v2 v3)) L := by
  refine Mx.of (by decide) rfl rfl (fun z e1 e2 e3 hz => ?_)
  subst e1; subst e2; subst e3
  refine b_X12_reckoned_0 hz hG ?_
  have hi' := hi
  have hj' := hj
  obtain ⟨a, ha, rfl⟩ := vp_in_of hi (by decide)
  obtain ⟨b, hb, rfl⟩ := vp_in_of hj (by decide)
  have ea : (nI a).toNatClampNeg = a := cl_nI (by omega)
  have eb : (nI b).toNatClampNeg = b := cl_nI (by omega)
  have hin : vp_in (16 * nI a + nI b) 256 := by rw [c16]; exact in_nI (by omega) (by decide)
  rw [c16, cl_nI (n := 16 * a + b) (by omega)]
  rw [c16] at hin
  refine ⟨hin, hin, fun h0 => ⟨fun h1 => ⟨fun h2 => ⟨?_, rfl, ?_, rfl⟩, fun h2 => ⟨hM, hi', hj', ?_, rfl, ?_, rfl⟩⟩, fun h1 => ⟨?_, rfl, ?_, rfl⟩⟩, fun h0 => ⟨?_, rfl, ?_, rfl⟩⟩
  · rw [m_rk, if_neg h0, if_neg h1, if_neg h2, ea, eb]
  · rw [m_rkO, if_neg h0, if_neg h1, if_neg h2, ea, eb]
  · rw [m_rk, if_neg h0, if_neg h1, if_pos h2]
  · rw [m_rkO, if_neg h0, if_neg h1, if_pos h2]
  · rw [m_rk, if_neg h0, if_pos h1, ea, eb]
  · rw [m_rkO, if_neg h0, if_pos h1, ea, eb]
  · rw [m_rk, if_pos h0, ea, eb]
  · rw [m_rkO, if_pos h0, ea, eb]
theorem m_rk_c {L L' : amL} {k a b : Int32} (e : L' 65 = L 65) (e3 : L' 73 = L 73) (e4 : L' 74 = L 74) : m_rk L' k a b = m_rk L k a b ∧ m_rkO L' k a b = m_rkO L k a b := by
  unfold m_rk m_rkO m_cvl m_cvlO
  rw [e3, e4, m_iv_c e, mN_c e]
  exact ⟨rfl, rfl⟩
def rkT (L : amL) (how : Int32) (A : Nat → Int32) (a b : Nat) : Int64 := if le A a b = true then m_rk L how (nI a) (nI b) else 0
set_option maxRecDepth 100000 in
set_option maxHeartbeats 4000000 in
theorem b_X12_reckons_0 {z : amZ} {post : amP} {G : amG} {I : amI} {L : amL} (hz : Go z cX12_reckons RX12 4 none 6 0 0 post) (hG : Lay G) {v1 : Int32} (h : Wx z 0 0 6 [(0, .ref ((zB z).size + 64)), (1, .int v1), (2, .int 0)] [] G I (setL L 72 (wr (L 72) 0 256 (fun _ => 0)))) : Wx z 0 0 0 [(0, .ref ((zB z).size + 64)), (1, .int v1)] [] G I L := by
  have hz1 := hz.1
  refine am_aload_n hz1 dX12_reckons_0 0 rfl rfl ?_
  refine am_cVf hz cv_X12_276 [] [] (c_X12_empties hG  ) (ln_64 hG) (lk_64 hG) rfl rfl rfl ⟨Nat.le_refl _, Nat.le_refl _⟩ (Nat.le_of_ble_eq_true rfl) dX12_reckons_1 ?_
  refine am_iconst (v := 0) hz1 dX12_reckons_4 (by decide) ?_
  refine am_istore_n (lv' := [(2, .int 0), (0, .ref ((zB z).size + 64)), (1, .int v1)]) hz1 dX12_reckons_5 rfl rfl rfl ?_
  exact am_sub (lv' := [(0, .ref ((zB z).size + 64)), (1, .int v1), (2, .int 0)]) [1, 2, 0] rfl h
set_option maxRecDepth 100000 in
set_option maxHeartbeats 4000000 in
theorem b_X12_reckons_6 {z : amZ} {post : amP} {G : amG} {I : amI} {L : amL} (hz : Go z cX12_reckons RX12 4 none 6 0 0 post) (hG : Lay G) {v1 : Int32} {v2 : Int32} (h : (((m_many L) ≤ v2) → post none G I L) ∧ ((¬ (m_many L) ≤ v2) → Wx z 0 0 16 [(0, .ref ((zB z).size + 64)), (1, .int v1), (2, .int v2), (3, .int 0)] [] G I L)) : Wx z 0 0 6 [(0, .ref ((zB z).size + 64)), (1, .int v1), (2, .int v2)] [] G I L := by
  have hz1 := hz.1
  refine am_iload_n hz1 dX12_reckons_6 2 rfl rfl ?_
  refine am_aload_n hz1 dX12_reckons_7 0 rfl rfl ?_
  refine am_cVf hz cv_X12_78 [] [.int v2] (c_X12_many hG  ) (ln_64 hG) (lk_64 hG) rfl rfl rfl ⟨Nat.le_refl _, Nat.le_refl _⟩ (Nat.le_of_ble_eq_true rfl) dX12_reckons_8 ?_
  refine am_icmp_ge (tgt := 63) hz1 dX12_reckons_11 (by decide) (fun c1 => ?_) (fun c1 => ?_)
  · replace h := h.1 c1
    exact am_return hz dX12_reckons_63 h
  · replace h := h.2 c1
    refine am_iconst (v := 0) hz1 dX12_reckons_14 (by decide) ?_
    refine am_istore_n (lv' := [(3, .int 0), (0, .ref ((zB z).size + 64)), (1, .int v1), (2, .int v2)]) hz1 dX12_reckons_15 rfl rfl rfl ?_
    exact am_sub (lv' := [(0, .ref ((zB z).size + 64)), (1, .int v1), (2, .int v2), (3, .int 0)]) [1, 2, 3, 0] rfl h
set_option maxRecDepth 100000 in
set_option maxHeartbeats 4000000 in
theorem b_X12_reckons_16 {z : amZ} {post : amP} {G : amG} {I : amI} {L : amL} (hz : Go z cX12_reckons RX12 4 none 6 0 0 post) (hG : Lay G) {v1 : Int32} {v2 : Int32} {v3 : Int32} (h : (((m_many L) ≤ v3) → Wx z 0 0 6 [(0, .ref ((zB z).size + 64)), (1, .int v1), (2, .int (v2 + 1))] [] G I L) ∧ ((¬ (m_many L) ≤ v3) → (vp_in v2 16) ∧ ((m_am L v2 v3 = false) → Wx z 0 0 16 [(0, .ref ((zB z).size + 64)), (1, .int v1), (2, .int v2), (3, .int (v3 + 1))] [] G I L) ∧ ((m_am L v2 v3 = true) → (mOk L) ∧ (vp_in v2 16) ∧ (vp_in v3 16) ∧ vp_in (((16 : Int32) * v2) + v3) 256 ∧ Wx z 0 0 16 [(0, .ref ((zB z).size + 64)), (1, .int v1), (2, .int v2), (3, .int (v3 + 1))] [] G (oI I (m_rkO L v1 v2 v3)) (setL L 72 (vp_updL (L 72) (((16 : Int32) * v2) + v3).toNatClampNeg (m_rk L v1 v2 v3)))))) : Wx z 0 0 16 [(0, .ref ((zB z).size + 64)), (1, .int v1), (2, .int v2), (3, .int v3)] [] G I L := by
  have hz1 := hz.1
  refine am_iload_n hz1 dX12_reckons_16 3 rfl rfl ?_
  refine am_aload_n hz1 dX12_reckons_17 0 rfl rfl ?_
  refine am_cVf hz cv_X12_78 [] [.int v3] (c_X12_many hG  ) (ln_64 hG) (lk_64 hG) rfl rfl rfl ⟨Nat.le_refl _, Nat.le_refl _⟩ (Nat.le_of_ble_eq_true rfl) dX12_reckons_18 ?_
  refine am_icmp_ge (tgt := 57) hz1 dX12_reckons_21 (by decide) (fun c1 => ?_) (fun c1 => ?_)
  · replace h := h.1 c1
    refine am_iinc (v := v2 + 1) (lv' := [(2, .int (v2 + 1)), (0, .ref ((zB z).size + 64)), (1, .int v1), (3, .int v3)]) hz1 dX12_reckons_57 2 rfl rfl rfl rfl ?_
    refine am_goto (tgt := 6) hz1 dX12_reckons_60 (by decide) ?_
    exact am_sub (lv' := [(0, .ref ((zB z).size + 64)), (1, .int v1), (2, .int (v2 + 1))]) [1, 2, 0] rfl h
  · replace h := h.2 c1
    refine am_aload_n hz1 dX12_reckons_24 0 rfl rfl ?_
    refine am_iload_n hz1 dX12_reckons_25 2 rfl rfl ?_
    refine am_iload_n hz1 dX12_reckons_26 3 rfl rfl ?_
    obtain ⟨g2, h⟩ := h
    refine am_cVf hz cv_X12_94 [.int v2, .int v3] [] (c_X12_isAtMost hG v2 v3 g2) (ln_64 hG) (lk_64 hG) rfl rfl rfl ⟨Nat.le_refl _, Nat.le_refl _⟩ (Nat.le_of_ble_eq_true rfl) dX12_reckons_27 ?_
    refine am_ifb_eq (tgt := 51) hz1 dX12_reckons_30 (by decide) (fun c3 => ?_) (fun c3 => ?_)
    · replace h := h.1 c3
      refine am_iinc (v := v3 + 1) (lv' := [(3, .int (v3 + 1)), (0, .ref ((zB z).size + 64)), (1, .int v1), (2, .int v2)]) hz1 dX12_reckons_51 3 rfl rfl rfl rfl ?_
      refine am_goto (tgt := 16) hz1 dX12_reckons_54 (by decide) ?_
      exact am_sub (lv' := [(0, .ref ((zB z).size + 64)), (1, .int v1), (2, .int v2), (3, .int (v3 + 1))]) [1, 2, 3, 0] rfl h
    · replace h := h.2 c3
      refine am_aload_n hz1 dX12_reckons_33 0 rfl rfl ?_
      refine am_getR hz1 fl_X12_35 (ln_64 hG) (lk_64 hG) (lr_64_16 hG) rfl dX12_reckons_34 ?_
      refine am_bipush (v := 16) hz1 dX12_reckons_37 (by decide) ?_
      refine am_iload_n hz1 dX12_reckons_39 2 rfl rfl ?_
      refine am_imul hz1 dX12_reckons_40 ?_
      refine am_iload_n hz1 dX12_reckons_41 3 rfl rfl ?_
      refine am_iadd hz1 dX12_reckons_42 ?_
      refine am_aload_n hz1 dX12_reckons_43 0 rfl rfl ?_
      refine am_iload_n hz1 dX12_reckons_44 1 rfl rfl ?_
      refine am_iload_n hz1 dX12_reckons_45 2 rfl rfl ?_
      refine am_iload_n hz1 dX12_reckons_46 3 rfl rfl ?_
      obtain ⟨g4, h⟩ := h
      obtain ⟨g5, h⟩ := h
      obtain ⟨g6, h⟩ := h
      refine am_cVf hz cv_X12_317 [.int v1, .int v2, .int v3] [.int (((16 : Int32) * v2) + v3), .ref ((zB z).size + 72)] (c_X12_reckoned hG v1 v2 v3 g4 g5 g6) (ln_64 hG) (lk_64 hG) rfl rfl rfl ⟨Nat.le_refl _, Nat.le_refl _⟩ (Nat.le_of_ble_eq_true rfl) dX12_reckons_47 ?_
      obtain ⟨g7, h⟩ := h
      refine am_last hz1 (ln_72 hG) (lk_72 hG) (by rw [(ll_72 hG)]; exact g7) dX12_reckons_50 ?_
      refine am_iinc (v := v3 + 1) (lv' := [(3, .int (v3 + 1)), (0, .ref ((zB z).size + 64)), (1, .int v1), (2, .int v2)]) hz1 dX12_reckons_51 3 rfl rfl rfl rfl ?_
      refine am_goto (tgt := 16) hz1 dX12_reckons_54 (by decide) ?_
      exact am_sub (lv' := [(0, .ref ((zB z).size + 64)), (1, .int v1), (2, .int v2), (3, .int (v3 + 1))]) [1, 2, 3, 0] rfl h
set_option maxRecDepth 100000 in
set_option maxHeartbeats 4000000 in
theorem c_X12_reckons {l : Launch} {D : va_G} {B : Heap} {G : amG} {I : amI} {L : amL}  (hG : Lay G)  (v1 : Int32) {n : Nat} {A : Nat → Int32} (hM : MO L n A) : Mx l D B yX12_reckons cX12_reckons 4 none 6 0 0 [.ref (B.size + 64), .int v1] G I L (fun r G1 I1 L1 => r = none ∧ G1 = G ∧ ∃ (f : Nat → Int64) (g : Bool), I1 = oI I g ∧ L1 = setL L 72 f ∧ KV (rkT L v1 A) n f ∧ (g = true ↔ ∃ x y, x < n ∧ y < n ∧ le A x y = true ∧ m_rkO L v1 (nI x) (nI y) = true)) := by
  refine Mx.of (by decide) rfl rfl (fun z e1 e2 e3 hz => ?_)
  subst e1; subst e2; subst e3
  refine b_X12_reckons_0 hz hG ?_
  have h16 := hM.2.1
  have h1 := hM.1
  have hM' : ∀ f, MO (setL L 72 f) n A := fun f => MO_72 hM (by decide)
  have rows : ∀ f g, RK n (le A) (fun _ _ => 1) (fun a b => m_rk L v1 (nI a) (nI b)) (fun a b => m_rkO L v1 (nI a) (nI b)) 1 0 0 f g → Wx z 0 0 6 [(0, .ref ((zB z).size + 64)), (1, .int v1), (2, .int (nI 0))] [] G (oI I g) (setL L 72 f) := by
    refine for_up (P := fun a => ∀ f g, RK n (le A) (fun _ _ => 1) (fun a b => m_rk L v1 (nI a) (nI b)) (fun a b => m_rkO L v1 (nI a) (nI b)) 1 a 0 f g → Wx z 0 0 6 [(0, .ref ((zB z).size + 64)), (1, .int v1), (2, .int (nI a))] [] G (oI I g) (setL L 72 f)) (n := n) ?_ ?_ (Nat.zero_le _)
    · intro f g hf
      have hend := RK_end (RK_c (N' := n + 1) (a' := 0) (b' := 0) hf (fun x y hx hy _ => ⟨fun _ => Or.inl (by show 1 < n + 1; omega), fun _ => Or.inr ⟨rfl, Or.inl hx⟩⟩)) (fun x y hx hy _ => h1)
      exact b_X12_reckons_6 hz hG ⟨fun _ => ⟨rfl, rfl, f, g, rfl, rfl, hend.1, hend.2⟩, fun h => absurd (mm_le (hM' f)) h⟩
    · intro a ha ah f g hf
      refine b_X12_reckons_6 hz hG ⟨fun h => absurd h (mm_ge (hM' f) ha), fun _ => ?_⟩
      have cols : ∀ f g, RK n (le A) (fun _ _ => 1) (fun a b => m_rk L v1 (nI a) (nI b)) (fun a b => m_rkO L v1 (nI a) (nI b)) 1 a 0 f g → Wx z 0 0 16 [(0, .ref ((zB z).size + 64)), (1, .int v1), (2, .int (nI a)), (3, .int (nI 0))] [] G (oI I g) (setL L 72 f) := by
        refine for_up (P := fun b => ∀ f g, RK n (le A) (fun _ _ => 1) (fun a b => m_rk L v1 (nI a) (nI b)) (fun a b => m_rkO L v1 (nI a) (nI b)) 1 a b f g → Wx z 0 0 16 [(0, .ref ((zB z).size + 64)), (1, .int v1), (2, .int (nI a)), (3, .int (nI b))] [] G (oI I g) (setL L 72 f)) (n := n) ?_ ?_ (Nat.zero_le _)
        · intro f g hf
          refine b_X12_reckons_16 hz hG ⟨fun _ => ?_, fun h => absurd (mm_le (hM' f)) h⟩
          rw [nI_1]
          exact ah f g (RK_row hf)
        · intro b hb bh f g hf
          have hO := hM' f
          have hc := m_rk_c (L := L) (L' := setL L 72 f) (k := v1) (a := nI a) (b := nI b) (setL_n (by decide)) (setL_n (by decide)) (setL_n (by decide))
          refine b_X12_reckons_16 hz hG ⟨fun h => absurd h (mm_ge hO hb), fun _ => ⟨in16 h16 ha, fun h => ?_, fun h => ⟨⟨n, A, hO⟩, in16 h16 ha, in16 h16 hb, by rw [c16]; exact in_nI (by omega) (by decide), ?_⟩⟩⟩
          · rw [hO.am ha (by omega)] at h
            rw [nI_1]
            exact bh f g (RK_n hf (fun q => by rw [h] at q; cases q))
          · rw [hO.am ha (by omega)] at h
            rw [nI_1, c16, cl_nI (n := 16 * a + b) (by omega), setL_ss, setL_s, hc.1, hc.2, oI_oI]
            exact bh _ _ (RK_s h16 hf ha hb h rfl rfl)
      exact cols f g hf
  exact rows _ false (RK_0 (fun x y hx hy h => Nat.le_refl _))
def m_ivx (L : amL) (a b : Int32) : Int32 := m_iv L a b &&& (((1 : Int32) <<< (a &&& 31)) ^^^ (-1))
def m_invT (L : amL) (a b : Int32) : Int64 := tS (fun x => L 73 (16 * a.toNatClampNeg + x)) (fun x => L 72 (16 * x + b.toNatClampNeg)) (m_ivx L a b) (mN L)
def m_inv (L : amL) (a b : Int32) : Int64 := if a = b then L 73 (16 * a.toNatClampNeg + a.toNatClampNeg) else (-(L 73 (16 * a.toNatClampNeg + a.toNatClampNeg))) * m_invT L a b
def m_invO (L : amL) (a b : Int32) : Bool := if a = b then false else (oS (fun x => L 73 (16 * a.toNatClampNeg + x)) (fun x => L 72 (16 * x + b.toNatClampNeg)) (m_ivx L a b) (mN L) || q_tl (-(L 73 (16 * a.toNatClampNeg + a.toNatClampNeg))) (m_invT L a b))
theorem ivx_b {L : amL} {a : Nat} {b : Int32} (ha : a < 32) {x : Nat} (hx : x < 32) : bt (m_ivx L (nI a) b) x = (bt (m_iv L (nI a) b) x && !decide (x = a)) := by
  rw [m_ivx, b_and, b_not _ hx, b_one a ha hx]
set_option maxRecDepth 100000 in
set_option maxHeartbeats 4000000 in
theorem b_X12_inverted_0 {z : amZ} {post : amP} {G : amG} {I : amI} {L : amL} (hz : Go z cX12_inverted RX12 7 (some .long) 4 0 0 post) (hG : Lay G) {v1 : Int32} {v2 : Int32} (h : ((¬ v1 = v2) → (mOk L) ∧ (vp_in v1 16) ∧ Wx z 0 0 30 [(0, .ref ((zB z).size + 64)), (1, .int v1), (2, .int v2), (3, .long (0 : Int64)), (5, .int (m_iv L v1 v2)), (6, .int 0)] [] G I L) ∧ ((v1 = v2) → vp_in (((16 : Int32) * v1) + v1) 256 ∧ post (some (.long (L 73 (((16 : Int32) * v1) + v1).toNatClampNeg))) G I L)) : Wx z 0 0 0 [(0, .ref ((zB z).size + 64)), (1, .int v1), (2, .int v2)] [] G I L := by
  have hz1 := hz.1
  refine am_iload_n hz1 dX12_inverted_0 1 rfl rfl ?_
  refine am_iload_n hz1 dX12_inverted_1 2 rfl rfl ?_
  refine am_icmp_ne (tgt := 17) hz1 dX12_inverted_2 (by decide) (fun c1 => ?_) (fun c1 => ?_)
  · replace h := h.1 c1
    refine am_lconst (v := 0) hz1 dX12_inverted_17 (by decide) ?_
    refine am_lstore_n (lv' := [(3, .long (0 : Int64)), (0, .ref ((zB z).size + 64)), (1, .int v1), (2, .int v2)]) hz1 dX12_inverted_18 rfl rfl rfl ?_
    refine am_aload_n hz1 dX12_inverted_19 1 rfl rfl ?_
    refine am_iload_n hz1 dX12_inverted_20 2 rfl rfl ?_
    refine am_iload_n hz1 dX12_inverted_21 3 rfl rfl ?_
    obtain ⟨g2, h⟩ := h
    obtain ⟨g3, h⟩ := h
    refine am_cVf hz cv_X12_107 [.int v1, .int v2] [] (c_X12_interval hG v1 v2 g2 g3) (ln_64 hG) (lk_64 hG) rfl rfl rfl ⟨Nat.le_refl _, Nat.le_refl _⟩ (Nat.le_of_ble_eq_true rfl) dX12_inverted_22 ?_
    refine am_istore (lv' := [(5, .int (m_iv L v1 v2)), (3, .long (0 : Int64)), (0, .ref ((zB z).size + 64)), (1, .int v1), (2, .int v2)]) hz1 dX12_inverted_25 rfl rfl ?_
    refine am_iconst (v := 0) hz1 dX12_inverted_27 (by decide) ?_
    refine am_istore (lv' := [(6, .int 0), (5, .int (m_iv L v1 v2)), (3, .long (0 : Int64)), (0, .ref ((zB z).size + 64)), (1, .int v1), (2, .int v2)]) hz1 dX12_inverted_28 rfl rfl ?_
    exact am_sub (lv' := [(0, .ref ((zB z).size + 64)), (1, .int v1), (2, .int v2), (3, .long (0 : Int64)), (5, .int (m_iv L v1 v2)), (6, .int 0)]) [3, 4, 5, 2, 1, 0] rfl h
  · replace h := h.2 c1
    refine am_aload_n hz1 dX12_inverted_5 0 rfl rfl ?_
    refine am_getR hz1 fl_X12_38 (ln_64 hG) (lk_64 hG) (lr_64_17 hG) rfl dX12_inverted_6 ?_
    refine am_bipush (v := 16) hz1 dX12_inverted_9 (by decide) ?_
    refine am_iload_n hz1 dX12_inverted_11 1 rfl rfl ?_
    refine am_imul hz1 dX12_inverted_12 ?_
    refine am_iload_n hz1 dX12_inverted_13 1 rfl rfl ?_
    refine am_iadd hz1 dX12_inverted_14 ?_
    obtain ⟨g4, h⟩ := h
    refine am_lald hz1 (ln_73 hG) (lk_73 hG) (by rw [(ll_73 hG)]; exact g4) dX12_inverted_15 ?_
    exact am_lreturn hz dX12_inverted_16 h
set_option maxRecDepth 100000 in
set_option maxHeartbeats 4000000 in
theorem b_X12_inverted_30 {z : amZ} {post : amP} {G : amG} {I : amI} {L : amL} (hz : Go z cX12_inverted RX12 7 (some .long) 4 0 0 post) (hG : Lay G) {v1 : Int32} {v2 : Int32} {v3 : Int64} {v5 : Int32} {v6 : Int32} (h : (((m_many L) ≤ v6) → vp_in (((16 : Int32) * v1) + v1) 256 ∧ post (some (.long ((-(L 73 (((16 : Int32) * v1) + v1).toNatClampNeg)) * v3))) G (oI I (q_tl (-(L 73 (((16 : Int32) * v1) + v1).toNatClampNeg)) v3)) L) ∧ ((¬ (m_many L) ≤ v6) → ((v6 = v1) → Wx z 0 0 30 [(0, .ref ((zB z).size + 64)), (1, .int v1), (2, .int v2), (3, .long v3), (5, .int v5), (6, .int (v6 + 1))] [] G I L) ∧ ((¬ v6 = v1) → ((m_has v5 v6 = false) → Wx z 0 0 30 [(0, .ref ((zB z).size + 64)), (1, .int v1), (2, .int v2), (3, .long v3), (5, .int v5), (6, .int (v6 + 1))] [] G I L) ∧ ((m_has v5 v6 = true) → vp_in (((16 : Int32) * v1) + v6) 256 ∧ vp_in (((16 : Int32) * v6) + v2) 256 ∧ Wx z 0 0 30 [(0, .ref ((zB z).size + 64)), (1, .int v1), (2, .int v2), (3, .long (v3 + ((L 73 (((16 : Int32) * v1) + v6).toNatClampNeg) * (L 72 (((16 : Int32) * v6) + v2).toNatClampNeg)))), (5, .int v5), (6, .int (v6 + 1))] [] G (oI (oI I (q_tl (L 73 (((16 : Int32) * v1) + v6).toNatClampNeg) (L 72 (((16 : Int32) * v6) + v2).toNatClampNeg))) (q_ovc v3 ((L 73 (((16 : Int32) * v1) + v6).toNatClampNeg) * (L 72 (((16 : Int32) * v6) + v2).toNatClampNeg)))) L)))) : Wx z 0 0 30 [(0, .ref ((zB z).size + 64)), (1, .int v1), (2, .int v2), (3, .long v3), (5, .int v5), (6, .int v6)] [] G I L := by
  have hz1 := hz.1
  refine am_iload hz1 dX12_inverted_30 5 rfl ?_
  refine am_aload_n hz1 dX12_inverted_32 0 rfl rfl ?_
  refine am_cVf hz cv_X12_78 [] [.int v6] (c_X12_many hG  ) (ln_64 hG) (lk_64 hG) rfl rfl rfl ⟨Nat.le_refl _, Nat.le_refl _⟩ (Nat.le_of_ble_eq_true rfl) dX12_inverted_33 ?_
  refine am_icmp_ge (tgt := 95) hz1 dX12_inverted_36 (by decide) (fun c1 => ?_) (fun c1 => ?_)
  · replace h := h.1 c1
    refine am_aload_n hz1 dX12_inverted_95 0 rfl rfl ?_
    refine am_aload_n hz1 dX12_inverted_96 0 rfl rfl ?_
    refine am_getR hz1 fl_X12_38 (ln_64 hG) (lk_64 hG) (lr_64_17 hG) rfl dX12_inverted_97 ?_
    refine am_bipush (v := 16) hz1 dX12_inverted_100 (by decide) ?_
    refine am_iload_n hz1 dX12_inverted_102 1 rfl rfl ?_
    refine am_imul hz1 dX12_inverted_103 ?_
    refine am_iload_n hz1 dX12_inverted_104 1 rfl rfl ?_
    refine am_iadd hz1 dX12_inverted_105 ?_
    obtain ⟨g2, h⟩ := h
    refine am_lald hz1 (ln_73 hG) (lk_73 hG) (by rw [(ll_73 hG)]; exact g2) dX12_inverted_106 ?_
    refine am_lneg hz1 dX12_inverted_107 ?_
    refine am_lload_n hz1 dX12_inverted_108 3 rfl rfl ?_
    refine am_cVf hz cv_X12_304 [.long (-(L 73 (((16 : Int32) * v1) + v1).toNatClampNeg)), .long v3] [] (c_X12_times hG (-(L 73 (((16 : Int32) * v1) + v1).toNatClampNeg)) v3 ) (ln_64 hG) (lk_64 hG) rfl rfl rfl ⟨Nat.le_refl _, Nat.le_refl _⟩ (Nat.le_of_ble_eq_true rfl) dX12_inverted_109 ?_
    exact am_lreturn hz dX12_inverted_112 h
  · replace h := h.2 c1
    refine am_iload hz1 dX12_inverted_39 5 rfl ?_
    refine am_iload_n hz1 dX12_inverted_41 1 rfl rfl ?_
    refine am_icmp_eq (tgt := 89) hz1 dX12_inverted_42 (by decide) (fun c3 => ?_) (fun c3 => ?_)
    · replace h := h.1 c3
      refine am_iinc (v := v6 + 1) (lv' := [(6, .int (v6 + 1)), (0, .ref ((zB z).size + 64)), (1, .int v1), (2, .int v2), (3, .long v3), (5, .int v5)]) hz1 dX12_inverted_89 5 rfl rfl rfl rfl ?_
      refine am_goto (tgt := 30) hz1 dX12_inverted_92 (by decide) ?_
      exact am_sub (lv' := [(0, .ref ((zB z).size + 64)), (1, .int v1), (2, .int v2), (3, .long v3), (5, .int v5), (6, .int (v6 + 1))]) [1, 2, 3, 4, 5, 0] rfl h
    · replace h := h.2 c3
      refine am_iload hz1 dX12_inverted_45 4 rfl ?_
      refine am_iload hz1 dX12_inverted_47 5 rfl ?_
      refine am_cSf hz ct_X12_90 [.int v5, .int v6] [] (c_X12_has hG v5 v6 ) rfl rfl rfl ⟨Nat.le_refl _, Nat.le_refl _⟩ (Nat.le_of_ble_eq_true rfl) dX12_inverted_49 ?_
      refine am_ifb_eq (tgt := 89) hz1 dX12_inverted_52 (by decide) (fun c4 => ?_) (fun c4 => ?_)
      · replace h := h.1 c4
        refine am_iinc (v := v6 + 1) (lv' := [(6, .int (v6 + 1)), (0, .ref ((zB z).size + 64)), (1, .int v1), (2, .int v2), (3, .long v3), (5, .int v5)]) hz1 dX12_inverted_89 5 rfl rfl rfl rfl ?_
        refine am_goto (tgt := 30) hz1 dX12_inverted_92 (by decide) ?_
        exact am_sub (lv' := [(0, .ref ((zB z).size + 64)), (1, .int v1), (2, .int v2), (3, .long v3), (5, .int v5), (6, .int (v6 + 1))]) [1, 2, 3, 4, 5, 0] rfl h
      · replace h := h.2 c4
        refine am_aload_n hz1 dX12_inverted_55 0 rfl rfl ?_
        refine am_lload_n hz1 dX12_inverted_56 3 rfl rfl ?_
        refine am_aload_n hz1 dX12_inverted_57 0 rfl rfl ?_
        refine am_aload_n hz1 dX12_inverted_58 0 rfl rfl ?_
        refine am_getR hz1 fl_X12_38 (ln_64 hG) (lk_64 hG) (lr_64_17 hG) rfl dX12_inverted_59 ?_
        refine am_bipush (v := 16) hz1 dX12_inverted_62 (by decide) ?_
        refine am_iload_n hz1 dX12_inverted_64 1 rfl rfl ?_
        refine am_imul hz1 dX12_inverted_65 ?_
        refine am_iload hz1 dX12_inverted_66 5 rfl ?_
        refine am_iadd hz1 dX12_inverted_68 ?_
        obtain ⟨g5, h⟩ := h
        refine am_lald hz1 (ln_73 hG) (lk_73 hG) (by rw [(ll_73 hG)]; exact g5) dX12_inverted_69 ?_
        refine am_aload_n hz1 dX12_inverted_70 0 rfl rfl ?_
        refine am_getR hz1 fl_X12_35 (ln_64 hG) (lk_64 hG) (lr_64_16 hG) rfl dX12_inverted_71 ?_
        refine am_bipush (v := 16) hz1 dX12_inverted_74 (by decide) ?_
        refine am_iload hz1 dX12_inverted_76 5 rfl ?_
        refine am_imul hz1 dX12_inverted_78 ?_
        refine am_iload_n hz1 dX12_inverted_79 2 rfl rfl ?_
        refine am_iadd hz1 dX12_inverted_80 ?_
        obtain ⟨g6, h⟩ := h
        refine am_lald hz1 (ln_72 hG) (lk_72 hG) (by rw [(ll_72 hG)]; exact g6) dX12_inverted_81 ?_
        refine am_cVf hz cv_X12_304 [.long (L 73 (((16 : Int32) * v1) + v6).toNatClampNeg), .long (L 72 (((16 : Int32) * v6) + v2).toNatClampNeg)] [.long v3, .ref ((zB z).size + 64)] (c_X12_times hG (L 73 (((16 : Int32) * v1) + v6).toNatClampNeg) (L 72 (((16 : Int32) * v6) + v2).toNatClampNeg) ) (ln_64 hG) (lk_64 hG) rfl rfl rfl ⟨Nat.le_refl _, Nat.le_refl _⟩ (Nat.le_of_ble_eq_true rfl) dX12_inverted_82 ?_
        refine am_cVf hz cv_X12_308 [.long v3, .long ((L 73 (((16 : Int32) * v1) + v6).toNatClampNeg) * (L 72 (((16 : Int32) * v6) + v2).toNatClampNeg))] [] (c_X12_plus hG v3 ((L 73 (((16 : Int32) * v1) + v6).toNatClampNeg) * (L 72 (((16 : Int32) * v6) + v2).toNatClampNeg)) ) (ln_64 hG) (lk_64 hG) rfl rfl rfl ⟨Nat.le_refl _, Nat.le_refl _⟩ (Nat.le_of_ble_eq_true rfl) dX12_inverted_85 ?_
        refine am_lstore_n (lv' := [(3, .long (v3 + ((L 73 (((16 : Int32) * v1) + v6).toNatClampNeg) * (L 72 (((16 : Int32) * v6) + v2).toNatClampNeg)))), (0, .ref ((zB z).size + 64)), (1, .int v1), (2, .int v2), (5, .int v5), (6, .int v6)]) hz1 dX12_inverted_88 rfl rfl rfl ?_
        refine am_iinc (v := v6 + 1) (lv' := [(6, .int (v6 + 1)), (3, .long (v3 + ((L 73 (((16 : Int32) * v1) + v6).toNatClampNeg) * (L 72 (((16 : Int32) * v6) + v2).toNatClampNeg)))), (0, .ref ((zB z).size + 64)), (1, .int v1), (2, .int v2), (5, .int v5)]) hz1 dX12_inverted_89 5 rfl rfl rfl rfl ?_
        refine am_goto (tgt := 30) hz1 dX12_inverted_92 (by decide) ?_
        exact am_sub (lv' := [(0, .ref ((zB z).size + 64)), (1, .int v1), (2, .int v2), (3, .long (v3 + ((L 73 (((16 : Int32) * v1) + v6).toNatClampNeg) * (L 72 (((16 : Int32) * v6) + v2).toNatClampNeg)))), (5, .int v5), (6, .int (v6 + 1))]) [2, 3, 4, 1, 5, 0] rfl h
set_option maxRecDepth 100000 in
set_option maxHeartbeats 4000000 in
theorem c_X12_inverted {l : Launch} {D : va_G} {B : Heap} {G : amG} {I : amI} {L : amL}  (hG : Lay G)  (v1 : Int32) (v2 : Int32) (hM : mOk L) (hi : vp_in v1 16) (hj : vp_in v2 16) : Fx l D B yX12_inverted cX12_inverted 7 (some .long) 4 [.ref (B.size + 64), .int v1, .int v2] G I L (some (.long (m_inv L v1 v2))) (oI I (m_invO L v1 v2)) L := by
  refine Mx.of (by decide) rfl rfl (fun z e1 e2 e3 hz => ?_)
  subst e1; subst e2; subst e3
  refine b_X12_inverted_0 hz hG ?_
  have hO := hM
  obtain ⟨n, A, hM⟩ := hM
  have h16 := hM.2.1
  obtain ⟨a, ha, rfl⟩ := vp_in_of hi (by decide)
  obtain ⟨b, hb, rfl⟩ := vp_in_of hj (by decide)
  have ea : (nI a).toNatClampNeg = a := cl_nI (by omega)
  have eb : (nI b).toNatClampNeg = b := cl_nI (by omega)
  have ein : vp_in (nI (16 * a + a)) 256 := in_nI (by omega) (by decide)
  have ecl : (nI (16 * a + a)).toNatClampNeg = 16 * a + a := cl_nI (by omega)
  rw [c16]
  refine ⟨fun h => ⟨hO, hi, ?_⟩, fun h => ⟨ein, ?_, rfl, ?_, rfl⟩⟩
  · refine for_up (P := fun i => Wx z 0 0 30 [(0, .ref ((zB z).size + 64)), (1, .int (nI a)), (2, .int (nI b)), (3, .long (tS (fun x => L 73 (16 * a + x)) (fun x => L 72 (16 * x + b)) (m_ivx L (nI a) (nI b)) i)), (5, .int (m_iv L (nI a) (nI b))), (6, .int (nI i))] [] G (oI I (oS (fun x => L 73 (16 * a + x)) (fun x => L 72 (16 * x + b)) (m_ivx L (nI a) (nI b)) i)) L) (n := n) ?_ ?_ (Nat.zero_le _)
    · refine b_X12_inverted_30 hz hG ⟨fun _ => ?_, fun h => absurd (mm_le hM) h⟩
      rw [c16, ecl]
      refine ⟨ein, ?_, rfl, ?_, rfl⟩
      · rw [m_inv, if_neg h, m_invT, ea, eb, hM.N]
      · rw [m_invO, if_neg h, m_invT, ea, eb, hM.N, oI_oI]
    · intro i hi2 ih
      refine b_X12_inverted_30 hz hG ⟨fun h => absurd h (mm_ge hM hi2), fun _ => ⟨fun h2 => ?_, fun h2 => ⟨fun h3 => ?_, fun h3 => ⟨by rw [c16]; exact in_nI (by omega) (by decide), by rw [c16]; exact in_nI (by omega) (by decide), ?_⟩⟩⟩⟩
      · have e : i = a := (nI_eq (by omega) (by omega)).mp h2
        have hb0 : bt (m_ivx L (nI a) (nI b)) i = false := by rw [ivx_b (by omega) (by omega), decide_eq_true e, Bool.not_true, Bool.and_false]
        rw [tS, if_neg (by rw [hb0]; decide), oS, hb0, Bool.false_and, Bool.or_false] at ih
        rw [nI_1]
        exact ih
      · rw [has_b (by omega)] at h3
        have hb0 : bt (m_ivx L (nI a) (nI b)) i = false := by rw [ivx_b (by omega) (by omega), h3, Bool.false_and]
        rw [tS, if_neg (by rw [hb0]; decide), oS, hb0, Bool.false_and, Bool.or_false] at ih
        rw [nI_1]
        exact ih
      · rw [has_b (by omega)] at h3
        have e : ¬ i = a := fun e => h2 (by rw [e])
        have hb1 : bt (m_ivx L (nI a) (nI b)) i = true := by rw [ivx_b (by omega) (by omega), h3, decide_eq_false e]; rfl
        rw [tS, if_pos hb1, oS, hb1, Bool.true_and] at ih
        rw [nI_1, c16, c16, cl_nI (n := 16 * a + i) (by omega), cl_nI (n := 16 * i + b) (by omega), oI_oI, oI_oI]
        exact ih
  · rw [m_inv, if_pos h, ea, ecl]
  · rw [m_invO, if_pos h]; rfl
/-- powers, as tables -/
def pwM (n : Nat) (A : Nat → Int32) (F : Nat → Nat → Int64) : Nat → Nat → Nat → Int64
  | 0 => fun a b => if le A a b = true then (if a = b then 1 else 0) else 0
  | k + 1 => fun a b => if le A a b = true then tS (fun w => if a < n ∧ w < n then pwM n A F k a w else 0) (fun w => F w b) (ivS n A a b) n else 0
def pwMO (n : Nat) (A : Nat → Int32) (F : Nat → Nat → Int64) (k a b : Nat) : Bool := oS (fun w => if a < n ∧ w < n then pwM n A F k a w else 0) (fun w => F w b) (ivS n A a b) n
set_option maxRecDepth 100000 in
set_option maxHeartbeats 4000000 in
theorem b_X12_raises_0 {z : amZ} {post : amP} {G : amG} {I : amI} {L : amL} (hz : Go z cX12_raises RX12 4 none 7 0 0 post) (hG : Lay G) {v1 : Int32} (h : ∃ (dq1 : Nat) (postq1 : amP), Nat.ble (dq1 + 1) 7 = true ∧ Mx (zL z) (zD z) (zB z) yX12_laysKind cX12_laysKind 4 none dq1 0 0 [.ref ((zB z).size + 64), .int 1] G I L postq1 ∧ ∀ (roq1 : Option Value) (Gq1 : amG) (Iq1 : amI) (Lq1 : amL), postq1 roq1 Gq1 Iq1 Lq1 → roq1 = none ∧ Lay Gq1 ∧ Wx z 0 0 7 [(0, .ref ((zB z).size + 64)), (1, .int v1), (2, .int 0)] [] Gq1 Iq1 Lq1) : Wx z 0 0 0 [(0, .ref ((zB z).size + 64)), (1, .int v1)] [] G I L := by
  have hz1 := hz.1
  refine am_aload_n hz1 dX12_raises_0 0 rfl rfl ?_
  refine am_iconst (v := 1) hz1 dX12_raises_1 (by decide) ?_
  obtain ⟨dq1, postq1, hdq1, hMq1, h⟩ := h
  refine am_callV hz1 cv_X12_295 [.int 1] [] hMq1 (ln_64 hG) (lk_64 hG) rfl rfl (hz.fr hdq1) (hz.lo hdq1) (by rw [hz.2.1]; exact ⟨Nat.le_refl _, Nat.le_refl _⟩) (Nat.le_of_ble_eq_true rfl) dX12_raises_2 (fun roq1 Gq1 Iq1 Lq1 hpq1 => ?_)
  obtain ⟨rfl, hGq1, h⟩ := h roq1 Gq1 Iq1 Lq1 hpq1
  refine am_iconst (v := 0) hz1 dX12_raises_5 (by decide) ?_
  refine am_istore_n (lv' := [(2, .int 0), (0, .ref ((zB z).size + 64)), (1, .int v1)]) hz1 dX12_raises_6 rfl rfl rfl ?_
  exact am_sub (lv' := [(0, .ref ((zB z).size + 64)), (1, .int v1), (2, .int 0)]) [1, 2, 0] rfl h
set_option maxRecDepth 100000 in
set_option maxHeartbeats 4000000 in
theorem b_X12_raises_7 {z : amZ} {post : amP} {G : amG} {I : amI} {L : amL} (hz : Go z cX12_raises RX12 4 none 7 0 0 post) (hG : Lay G) {v1 : Int32} {v2 : Int32} (h : ((v1 ≤ v2) → post none G I L) ∧ ((¬ v1 ≤ v2) → Wx z 0 0 14 [(0, .ref ((zB z).size + 64)), (1, .int v1), (2, .int v2), (3, .int 0)] [] G I L)) : Wx z 0 0 7 [(0, .ref ((zB z).size + 64)), (1, .int v1), (2, .int v2)] [] G I L := by
  have hz1 := hz.1
  refine am_iload_n hz1 dX12_raises_7 2 rfl rfl ?_
  refine am_iload_n hz1 dX12_raises_8 1 rfl rfl ?_
  refine am_icmp_ge (tgt := 50) hz1 dX12_raises_9 (by decide) (fun c1 => ?_) (fun c1 => ?_)
  · replace h := h.1 c1
    exact am_return hz dX12_raises_50 h
  · replace h := h.2 c1
    refine am_iconst (v := 0) hz1 dX12_raises_12 (by decide) ?_
    refine am_istore_n (lv' := [(3, .int 0), (0, .ref ((zB z).size + 64)), (1, .int v1), (2, .int v2)]) hz1 dX12_raises_13 rfl rfl rfl ?_
    exact am_sub (lv' := [(0, .ref ((zB z).size + 64)), (1, .int v1), (2, .int v2), (3, .int 0)]) [1, 2, 3, 0] rfl h
set_option maxRecDepth 100000 in
set_option maxHeartbeats 4000000 in
theorem b_X12_raises_14 {z : amZ} {post : amP} {G : amG} {I : amI} {L : amL} (hz : Go z cX12_raises RX12 4 none 7 0 0 post) (hG : Lay G) {v1 : Int32} {v2 : Int32} {v3 : Int32} (h : (((256 : Int32) ≤ v3) → ∃ (dq2 : Nat) (postq2 : amP), Nat.ble (dq2 + 1) 7 = true ∧ Mx (zL z) (zD z) (zB z) yX12_reckons cX12_reckons 4 none dq2 0 0 [.ref ((zB z).size + 64), .int 2] G I L postq2 ∧ ∀ (roq2 : Option Value) (Gq2 : amG) (Iq2 : amI) (Lq2 : amL), postq2 roq2 Gq2 Iq2 Lq2 → roq2 = none ∧ Lay Gq2 ∧ Wx z 0 0 7 [(0, .ref ((zB z).size + 64)), (1, .int v1), (2, .int (v2 + 1))] [] Gq2 Iq2 Lq2) ∧ ((¬ (256 : Int32) ≤ v3) → vp_in v3 256 ∧ vp_in v3 256 ∧ Wx z 0 0 14 [(0, .ref ((zB z).size + 64)), (1, .int v1), (2, .int v2), (3, .int (v3 + 1))] [] G I (setL L 73 (vp_updL (L 73) v3.toNatClampNeg (L 72 v3.toNatClampNeg))))) : Wx z 0 0 14 [(0, .ref ((zB z).size + 64)), (1, .int v1), (2, .int v2), (3, .int v3)] [] G I L := by
  have hz1 := hz.1
  refine am_iload_n hz1 dX12_raises_14 3 rfl rfl ?_
  refine am_sipush (v := 256) hz1 dX12_raises_15 (by decide) ?_
  refine am_icmp_ge (tgt := 39) hz1 dX12_raises_18 (by decide) (fun c1 => ?_) (fun c1 => ?_)
  · replace h := h.1 c1
    refine am_aload_n hz1 dX12_raises_39 0 rfl rfl ?_
    refine am_iconst (v := 2) hz1 dX12_raises_40 (by decide) ?_
    obtain ⟨dq2, postq2, hdq2, hMq2, h⟩ := h
    refine am_callV hz1 cv_X12_324 [.int 2] [] hMq2 (ln_64 hG) (lk_64 hG) rfl rfl (hz.fr hdq2) (hz.lo hdq2) (by rw [hz.2.1]; exact ⟨Nat.le_refl _, Nat.le_refl _⟩) (Nat.le_of_ble_eq_true rfl) dX12_raises_41 (fun roq2 Gq2 Iq2 Lq2 hpq2 => ?_)
    obtain ⟨rfl, hGq2, h⟩ := h roq2 Gq2 Iq2 Lq2 hpq2
    refine am_iinc (v := v2 + 1) (lv' := [(2, .int (v2 + 1)), (0, .ref ((zB z).size + 64)), (1, .int v1), (3, .int v3)]) hz1 dX12_raises_44 2 rfl rfl rfl rfl ?_
    refine am_goto (tgt := 7) hz1 dX12_raises_47 (by decide) ?_
    exact am_sub (lv' := [(0, .ref ((zB z).size + 64)), (1, .int v1), (2, .int (v2 + 1))]) [1, 2, 0] rfl h
  · replace h := h.2 c1
    refine am_aload_n hz1 dX12_raises_21 0 rfl rfl ?_
    refine am_getR hz1 fl_X12_38 (ln_64 hG) (lk_64 hG) (lr_64_17 hG) rfl dX12_raises_22 ?_
    refine am_iload_n hz1 dX12_raises_25 3 rfl rfl ?_
    refine am_aload_n hz1 dX12_raises_26 0 rfl rfl ?_
    refine am_getR hz1 fl_X12_35 (ln_64 hG) (lk_64 hG) (lr_64_16 hG) rfl dX12_raises_27 ?_
    refine am_iload_n hz1 dX12_raises_30 3 rfl rfl ?_
    obtain ⟨g3, h⟩ := h
    refine am_lald hz1 (ln_72 hG) (lk_72 hG) (by rw [(ll_72 hG)]; exact g3) dX12_raises_31 ?_
    obtain ⟨g4, h⟩ := h
    refine am_last hz1 (ln_73 hG) (lk_73 hG) (by rw [(ll_73 hG)]; exact g4) dX12_raises_32 ?_
    refine am_iinc (v := v3 + 1) (lv' := [(3, .int (v3 + 1)), (0, .ref ((zB z).size + 64)), (1, .int v1), (2, .int v2)]) hz1 dX12_raises_33 3 rfl rfl rfl rfl ?_
    refine am_goto (tgt := 14) hz1 dX12_raises_36 (by decide) ?_
    exact am_sub (lv' := [(0, .ref ((zB z).size + 64)), (1, .int v1), (2, .int v2), (3, .int (v3 + 1))]) [1, 2, 3, 0] rfl h
set_option maxRecDepth 100000 in
set_option maxHeartbeats 4000000 in
theorem c_X12_raises {l : Launch} {D : va_G} {B : Heap} {G : amG} {I : amI} {L : amL}  (hG : Lay G)  (v1 : Int32) {n m : Nat} {A : Nat → Int32} (hM : MO L n A) (hm : m ≤ 20) (hv : v1 = nI m) : Mx l D B yX12_raises cX12_raises 4 none 7 0 0 [.ref (B.size + 64), .int v1] G I L (fun r G1 I1 L1 => r = none ∧ G1 = G ∧ ∃ (f h : Nat → Int64) (g : Bool), I1 = oI I g ∧ L1 = setL (setL L 73 h) 72 f ∧ KV (pwM n A (fun w b => L 74 (16 * w + b)) m) n f ∧ (g = true ↔ ∃ k x y, k < m ∧ x < n ∧ y < n ∧ le A x y = true ∧ pwMO n A (fun w b => L 74 (16 * w + b)) k x y = true)) := by
  refine Mx.of (by decide) rfl rfl (fun z e1 e2 e3 hz => ?_)
  subst e1; subst e2; subst e3
  refine b_X12_raises_0 hz hG ?_
  subst hv
  have h16 := hM.2.1
  have hM' : ∀ f h, MO (setL (setL L 73 h) 72 f) n A := fun f h => MO_72 (MO_72 hM (by decide)) (by decide)
  have main : ∀ (f h : Nat → Int64) (g : Bool), KV (pwM n A (fun w b => L 74 (16 * w + b)) 0) n f → (g = true ↔ ∃ k x y, k < 0 ∧ x < n ∧ y < n ∧ le A x y = true ∧ pwMO n A (fun w b => L 74 (16 * w + b)) k x y = true) → Wx z 0 0 7 [(0, .ref ((zB z).size + 64)), (1, .int (nI m)), (2, .int (nI 0))] [] G (oI I g) (setL (setL L 73 h) 72 f) := by
    refine for_up (P := fun i => ∀ (f h : Nat → Int64) (g : Bool), KV (pwM n A (fun w b => L 74 (16 * w + b)) i) n f → (g = true ↔ ∃ k x y, k < i ∧ x < n ∧ y < n ∧ le A x y = true ∧ pwMO n A (fun w b => L 74 (16 * w + b)) k x y = true) → Wx z 0 0 7 [(0, .ref ((zB z).size + 64)), (1, .int (nI m)), (2, .int (nI i))] [] G (oI I g) (setL (setL L 73 h) 72 f)) (n := m) ?_ ?_ (Nat.zero_le _)
    · intro f h g hf hg
      exact b_X12_raises_7 hz hG ⟨fun _ => ⟨rfl, rfl, f, h, g, rfl, rfl, hf, hg⟩, fun q => absurd (nI_le (Nat.le_refl _) (by omega)) q⟩
    · intro i hi ih f h g hf hg
      refine b_X12_raises_7 hz hG ⟨fun q => absurd q (nI_ge hi (by omega)), fun _ => ?_⟩
      have sw : ∀ h h', setL (setL (setL L 73 h) 72 f) 73 h' = setL (setL L 73 h') 72 f := by
        intro h h'
        funext q
        by_cases e : q = 73
        · subst e; rw [setL_s, setL_n (by decide), setL_s]
        · rw [setL_n e]
          by_cases e2 : q = 72
          · subst e2; rw [setL_s, setL_s]
          · rw [setL_n e2, setL_n e2, setL_n e, setL_n e]
      have cp := for_up (P := fun j => Wx z 0 0 14 [(0, .ref ((zB z).size + 64)), (1, .int (nI m)), (2, .int (nI i)), (3, .int (nI j))] [] G (oI I g) (setL (setL L 73 (wr h 0 j f)) 72 f)) (n := 256) ?_ ?_ (Nat.zero_le _)
      · rw [wr_0] at cp
        exact cp
      · have hO := hM' f (wr h 0 256 f)
        refine b_X12_raises_14 hz hG ⟨fun _ => ⟨6, _, rfl, c_X12_reckons hG 2 hO, fun ro G2 I2 L2 ⟨e1, e2, f', g', e3, e4, e5, e6⟩ => ⟨e1, by rw [e2]; exact hG, ?_⟩⟩, fun q => absurd (nI_le (a := 256) (b := 256) (Nat.le_refl _) (by decide)) q⟩
        rw [e2, e3, e4, oI_oI, setL_ss, nI_1]
        have hone : ∀ x y, x < n → y < n → (setL (setL L 73 (wr h 0 256 f)) 72 f) 73 (16 * x + y) = if x < n ∧ y < n then pwM n A (fun w b => L 74 (16 * w + b)) i x y else 0 := by
          intro x y hx hy
          rw [setL_n (by decide), setL_s, wr_in (by omega), Nat.sub_zero, hf x y (by omega) (by omega)]
        have htwo : (setL (setL L 73 (wr h 0 256 f)) 72 f) 74 = L 74 := by rw [setL_n (by decide), setL_n (by decide)]
        have hcv : ∀ x y, x < n → y < n → m_rk (setL (setL L 73 (wr h 0 256 f)) 72 f) 2 (nI x) (nI y) = tS (fun w => if x < n ∧ w < n then pwM n A (fun w b => L 74 (16 * w + b)) i x w else 0) (fun w => L 74 (16 * w + y)) (ivS n A x y) n := by
          intro x y hx hy
          rw [m_rk, if_neg (by decide), if_neg (by decide), if_pos rfl, m_cvl, hO.iv hx hy, hO.N, cl_nI (n := x) (by omega), cl_nI (n := y) (by omega), htwo]
          exact tS_c (fun w hw _ => ⟨hone x w hx hw, rfl⟩)
        have hcO : ∀ x y, x < n → y < n → m_rkO (setL (setL L 73 (wr h 0 256 f)) 72 f) 2 (nI x) (nI y) = pwMO n A (fun w b => L 74 (16 * w + b)) i x y := by
          intro x y hx hy
          rw [m_rkO, if_neg (by decide), if_neg (by decide), if_pos rfl, m_cvlO, hO.iv hx hy, hO.N, cl_nI (n := x) (by omega), cl_nI (n := y) (by omega), htwo, pwMO]
          exact oS_c (fun w hw _ => ⟨hone x w hx hw, rfl⟩)
        refine ih f' _ (g || g') ?_ ?_
        · refine KV_c e5 (fun x y hx hy => ?_)
          rw [rkT]
          show _ = (if le A x y = true then tS (fun w => if x < n ∧ w < n then pwM n A (fun w b => L 74 (16 * w + b)) i x w else 0) (fun w => L 74 (16 * w + y)) (ivS n A x y) n else 0)
          by_cases hl : le A x y = true
          · rw [if_pos hl, if_pos hl, hcv x y hx hy]
          · rw [if_neg hl, if_neg hl]
        · rw [Bool.or_eq_true, hg, e6]
          constructor
          · rintro (⟨k, x, y, hk, hx, hy, hl, ho⟩ | ⟨x, y, hx, hy, hl, ho⟩)
            · exact ⟨k, x, y, by omega, hx, hy, hl, ho⟩
            · exact ⟨i, x, y, by omega, hx, hy, hl, by rw [← hcO x y hx hy]; exact ho⟩
          · rintro ⟨k, x, y, hk, hx, hy, hl, ho⟩
            by_cases e : k = i
            · subst e
              exact Or.inr ⟨x, y, hx, hy, hl, by rw [hcO x y hx hy]; exact ho⟩
            · exact Or.inl ⟨k, x, y, by omega, hx, hy, hl, ho⟩
      · intro j hj jh
        refine b_X12_raises_14 hz hG ⟨fun q => absurd q (nI_ge (b := 256) hj (by decide)), fun _ => ⟨in_nI hj (by decide), in_nI hj (by decide), ?_⟩⟩
        rw [sw, setL_n (q := 73) (by decide), setL_s, setL_s, cl_nI (by omega), wr_L0 rfl, nI_1]
        exact jh
  refine ⟨6, _, rfl, c_X12_laysKind hG 1 hM, fun ro G2 I2 L2 ⟨e1, e2, e3, f, e4, e5⟩ => ⟨e1, by rw [e2]; exact hG, ?_⟩⟩
  rw [e2, e3, e4]
  have := main f (L 73) false (KV_c e5 (fun a b ha hb => ?_)) ⟨fun q => absurd q Bool.false_ne_true, fun ⟨k, x, y, hk, _⟩ => absurd hk (Nat.not_lt_zero _)⟩
  · rw [setL_id] at this
    exact this
  · rw [kdM]
    show _ = (if le A a b = true then (if a = b then 1 else 0) else 0)
    by_cases hl : le A a b = true
    · rw [if_pos hl, if_pos hl, if_neg (by decide), m_kv, if_pos rfl]
      by_cases e : a = b
      · subst e; rw [if_pos rfl, if_pos rfl]
      · rw [if_neg (fun q => e ((nI_eq (by omega) (by omega)).mp q)), if_neg e]
    · rw [if_neg hl, if_neg hl]
