/-! THE REFERENCE: intervals that are alike, types -/
set_option maxRecDepth 100000 in
set_option maxHeartbeats 4000000 in
theorem b_X12_belowIn_0 {z : amZ} {post : amP} {G : amG} {I : amI} {L : amL} (hz : Go z cX12_belowIn RX12 3 (some .int) 3 0 0 post) (hG : Lay G) {v1 : Int32} {v2 : Int32} (h : (mOk L) ∧ (s16 ((m_dn L v2) &&& v1)) ∧ post (some (.int (m_size ((m_dn L v2) &&& v1)))) G I L) : Wx z 0 0 0 [(0, .ref ((zB z).size + 64)), (1, .int v1), (2, .int v2)] [] G I L := by
  have hz1 := hz.1
  refine am_aload_n hz1 dX12_belowIn_0 0 rfl rfl ?_
  refine am_iload_n hz1 dX12_belowIn_1 2 rfl rfl ?_
  obtain ⟨g1, h⟩ := h
  refine am_cVf hz cv_X12_97 [.int v2] [] (c_X12_down hG v2 g1) (ln_64 hG) (lk_64 hG) rfl rfl rfl ⟨Nat.le_refl _, Nat.le_refl _⟩ (Nat.le_of_ble_eq_true rfl) dX12_belowIn_2 ?_
  refine am_iload_n hz1 dX12_belowIn_5 1 rfl rfl ?_
  refine am_iand hz1 dX12_belowIn_6 ?_
  obtain ⟨g2, h⟩ := h
  refine am_cSf hz ct_X12_111 [.int ((m_dn L v2) &&& v1)] [] (c_X12_size hG ((m_dn L v2) &&& v1) g2) rfl rfl rfl ⟨Nat.le_refl _, Nat.le_refl _⟩ (Nat.le_of_ble_eq_true rfl) dX12_belowIn_7 ?_
  exact am_ireturn hz dX12_belowIn_10 h
set_option maxRecDepth 100000 in
set_option maxHeartbeats 4000000 in
theorem c_X12_belowIn {l : Launch} {D : va_G} {B : Heap} {G : amG} {I : amI} {L : amL}  (hG : Lay G)  (v1 : Int32) (v2 : Int32) (hM : mOk L) : Fx l D B yX12_belowIn cX12_belowIn 3 (some .int) 3 [.ref (B.size + 64), .int v1, .int v2] G I L (some (.int (m_size (m_dn L v2 &&& v1)))) I L := by
  refine Mx.of (by decide) rfl rfl (fun z e1 e2 e3 hz => ?_)
  subst e1; subst e2; subst e3
  refine b_X12_belowIn_0 hz hG ?_
  exact ⟨hM, and_16 (m_dn_16 hM), rfl, rfl, rfl, rfl⟩
set_option maxRecDepth 100000 in
set_option maxHeartbeats 4000000 in
theorem b_X12_aboveIn_0 {z : amZ} {post : amP} {G : amG} {I : amI} {L : amL} (hz : Go z cX12_aboveIn RX12 3 (some .int) 1 0 0 post) (hG : Lay G) {v1 : Int32} {v2 : Int32} (h : (vp_in v2 16) ∧ (s16 ((m_up L v2) &&& v1)) ∧ post (some (.int (m_size ((m_up L v2) &&& v1)))) G I L) : Wx z 0 0 0 [(0, .ref ((zB z).size + 64)), (1, .int v1), (2, .int v2)] [] G I L := by
  have hz1 := hz.1
  refine am_aload_n hz1 dX12_aboveIn_0 0 rfl rfl ?_
  refine am_iload_n hz1 dX12_aboveIn_1 2 rfl rfl ?_
  obtain ⟨g1, h⟩ := h
  refine am_cVf hz cv_X12_86 [.int v2] [] (c_X12_up hG v2 g1) (ln_64 hG) (lk_64 hG) rfl rfl rfl ⟨Nat.le_refl _, Nat.le_refl _⟩ (Nat.le_of_ble_eq_true rfl) dX12_aboveIn_2 ?_
  refine am_iload_n hz1 dX12_aboveIn_5 1 rfl rfl ?_
  refine am_iand hz1 dX12_aboveIn_6 ?_
  obtain ⟨g2, h⟩ := h
  refine am_cSf hz ct_X12_111 [.int ((m_up L v2) &&& v1)] [] (c_X12_size hG ((m_up L v2) &&& v1) g2) rfl rfl rfl ⟨Nat.le_refl _, Nat.le_refl _⟩ (Nat.le_of_ble_eq_true rfl) dX12_aboveIn_7 ?_
  exact am_ireturn hz dX12_aboveIn_10 h
set_option maxRecDepth 100000 in
set_option maxHeartbeats 4000000 in
theorem c_X12_aboveIn {l : Launch} {D : va_G} {B : Heap} {G : amG} {I : amI} {L : amL}  (hG : Lay G)  (v1 : Int32) (v2 : Int32) (hM : mOk L) (hi : vp_in v2 16) : Fx l D B yX12_aboveIn cX12_aboveIn 3 (some .int) 1 [.ref (B.size + 64), .int v1, .int v2] G I L (some (.int (m_size (m_up L v2 &&& v1)))) I L := by
  refine Mx.of (by decide) rfl rfl (fun z e1 e2 e3 hz => ?_)
  subst e1; subst e2; subst e3
  refine b_X12_aboveIn_0 hz hG ?_
  obtain ⟨a, ha, rfl⟩ := vp_in_of hi (by decide)
  exact ⟨hi, and_16 (m_up_16 hM ha), rfl, rfl, rfl, rfl⟩
def m_fok (I : amI) (k : Int32) : Prop := ∃ j, j < 16 ∧ k = nI j ∧ (∀ i, i ≤ j → vp_in (I 82 i) 16) ∧ ∀ i, i < j → vp_in (I 83 i) 16
def m_fitP (I : amI) (L : amL) (x y : Int32) (i : Nat) : Bool := !decide (m_am L (I 82 i) x = m_am L (I 83 i) y) || !decide (m_am L x (I 82 i) = m_am L y (I 83 i))
def m_fits (I : amI) (L : amL) (k y : Int32) : Bool :=
  decide (m_size (m_dn L (I 82 k.toNatClampNeg) &&& I 64 30) = m_size (m_dn L y &&& I 64 31)) && (decide (m_size (m_up L (I 82 k.toNatClampNeg) &&& I 64 30) = m_size (m_up L y &&& I 64 31)) && scan (m_fitP I L (I 82 k.toNatClampNeg) y) (fun _ => false) true k.toNatClampNeg 0)
theorem bI_inj {p q : Bool} : bI p = bI q ↔ p = q := by cases p <;> cases q <;> decide
set_option maxRecDepth 100000 in
set_option maxHeartbeats 4000000 in
theorem b_X12_fits_0 {z : amZ} {post : amP} {G : amG} {I : amI} {L : amL} (hz : Go z cX12_fits RX12 5 (some .boolean) 4 0 0 post) (hG : Lay G) {v1 : Int32} {v2 : Int32} (h : vp_in v1 16 ∧ (mOk L) ∧ (mOk L) ∧ ((¬ (m_size (m_dn L (I 82 v1.toNatClampNeg) &&& (I 64 30))) = (m_size (m_dn L v2 &&& (I 64 31)))) → post (some (.int 0)) G I L) ∧ (((m_size (m_dn L (I 82 v1.toNatClampNeg) &&& (I 64 30))) = (m_size (m_dn L v2 &&& (I 64 31)))) → (mOk L) ∧ (vp_in (I 82 v1.toNatClampNeg) 16) ∧ (mOk L) ∧ (vp_in v2 16) ∧ (((m_size (m_up L (I 82 v1.toNatClampNeg) &&& (I 64 30))) = (m_size (m_up L v2 &&& (I 64 31)))) → Wx z 0 0 54 [(0, .ref ((zB z).size + 64)), (1, .int v1), (2, .int v2), (3, .int (I 82 v1.toNatClampNeg)), (4, .int 0)] [] G I L) ∧ ((¬ (m_size (m_up L (I 82 v1.toNatClampNeg) &&& (I 64 30))) = (m_size (m_up L v2 &&& (I 64 31)))) → post (some (.int 0)) G I L))) : Wx z 0 0 0 [(0, .ref ((zB z).size + 64)), (1, .int v1), (2, .int v2)] [] G I L := by
  have hz1 := hz.1
  refine am_aload_n hz1 dX12_fits_0 0 rfl rfl ?_
  refine am_getR hz1 fl_X12_66 (ln_64 hG) (lk_64 hG) (lr_64_28 hG) rfl dX12_fits_1 ?_
  refine am_iload_n hz1 dX12_fits_4 1 rfl rfl ?_
  obtain ⟨g1, h⟩ := h
  refine am_iald hz1 (ln_82 hG) (lk_82 hG) (by rw [(ll_82 hG)]; exact g1) dX12_fits_5 ?_
  refine am_istore_n (lv' := [(3, .int (I 82 v1.toNatClampNeg)), (0, .ref ((zB z).size + 64)), (1, .int v1), (2, .int v2)]) hz1 dX12_fits_6 rfl rfl rfl ?_
  refine am_aload_n hz1 dX12_fits_7 1 rfl rfl ?_
  refine am_aload_n hz1 dX12_fits_8 1 rfl rfl ?_
  refine am_getI hz1 fl_X12_416 (ln_64 hG) (lk_64 hG) rfl dX12_fits_9 ?_
  refine am_iload_n hz1 dX12_fits_12 0 rfl rfl ?_
  obtain ⟨g2, h⟩ := h
  refine am_cVf hz cv_X12_419 [.int (I 64 30), .int (I 82 v1.toNatClampNeg)] [] (c_X12_belowIn hG (I 64 30) (I 82 v1.toNatClampNeg) g2) (ln_64 hG) (lk_64 hG) rfl rfl rfl ⟨Nat.le_refl _, Nat.le_refl _⟩ (Nat.le_of_ble_eq_true rfl) dX12_fits_13 ?_
  refine am_aload_n hz1 dX12_fits_16 1 rfl rfl ?_
  refine am_aload_n hz1 dX12_fits_17 1 rfl rfl ?_
  refine am_getI hz1 fl_X12_422 (ln_64 hG) (lk_64 hG) rfl dX12_fits_18 ?_
  refine am_iload_n hz1 dX12_fits_21 3 rfl rfl ?_
  obtain ⟨g3, h⟩ := h
  refine am_cVf hz cv_X12_419 [.int (I 64 31), .int v2] [.int (m_size (m_dn L (I 82 v1.toNatClampNeg) &&& (I 64 30)))] (c_X12_belowIn hG (I 64 31) v2 g3) (ln_64 hG) (lk_64 hG) rfl rfl rfl ⟨Nat.le_refl _, Nat.le_refl _⟩ (Nat.le_of_ble_eq_true rfl) dX12_fits_22 ?_
  refine am_icmp_ne (tgt := 49) hz1 dX12_fits_25 (by decide) (fun c4 => ?_) (fun c4 => ?_)
  · replace h := h.1 c4
    refine am_iconst (v := 0) hz1 dX12_fits_49 (by decide) ?_
    exact am_zreturn hz (by decide) dX12_fits_50 h
  · replace h := h.2 c4
    refine am_aload_n hz1 dX12_fits_28 1 rfl rfl ?_
    refine am_aload_n hz1 dX12_fits_29 1 rfl rfl ?_
    refine am_getI hz1 fl_X12_416 (ln_64 hG) (lk_64 hG) rfl dX12_fits_30 ?_
    refine am_iload_n hz1 dX12_fits_33 0 rfl rfl ?_
    obtain ⟨g5, h⟩ := h
    obtain ⟨g6, h⟩ := h
    refine am_cVf hz cv_X12_425 [.int (I 64 30), .int (I 82 v1.toNatClampNeg)] [] (c_X12_aboveIn hG (I 64 30) (I 82 v1.toNatClampNeg) g5 g6) (ln_64 hG) (lk_64 hG) rfl rfl rfl ⟨Nat.le_refl _, Nat.le_refl _⟩ (Nat.le_of_ble_eq_true rfl) dX12_fits_34 ?_
    refine am_aload_n hz1 dX12_fits_37 1 rfl rfl ?_
    refine am_aload_n hz1 dX12_fits_38 1 rfl rfl ?_
    refine am_getI hz1 fl_X12_422 (ln_64 hG) (lk_64 hG) rfl dX12_fits_39 ?_
    refine am_iload_n hz1 dX12_fits_42 3 rfl rfl ?_
    obtain ⟨g7, h⟩ := h
    obtain ⟨g8, h⟩ := h
    refine am_cVf hz cv_X12_425 [.int (I 64 31), .int v2] [.int (m_size (m_up L (I 82 v1.toNatClampNeg) &&& (I 64 30)))] (c_X12_aboveIn hG (I 64 31) v2 g7 g8) (ln_64 hG) (lk_64 hG) rfl rfl rfl ⟨Nat.le_refl _, Nat.le_refl _⟩ (Nat.le_of_ble_eq_true rfl) dX12_fits_43 ?_
    refine am_icmp_eq (tgt := 51) hz1 dX12_fits_46 (by decide) (fun c9 => ?_) (fun c9 => ?_)
    · replace h := h.1 c9
      refine am_iconst (v := 0) hz1 dX12_fits_51 (by decide) ?_
      refine am_istore (lv' := [(4, .int 0), (3, .int (I 82 v1.toNatClampNeg)), (0, .ref ((zB z).size + 64)), (1, .int v1), (2, .int v2)]) hz1 dX12_fits_52 rfl rfl ?_
      exact am_sub (lv' := [(0, .ref ((zB z).size + 64)), (1, .int v1), (2, .int v2), (3, .int (I 82 v1.toNatClampNeg)), (4, .int 0)]) [2, 3, 4, 1, 0] rfl h
    · replace h := h.2 c9
      refine am_iconst (v := 0) hz1 dX12_fits_49 (by decide) ?_
      exact am_zreturn hz (by decide) dX12_fits_50 h
set_option maxRecDepth 100000 in
set_option maxHeartbeats 4000000 in
theorem b_X12_fits_54 {z : amZ} {post : amP} {G : amG} {I : amI} {L : amL} (hz : Go z cX12_fits RX12 5 (some .boolean) 4 0 0 post) (hG : Lay G) {v1 : Int32} {v2 : Int32} {v3 : Int32} {v4 : Int32} (h : ((v1 ≤ v4) → post (some (.int 1)) G I L) ∧ ((¬ v1 ≤ v4) → vp_in v4 16 ∧ (vp_in (I 82 v4.toNatClampNeg) 16) ∧ vp_in v4 16 ∧ (vp_in (I 83 v4.toNatClampNeg) 16) ∧ ((¬ (bI (m_am L (I 82 v4.toNatClampNeg) v3)) = (bI (m_am L (I 83 v4.toNatClampNeg) v2))) → post (some (.int 0)) G I L) ∧ (((bI (m_am L (I 82 v4.toNatClampNeg) v3)) = (bI (m_am L (I 83 v4.toNatClampNeg) v2))) → vp_in v4 16 ∧ (vp_in v3 16) ∧ vp_in v4 16 ∧ (vp_in v2 16) ∧ (((bI (m_am L v3 (I 82 v4.toNatClampNeg))) = (bI (m_am L v2 (I 83 v4.toNatClampNeg)))) → Wx z 0 0 54 [(0, .ref ((zB z).size + 64)), (1, .int v1), (2, .int v2), (3, .int v3), (4, .int (v4 + 1))] [] G I L) ∧ ((¬ (bI (m_am L v3 (I 82 v4.toNatClampNeg))) = (bI (m_am L v2 (I 83 v4.toNatClampNeg)))) → post (some (.int 0)) G I L)))) : Wx z 0 0 54 [(0, .ref ((zB z).size + 64)), (1, .int v1), (2, .int v2), (3, .int v3), (4, .int v4)] [] G I L := by
  have hz1 := hz.1
  refine am_iload hz1 dX12_fits_54 4 rfl ?_
  refine am_iload_n hz1 dX12_fits_56 1 rfl rfl ?_
  refine am_icmp_ge (tgt := 122) hz1 dX12_fits_57 (by decide) (fun c1 => ?_) (fun c1 => ?_)
  · replace h := h.1 c1
    refine am_iconst (v := 1) hz1 dX12_fits_122 (by decide) ?_
    exact am_zreturn hz (by decide) dX12_fits_123 h
  · replace h := h.2 c1
    refine am_aload_n hz1 dX12_fits_60 0 rfl rfl ?_
    refine am_aload_n hz1 dX12_fits_61 0 rfl rfl ?_
    refine am_getR hz1 fl_X12_66 (ln_64 hG) (lk_64 hG) (lr_64_28 hG) rfl dX12_fits_62 ?_
    refine am_iload hz1 dX12_fits_65 4 rfl ?_
    obtain ⟨g2, h⟩ := h
    refine am_iald hz1 (ln_82 hG) (lk_82 hG) (by rw [(ll_82 hG)]; exact g2) dX12_fits_67 ?_
    refine am_iload_n hz1 dX12_fits_68 3 rfl rfl ?_
    obtain ⟨g3, h⟩ := h
    refine am_cVf hz cv_X12_94 [.int (I 82 v4.toNatClampNeg), .int v3] [] (c_X12_isAtMost hG (I 82 v4.toNatClampNeg) v3 g3) (ln_64 hG) (lk_64 hG) rfl rfl rfl ⟨Nat.le_refl _, Nat.le_refl _⟩ (Nat.le_of_ble_eq_true rfl) dX12_fits_69 ?_
    refine am_aload_n hz1 dX12_fits_72 0 rfl rfl ?_
    refine am_aload_n hz1 dX12_fits_73 0 rfl rfl ?_
    refine am_getR hz1 fl_X12_69 (ln_64 hG) (lk_64 hG) (lr_64_29 hG) rfl dX12_fits_74 ?_
    refine am_iload hz1 dX12_fits_77 4 rfl ?_
    obtain ⟨g4, h⟩ := h
    refine am_iald hz1 (ln_83 hG) (lk_83 hG) (by rw [(ll_83 hG)]; exact g4) dX12_fits_79 ?_
    refine am_iload_n hz1 dX12_fits_80 2 rfl rfl ?_
    obtain ⟨g5, h⟩ := h
    refine am_cVf hz cv_X12_94 [.int (I 83 v4.toNatClampNeg), .int v2] [.int (bI (m_am L (I 82 v4.toNatClampNeg) v3))] (c_X12_isAtMost hG (I 83 v4.toNatClampNeg) v2 g5) (ln_64 hG) (lk_64 hG) rfl rfl rfl ⟨Nat.le_refl _, Nat.le_refl _⟩ (Nat.le_of_ble_eq_true rfl) dX12_fits_81 ?_
    refine am_icmp_ne (tgt := 114) hz1 dX12_fits_84 (by decide) (fun c6 => ?_) (fun c6 => ?_)
    · replace h := h.1 c6
      refine am_iconst (v := 0) hz1 dX12_fits_114 (by decide) ?_
      exact am_zreturn hz (by decide) dX12_fits_115 h
    · replace h := h.2 c6
      refine am_aload_n hz1 dX12_fits_87 0 rfl rfl ?_
      refine am_iload_n hz1 dX12_fits_88 3 rfl rfl ?_
      refine am_aload_n hz1 dX12_fits_89 0 rfl rfl ?_
      refine am_getR hz1 fl_X12_66 (ln_64 hG) (lk_64 hG) (lr_64_28 hG) rfl dX12_fits_90 ?_
      refine am_iload hz1 dX12_fits_93 4 rfl ?_
      obtain ⟨g7, h⟩ := h
      refine am_iald hz1 (ln_82 hG) (lk_82 hG) (by rw [(ll_82 hG)]; exact g7) dX12_fits_95 ?_
      obtain ⟨g8, h⟩ := h
      refine am_cVf hz cv_X12_94 [.int v3, .int (I 82 v4.toNatClampNeg)] [] (c_X12_isAtMost hG v3 (I 82 v4.toNatClampNeg) g8) (ln_64 hG) (lk_64 hG) rfl rfl rfl ⟨Nat.le_refl _, Nat.le_refl _⟩ (Nat.le_of_ble_eq_true rfl) dX12_fits_96 ?_
      refine am_aload_n hz1 dX12_fits_99 0 rfl rfl ?_
      refine am_iload_n hz1 dX12_fits_100 2 rfl rfl ?_
      refine am_aload_n hz1 dX12_fits_101 0 rfl rfl ?_
      refine am_getR hz1 fl_X12_69 (ln_64 hG) (lk_64 hG) (lr_64_29 hG) rfl dX12_fits_102 ?_
      refine am_iload hz1 dX12_fits_105 4 rfl ?_
      obtain ⟨g9, h⟩ := h
      refine am_iald hz1 (ln_83 hG) (lk_83 hG) (by rw [(ll_83 hG)]; exact g9) dX12_fits_107 ?_
      obtain ⟨g10, h⟩ := h
      refine am_cVf hz cv_X12_94 [.int v2, .int (I 83 v4.toNatClampNeg)] [.int (bI (m_am L v3 (I 82 v4.toNatClampNeg)))] (c_X12_isAtMost hG v2 (I 83 v4.toNatClampNeg) g10) (ln_64 hG) (lk_64 hG) rfl rfl rfl ⟨Nat.le_refl _, Nat.le_refl _⟩ (Nat.le_of_ble_eq_true rfl) dX12_fits_108 ?_
      refine am_icmp_eq (tgt := 116) hz1 dX12_fits_111 (by decide) (fun c11 => ?_) (fun c11 => ?_)
      · replace h := h.1 c11
        refine am_iinc (v := v4 + 1) (lv' := [(4, .int (v4 + 1)), (0, .ref ((zB z).size + 64)), (1, .int v1), (2, .int v2), (3, .int v3)]) hz1 dX12_fits_116 4 rfl rfl rfl rfl ?_
        refine am_goto (tgt := 54) hz1 dX12_fits_119 (by decide) ?_
        exact am_sub (lv' := [(0, .ref ((zB z).size + 64)), (1, .int v1), (2, .int v2), (3, .int v3), (4, .int (v4 + 1))]) [1, 2, 3, 4, 0] rfl h
      · replace h := h.2 c11
        refine am_iconst (v := 0) hz1 dX12_fits_114 (by decide) ?_
        exact am_zreturn hz (by decide) dX12_fits_115 h
set_option maxRecDepth 100000 in
set_option maxHeartbeats 4000000 in
theorem c_X12_fits {l : Launch} {D : va_G} {B : Heap} {G : amG} {I : amI} {L : amL}  (hG : Lay G)  (v1 : Int32) (v2 : Int32) (hM : mOk L) (hk : m_fok I v1) (hy : vp_in v2 16) : Fx l D B yX12_fits cX12_fits 5 (some .boolean) 4 [.ref (B.size + 64), .int v1, .int v2] G I L (some (.int (bI (m_fits I L v1 v2)))) I L := by
  refine Mx.of (by decide) rfl rfl (fun z e1 e2 e3 hz => ?_)
  subst e1; subst e2; subst e3
  refine b_X12_fits_0 hz hG ?_
  obtain ⟨k, hk16, rfl, h82, h83⟩ := hk
  have ek : (nI k).toNatClampNeg = k := cl_nI (by omega)
  have hx : vp_in (I 82 k) 16 := h82 k (Nat.le_refl _)
  rw [ek]
  refine ⟨in_nI hk16 (by decide), hM, hM, fun h => ⟨?_, rfl, rfl, rfl⟩, fun h => ⟨hM, hx, hM, hy, fun h2 => ?_, fun h2 => ⟨?_, rfl, rfl, rfl⟩⟩⟩
  · rw [m_fits, ek, decide_eq_false h]; rfl
  · refine for_up (P := fun i => scan (m_fitP I L (I 82 k) v2) (fun _ => false) true (k - i) i = m_fits I L (nI k) v2 → Wx z 0 0 54 [(0, .ref ((zB z).size + 64)), (1, .int (nI k)), (2, .int v2), (3, .int (I 82 k)), (4, .int (nI i))] [] G I L) (n := k) ?_ ?_ (Nat.zero_le _) (by rw [Nat.sub_zero, m_fits, ek, decide_eq_true h, decide_eq_true h2]; rfl)
    · intro e
      rw [scan_0] at e
      exact b_X12_fits_54 hz hG ⟨fun _ => ⟨by rw [← e]; rfl, rfl, rfl, rfl⟩, fun h => absurd (nI_le (Nat.le_refl _) (by omega)) h⟩
    · intro i hi ih e
      rw [scan_s hi] at e
      have ei : (nI i).toNatClampNeg = i := cl_nI (by omega)
      refine b_X12_fits_54 hz hG ⟨fun h => absurd h (nI_ge hi (by omega)), fun _ => ?_⟩
      rw [ei, bI_inj, bI_inj, nI_1]
      refine ⟨in_nI (by omega) (by decide), h82 i (by omega), in_nI (by omega) (by decide), h83 i hi, fun q => ⟨?_, rfl, rfl, rfl⟩, fun q => ⟨in_nI (by omega) (by decide), hx, in_nI (by omega) (by decide), hy, fun q2 => ?_, fun q2 => ⟨?_, rfl, rfl, rfl⟩⟩⟩
      · rw [if_pos (by rw [m_fitP, decide_eq_false q]; rfl)] at e
        rw [← e]; rfl
      · rw [if_neg (by rw [m_fitP, decide_eq_true q, decide_eq_true q2]; decide)] at e
        exact ih e
      · rw [if_pos (by rw [m_fitP, decide_eq_false q2]; simp)] at e
        rw [← e]; rfl
  · rw [m_fits, ek, decide_eq_false h2]; simp; rfl
theorem fits_M {n k y : Nat} {A : Nat → Int32} {I : amI} {L : amL} {s t : Int32} {mn pr : Nat → Nat} (hM : MO L n A) (hk : k < 16) (hy : y < n) (hs : I 64 30 = s) (ht : I 64 31 = t) (h82 : ∀ i, i ≤ k → I 82 i = nI (mn i) ∧ mn i < n) (h83 : ∀ i, i < k → I 83 i = nI (pr i) ∧ pr i < n) : m_fits I L (nI k) (nI y) = true ↔ (ct (bt (dnS n A (mn k) &&& s)) 16 = ct (bt (dnS n A y &&& t)) 16 ∧ ct (bt (upS A (mn k) &&& s)) 16 = ct (bt (upS A y &&& t)) 16 ∧ ∀ i, i < k → le A (mn i) (mn k) = le A (pr i) y ∧ le A (mn k) (mn i) = le A y (pr i)) := by
  have h16 := hM.2.1
  obtain ⟨ek, hmk⟩ := h82 k (Nat.le_refl _)
  have c1 : ∀ x : Int32, ct (bt x) 16 ≤ 16 := fun x => ct_le _ _
  rw [m_fits, cl_nI (by omega), ek, hs, ht, hM.dn hmk, hM.dn hy, hM.up hmk, hM.up hy, Bool.and_eq_true, Bool.and_eq_true, decide_eq_true_eq, decide_eq_true_eq, m_size, m_size, m_size, m_size]
  rw [nI_eq (by have := c1 (dnS n A (mn k) &&& s); omega) (by have := c1 (dnS n A y &&& t); omega), nI_eq (by have := c1 (upS A (mn k) &&& s); omega) (by have := c1 (upS A y &&& t); omega), scan_tf]
  refine and_congr Iff.rfl (and_congr Iff.rfl (forall_congr' fun i => forall_congr' fun hi => ?_))
  obtain ⟨e1, e2⟩ := h82 i (by omega)
  obtain ⟨e3, e4⟩ := h83 i hi
  rw [m_fitP, e1, e3, hM.am e2 (by omega), hM.am e4 (by omega), hM.am hmk (by omega), hM.am hy (by omega), Bool.or_eq_false_iff, Bool.not_eq_false', Bool.not_eq_false', decide_eq_true_eq, decide_eq_true_eq]
theorem iso_fit {n k y : Nat} {A : Nat → Int32} {s t : Int32} {mn pr f g : Nat → Nat} (h16 : n ≤ 16) (hs : ∀ i, i < 32 → bt s i = true → i < n) (ht : ∀ i, i < 32 → bt t i = true → i < n) (h : isoP n A s t f g) (hmk : mn k < n ∧ bt s (mn k) = true) (hfk : f (mn k) = y) (hm : ∀ i, i < k → mn i < n ∧ bt s (mn i) = true ∧ f (mn i) = pr i) : (ct (bt (dnS n A (mn k) &&& s)) 16 = ct (bt (dnS n A y &&& t)) 16 ∧ ct (bt (upS A (mn k) &&& s)) 16 = ct (bt (upS A y &&& t)) 16 ∧ ∀ i, i < k → le A (mn i) (mn k) = le A (pr i) y ∧ le A (mn k) (mn i) = le A y (pr i)) := by
  have hy : y < n := by rw [← hfk]; exact (h.1 _ hmk.1 hmk.2).1
  refine ⟨?_, ?_, fun i hi => ?_⟩
  · rw [ct_16 h16 (fun i hi q => by rw [b_and, Bool.and_eq_true] at q; exact hs i hi q.2), ct_16 h16 (fun i hi q => by rw [b_and, Bool.and_eq_true] at q; exact ht i hi q.2)]
    refine iso_ct h (fun x hx q => by rw [b_and, Bool.and_eq_true] at q; exact q.2) (fun x hx q => by rw [b_and, Bool.and_eq_true] at q; exact q.2) (fun x hx hsx => ?_)
    obtain ⟨a, b, _⟩ := h.1 x hx hsx
    rw [b_and, b_and, hsx, b, dn_b (by omega) hmk.1 (by omega), dn_b (by omega) hy (by omega), decide_eq_true hx, decide_eq_true a, iso_le (by omega) h hx hmk.1 hsx hmk.2, hfk]
  · rw [ct_16 h16 (fun i hi q => by rw [b_and, Bool.and_eq_true] at q; exact hs i hi q.2), ct_16 h16 (fun i hi q => by rw [b_and, Bool.and_eq_true] at q; exact ht i hi q.2)]
    refine iso_ct h (fun x hx q => by rw [b_and, Bool.and_eq_true] at q; exact q.2) (fun x hx q => by rw [b_and, Bool.and_eq_true] at q; exact q.2) (fun x hx hsx => ?_)
    obtain ⟨a, b, _⟩ := h.1 x hx hsx
    rw [b_and, b_and, hsx, b, up_b, up_b, iso_le (by omega) h hmk.1 hx hmk.2 hsx, hfk]
  · obtain ⟨a, b, e⟩ := hm i hi
    rw [iso_le (by omega) h a hmk.1 b hmk.2, iso_le (by omega) h hmk.1 a hmk.2 b, hfk, e]
    exact ⟨rfl, rfl⟩
theorem iso_end {n c : Nat} {A : Nat → Int32} {s t : Int32} {mn pr : Nat → Nat} (hmn : ∀ i, i < c → mn i < n ∧ bt s (mn i) = true ∧ ct (bt s) (mn i) = i) (hidx : ∀ x, x < n → bt s x = true → ct (bt s) x < c ∧ mn (ct (bt s) x) = x) (hpr : ∀ i, i < c → pr i < n ∧ bt t (pr i) = true) (hinj : ∀ i j, i < c → j < c → pr i = pr j → i = j) (hon : ∀ y, y < n → bt t y = true → ∃ i, i < c ∧ pr i = y) (hcon : ∀ i j, i < c → j < c → bt (A (mn i)) (mn j) = bt (A (pr i)) (pr j)) : ∃ f g, isoP n A s t f g ∧ ∀ i, i < c → f (mn i) = pr i := by
  refine ⟨fun x => pr (ct (bt s) x), fun y => mn (scan (fun i => decide (pr i = y)) id 0 c 0), ⟨fun x hx hsx => ?_, fun y hy hty => ?_, fun x y hx hy hsx hsy => ?_⟩, fun i hi => ?_⟩
  · obtain ⟨h1, h2⟩ := hidx x hx hsx
    obtain ⟨h3, h4⟩ := hpr _ h1
    refine ⟨h3, h4, ?_⟩
    show mn (scan (fun i => decide (pr i = pr (ct (bt s) x))) id 0 c 0) = x
    rcases scan_or (p := fun i => decide (pr i = pr (ct (bt s) x))) (r := id) (d := 0) c 0 with ⟨_, q⟩ | ⟨j, _, q2, q3, q4, _⟩
    · have := q _ (Nat.zero_le _) (show ct (bt s) x < 0 + c by omega)
      rw [decide_eq_true rfl] at this; cases this
    · rw [decide_eq_true_eq] at q3
      rw [q4]
      show mn j = x
      rw [hinj j _ (by omega) h1 q3, h2]
  · obtain ⟨i, hi, e⟩ := hon y hy hty
    show mn (scan (fun i => decide (pr i = y)) id 0 c 0) < n ∧ bt s (mn (scan (fun i => decide (pr i = y)) id 0 c 0)) = true ∧ pr (ct (bt s) (mn (scan (fun i => decide (pr i = y)) id 0 c 0))) = y
    rcases scan_or (p := fun i => decide (pr i = y)) (r := id) (d := 0) c 0 with ⟨_, q⟩ | ⟨j, _, q2, q3, q4, _⟩
    · have := q i (Nat.zero_le _) (by omega)
      rw [decide_eq_true e] at this; cases this
    · rw [decide_eq_true_eq] at q3
      rw [q4]
      obtain ⟨h1, h2, h3⟩ := hmn j (by omega)
      refine ⟨h1, h2, ?_⟩
      show pr (ct (bt s) (mn j)) = y
      rw [h3, q3]
  · obtain ⟨h1, h2⟩ := hidx x hx hsx
    obtain ⟨h3, h4⟩ := hidx y hy hsy
    have := hcon _ _ h1 h3
    rw [h2, h4] at this
    exact this
  · show pr (ct (bt s) (mn i)) = pr i
    rw [(hmn i hi).2.2]
theorem ble_d {k m d : Nat} (hd : m ≤ d) (h : Nat.ble (k + 1) m = true) : Nat.ble (k + 1) d = true := Nat.ble_eq_true_of_le (Nat.le_trans (Nat.le_of_ble_eq_true h) hd)
set_option maxRecDepth 100000 in
set_option maxHeartbeats 4000000 in
theorem b_X12_pairsOn_0 {z : amZ} {d : Nat} {post : amP} {G : amG} {I : amI} {L : amL} (hz : Go z cX12_pairsOn RX12 4 (some .boolean) d 0 0 post) (hG : Lay G) (hd : 5 ≤ d) {v1 : Int32} {v2 : Int32} (h : ((¬ v2 = 0) → Wx z 0 0 8 [(0, .ref ((zB z).size + 64)), (1, .int v1), (2, .int v2), (3, .int 0)] [] G I L) ∧ ((v2 = 0) → post (some (.int 1)) G I L)) : Wx z 0 0 0 [(0, .ref ((zB z).size + 64)), (1, .int v1), (2, .int v2)] [] G I L := by
  have hz1 := hz.1
  refine am_iload_n hz1 dX12_pairsOn_0 2 rfl rfl ?_
  refine am_if_ne (tgt := 6) hz1 dX12_pairsOn_1 (by decide) (fun c1 => ?_) (fun c1 => ?_)
  · replace h := h.1 c1
    refine am_iconst (v := 0) hz1 dX12_pairsOn_6 (by decide) ?_
    refine am_istore_n (lv' := [(3, .int 0), (0, .ref ((zB z).size + 64)), (1, .int v1), (2, .int v2)]) hz1 dX12_pairsOn_7 rfl rfl rfl ?_
    exact am_sub (lv' := [(0, .ref ((zB z).size + 64)), (1, .int v1), (2, .int v2), (3, .int 0)]) [1, 2, 3, 0] rfl h
  · replace h := h.2 c1
    refine am_iconst (v := 1) hz1 dX12_pairsOn_4 (by decide) ?_
    exact am_zreturn hz (by decide) dX12_pairsOn_5 h
set_option maxRecDepth 100000 in
set_option maxHeartbeats 4000000 in
theorem b_X12_pairsOn_8 {z : amZ} {d : Nat} {post : amP} {G : amG} {I : amI} {L : amL} (hz : Go z cX12_pairsOn RX12 4 (some .boolean) d 0 0 post) (hG : Lay G) (hd : 5 ≤ d) {v1 : Int32} {v2 : Int32} {v3 : Int32} (h : (((m_many L) ≤ v3) → post (some (.int 0)) G I L) ∧ ((¬ (m_many L) ≤ v3) → ((m_has v2 v3 = false) → Wx z 0 0 8 [(0, .ref ((zB z).size + 64)), (1, .int v1), (2, .int v2), (3, .int (v3 + 1))] [] G I L) ∧ ((m_has v2 v3 = true) → (mOk L) ∧ (m_fok I v1) ∧ (vp_in v3 16) ∧ ((m_fits I L v1 v3 = true) → vp_in v1 16 ∧ ∃ (dq8 : Nat) (postq8 : amP), Nat.ble (dq8 + 1) d = true ∧ Mx (zL z) (zD z) (zB z) yX12_pairsOn cX12_pairsOn 4 (some .boolean) dq8 0 0 [.ref ((zB z).size + 64), .int (v1 + (1 : Int32)), .int (v2 &&& (((1 : Int32) <<< (v3 &&& 31)) ^^^ (-1 : Int32)))] G (setI I 83 (upd (I 83) v1.toNatClampNeg v3)) L postq8 ∧ ∀ (roq8 : Option Value) (Gq8 : amG) (Iq8 : amI) (Lq8 : amL), postq8 roq8 Gq8 Iq8 Lq8 → ∃ (rq8 : Int32), roq8 = some (.int rq8) ∧ Lay Gq8 ∧ ((rq8 = 0) → Wx z 0 0 8 [(0, .ref ((zB z).size + 64)), (1, .int v1), (2, .int v2), (3, .int (v3 + 1))] [] Gq8 Iq8 Lq8) ∧ ((¬ rq8 = 0) → post (some (.int 1)) Gq8 Iq8 Lq8)) ∧ ((m_fits I L v1 v3 = false) → Wx z 0 0 8 [(0, .ref ((zB z).size + 64)), (1, .int v1), (2, .int v2), (3, .int (v3 + 1))] [] G I L)))) : Wx z 0 0 8 [(0, .ref ((zB z).size + 64)), (1, .int v1), (2, .int v2), (3, .int v3)] [] G I L := by
  have hz1 := hz.1
  refine am_iload_n hz1 dX12_pairsOn_8 3 rfl rfl ?_
  refine am_aload_n hz1 dX12_pairsOn_9 0 rfl rfl ?_
  refine am_cVf hz cv_X12_78 [] [.int v3] (c_X12_many hG  ) (ln_64 hG) (lk_64 hG) rfl rfl (ble_d hd rfl) ⟨Nat.le_refl _, Nat.le_refl _⟩ (Nat.le_of_ble_eq_true rfl) dX12_pairsOn_10 ?_
  refine am_icmp_ge (tgt := 68) hz1 dX12_pairsOn_13 (by decide) (fun c1 => ?_) (fun c1 => ?_)
  · replace h := h.1 c1
    refine am_iconst (v := 0) hz1 dX12_pairsOn_68 (by decide) ?_
    exact am_zreturn hz (by decide) dX12_pairsOn_69 h
  · replace h := h.2 c1
    refine am_iload_n hz1 dX12_pairsOn_16 2 rfl rfl ?_
    refine am_iload_n hz1 dX12_pairsOn_17 3 rfl rfl ?_
    refine am_cSf hz ct_X12_90 [.int v2, .int v3] [] (c_X12_has hG v2 v3 ) rfl rfl (ble_d hd rfl) ⟨Nat.le_refl _, Nat.le_refl _⟩ (Nat.le_of_ble_eq_true rfl) dX12_pairsOn_18 ?_
    refine am_ifb_eq (tgt := 62) hz1 dX12_pairsOn_21 (by decide) (fun c2 => ?_) (fun c2 => ?_)
    · replace h := h.1 c2
      refine am_iinc (v := v3 + 1) (lv' := [(3, .int (v3 + 1)), (0, .ref ((zB z).size + 64)), (1, .int v1), (2, .int v2)]) hz1 dX12_pairsOn_62 3 rfl rfl rfl rfl ?_
      refine am_goto (tgt := 8) hz1 dX12_pairsOn_65 (by decide) ?_
      exact am_sub (lv' := [(0, .ref ((zB z).size + 64)), (1, .int v1), (2, .int v2), (3, .int (v3 + 1))]) [1, 2, 3, 0] rfl h
    · replace h := h.2 c2
      refine am_aload_n hz1 dX12_pairsOn_24 0 rfl rfl ?_
      refine am_iload_n hz1 dX12_pairsOn_25 1 rfl rfl ?_
      refine am_iload_n hz1 dX12_pairsOn_26 3 rfl rfl ?_
      obtain ⟨g3, h⟩ := h
      obtain ⟨g4, h⟩ := h
      obtain ⟨g5, h⟩ := h
      refine am_cVf hz cv_X12_428 [.int v1, .int v3] [] (c_X12_fits hG v1 v3 g3 g4 g5) (ln_64 hG) (lk_64 hG) rfl rfl (ble_d hd rfl) ⟨Nat.le_refl _, Nat.le_refl _⟩ (Nat.le_of_ble_eq_true rfl) dX12_pairsOn_27 ?_
      refine am_ifb_ne (tgt := 36) hz1 dX12_pairsOn_30 (by decide) (fun c6 => ?_) (fun c6 => ?_)
      · replace h := h.1 c6
        refine am_aload_n hz1 dX12_pairsOn_36 0 rfl rfl ?_
        refine am_getR hz1 fl_X12_69 (ln_64 hG) (lk_64 hG) (lr_64_29 hG) rfl dX12_pairsOn_37 ?_
        refine am_iload_n hz1 dX12_pairsOn_40 1 rfl rfl ?_
        refine am_iload_n hz1 dX12_pairsOn_41 3 rfl rfl ?_
        obtain ⟨g7, h⟩ := h
        refine am_iast hz1 (ln_83 hG) (lk_83 hG) (by rw [(ll_83 hG)]; exact g7) dX12_pairsOn_42 ?_
        refine am_aload_n hz1 dX12_pairsOn_43 0 rfl rfl ?_
        refine am_iload_n hz1 dX12_pairsOn_44 1 rfl rfl ?_
        refine am_iconst (v := 1) hz1 dX12_pairsOn_45 (by decide) ?_
        refine am_iadd hz1 dX12_pairsOn_46 ?_
        refine am_iload_n hz1 dX12_pairsOn_47 2 rfl rfl ?_
        refine am_iconst (v := 1) hz1 dX12_pairsOn_48 (by decide) ?_
        refine am_iload_n hz1 dX12_pairsOn_49 3 rfl rfl ?_
        refine am_ishl hz1 dX12_pairsOn_50 ?_
        refine am_iconst (v := (-1)) hz1 dX12_pairsOn_51 (by decide) ?_
        refine am_ixor hz1 dX12_pairsOn_52 ?_
        refine am_iand hz1 dX12_pairsOn_53 ?_
        obtain ⟨dq8, postq8, hdq8, hMq8, h⟩ := h
        refine am_callV hz1 cv_X12_431 [.int (v1 + (1 : Int32)), .int (v2 &&& (((1 : Int32) <<< (v3 &&& 31)) ^^^ (-1 : Int32)))] [] hMq8 (ln_64 hG) (lk_64 hG) rfl rfl (hz.fr hdq8) (hz.lo hdq8) (by rw [hz.2.1]; exact ⟨Nat.le_refl _, Nat.le_refl _⟩) (Nat.le_of_ble_eq_true rfl) dX12_pairsOn_54 (fun roq8 Gq8 Iq8 Lq8 hpq8 => ?_)
        obtain ⟨rq8, rfl, hGq8, h⟩ := h roq8 Gq8 Iq8 Lq8 hpq8
        refine am_if_eq (tgt := 62) hz1 dX12_pairsOn_57 (by decide) (fun c9 => ?_) (fun c9 => ?_)
        · replace h := h.1 c9
          refine am_iinc (v := v3 + 1) (lv' := [(3, .int (v3 + 1)), (0, .ref ((zB z).size + 64)), (1, .int v1), (2, .int v2)]) hz1 dX12_pairsOn_62 3 rfl rfl rfl rfl ?_
          refine am_goto (tgt := 8) hz1 dX12_pairsOn_65 (by decide) ?_
          exact am_sub (lv' := [(0, .ref ((zB z).size + 64)), (1, .int v1), (2, .int v2), (3, .int (v3 + 1))]) [1, 2, 3, 0] rfl h
        · replace h := h.2 c9
          refine am_iconst (v := 1) hz1 dX12_pairsOn_60 (by decide) ?_
          exact am_zreturn hz (by decide) dX12_pairsOn_61 h
      · replace h := h.2 c6
        refine am_goto (tgt := 62) hz1 dX12_pairsOn_33 (by decide) ?_
        refine am_iinc (v := v3 + 1) (lv' := [(3, .int (v3 + 1)), (0, .ref ((zB z).size + 64)), (1, .int v1), (2, .int v2)]) hz1 dX12_pairsOn_62 3 rfl rfl rfl rfl ?_
        refine am_goto (tgt := 8) hz1 dX12_pairsOn_65 (by decide) ?_
        exact am_sub (lv' := [(0, .ref ((zB z).size + 64)), (1, .int v1), (2, .int v2), (3, .int (v3 + 1))]) [1, 2, 3, 0] rfl h
set_option maxRecDepth 100000 in
set_option maxHeartbeats 4000000 in
theorem c_X12_pairsOn {l : Launch} {D : va_G} {B : Heap} {G : amG} {L : amL} {n c : Nat} {A : Nat → Int32} {s t : Int32} {mn : Nat → Nat} (hG : Lay G) (hM : MO L n A) (hs : ∀ i, i < 32 → bt s i = true → i < n) (ht : ∀ i, i < 32 → bt t i = true → i < n) (hmn : ∀ i, i < c → mn i < n ∧ bt s (mn i) = true ∧ ct (bt s) (mn i) = i) (hidx : ∀ x, x < n → bt s x = true → ct (bt s) x < c ∧ mn (ct (bt s) x) = x) (hc : c ≤ 16) : ∀ (m k d : Nat) (I : amI) (pr : Nat → Nat) (left : Int32), k + m = c → 5 + m ≤ d → I 64 30 = s → I 64 31 = t → (∀ i, i < c → I 82 i = nI (mn i)) → (∀ i, i < k → I 83 i = nI (pr i) ∧ pr i < n ∧ bt t (pr i) = true) → (∀ i j, i < k → j < k → pr i = pr j → i = j) → (∀ i j, i < k → j < k → bt (A (mn i)) (mn j) = bt (A (pr i)) (pr j)) → (∀ y, y < 32 → (bt left y = true ↔ bt t y = true ∧ ∀ i, i < k → pr i ≠ y)) → ct (bt left) n + k = c → Mx l D B yX12_pairsOn cX12_pairsOn 4 (some .boolean) d 0 0 [.ref (B.size + 64), .int (nI k), .int left] G I L (fun r G1 I1 L1 => G1 = G ∧ L1 = L ∧ (∀ q, q ≠ 83 → I1 q = I q) ∧ (∀ j, j < k → I1 83 j = I 83 j) ∧ ∃ b : Bool, r = some (.int (bI b)) ∧ (b = true ↔ ∃ f g, isoP n A s t f g ∧ ∀ i, i < k → f (mn i) = pr i)) := by
  have h16 := hM.2.1
  have hP := hM.2.2.1
  intro m
  induction m with
  | zero =>
    intro k d I pr left hkc hd e30 e31 e82 e83 hinj hcon hleft hct
    refine Mx.of (by decide) rfl rfl (fun z e1 e2 e3 hz => ?_)
    subst e1; subst e2; subst e3
    have hk : k = c := by omega
    subst hk
    have hl0 : ∀ y, y < n → bt left y = false := ct_0.mp (by omega)
    have hleft0 : left = 0 := by
      rw [b_eq0]
      intro i hi
      rw [Bool.eq_false_iff]
      intro q
      have := hl0 i (ht i hi ((hleft i hi).mp q).1)
      rw [this] at q; cases q
    refine b_X12_pairsOn_0 hz hG (by omega) ⟨fun h => absurd hleft0 h, fun _ => ⟨rfl, rfl, fun _ _ => rfl, fun _ _ => rfl, true, rfl, ?_⟩⟩
    refine ⟨fun _ => ?_, fun _ => rfl⟩
    refine iso_end hmn hidx (fun i hi => (e83 i hi).2) hinj (fun y hy hty => ?_) hcon
    apply Classical.byContradiction
    intro q
    have := (hleft y (by omega)).mpr ⟨hty, fun i hi e => q ⟨i, hi, e⟩⟩
    rw [hl0 y hy] at this; cases this
  | succ m ih =>
    intro k d I pr left hkc hd e30 e31 e82 e83 hinj hcon hleft hct
    refine Mx.of (by decide) rfl rfl (fun z e1 e2 e3 hz => ?_)
    subst e1; subst e2; subst e3
    have hkk : k < c := by omega
    obtain ⟨hmk1, hmk2, hmk3⟩ := hmn k hkk
    refine b_X12_pairsOn_0 hz hG (by omega) ⟨fun _ => ?_, fun h => ?_⟩
    · have loop : ∀ I' : amI, (∀ q, q ≠ 83 → I' q = I q) → (∀ j, j < k → I' 83 j = I 83 j) → (∀ y', y' < 0 → ¬ ∃ f g, isoP n A s t f g ∧ (∀ i, i < k → f (mn i) = pr i) ∧ f (mn k) = y') → Wx z 0 0 8 [(0, .ref ((zB z).size + 64)), (1, .int (nI k)), (2, .int left), (3, .int (nI 0))] [] G I' L := by
        refine for_up (P := fun y => ∀ I' : amI, (∀ q, q ≠ 83 → I' q = I q) → (∀ j, j < k → I' 83 j = I 83 j) → (∀ y', y' < y → ¬ ∃ f g, isoP n A s t f g ∧ (∀ i, i < k → f (mn i) = pr i) ∧ f (mn k) = y') → Wx z 0 0 8 [(0, .ref ((zB z).size + 64)), (1, .int (nI k)), (2, .int left), (3, .int (nI y))] [] G I' L) (n := n) ?_ ?_ (Nat.zero_le _)
        · intro I' h1 h2 h3
          refine b_X12_pairsOn_8 hz hG (by omega) ⟨fun _ => ⟨rfl, rfl, h1, h2, false, rfl, ⟨fun q => absurd q (by decide), fun ⟨f, g, hi, he⟩ => ?_⟩⟩, fun h => absurd (mm_le hM) h⟩
          exact absurd ⟨f, g, hi, he, rfl⟩ (h3 (f (mn k)) (hi.1 _ hmk1 hmk2).1)
        · intro y hy yh I' h1 h2 h3
          have go : (¬ ∃ f g, isoP n A s t f g ∧ (∀ i, i < k → f (mn i) = pr i) ∧ f (mn k) = y) → ∀ y', y' < y + 1 → ¬ ∃ f g, isoP n A s t f g ∧ (∀ i, i < k → f (mn i) = pr i) ∧ f (mn k) = y' := by
            intro hno y' hy'
            by_cases e : y' = y
            · subst e; exact hno
            · exact h3 y' (by omega)
          have h82 : ∀ i, i ≤ k → I' 82 i = nI (mn i) ∧ mn i < n := fun i hi => ⟨by rw [h1 82 (by decide)]; exact e82 i (by omega), (hmn i (by omega)).1⟩
          have h83 : ∀ i, i < k → I' 83 i = nI (pr i) ∧ pr i < n := fun i hi => ⟨by rw [h2 i hi]; exact (e83 i hi).1, (e83 i hi).2.1⟩
          have hfits := fits_M (y := y) hM (show k < 16 by omega) hy (show I' 64 30 = s by rw [h1 64 (by decide), e30]) (show I' 64 31 = t by rw [h1 64 (by decide), e31]) h82 h83
          refine b_X12_pairsOn_8 hz hG (by omega) ⟨fun h => absurd h (mm_ge hM hy), fun _ => ⟨fun h => ?_, fun h => ⟨⟨n, A, hM⟩, ⟨k, by omega, rfl, fun i hi => ?_, fun i hi => ?_⟩, in16 h16 hy, fun hf => ⟨in_nI (by omega) (by decide), ?_⟩, fun hf => ?_⟩⟩⟩
          · rw [has_b (by omega)] at h
            rw [nI_1]
            refine yh I' h1 h2 (go ?_)
            rintro ⟨f, g, hi, he, hy2⟩
            have : bt left y = true := (hleft y (by omega)).mpr ⟨by rw [← hy2]; exact (hi.1 _ hmk1 hmk2).2.1, fun i hik e => by
              obtain ⟨a1, a2, a3⟩ := hmn i (by omega)
              have e2 : f (mn i) = f (mn k) := by rw [he i hik, e, hy2]
              have e3 : mn i = mn k := by rw [← (hi.1 _ a1 a2).2.2, ← (hi.1 _ hmk1 hmk2).2.2, e2]
              rw [e3, hmk3] at a3
              omega⟩
            rw [h] at this; cases this
          · rw [(h82 i hi).1]; exact in16 h16 (h82 i hi).2
          · rw [(h83 i hi).1]; exact in16 h16 (h83 i hi).2
          · rw [has_b (by omega)] at h
            obtain ⟨hty, hny⟩ := (hleft y (by omega)).mp h
            obtain ⟨f1, f2, f3⟩ := hfits.mp hf
            have hek : (nI k).toNatClampNeg = k := cl_nI (by omega)
            have hpr' : ∀ i, i < k → (if i = k then y else pr i) = pr i := fun i hi => if_neg (by omega)
            rw [hek, nI_1]
            refine ⟨d - 1, _, by rw [show d - 1 + 1 = d by omega]; exact Nat.ble_self_eq_true d, ih (k + 1) (d - 1) (setI I' 83 (upd (I' 83) k (nI y))) (fun i => if i = k then y else pr i) (left &&& (((1 : Int32) <<< (nI y &&& 31)) ^^^ (-1))) (by omega) (by omega) (by rw [setI_n (by decide), h1 64 (by decide), e30]) (by rw [setI_n (by decide), h1 64 (by decide), e31]) (fun i hi => by rw [setI_n (by decide), h1 82 (by decide)]; exact e82 i hi) (fun i hi => ?_) (fun i j hi hj e => ?_) (fun i j hi hj => ?_) (fun w hw => ?_) ?_, fun ro G2 I2 L2 ⟨r1, r2, r3, r4, b, r5, r6⟩ => ⟨_, r5, by rw [r1]; exact hG, fun q => ?_, fun q => ?_⟩⟩
            · rw [setI_s]
              by_cases e : i = k
              · subst e
                rw [upd_s, if_pos rfl]
                exact ⟨rfl, hy, hty⟩
              · rw [upd_n e, if_neg e, h2 i (by omega)]
                exact e83 i (by omega)
            · by_cases ei : i = k
              · by_cases ej : j = k
                · omega
                · rw [if_pos ei, if_neg ej] at e
                  exact absurd e.symm (hny j (by omega))
              · by_cases ej : j = k
                · rw [if_neg ei, if_pos ej] at e
                  exact absurd e (hny i (by omega))
                · rw [if_neg ei, if_neg ej] at e
                  exact hinj i j (by omega) (by omega) e
            · have hne : ∀ i, i < k → mn i ≠ mn k := fun i hi e => by
                have := (hmn i (by omega)).2.2
                rw [e, hmk3] at this
                omega
              by_cases ei : i = k
              · by_cases ej : j = k
                · rw [if_pos ei, if_pos ej, ei, ej, hP.2.1 _ hmk1, hP.2.1 _ hy]
                · have hj : j < k := by omega
                  rw [if_pos ei, if_neg ej, ei, lt_b hP (by omega) hmk1 (hmn j (by omega)).1, lt_b hP (by omega) hy (e83 j hj).2.1, (f3 j hj).2, decide_eq_true (Ne.symm (hne j hj)), decide_eq_true (Ne.symm (hny j hj))]
              · have hi : i < k := by omega
                by_cases ej : j = k
                · rw [if_neg ei, if_pos ej, ej, lt_b hP (by omega) (hmn i (by omega)).1 hmk1, lt_b hP (by omega) (e83 i hi).2.1 hy, (f3 i hi).1, decide_eq_true (hne i hi), decide_eq_true (hny i hi)]
                · rw [if_neg ei, if_neg ej]
                  exact hcon i j hi (by omega)
            · rw [b_and, b_not _ hw, b_one y (by omega) hw, Bool.and_eq_true, hleft w hw, Bool.not_eq_true', decide_eq_false_iff_not]
              constructor
              · rintro ⟨⟨q1, q2⟩, q3⟩
                refine ⟨q1, fun i hi e => ?_⟩
                by_cases ei : i = k
                · rw [if_pos ei] at e; exact q3 e.symm
                · rw [if_neg ei] at e; exact q2 i (by omega) e
              · rintro ⟨q1, q2⟩
                refine ⟨⟨q1, fun i hi e => q2 i (by omega) (by rw [if_neg (show ¬ i = k by omega)]; exact e)⟩, fun e => q2 k (by omega) (by rw [if_pos rfl]; exact e.symm)⟩
            · have h5 := ct_rm hy h
              have h6 : ct (bt (left &&& (((1 : Int32) <<< (nI y &&& 31)) ^^^ (-1)))) n = ct (fun x => bt left x && !decide (x = y)) n := ct_cong (fun i hi => by rw [b_and, b_not _ (by omega), b_one y (by omega) (by omega)])
              omega
            · -- not alike this way
              have hb : b = false := by
                cases b
                · rfl
                · exact absurd q (by decide)
              rw [r1, r2, nI_1]
              refine yh I2 (fun p hp => by rw [r3 p hp, setI_n hp, h1 p hp]) (fun j hj => by rw [r4 j (by omega), setI_s, upd_n (by omega), h2 j hj]) (go ?_)
              rintro ⟨f, g, hi, he, hy2⟩
              have : b = true := r6.mpr ⟨f, g, hi, fun i hik => by
                by_cases e : i = k
                · subst e; rw [if_pos rfl]; exact hy2
                · rw [if_neg e]; exact he i (by omega)⟩
              rw [hb] at this; cases this
            · have hb : b = true := by
                cases b
                · exact absurd rfl q
                · rfl
              obtain ⟨f, g, hi, he⟩ := r6.mp hb
              refine ⟨r1, r2, fun p hp => by rw [r3 p hp, setI_n hp, h1 p hp], fun j hj => by rw [r4 j (by omega), setI_s, upd_n (by omega), h2 j hj], true, rfl, fun _ => ⟨f, g, hi, fun i hik => ?_⟩, fun _ => rfl⟩
              rw [he i (by omega), if_neg (by omega)]
          · rw [nI_1]
            refine yh I' h1 h2 (go ?_)
            rintro ⟨f, g, hi, he, hy2⟩
            have := hfits.mpr (iso_fit h16 hs ht hi ⟨hmk1, hmk2⟩ hy2 (fun i hik => ⟨(hmn i (by omega)).1, (hmn i (by omega)).2.1, he i hik⟩))
            rw [hf] at this; cases this
      exact loop I (fun _ _ => rfl) (fun _ _ => rfl) (fun y' h => absurd h (Nat.not_lt_zero _))
    · have : ct (bt left) n = 0 := ct_0.mpr (fun i hi => by rw [h]; exact b_0 i)
      omega
