/-! LIKENESS: pairs, types -/
def frP (I I1 : amI) : Prop := ∀ q, q ≠ 55 → I1 q = I q
set_option maxRecDepth 100000 in
set_option maxHeartbeats 4000000 in
theorem b_X2_pairOff_0 {z : amZ} {d : Nat} {post : amP} {G : amG} {I : amI} {L : amL} (hz : Go z cX2_pairOff RX2 9 (some .boolean) d 0 0 post) (hG : Lay G) (hd : 6 ≤ d) {v1 : Int32} {v2 : Int32} {v3 : Int32} {v4 : Int32} (h : (((I 46 10) ≤ v1) → post (some (.int 1)) G I L) ∧ ((¬ (I 46 10) ≤ v1) → ((v1 < (16 : Int32)) → vp_in v1 16 ∧ vp_in (I 54 v1.toNatClampNeg) 16 ∧ (szOk I 3) ∧ Wx z 0 0 45 [(0, .ref ((zB z).size + 46)), (1, .int v1), (2, .int v2), (3, .int v3), (4, .int v4), (5, .int (I 54 v1.toNatClampNeg)), (6, .int (prG I (v2 &&& (I 5 (I 54 v1.toNatClampNeg).toNatClampNeg)) (sz I 3))), (7, .int 0)] [] G I L) ∧ ((¬ v1 < (16 : Int32)) → post (some (.int 1)) G I L))) : Wx z 0 0 0 [(0, .ref ((zB z).size + 46)), (1, .int v1), (2, .int v2), (3, .int v3), (4, .int v4)] [] G I L := by
  have hz1 := hz.1
  refine am_iload_n hz1 dX2_pairOff_0 1 rfl rfl ?_
  refine am_aload_n hz1 dX2_pairOff_1 0 rfl rfl ?_
  refine am_getI hz1 fl_X2_93 (ln_46 hG) (lk_46 hG) rfl dX2_pairOff_2 ?_
  refine am_icmp_ge (tgt := 14) hz1 dX2_pairOff_5 (by decide) (fun c1 => ?_) (fun c1 => ?_)
  · replace h := h.1 c1
    refine am_iconst (v := 1) hz1 dX2_pairOff_14 (by decide) ?_
    exact am_zreturn hz (by decide) dX2_pairOff_15 h
  · replace h := h.2 c1
    refine am_iload_n hz1 dX2_pairOff_8 1 rfl rfl ?_
    refine am_bipush (v := 16) hz1 dX2_pairOff_9 (by decide) ?_
    refine am_icmp_lt (tgt := 16) hz1 dX2_pairOff_11 (by decide) (fun c2 => ?_) (fun c2 => ?_)
    · replace h := h.1 c2
      refine am_aload_n hz1 dX2_pairOff_16 0 rfl rfl ?_
      refine am_getR hz1 fl_X2_33 (ln_46 hG) (lk_46 hG) (lr_46_8 hG) rfl dX2_pairOff_17 ?_
      refine am_iload_n hz1 dX2_pairOff_20 1 rfl rfl ?_
      obtain ⟨g3, h⟩ := h
      refine am_iald hz1 (ln_54 hG) (lk_54 hG) (by rw [(ll_54 hG)]; exact g3) dX2_pairOff_21 ?_
      refine am_istore (lv' := [(5, .int (I 54 v1.toNatClampNeg)), (0, .ref ((zB z).size + 46)), (1, .int v1), (2, .int v2), (3, .int v3), (4, .int v4)]) hz1 dX2_pairOff_22 rfl rfl ?_
      refine am_aload_n hz1 dX2_pairOff_24 1 rfl rfl ?_
      refine am_iload_n hz1 dX2_pairOff_25 3 rfl rfl ?_
      refine am_aload_n hz1 dX2_pairOff_26 1 rfl rfl ?_
      refine am_getR hz1 fl_X2_39 (ln_46 hG) (lk_46 hG) (lr_46_2 hG) rfl dX2_pairOff_27 ?_
      refine am_getR hz1 fl_X2_78 (ln_3 hG) (lk_3 hG) (lr_3_2 hG) rfl dX2_pairOff_30 ?_
      refine am_iload hz1 dX2_pairOff_33 0 rfl ?_
      obtain ⟨g4, h⟩ := h
      refine am_iald hz1 (ln_5 hG) (lk_5 hG) (by rw [(ll_5 hG)]; exact g4) dX2_pairOff_35 ?_
      refine am_iand hz1 dX2_pairOff_36 ?_
      obtain ⟨g5, h⟩ := h
      refine am_cVf hz cv_X2_103 [.int (v2 &&& (I 5 (I 54 v1.toNatClampNeg).toNatClampNeg))] [] (c_X2_partnersOf hG (v2 &&& (I 5 (I 54 v1.toNatClampNeg).toNatClampNeg)) g5) (ln_46 hG) (lk_46 hG) rfl rfl (ble_d hd rfl) ⟨Nat.le_refl _, Nat.le_refl _⟩ (Nat.le_of_ble_eq_true rfl) dX2_pairOff_37 ?_
      refine am_istore (lv' := [(6, .int (prG I (v2 &&& (I 5 (I 54 v1.toNatClampNeg).toNatClampNeg)) (sz I 3))), (5, .int (I 54 v1.toNatClampNeg)), (0, .ref ((zB z).size + 46)), (1, .int v1), (2, .int v2), (3, .int v3), (4, .int v4)]) hz1 dX2_pairOff_40 rfl rfl ?_
      refine am_iconst (v := 0) hz1 dX2_pairOff_42 (by decide) ?_
      refine am_istore (lv' := [(7, .int 0), (6, .int (prG I (v2 &&& (I 5 (I 54 v1.toNatClampNeg).toNatClampNeg)) (sz I 3))), (5, .int (I 54 v1.toNatClampNeg)), (0, .ref ((zB z).size + 46)), (1, .int v1), (2, .int v2), (3, .int v3), (4, .int v4)]) hz1 dX2_pairOff_43 rfl rfl ?_
      exact am_sub (lv' := [(0, .ref ((zB z).size + 46)), (1, .int v1), (2, .int v2), (3, .int v3), (4, .int v4), (5, .int (I 54 v1.toNatClampNeg)), (6, .int (prG I (v2 &&& (I 5 (I 54 v1.toNatClampNeg).toNatClampNeg)) (sz I 3))), (7, .int 0)]) [3, 4, 5, 6, 7, 2, 1, 0] rfl h
    · replace h := h.2 c2
      refine am_iconst (v := 1) hz1 dX2_pairOff_14 (by decide) ?_
      exact am_zreturn hz (by decide) dX2_pairOff_15 h
set_option maxRecDepth 100000 in
set_option maxHeartbeats 4000000 in
theorem b_X2_pairOff_45 {z : amZ} {d : Nat} {post : amP} {G : amG} {I : amI} {L : amL} (hz : Go z cX2_pairOff RX2 9 (some .boolean) d 0 0 post) (hG : Lay G) (hd : 6 ≤ d) {v1 : Int32} {v2 : Int32} {v3 : Int32} {v4 : Int32} {v5 : Int32} {v6 : Int32} {v7 : Int32} (h : (((I 3 0) ≤ v7) → post (some (.int 0)) G I L) ∧ ((¬ (I 3 0) ≤ v7) → ((¬ ((v4 >>> (v7 &&& 31)) &&& (1 : Int32)) = (1 : Int32)) → Wx z 0 0 90 [(0, .ref ((zB z).size + 46)), (1, .int v1), (2, .int v2), (3, .int v3), (4, .int v4), (5, .int v5), (6, .int v6), (7, .int v7)] [.int 0] G I L) ∧ ((((v4 >>> (v7 &&& 31)) &&& (1 : Int32)) = (1 : Int32)) → vp_in v7 16 ∧ vp_in v5 16 ∧ ((¬ (I 53 v7.toNatClampNeg) = (I 52 v5.toNatClampNeg)) → Wx z 0 0 90 [(0, .ref ((zB z).size + 46)), (1, .int v1), (2, .int v2), (3, .int v3), (4, .int v4), (5, .int v5), (6, .int v6), (7, .int v7)] [.int 0] G I L) ∧ (((I 53 v7.toNatClampNeg) = (I 52 v5.toNatClampNeg)) → Wx z 0 0 90 [(0, .ref ((zB z).size + 46)), (1, .int v1), (2, .int v2), (3, .int v3), (4, .int v4), (5, .int v5), (6, .int v6), (7, .int v7)] [.int 1] G I L)))) : Wx z 0 0 45 [(0, .ref ((zB z).size + 46)), (1, .int v1), (2, .int v2), (3, .int v3), (4, .int v4), (5, .int v5), (6, .int v6), (7, .int v7)] [] G I L := by
  have hz1 := hz.1
  refine am_iload hz1 dX2_pairOff_45 7 rfl ?_
  refine am_aload_n hz1 dX2_pairOff_47 0 rfl rfl ?_
  refine am_getR hz1 fl_X2_39 (ln_46 hG) (lk_46 hG) (lr_46_2 hG) rfl dX2_pairOff_48 ?_
  refine am_getI hz1 fl_X2_60 (ln_3 hG) (lk_3 hG) rfl dX2_pairOff_51 ?_
  refine am_icmp_ge (tgt := 152) hz1 dX2_pairOff_54 (by decide) (fun c1 => ?_) (fun c1 => ?_)
  · replace h := h.1 c1
    refine am_iconst (v := 0) hz1 dX2_pairOff_152 (by decide) ?_
    exact am_zreturn hz (by decide) dX2_pairOff_153 h
  · replace h := h.2 c1
    refine am_iload hz1 dX2_pairOff_57 4 rfl ?_
    refine am_iload hz1 dX2_pairOff_59 7 rfl ?_
    refine am_ishr hz1 dX2_pairOff_61 ?_
    refine am_iconst (v := 1) hz1 dX2_pairOff_62 (by decide) ?_
    refine am_iand hz1 dX2_pairOff_63 ?_
    refine am_iconst (v := 1) hz1 dX2_pairOff_64 (by decide) ?_
    refine am_icmp_ne (tgt := 89) hz1 dX2_pairOff_65 (by decide) (fun c2 => ?_) (fun c2 => ?_)
    · replace h := h.1 c2
      refine am_iconst (v := 0) hz1 dX2_pairOff_89 (by decide) ?_
      exact h
    · replace h := h.2 c2
      refine am_aload_n hz1 dX2_pairOff_68 0 rfl rfl ?_
      refine am_getR hz1 fl_X2_30 (ln_46 hG) (lk_46 hG) (lr_46_7 hG) rfl dX2_pairOff_69 ?_
      refine am_iload hz1 dX2_pairOff_72 7 rfl ?_
      obtain ⟨g3, h⟩ := h
      refine am_iald hz1 (ln_53 hG) (lk_53 hG) (by rw [(ll_53 hG)]; exact g3) dX2_pairOff_74 ?_
      refine am_aload_n hz1 dX2_pairOff_75 0 rfl rfl ?_
      refine am_getR hz1 fl_X2_27 (ln_46 hG) (lk_46 hG) (lr_46_6 hG) rfl dX2_pairOff_76 ?_
      refine am_iload hz1 dX2_pairOff_79 5 rfl ?_
      obtain ⟨g4, h⟩ := h
      refine am_iald hz1 (ln_52 hG) (lk_52 hG) (by rw [(ll_52 hG)]; exact g4) dX2_pairOff_81 ?_
      refine am_icmp_ne (tgt := 89) hz1 dX2_pairOff_82 (by decide) (fun c5 => ?_) (fun c5 => ?_)
      · replace h := h.1 c5
        refine am_iconst (v := 0) hz1 dX2_pairOff_89 (by decide) ?_
        exact h
      · replace h := h.2 c5
        refine am_iconst (v := 1) hz1 dX2_pairOff_85 (by decide) ?_
        refine am_goto (tgt := 90) hz1 dX2_pairOff_86 (by decide) ?_
        exact h
set_option maxRecDepth 100000 in
set_option maxHeartbeats 4000000 in
theorem b_X2_pairOff_90 {z : amZ} {d : Nat} {post : amP} {G : amG} {I : amI} {L : amL} (hz : Go z cX2_pairOff RX2 9 (some .boolean) d 0 0 post) (hG : Lay G) (hd : 6 ≤ d) {v1 : Int32} {v2 : Int32} {v3 : Int32} {v4 : Int32} {v5 : Int32} {v6 : Int32} {v7 : Int32} {s0 : Int32} (h : ((s0 = 0) → Wx z 0 0 45 [(0, .ref ((zB z).size + 46)), (1, .int v1), (2, .int v2), (3, .int v3), (4, .int v4), (5, .int v5), (6, .int v6), (7, .int (v7 + 1))] [] G I L) ∧ ((¬ s0 = 0) → vp_in v7 16 ∧ ((¬ (v3 &&& (I 5 v7.toNatClampNeg)) = v6) → Wx z 0 0 45 [(0, .ref ((zB z).size + 46)), (1, .int v1), (2, .int v2), (3, .int v3), (4, .int v4), (5, .int v5), (6, .int v6), (7, .int (v7 + 1))] [] G I L) ∧ (((v3 &&& (I 5 v7.toNatClampNeg)) = v6) → vp_in v5 16 ∧ ∃ (dq5 : Nat) (postq5 : amP), Nat.ble (dq5 + 1) d = true ∧ Mx (zL z) (zD z) (zB z) yX2_pairOff cX2_pairOff 9 (some .boolean) dq5 0 0 [.ref ((zB z).size + 46), .int (v1 + (1 : Int32)), .int v2, .int v3, .int (v4 &&& (((1 : Int32) <<< (v7 &&& 31)) ^^^ (-1 : Int32)))] G (setI I 55 (upd (I 55) v5.toNatClampNeg v7)) L postq5 ∧ ∀ (roq5 : Option Value) (Gq5 : amG) (Iq5 : amI) (Lq5 : amL), postq5 roq5 Gq5 Iq5 Lq5 → ∃ (rq5 : Int32), roq5 = some (.int rq5) ∧ Lay Gq5 ∧ ((rq5 = 0) → Wx z 0 0 45 [(0, .ref ((zB z).size + 46)), (1, .int v1), (2, .int v2), (3, .int v3), (4, .int v4), (5, .int v5), (6, .int v6), (7, .int (v7 + 1))] [] Gq5 Iq5 Lq5) ∧ ((¬ rq5 = 0) → post (some (.int 1)) Gq5 Iq5 Lq5)))) : Wx z 0 0 90 [(0, .ref ((zB z).size + 46)), (1, .int v1), (2, .int v2), (3, .int v3), (4, .int v4), (5, .int v5), (6, .int v6), (7, .int v7)] [.int s0] G I L := by
  have hz1 := hz.1
  refine am_istore (lv' := [(8, .int s0), (0, .ref ((zB z).size + 46)), (1, .int v1), (2, .int v2), (3, .int v3), (4, .int v4), (5, .int v5), (6, .int v6), (7, .int v7)]) hz1 dX2_pairOff_90 rfl rfl ?_
  refine am_iload hz1 dX2_pairOff_92 0 rfl ?_
  refine am_if_eq (tgt := 146) hz1 dX2_pairOff_94 (by decide) (fun c1 => ?_) (fun c1 => ?_)
  · replace h := h.1 c1
    refine am_iinc (v := v7 + 1) (lv' := [(7, .int (v7 + 1)), (8, .int s0), (0, .ref ((zB z).size + 46)), (1, .int v1), (2, .int v2), (3, .int v3), (4, .int v4), (5, .int v5), (6, .int v6)]) hz1 dX2_pairOff_146 8 rfl rfl rfl rfl ?_
    refine am_goto (tgt := 45) hz1 dX2_pairOff_149 (by decide) ?_
    exact am_sub (lv' := [(0, .ref ((zB z).size + 46)), (1, .int v1), (2, .int v2), (3, .int v3), (4, .int v4), (5, .int v5), (6, .int v6), (7, .int (v7 + 1))]) [2, 3, 4, 5, 6, 7, 8, 0] rfl h
  · replace h := h.2 c1
    refine am_iload_n hz1 dX2_pairOff_97 4 rfl rfl ?_
    refine am_aload_n hz1 dX2_pairOff_98 1 rfl rfl ?_
    refine am_getR hz1 fl_X2_39 (ln_46 hG) (lk_46 hG) (lr_46_2 hG) rfl dX2_pairOff_99 ?_
    refine am_getR hz1 fl_X2_78 (ln_3 hG) (lk_3 hG) (lr_3_2 hG) rfl dX2_pairOff_102 ?_
    refine am_iload hz1 dX2_pairOff_105 8 rfl ?_
    obtain ⟨g2, h⟩ := h
    refine am_iald hz1 (ln_5 hG) (lk_5 hG) (by rw [(ll_5 hG)]; exact g2) dX2_pairOff_107 ?_
    refine am_iand hz1 dX2_pairOff_108 ?_
    refine am_iload hz1 dX2_pairOff_109 7 rfl ?_
    refine am_icmp_ne (tgt := 146) hz1 dX2_pairOff_111 (by decide) (fun c3 => ?_) (fun c3 => ?_)
    · replace h := h.1 c3
      refine am_iinc (v := v7 + 1) (lv' := [(7, .int (v7 + 1)), (8, .int s0), (0, .ref ((zB z).size + 46)), (1, .int v1), (2, .int v2), (3, .int v3), (4, .int v4), (5, .int v5), (6, .int v6)]) hz1 dX2_pairOff_146 8 rfl rfl rfl rfl ?_
      refine am_goto (tgt := 45) hz1 dX2_pairOff_149 (by decide) ?_
      exact am_sub (lv' := [(0, .ref ((zB z).size + 46)), (1, .int v1), (2, .int v2), (3, .int v3), (4, .int v4), (5, .int v5), (6, .int v6), (7, .int (v7 + 1))]) [2, 3, 4, 5, 6, 7, 8, 0] rfl h
    · replace h := h.2 c3
      refine am_aload_n hz1 dX2_pairOff_114 1 rfl rfl ?_
      refine am_getR hz1 fl_X2_36 (ln_46 hG) (lk_46 hG) (lr_46_9 hG) rfl dX2_pairOff_115 ?_
      refine am_iload hz1 dX2_pairOff_118 6 rfl ?_
      refine am_iload hz1 dX2_pairOff_120 8 rfl ?_
      obtain ⟨g4, h⟩ := h
      refine am_iast hz1 (ln_55 hG) (lk_55 hG) (by rw [(ll_55 hG)]; exact g4) dX2_pairOff_122 ?_
      refine am_aload_n hz1 dX2_pairOff_123 1 rfl rfl ?_
      refine am_iload_n hz1 dX2_pairOff_124 2 rfl rfl ?_
      refine am_iconst (v := 1) hz1 dX2_pairOff_125 (by decide) ?_
      refine am_iadd hz1 dX2_pairOff_126 ?_
      refine am_iload_n hz1 dX2_pairOff_127 3 rfl rfl ?_
      refine am_iload_n hz1 dX2_pairOff_128 4 rfl rfl ?_
      refine am_iload hz1 dX2_pairOff_129 5 rfl ?_
      refine am_iconst (v := 1) hz1 dX2_pairOff_131 (by decide) ?_
      refine am_iload hz1 dX2_pairOff_132 8 rfl ?_
      refine am_ishl hz1 dX2_pairOff_134 ?_
      refine am_iconst (v := (-1)) hz1 dX2_pairOff_135 (by decide) ?_
      refine am_ixor hz1 dX2_pairOff_136 ?_
      refine am_iand hz1 dX2_pairOff_137 ?_
      obtain ⟨dq5, postq5, hdq5, hMq5, h⟩ := h
      refine am_callV hz1 cv_X2_99 [.int (v1 + (1 : Int32)), .int v2, .int v3, .int (v4 &&& (((1 : Int32) <<< (v7 &&& 31)) ^^^ (-1 : Int32)))] [] hMq5 (ln_46 hG) (lk_46 hG) rfl rfl (hz.fr hdq5) (hz.lo hdq5) (by rw [hz.2.1]; exact ⟨Nat.le_refl _, Nat.le_refl _⟩) (Nat.le_of_ble_eq_true rfl) dX2_pairOff_138 (fun roq5 Gq5 Iq5 Lq5 hpq5 => ?_)
      obtain ⟨rq5, rfl, hGq5, h⟩ := h roq5 Gq5 Iq5 Lq5 hpq5
      refine am_if_eq (tgt := 146) hz1 dX2_pairOff_141 (by decide) (fun c6 => ?_) (fun c6 => ?_)
      · replace h := h.1 c6
        refine am_iinc (v := v7 + 1) (lv' := [(7, .int (v7 + 1)), (8, .int s0), (0, .ref ((zB z).size + 46)), (1, .int v1), (2, .int v2), (3, .int v3), (4, .int v4), (5, .int v5), (6, .int v6)]) hz1 dX2_pairOff_146 8 rfl rfl rfl rfl ?_
        refine am_goto (tgt := 45) hz1 dX2_pairOff_149 (by decide) ?_
        exact am_sub (lv' := [(0, .ref ((zB z).size + 46)), (1, .int v1), (2, .int v2), (3, .int v3), (4, .int v4), (5, .int v5), (6, .int v6), (7, .int (v7 + 1))]) [2, 3, 4, 5, 6, 7, 8, 0] rfl h
      · replace h := h.2 c6
        refine am_iconst (v := 1) hz1 dX2_pairOff_144 (by decide) ?_
        exact am_zreturn hz (by decide) dX2_pairOff_145 h
set_option maxRecDepth 100000 in
set_option maxHeartbeats 4000000 in
theorem c_X2_pairOff {l : Launch} {D : va_G} {B : Heap} {G : amG} {L : amL} {n c : Nat} {A : Nat → Int32} {s t : Int32} {mn ix : Nat → Nat} {M1 M2 : Nat → Int32} (hG : Lay G) (h1 : 1 ≤ n) (h16 : n ≤ 16) (hP : PO n A) (hs : ∀ i, i < 32 → bt s i = true → i < n) (ht : ∀ i, i < 32 → bt t i = true → i < n) (hmn : ∀ i, i < c → mn i < n ∧ bt s (mn i) = true ∧ ix (mn i) = i) (hidx : ∀ x, x < n → bt s x = true → ix x < c ∧ mn (ix x) = x) (htop : ∀ x y, x < n → y < n → bt s x = true → bt s y = true → bt (A x) y = true → ix x < ix y) (hc : ct (bt t) n = c) (hmk : ∀ f g, isoP n A s t f g → ∀ x, x < n → bt s x = true → M2 (f x) = M1 x) : ∀ (m k d : Nat) (I : amI) (pr : Nat → Nat) (left : Int32), k + m = c → 6 + m ≤ d → I 3 0 = nI n → (∀ x, x < n → I 5 x = bn n A x) → I 46 10 = nI c → (∀ i, i < c → I 54 i = nI (mn i)) → (∀ x, x < n → bt s x = true → I 52 x = M1 x) → (∀ y, y < n → bt t y = true → I 53 y = M2 y) → (∀ i, i < k → I 55 (mn i) = nI (pr i) ∧ pr i < n ∧ bt t (pr i) = true) → (∀ i j, i < k → j < k → pr i = pr j → i = j) → (∀ i j, i < k → j < k → bt (A (mn i)) (mn j) = bt (A (pr i)) (pr j)) → (∀ i w, i < k → w < n → bt t w = true → bt (A w) (pr i) = true → ∃ j, j < k ∧ pr j = w) → (∀ w, w < 32 → (bt left w = true ↔ bt t w = true ∧ ∀ i, i < k → pr i ≠ w)) → ct (bt left) n + k = c →
    Mx l D B yX2_pairOff cX2_pairOff 9 (some .boolean) d 0 0 [.ref (B.size + 46), .int (nI k), .int s, .int t, .int left] G I L (fun r G1 I1 L1 => G1 = G ∧ L1 = L ∧ frP I I1 ∧ (∀ i, i < k → I1 55 (mn i) = I 55 (mn i)) ∧ ∃ b, r = some (.int (bI b)) ∧ (b = true ↔ ∃ f g, isoP n A s t f g ∧ ∀ i, i < k → f (mn i) = pr i)) := by
  have hc16 : c ≤ 16 := by rw [← hc]; exact Nat.le_trans (ct_le _ _) h16
  intro m
  induction m with
  | zero =>
    intro k d I pr left hkc hd e0 e5 e10 e54 e52 e53 e55 hinj hcon hcl hleft hct
    refine Mx.of (by decide) rfl rfl (fun z e1 e2 e3 hz => ?_)
    subst e1; subst e2; subst e3
    have hk : k = c := by omega
    subst hk
    refine b_X2_pairOff_0 hz hG (by omega) ⟨fun _ => ⟨rfl, rfl, fun _ _ => rfl, fun _ _ => rfl, true, rfl, fun _ => ?_, fun _ => rfl⟩, fun h => absurd (by rw [e10]; exact nI_le (Nat.le_refl _) (by omega)) h⟩
    have hl0 : ∀ y, y < n → bt left y = false := ct_0.mp (by omega)
    refine iso_endX hmn hidx (fun i hi => (e55 i hi).2) hinj (fun y hy hty => ?_) hcon
    apply Classical.byContradiction
    intro q
    have := (hleft y (by omega)).mpr ⟨hty, fun i hi e => q ⟨i, hi, e⟩⟩
    rw [hl0 y hy] at this; cases this
  | succ m ih =>
    intro k d I pr left hkc hd e0 e5 e10 e54 e52 e53 e55 hinj hcon hcl hleft hct
    refine Mx.of (by decide) rfl rfl (fun z e1 e2 e3 hz => ?_)
    subst e1; subst e2; subst e3
    have hkk : k < c := by omega
    obtain ⟨hx1, hx2, hx3⟩ := hmn k hkk
    have hbel : ∀ i, i < 32 → (bt (s &&& I 5 (mn k)) i = true ↔ i < n ∧ bt s i = true ∧ bt (A i) (mn k) = true) := fun i hi => by
      rw [e5 _ hx1, b_and, bn_bt (by omega) hi, Bool.and_eq_true, Bool.and_eq_true, decide_eq_true_eq]
      constructor
      · rintro ⟨q1, q2, q3⟩; exact ⟨q2, q1, q3⟩
      · rintro ⟨q1, q2, q3⟩; exact ⟨q2, q1, q3⟩
    have hpt : ∀ x, x < n → bt (s &&& I 5 (mn k)) x = true → I 55 x = nI (pr (ix x)) ∧ pr (ix x) < 32 := fun x hx hb => by
      obtain ⟨_, q2, q3⟩ := (hbel x (by omega)).mp hb
      obtain ⟨g1, g2⟩ := hidx x hx q2
      have := htop x (mn k) hx hx1 q2 hx2 q3
      rw [hx3] at this
      obtain ⟨p1, p2, _⟩ := e55 _ this
      rw [g2] at p1
      exact ⟨p1, by omega⟩
    have hset : ∀ w, w < 32 → (bt (prG I (s &&& I 5 (mn k)) n) w = true ↔ ∃ i, i < k ∧ bt (A (mn i)) (mn k) = true ∧ pr i = w) := fun w hw => by
      rw [prG_b n hpt w hw]
      constructor
      · rintro ⟨x, hx, hb, e⟩
        obtain ⟨_, q2, q3⟩ := (hbel x (by omega)).mp hb
        have := htop x (mn k) hx hx1 q2 hx2 q3
        rw [hx3] at this
        exact ⟨ix x, this, by rw [(hidx x hx q2).2]; exact q3, e⟩
      · rintro ⟨i, hi, q, e⟩
        obtain ⟨a1, a2, a3⟩ := hmn i (by omega)
        exact ⟨mn i, a1, (hbel _ (by omega)).mpr ⟨a1, a2, q⟩, by rw [a3]; exact e⟩
    have ek : (nI k).toNatClampNeg = k := cl_nI (by omega)
    refine b_X2_pairOff_0 hz hG (by omega) ⟨fun h => absurd h (by rw [e10]; exact nI_ge hkk (by omega)), fun _ => ⟨fun _ => ⟨in_nI (by omega) (by decide), ?_, ⟨n, h1, h16, e0⟩, ?_⟩, fun h => absurd (nI_lt (b := 16) (show k < 16 by omega) (by decide)) h⟩⟩
    · rw [ek, e54 k hkk]; exact in16 h16 hx1
    rw [ek, e54 k hkk, cl_nI (n := mn k) (by omega), sz_eq e0 h16]
    have hbelow : ∀ y, y < n → (t &&& bn n A y = prG I (s &&& I 5 (mn k)) n ↔ ∀ w, w < n → ((bt t w = true ∧ bt (A w) y = true) ↔ ∃ i, i < k ∧ bt (A (mn i)) (mn k) = true ∧ pr i = w)) := by
      intro y hy
      have hl : ∀ w, w < 32 → (bt (t &&& bn n A y) w = true ↔ w < n ∧ bt t w = true ∧ bt (A w) y = true) := fun w hw => by
        rw [b_and, bn_bt (by omega) hw, Bool.and_eq_true, Bool.and_eq_true, decide_eq_true_eq]
        constructor
        · rintro ⟨q1, q2, q3⟩; exact ⟨q2, q1, q3⟩
        · rintro ⟨q1, q2, q3⟩; exact ⟨q2, q1, q3⟩
      constructor
      · intro e w hw
        rw [← hset w (by omega), ← e, hl w (by omega)]
        exact ⟨fun q => ⟨hw, q⟩, fun q => q.2⟩
      · intro e
        apply b_ext
        intro w hw
        rw [Bool.eq_iff_iff, hl w hw, hset w hw]
        by_cases hwn : w < n
        · rw [← e w hwn]
          exact ⟨fun q => q.2, fun q => ⟨hwn, q⟩⟩
        · constructor
          · intro q; exact absurd q.1 hwn
          · rintro ⟨i, hi, _, e2⟩
            have := (e55 i hi).2.1
            omega
    have loop : ∀ I' : amI, frP I I' → (∀ i, i < k → I' 55 (mn i) = I 55 (mn i)) → (∀ y', y' < 0 → ¬ ∃ f g, isoP n A s t f g ∧ (∀ i, i < k → f (mn i) = pr i) ∧ f (mn k) = y') → Wx z 0 0 45 [(0, .ref ((zB z).size + 46)), (1, .int (nI k)), (2, .int s), (3, .int t), (4, .int left), (5, .int (nI (mn k))), (6, .int (prG I (s &&& I 5 (mn k)) n)), (7, .int (nI 0))] [] G I' L := by
      refine for_up (P := fun y => ∀ I' : amI, frP I I' → (∀ i, i < k → I' 55 (mn i) = I 55 (mn i)) → (∀ y', y' < y → ¬ ∃ f g, isoP n A s t f g ∧ (∀ i, i < k → f (mn i) = pr i) ∧ f (mn k) = y') → Wx z 0 0 45 [(0, .ref ((zB z).size + 46)), (1, .int (nI k)), (2, .int s), (3, .int t), (4, .int left), (5, .int (nI (mn k))), (6, .int (prG I (s &&& I 5 (mn k)) n)), (7, .int (nI y))] [] G I' L) (n := n) ?_ ?_ (Nat.zero_le _)
      · intro I' h2 h3 h4
        have f0 : I' 3 0 = nI n := by rw [h2 3 (by decide)]; exact e0
        refine b_X2_pairOff_45 hz hG (by omega) ⟨fun _ => ⟨rfl, rfl, h2, h3, false, rfl, fun q => absurd q (by decide), fun ⟨f, g, hi, he⟩ => ?_⟩, fun h => absurd (sz_le f0 h16) h⟩
        exact absurd ⟨f, g, hi, he, rfl⟩ (h4 (f (mn k)) (hi.1 _ hx1 hx2).1)
      · intro y hy yh I' h2 h3 h4
        have f0 : I' 3 0 = nI n := by rw [h2 3 (by decide)]; exact e0
        have go : (¬ ∃ f g, isoP n A s t f g ∧ (∀ i, i < k → f (mn i) = pr i) ∧ f (mn k) = y) → ∀ y', y' < y + 1 → ¬ ∃ f g, isoP n A s t f g ∧ (∀ i, i < k → f (mn i) = pr i) ∧ f (mn k) = y' := by
          intro hno y' hy'
          by_cases e : y' = y
          · subst e; exact hno
          · exact h4 y' (by omega)
        have skip : (¬ ∃ f g, isoP n A s t f g ∧ (∀ i, i < k → f (mn i) = pr i) ∧ f (mn k) = y) → Wx z 0 0 90 [(0, .ref ((zB z).size + 46)), (1, .int (nI k)), (2, .int s), (3, .int t), (4, .int left), (5, .int (nI (mn k))), (6, .int (prG I (s &&& I 5 (mn k)) n)), (7, .int (nI y))] [.int 0] G I' L := fun hno => b_X2_pairOff_90 hz hG (by omega) ⟨fun _ => by rw [nI_1]; exact yh I' h2 h3 (go hno), fun q => absurd rfl q⟩
        refine b_X2_pairOff_45 hz hG (by omega) ⟨fun h => absurd h (sz_ge f0 h16 hy), fun _ => ?_⟩
        rw [b_bit _ _ (show y < 32 by omega), cl_nI (n := y) (by omega), cl_nI (n := mn k) (by omega), h2 53 (by decide), h2 52 (by decide), e52 _ hx1 hx2]
        refine ⟨fun h => skip ?_, fun h => ⟨in16 h16 hy, in16 h16 hx1, ?_⟩⟩
        · rintro ⟨f, g, hi, he, hy2⟩
          refine h ((hleft y (by omega)).mpr ⟨by rw [← hy2]; exact (hi.1 _ hx1 hx2).2.1, fun i hik e => ?_⟩)
          obtain ⟨a1, a2, a3⟩ := hmn i (by omega)
          have e2 : f (mn i) = f (mn k) := by rw [he i hik, e, hy2]
          have e3 : mn i = mn k := by rw [← (hi.1 _ a1 a2).2.2, ← (hi.1 _ hx1 hx2).2.2, e2]
          rw [e3, hx3] at a3
          omega
        obtain ⟨hty, hny⟩ := (hleft y (by omega)).mp h
        rw [e53 y hy hty]
        refine ⟨fun hm => skip ?_, fun hm => ?_⟩
        · rintro ⟨f, g, hi, he, hy2⟩
          exact hm (by rw [← hy2]; exact hmk f g hi _ hx1 hx2)
        refine b_X2_pairOff_90 hz hG (by omega) ⟨fun q => absurd q (by decide), fun _ => ⟨in16 h16 hy, ?_⟩⟩
        rw [cl_nI (n := y) (by omega), cl_nI (n := mn k) (by omega), h2 5 (by decide), e5 y hy, hbelow y hy, nI_1 y, nI_1 k]
        refine ⟨fun hb => ?_, fun hb => ⟨in16 h16 hx1, ?_⟩⟩
        · refine yh I' h2 h3 (go ?_)
          rintro ⟨f, g, hi, he, hy2⟩
          refine hb (fun w hw => ⟨fun ⟨q1, q2⟩ => ?_, fun ⟨i, hik, q1, q2⟩ => ?_⟩)
          · obtain ⟨g1, g2, g3⟩ := hi.2.1 w hw q1
            obtain ⟨i1, i2⟩ := hidx _ g1 g2
            have hlt : bt (A (g w)) (mn k) = true := by rw [hi.2.2 _ _ g1 hx1 g2 hx2, g3, hy2]; exact q2
            have := htop _ _ g1 hx1 g2 hx2 hlt
            rw [hx3] at this
            exact ⟨ix (g w), this, by rw [i2]; exact hlt, by rw [← he _ this, i2, g3]⟩
          · obtain ⟨a1, a2, a3⟩ := hmn i (by omega)
            have e1 := he i hik
            rw [q2] at e1
            refine ⟨by rw [← e1]; exact (hi.1 _ a1 a2).2.1, ?_⟩
            rw [hi.2.2 _ _ a1 hx1 a2 hx2, e1, hy2] at q1
            exact q1
        have hnk : ∀ i, i < k → mn i ≠ mn k := fun i hi e => by
          have := (hmn i (by omega)).2.2
          rw [e, hx3] at this
          omega
        refine ⟨d - 1, _, by rw [show d - 1 + 1 = d by omega]; exact Nat.ble_self_eq_true d, ih (k + 1) (d - 1) (setI I' 55 (upd (I' 55) (mn k) (nI y))) (fun i => if i = k then y else pr i) (left &&& (((1 : Int32) <<< (nI y &&& 31)) ^^^ (-1))) (by omega) (by omega) (by rw [setI_n (by decide)]; exact f0) (fun x hx => by rw [setI_n (by decide), h2 5 (by decide)]; exact e5 x hx) (by rw [setI_n (by decide), h2 46 (by decide)]; exact e10) (fun i hi => by rw [setI_n (by decide), h2 54 (by decide)]; exact e54 i hi) (fun x hx hb => by rw [setI_n (by decide), h2 52 (by decide)]; exact e52 x hx hb) (fun y hy hb => by rw [setI_n (by decide), h2 53 (by decide)]; exact e53 y hy hb) (fun i hi => ?_) (fun i j hi hj e => ?_) (fun i j hi hj => ?_) (fun i w hi hw q1 q2 => ?_) (fun w hw => ?_) ?_, fun ro G2 I2 L2 ⟨g1, g2, g3, g4, b, g5, g6⟩ => ⟨_, g5, by rw [g1]; exact hG, ?_⟩⟩
        · rw [setI_s]
          by_cases e : i = k
          · subst e
            rw [upd_s, if_pos rfl]
            exact ⟨rfl, hy, hty⟩
          · rw [upd_n (hnk i (by omega)), if_neg e, h3 i (by omega)]
            exact e55 i (by omega)
        · by_cases ei : i = k
          · by_cases ej : j = k
            · omega
            · rw [if_pos ei, if_neg ej] at e
              exact absurd e.symm (hny j (by omega))
          · by_cases ej : j = k
            · rw [if_neg ei, if_pos ej] at e
              exact absurd e (hny i (by omega))
            · rw [if_neg ei, if_neg ej] at e
              exact hinj i j (by omega) (by omega) e
        · by_cases ei : i = k
          · by_cases ej : j = k
            · rw [if_pos ei, if_pos ej, ei, ej, hP.2.1 _ hx1, hP.2.1 _ hy]
            · have hj' : j < k := by omega
              obtain ⟨a1, a2, a3⟩ := hmn j (by omega)
              have z1 : bt (A (mn k)) (mn j) = false := by
                rw [Bool.eq_false_iff]
                intro q
                have := htop _ _ hx1 a1 hx2 a2 q
                rw [hx3, a3] at this
                omega
              have z2 : bt (A y) (pr j) = false := by
                rw [Bool.eq_false_iff]
                intro q
                obtain ⟨j', hj'', e⟩ := hcl j y hj' hy hty q
                exact hny j' hj'' e
              rw [if_pos ei, if_neg ej, ei, z1, z2]
          · have hi' : i < k := by omega
            by_cases ej : j = k
            · rw [if_neg ei, if_pos ej, ej, Bool.eq_iff_iff]
              constructor
              · intro q
                exact ((hb (pr i) (e55 i hi').2.1).mpr ⟨i, hi', q, rfl⟩).2
              · intro q
                obtain ⟨i', hi'', q1, q2⟩ := (hb (pr i) (e55 i hi').2.1).mp ⟨(e55 i hi').2.2, q⟩
                rw [← hinj i' i hi'' hi' q2]
                exact q1
            · rw [if_neg ei, if_neg ej]
              exact hcon i j hi' (by omega)
        · by_cases ei : i = k
          · rw [if_pos ei] at q2
            obtain ⟨j, hj, _, e⟩ := (hb w hw).mp ⟨q1, q2⟩
            exact ⟨j, by omega, by rw [if_neg (by omega)]; exact e⟩
          · rw [if_neg ei] at q2
            obtain ⟨j, hj, e⟩ := hcl i w (by omega) hw q1 q2
            exact ⟨j, by omega, by rw [if_neg (by omega)]; exact e⟩
        · rw [b_and, b_not _ hw, b_one y (by omega) hw, Bool.and_eq_true, hleft w hw, Bool.not_eq_true', decide_eq_false_iff_not]
          constructor
          · rintro ⟨⟨q1, q2⟩, q3⟩
            refine ⟨q1, fun i hi e => ?_⟩
            by_cases ei : i = k
            · rw [if_pos ei] at e; exact q3 e.symm
            · rw [if_neg ei] at e; exact q2 i (by omega) e
          · rintro ⟨q1, q2⟩
            refine ⟨⟨q1, fun i hi e => q2 i (by omega) (by rw [if_neg (by omega)]; exact e)⟩, fun e => q2 k (by omega) (by rw [if_pos rfl, e])⟩
        · have hrm : ct (bt (left &&& (((1 : Int32) <<< (nI y &&& 31)) ^^^ (-1)))) n + 1 = ct (bt left) n := by
            have := ct_rm (f := bt left) (n := n) (a := y) hy h
            rw [← this]
            congr 1
            exact ct_cong (fun i hi => by rw [b_and, b_not _ (show i < 32 by omega), b_one y (by omega) (show i < 32 by omega)])
          omega
        · rw [g1, g2, bI_ne, bI_eq]
          have hf2 : frP I I2 := fun q hq => by rw [g3 q hq, setI_n hq, h2 q hq]
          have h55 : ∀ i, i < k → I2 55 (mn i) = I 55 (mn i) := fun i hi => by rw [g4 i (by omega), setI_s, upd_n (hnk i hi), h3 i hi]
          have hext : (∃ f g, isoP n A s t f g ∧ ∀ i, i < k + 1 → f (mn i) = (if i = k then y else pr i)) ↔ ∃ f g, isoP n A s t f g ∧ (∀ i, i < k → f (mn i) = pr i) ∧ f (mn k) = y := by
            constructor
            · rintro ⟨f, g, hi, he⟩
              exact ⟨f, g, hi, fun i hik => by rw [he i (by omega), if_neg (by omega)], by rw [he k (by omega), if_pos rfl]⟩
            · rintro ⟨f, g, hi, he, hy2⟩
              refine ⟨f, g, hi, fun i hik => ?_⟩
              by_cases e : i = k
              · rw [e, if_pos rfl]; exact hy2
              · rw [if_neg e]; exact he i (by omega)
          refine ⟨fun hb0 => ?_, fun hb1 => ?_⟩
          · refine yh I2 hf2 h55 (go (fun hx => ?_))
            rw [g6.mpr (hext.mpr hx)] at hb0; cases hb0
          · obtain ⟨f, g, hi, he, _⟩ := hext.mp (g6.mp hb1)
            exact ⟨rfl, rfl, hf2, h55, true, rfl, fun _ => ⟨f, g, hi, he⟩, fun _ => rfl⟩
    exact loop I (fun _ _ => rfl) (fun _ _ => rfl) (fun y' hy' => absurd hy' (Nat.not_lt_zero _))
