/-! THE REFERENCE: what is asked, second part -/
theorem isT_B {n : Nat} {A : Nat → Int32} (hP : PO n A) (h16 : n ≤ 16) (t : Int32) : m_isT n A t = elB (tyO n A).tm t := by
  have h136 := (tyO_I hP h16).1
  rw [m_isT]
  generalize (tyO n A).tm = m at h136
  cases m with
  | zero =>
    rw [elB, m_isIn, Bool.eq_iff_iff, Bool.and_eq_true, Bool.and_eq_true, decide_eq_true_eq, decide_eq_true_eq, decide_eq_true_eq, decide_eq_true_eq, Int64.lt_iff_toInt_lt, Int64.lt_iff_toInt_lt, Int32.toInt_toInt64, Int32.le_iff_toInt_le, Int32.lt_iff_toInt_lt]
    have e1 : ((nI 0 - 1).toInt64).toInt = -1 := by decide
    have e2 : (0 : Int64).toInt = 0 := by decide
    have e3 : (0 : Int32).toInt = 0 := by decide
    have e4 : (nI 0).toInt = 0 := by decide
    rw [e1, e2, e3, e4]
    omega
  | succ m =>
    rw [nI_pred, isIn_R (k := m) (by omega) (by rw [Int32.toInt_toInt64, nI_toInt (by omega)]), inR, elB]
    congr 1
    apply decide_eq_decide.mpr
    rw [Int32.le_iff_toInt_le, Int32.lt_iff_toInt_lt, nI_toInt (by omega), nI_toInt (by omega)]
    omega
noncomputable def spC (n : Nat) (A : Nat → Int32) (t : Nat) (r q : Int32) (x : Nat) : Bool := bt (ivS n A ((tyO n A).fs t / 16) ((tyO n A).fs t % 16)) x && (decide (nI ((tyO n A).ty (16 * ((tyO n A).fs t / 16) + x)) = r) && decide (nI ((tyO n A).ty (16 * x + (tyO n A).fs t % 16)) = q))
noncomputable def aSplit (s : St) (t r q : Int32) : Int32 := if (elB (tyO (rN (sC s)) (rA (sC s))).tm t && (elB (tyO (rN (sC s)) (rA (sC s))).tm r && elB (tyO (rN (sC s)) (rA (sC s))).tm q)) = true then cntI (spC (rN (sC s)) (rA (sC s)) t.toNatClampNeg r q) (rN (sC s)) else -1
theorem bI_z {b : Bool} : bI b = 0 ↔ b = false := by cases b <;> decide
theorem bI_nz {b : Bool} : ¬ bI b = 0 ↔ b = true := by cases b <;> decide
set_option maxRecDepth 100000 in
set_option maxHeartbeats 4000000 in
theorem b_X12_split_0 {z : amZ} {post : amP} {G : amG} {I : amI} {L : amL} (hz : Go z cX12_split RX12 9 (some .int) 44 0 0 post) (hG : Lay G) {v1 : Int32} {v2 : Int32} {v3 : Int32} (h : ∃ (dq1 : Nat) (postq1 : amP), Nat.ble (dq1 + 1) 44 = true ∧ Mx (zL z) (zD z) (zB z) yX12_isType cX12_isType 2 (some .boolean) dq1 0 0 [.ref ((zB z).size + 64), .int v1] G I L postq1 ∧ ∀ (roq1 : Option Value) (Gq1 : amG) (Iq1 : amI) (Lq1 : amL), postq1 roq1 Gq1 Iq1 Lq1 → ∃ (rq1 : Int32), roq1 = some (.int rq1) ∧ Lay Gq1 ∧ ((rq1 = 0) → post (some (.int (-1))) Gq1 Iq1 Lq1) ∧ ((¬ rq1 = 0) → ∃ (dq3 : Nat) (postq3 : amP), Nat.ble (dq3 + 1) 44 = true ∧ Mx (zL z) (zD z) (zB z) yX12_isType cX12_isType 2 (some .boolean) dq3 0 0 [.ref ((zB z).size + 64), .int v2] Gq1 Iq1 Lq1 postq3 ∧ ∀ (roq3 : Option Value) (Gq3 : amG) (Iq3 : amI) (Lq3 : amL), postq3 roq3 Gq3 Iq3 Lq3 → ∃ (rq3 : Int32), roq3 = some (.int rq3) ∧ Lay Gq3 ∧ ((rq3 = 0) → post (some (.int (-1))) Gq3 Iq3 Lq3) ∧ ((¬ rq3 = 0) → ∃ (dq5 : Nat) (postq5 : amP), Nat.ble (dq5 + 1) 44 = true ∧ Mx (zL z) (zD z) (zB z) yX12_isType cX12_isType 2 (some .boolean) dq5 0 0 [.ref ((zB z).size + 64), .int v3] Gq3 Iq3 Lq3 postq5 ∧ ∀ (roq5 : Option Value) (Gq5 : amG) (Iq5 : amI) (Lq5 : amL), postq5 roq5 Gq5 Iq5 Lq5 → ∃ (rq5 : Int32), roq5 = some (.int rq5) ∧ Lay Gq5 ∧ ((¬ rq5 = 0) → vp_in v1 256 ∧ vp_in v1 256 ∧ (mOk Lq5) ∧ (vp_in ((Iq5 81 v1.toNatClampNeg) / (16 : Int32)) 16) ∧ Wx z 0 0 64 [(0, .ref ((zB z).size + 64)), (2, .int v2), (3, .int v3), (4, .int ((Iq5 81 v1.toNatClampNeg) / (16 : Int32))), (5, .int ((Iq5 81 v1.toNatClampNeg) - (Iq5 81 v1.toNatClampNeg) / (16 : Int32) * (16 : Int32))), (6, .int (m_iv Lq5 ((Iq5 81 v1.toNatClampNeg) / (16 : Int32)) ((Iq5 81 v1.toNatClampNeg) - (Iq5 81 v1.toNatClampNeg) / (16 : Int32) * (16 : Int32)))), (7, .int 0), (8, .int 0)] [] Gq5 Iq5 Lq5) ∧ ((rq5 = 0) → post (some (.int (-1))) Gq5 Iq5 Lq5)))) : Wx z 0 0 0 [(0, .ref ((zB z).size + 64)), (1, .int v1), (2, .int v2), (3, .int v3)] [] G I L := by
  have hz1 := hz.1
  refine am_aload_n hz1 dX12_split_0 0 rfl rfl ?_
  refine am_iload_n hz1 dX12_split_1 1 rfl rfl ?_
  obtain ⟨dq1, postq1, hdq1, hMq1, h⟩ := h
  refine am_callV hz1 cv_X12_443 [.int v1] [] hMq1 (ln_64 hG) (lk_64 hG) rfl rfl (hz.fr hdq1) (hz.lo hdq1) (by rw [hz.2.1]; exact ⟨Nat.le_refl _, Nat.le_refl _⟩) (Nat.le_of_ble_eq_true rfl) dX12_split_2 (fun roq1 Gq1 Iq1 Lq1 hpq1 => ?_)
  obtain ⟨rq1, rfl, hGq1, h⟩ := h roq1 Gq1 Iq1 Lq1 hpq1
  refine am_if_eq (tgt := 24) hz1 dX12_split_5 (by decide) (fun c2 => ?_) (fun c2 => ?_)
  · replace h := h.1 c2
    refine am_iconst (v := (-1)) hz1 dX12_split_24 (by decide) ?_
    exact am_ireturn hz dX12_split_25 h
  · replace h := h.2 c2
    refine am_aload_n hz1 dX12_split_8 0 rfl rfl ?_
    refine am_iload_n hz1 dX12_split_9 2 rfl rfl ?_
    obtain ⟨dq3, postq3, hdq3, hMq3, h⟩ := h
    refine am_callV hz1 cv_X12_443 [.int v2] [] hMq3 (ln_64 hGq1) (lk_64 hGq1) rfl rfl (hz.fr hdq3) (hz.lo hdq3) (by rw [hz.2.1]; exact ⟨Nat.le_refl _, Nat.le_refl _⟩) (Nat.le_of_ble_eq_true rfl) dX12_split_10 (fun roq3 Gq3 Iq3 Lq3 hpq3 => ?_)
    obtain ⟨rq3, rfl, hGq3, h⟩ := h roq3 Gq3 Iq3 Lq3 hpq3
    refine am_if_eq (tgt := 24) hz1 dX12_split_13 (by decide) (fun c4 => ?_) (fun c4 => ?_)
    · replace h := h.1 c4
      refine am_iconst (v := (-1)) hz1 dX12_split_24 (by decide) ?_
      exact am_ireturn hz dX12_split_25 h
    · replace h := h.2 c4
      refine am_aload_n hz1 dX12_split_16 0 rfl rfl ?_
      refine am_iload_n hz1 dX12_split_17 3 rfl rfl ?_
      obtain ⟨dq5, postq5, hdq5, hMq5, h⟩ := h
      refine am_callV hz1 cv_X12_443 [.int v3] [] hMq5 (ln_64 hGq3) (lk_64 hGq3) rfl rfl (hz.fr hdq5) (hz.lo hdq5) (by rw [hz.2.1]; exact ⟨Nat.le_refl _, Nat.le_refl _⟩) (Nat.le_of_ble_eq_true rfl) dX12_split_18 (fun roq5 Gq5 Iq5 Lq5 hpq5 => ?_)
      obtain ⟨rq5, rfl, hGq5, h⟩ := h roq5 Gq5 Iq5 Lq5 hpq5
      refine am_if_ne (tgt := 26) hz1 dX12_split_21 (by decide) (fun c6 => ?_) (fun c6 => ?_)
      · replace h := h.1 c6
        refine am_aload_n hz1 dX12_split_26 0 rfl rfl ?_
        refine am_getR hz1 fl_X12_63 (ln_64 hGq5) (lk_64 hGq5) (lr_64_27 hGq5) rfl dX12_split_27 ?_
        refine am_iload_n hz1 dX12_split_30 1 rfl rfl ?_
        obtain ⟨g7, h⟩ := h
        refine am_iald hz1 (ln_81 hGq5) (lk_81 hGq5) (by rw [(ll_81 hGq5)]; exact g7) dX12_split_31 ?_
        refine am_bipush (v := 16) hz1 dX12_split_32 (by decide) ?_
        refine am_idiv hz1 dX12_split_34 (by decide) ?_
        refine am_istore (lv' := [(4, .int ((Iq5 81 v1.toNatClampNeg) / (16 : Int32))), (0, .ref ((zB z).size + 64)), (1, .int v1), (2, .int v2), (3, .int v3)]) hz1 dX12_split_35 rfl rfl ?_
        refine am_aload_n hz1 dX12_split_37 1 rfl rfl ?_
        refine am_getR hz1 fl_X12_63 (ln_64 hGq5) (lk_64 hGq5) (lr_64_27 hGq5) rfl dX12_split_38 ?_
        refine am_iload_n hz1 dX12_split_41 2 rfl rfl ?_
        obtain ⟨g9, h⟩ := h
        refine am_iald hz1 (ln_81 hGq5) (lk_81 hGq5) (by rw [(ll_81 hGq5)]; exact g9) dX12_split_42 ?_
        refine am_bipush (v := 16) hz1 dX12_split_43 (by decide) ?_
        refine am_irem hz1 dX12_split_45 (by decide) ?_
        refine am_istore (lv' := [(5, .int ((Iq5 81 v1.toNatClampNeg) - (Iq5 81 v1.toNatClampNeg) / (16 : Int32) * (16 : Int32))), (4, .int ((Iq5 81 v1.toNatClampNeg) / (16 : Int32))), (0, .ref ((zB z).size + 64)), (1, .int v1), (2, .int v2), (3, .int v3)]) hz1 dX12_split_46 rfl rfl ?_
        refine am_aload_n hz1 dX12_split_48 2 rfl rfl ?_
        refine am_iload hz1 dX12_split_49 1 rfl ?_
        refine am_iload hz1 dX12_split_51 0 rfl ?_
        obtain ⟨g11, h⟩ := h
        obtain ⟨g12, h⟩ := h
        refine am_cVf hz cv_X12_107 [.int ((Iq5 81 v1.toNatClampNeg) / (16 : Int32)), .int ((Iq5 81 v1.toNatClampNeg) - (Iq5 81 v1.toNatClampNeg) / (16 : Int32) * (16 : Int32))] [] (c_X12_interval hGq5 ((Iq5 81 v1.toNatClampNeg) / (16 : Int32)) ((Iq5 81 v1.toNatClampNeg) - (Iq5 81 v1.toNatClampNeg) / (16 : Int32) * (16 : Int32)) g11 g12) (ln_64 hGq5) (lk_64 hGq5) rfl rfl rfl ⟨Nat.le_refl _, Nat.le_refl _⟩ (Nat.le_of_ble_eq_true rfl) dX12_split_53 ?_
        refine am_istore (lv' := [(6, .int (m_iv Lq5 ((Iq5 81 v1.toNatClampNeg) / (16 : Int32)) ((Iq5 81 v1.toNatClampNeg) - (Iq5 81 v1.toNatClampNeg) / (16 : Int32) * (16 : Int32)))), (5, .int ((Iq5 81 v1.toNatClampNeg) - (Iq5 81 v1.toNatClampNeg) / (16 : Int32) * (16 : Int32))), (4, .int ((Iq5 81 v1.toNatClampNeg) / (16 : Int32))), (0, .ref ((zB z).size + 64)), (1, .int v1), (2, .int v2), (3, .int v3)]) hz1 dX12_split_56 rfl rfl ?_
        refine am_iconst (v := 0) hz1 dX12_split_58 (by decide) ?_
        refine am_istore (lv' := [(7, .int 0), (6, .int (m_iv Lq5 ((Iq5 81 v1.toNatClampNeg) / (16 : Int32)) ((Iq5 81 v1.toNatClampNeg) - (Iq5 81 v1.toNatClampNeg) / (16 : Int32) * (16 : Int32)))), (5, .int ((Iq5 81 v1.toNatClampNeg) - (Iq5 81 v1.toNatClampNeg) / (16 : Int32) * (16 : Int32))), (4, .int ((Iq5 81 v1.toNatClampNeg) / (16 : Int32))), (0, .ref ((zB z).size + 64)), (1, .int v1), (2, .int v2), (3, .int v3)]) hz1 dX12_split_59 rfl rfl ?_
        refine am_iconst (v := 0) hz1 dX12_split_61 (by decide) ?_
        refine am_istore (lv' := [(8, .int 0), (7, .int 0), (6, .int (m_iv Lq5 ((Iq5 81 v1.toNatClampNeg) / (16 : Int32)) ((Iq5 81 v1.toNatClampNeg) - (Iq5 81 v1.toNatClampNeg) / (16 : Int32) * (16 : Int32)))), (5, .int ((Iq5 81 v1.toNatClampNeg) - (Iq5 81 v1.toNatClampNeg) / (16 : Int32) * (16 : Int32))), (4, .int ((Iq5 81 v1.toNatClampNeg) / (16 : Int32))), (0, .ref ((zB z).size + 64)), (1, .int v1), (2, .int v2), (3, .int v3)]) hz1 dX12_split_62 rfl rfl ?_
        exact am_sub (lv' := [(0, .ref ((zB z).size + 64)), (2, .int v2), (3, .int v3), (4, .int ((Iq5 81 v1.toNatClampNeg) / (16 : Int32))), (5, .int ((Iq5 81 v1.toNatClampNeg) - (Iq5 81 v1.toNatClampNeg) / (16 : Int32) * (16 : Int32))), (6, .int (m_iv Lq5 ((Iq5 81 v1.toNatClampNeg) / (16 : Int32)) ((Iq5 81 v1.toNatClampNeg) - (Iq5 81 v1.toNatClampNeg) / (16 : Int32) * (16 : Int32)))), (7, .int 0), (8, .int 0)]) [5, 7, 8, 4, 3, 2, 1, 0] rfl h
      · replace h := h.2 c6
        refine am_iconst (v := (-1)) hz1 dX12_split_24 (by decide) ?_
        exact am_ireturn hz dX12_split_25 h
set_option maxRecDepth 100000 in
set_option maxHeartbeats 4000000 in
theorem b_X12_split_64 {z : amZ} {post : amP} {G : amG} {I : amI} {L : amL} (hz : Go z cX12_split RX12 9 (some .int) 44 0 0 post) (hG : Lay G) {v2 : Int32} {v3 : Int32} {v4 : Int32} {v5 : Int32} {v6 : Int32} {v7 : Int32} {v8 : Int32} (h : (((m_many L) ≤ v8) → post (some (.int v7)) G I L) ∧ ((¬ (m_many L) ≤ v8) → ((m_has v6 v8 = false) → Wx z 0 0 64 [(0, .ref ((zB z).size + 64)), (2, .int v2), (3, .int v3), (4, .int v4), (5, .int v5), (6, .int v6), (7, .int v7), (8, .int (v8 + 1))] [] G I L) ∧ ((m_has v6 v8 = true) → vp_in (((16 : Int32) * v4) + v8) 256 ∧ ((¬ (I 80 (((16 : Int32) * v4) + v8).toNatClampNeg) = v2) → Wx z 0 0 64 [(0, .ref ((zB z).size + 64)), (2, .int v2), (3, .int v3), (4, .int v4), (5, .int v5), (6, .int v6), (7, .int v7), (8, .int (v8 + 1))] [] G I L) ∧ (((I 80 (((16 : Int32) * v4) + v8).toNatClampNeg) = v2) → vp_in (((16 : Int32) * v8) + v5) 256 ∧ ((¬ (I 80 (((16 : Int32) * v8) + v5).toNatClampNeg) = v3) → Wx z 0 0 64 [(0, .ref ((zB z).size + 64)), (2, .int v2), (3, .int v3), (4, .int v4), (5, .int v5), (6, .int v6), (7, .int v7), (8, .int (v8 + 1))] [] G I L) ∧ (((I 80 (((16 : Int32) * v8) + v5).toNatClampNeg) = v3) → Wx z 0 0 64 [(0, .ref ((zB z).size + 64)), (2, .int v2), (3, .int v3), (4, .int v4), (5, .int v5), (6, .int v6), (7, .int (v7 + 1)), (8, .int (v8 + 1))] [] G I L))))) : Wx z 0 0 64 [(0, .ref ((zB z).size + 64)), (2, .int v2), (3, .int v3), (4, .int v4), (5, .int v5), (6, .int v6), (7, .int v7), (8, .int v8)] [] G I L := by
  have hz1 := hz.1
  refine am_iload hz1 dX12_split_64 7 rfl ?_
  refine am_aload_n hz1 dX12_split_66 0 rfl rfl ?_
  refine am_cVf hz cv_X12_78 [] [.int v8] (c_X12_many hG  ) (ln_64 hG) (lk_64 hG) rfl rfl rfl ⟨Nat.le_refl _, Nat.le_refl _⟩ (Nat.le_of_ble_eq_true rfl) dX12_split_67 ?_
  refine am_icmp_ge (tgt := 126) hz1 dX12_split_70 (by decide) (fun c1 => ?_) (fun c1 => ?_)
  · replace h := h.1 c1
    refine am_iload hz1 dX12_split_126 6 rfl ?_
    exact am_ireturn hz dX12_split_128 h
  · replace h := h.2 c1
    refine am_iload hz1 dX12_split_73 5 rfl ?_
    refine am_iload hz1 dX12_split_75 7 rfl ?_
    refine am_cSf hz ct_X12_90 [.int v6, .int v8] [] (c_X12_has hG v6 v8 ) rfl rfl rfl ⟨Nat.le_refl _, Nat.le_refl _⟩ (Nat.le_of_ble_eq_true rfl) dX12_split_77 ?_
    refine am_ifb_eq (tgt := 120) hz1 dX12_split_80 (by decide) (fun c2 => ?_) (fun c2 => ?_)
    · replace h := h.1 c2
      refine am_iinc (v := v8 + 1) (lv' := [(8, .int (v8 + 1)), (0, .ref ((zB z).size + 64)), (2, .int v2), (3, .int v3), (4, .int v4), (5, .int v5), (6, .int v6), (7, .int v7)]) hz1 dX12_split_120 7 rfl rfl rfl rfl ?_
      refine am_goto (tgt := 64) hz1 dX12_split_123 (by decide) ?_
      exact am_sub (lv' := [(0, .ref ((zB z).size + 64)), (2, .int v2), (3, .int v3), (4, .int v4), (5, .int v5), (6, .int v6), (7, .int v7), (8, .int (v8 + 1))]) [1, 2, 3, 4, 5, 6, 7, 0] rfl h
    · replace h := h.2 c2
      refine am_aload_n hz1 dX12_split_83 0 rfl rfl ?_
      refine am_getR hz1 fl_X12_60 (ln_64 hG) (lk_64 hG) (lr_64_26 hG) rfl dX12_split_84 ?_
      refine am_bipush (v := 16) hz1 dX12_split_87 (by decide) ?_
      refine am_iload hz1 dX12_split_89 3 rfl ?_
      refine am_imul hz1 dX12_split_91 ?_
      refine am_iload hz1 dX12_split_92 7 rfl ?_
      refine am_iadd hz1 dX12_split_94 ?_
      obtain ⟨g3, h⟩ := h
      refine am_iald hz1 (ln_80 hG) (lk_80 hG) (by rw [(ll_80 hG)]; exact g3) dX12_split_95 ?_
      refine am_iload_n hz1 dX12_split_96 1 rfl rfl ?_
      refine am_icmp_ne (tgt := 120) hz1 dX12_split_97 (by decide) (fun c4 => ?_) (fun c4 => ?_)
      · replace h := h.1 c4
        refine am_iinc (v := v8 + 1) (lv' := [(8, .int (v8 + 1)), (0, .ref ((zB z).size + 64)), (2, .int v2), (3, .int v3), (4, .int v4), (5, .int v5), (6, .int v6), (7, .int v7)]) hz1 dX12_split_120 7 rfl rfl rfl rfl ?_
        refine am_goto (tgt := 64) hz1 dX12_split_123 (by decide) ?_
        exact am_sub (lv' := [(0, .ref ((zB z).size + 64)), (2, .int v2), (3, .int v3), (4, .int v4), (5, .int v5), (6, .int v6), (7, .int v7), (8, .int (v8 + 1))]) [1, 2, 3, 4, 5, 6, 7, 0] rfl h
      · replace h := h.2 c4
        refine am_aload_n hz1 dX12_split_100 0 rfl rfl ?_
        refine am_getR hz1 fl_X12_60 (ln_64 hG) (lk_64 hG) (lr_64_26 hG) rfl dX12_split_101 ?_
        refine am_bipush (v := 16) hz1 dX12_split_104 (by decide) ?_
        refine am_iload hz1 dX12_split_106 7 rfl ?_
        refine am_imul hz1 dX12_split_108 ?_
        refine am_iload hz1 dX12_split_109 4 rfl ?_
        refine am_iadd hz1 dX12_split_111 ?_
        obtain ⟨g5, h⟩ := h
        refine am_iald hz1 (ln_80 hG) (lk_80 hG) (by rw [(ll_80 hG)]; exact g5) dX12_split_112 ?_
        refine am_iload_n hz1 dX12_split_113 2 rfl rfl ?_
        refine am_icmp_ne (tgt := 120) hz1 dX12_split_114 (by decide) (fun c6 => ?_) (fun c6 => ?_)
        · replace h := h.1 c6
          refine am_iinc (v := v8 + 1) (lv' := [(8, .int (v8 + 1)), (0, .ref ((zB z).size + 64)), (2, .int v2), (3, .int v3), (4, .int v4), (5, .int v5), (6, .int v6), (7, .int v7)]) hz1 dX12_split_120 7 rfl rfl rfl rfl ?_
          refine am_goto (tgt := 64) hz1 dX12_split_123 (by decide) ?_
          exact am_sub (lv' := [(0, .ref ((zB z).size + 64)), (2, .int v2), (3, .int v3), (4, .int v4), (5, .int v5), (6, .int v6), (7, .int v7), (8, .int (v8 + 1))]) [1, 2, 3, 4, 5, 6, 7, 0] rfl h
        · replace h := h.2 c6
          refine am_iinc (v := v7 + 1) (lv' := [(7, .int (v7 + 1)), (0, .ref ((zB z).size + 64)), (2, .int v2), (3, .int v3), (4, .int v4), (5, .int v5), (6, .int v6), (8, .int v8)]) hz1 dX12_split_117 6 rfl rfl rfl rfl ?_
          refine am_iinc (v := v8 + 1) (lv' := [(8, .int (v8 + 1)), (7, .int (v7 + 1)), (0, .ref ((zB z).size + 64)), (2, .int v2), (3, .int v3), (4, .int v4), (5, .int v5), (6, .int v6)]) hz1 dX12_split_120 7 rfl rfl rfl rfl ?_
          refine am_goto (tgt := 64) hz1 dX12_split_123 (by decide) ?_
          exact am_sub (lv' := [(0, .ref ((zB z).size + 64)), (2, .int v2), (3, .int v3), (4, .int v4), (5, .int v5), (6, .int v6), (7, .int (v7 + 1)), (8, .int (v8 + 1))]) [2, 3, 4, 5, 6, 7, 1, 0] rfl h
set_option maxRecDepth 100000 in
set_option maxHeartbeats 4000000 in
theorem c_X12_split {l : Launch} {D : va_G} {B : Heap} {G : amG} {I : amI} {L : amL}  (hG : Lay G)  (v1 : Int32) (v2 : Int32) (v3 : Int32) {s : St} (hs : RI s I L) (hw : WF s) : Mx l D B yX12_split cX12_split 9 (some .int) 44 0 0 [.ref (B.size + 64), .int v1, .int v2, .int v3] G I L (fun r G1 I1 L1 => r = some (.int (aSplit s v1 v2 v3)) ∧ G1 = G ∧ RI s I1 L1 ∧ frM I L I1 L1) := by
  refine Mx.of (by decide) rfl rfl (fun z e1 e2 e3 hz => ?_)
  subst e1; subst e2; subst e3
  refine b_X12_split_0 hz hG ?_
  have hM := hs.1.mo
  have h16 := hM.2.1
  have hP := hM.2.2.1
  have h136 := (tyO_I hP h16).1
  refine ⟨43, _, rfl, c_X12_isType hG _ hM hs.2.2.2.2.2.2.2.2, fun ro G2 I2 L2 ⟨r1, r2, r3, r4, r5⟩ => ⟨_, r1, by rw [r2]; exact hG, fun q => ⟨?_, r2, by rw [r3]; exact RI_T hs r5 r4, by rw [r3]; exact frT_M r5⟩, fun q => ?_⟩⟩
  · rw [bI_z, isT_B hP h16] at q
    rw [aSplit, if_neg (by rw [q]; simp)]
  rw [r2, r3]
  refine ⟨43, _, rfl, c_X12_isType hG _ hM (Or.inr r4), fun ro2 G3 I3 L3 ⟨t1, t2, t3, t4, t5⟩ => ⟨_, t1, by rw [t2]; exact hG, fun q2 => ⟨?_, t2, by rw [t3]; exact RI_T (RI_T hs r5 r4) t5 t4, by rw [t3]; exact frT_M (frT_t r5 t5)⟩, fun q2 => ?_⟩⟩
  · rw [bI_z, isT_B hP h16] at q2
    rw [aSplit, if_neg (by rw [q2]; simp)]
  rw [t2, t3]
  refine ⟨43, _, rfl, c_X12_isType hG _ hM (Or.inr t4), fun ro3 G4 I4 L4 ⟨u1, u2, u3, u4, u5⟩ => ⟨_, u1, by rw [u2]; exact hG, fun q3 => ?_, fun q3 => ⟨?_, u2, by rw [u3]; exact RI_T (RI_T (RI_T hs r5 r4) t5 t4) u5 u4, by rw [u3]; exact frT_M (frT_t (frT_t r5 t5) u5)⟩⟩⟩
  · rw [bI_nz, isT_B hP h16] at q q2 q3
    obtain ⟨t, ht, rfl⟩ := (el_t (by omega)).mp q
    obtain ⟨a, b, ha, hb, hl, hfs⟩ := (tyO_I hP h16).2 t ht
    have hcond : (elB (tyO (rN (sC s)) (rA (sC s))).tm (nI t) && (elB (tyO (rN (sC s)) (rA (sC s))).tm v2 && elB (tyO (rN (sC s)) (rA (sC s))).tm v3)) = true := by rw [q, q2, q3]; rfl
    have d1 : I4 81 (nI t).toNatClampNeg = nI (16 * a + b) := by rw [cl_nI (by omega), u4.2.2.2 t ht, hfs]
    have d2 : nI (16 * a + b) / (16 : Int32) = nI a := by
      rw [show (16 : Int32) = nI 16 from rfl, nI_div (by omega) (by decide) (by decide), show (16 * a + b) / 16 = a by omega]
    have d3 : nI (16 * a + b) - nI (16 * a + b) / (16 : Int32) * 16 = nI b := by
      have := nI_rem (a := 16 * a + b) (b := 16) (by omega) (by decide) (by decide)
      rw [show (16 * a + b) % 16 = b by omega] at this
      exact this
    rw [u2, u3, d1, d3, d2, hM.iv ha hb]
    refine ⟨in_nI (by omega) (by decide), in_nI (by omega) (by decide), ⟨_, _, hM⟩, in16 h16 ha, ?_⟩
    have hsp : ∀ x, x < rN (sC s) → spC (rN (sC s)) (rA (sC s)) t v2 v3 x = (bt (ivS (rN (sC s)) (rA (sC s)) a b) x && (decide (I4 80 (16 * a + x) = v2) && decide (I4 80 (16 * x + b) = v3))) := by
      intro x hx
      rw [spC, hfs, show (16 * a + b) / 16 = a by omega, show (16 * a + b) % 16 = b by omega]
      cases e : bt (ivS (rN (sC s)) (rA (sC s)) a b) x
      · rfl
      · rw [iv_b (by omega) hb (by omega), Bool.and_eq_true, Bool.and_eq_true] at e
        rw [u4.2.2.1 a x ha hx e.2.1 (by omega), u4.2.2.1 x b hx hb e.2.2 (by omega)]
    refine for_up (P := fun i => Wx z 0 0 64 [(0, .ref ((zB z).size + 64)), (2, .int v2), (3, .int v3), (4, .int (nI a)), (5, .int (nI b)), (6, .int (ivS (rN (sC s)) (rA (sC s)) a b)), (7, .int (cntI (spC (rN (sC s)) (rA (sC s)) t v2 v3) i)), (8, .int (nI i))] [] G I4 L) (n := rN (sC s)) ?_ ?_ (Nat.zero_le _)
    · exact b_X12_split_64 hz hG ⟨fun _ => ⟨by rw [aSplit, if_pos hcond, cl_nI (by omega)], rfl, RI_T (RI_T (RI_T hs r5 r4) t5 t4) u5 u4, frT_M (frT_t (frT_t r5 t5) u5)⟩, fun g => absurd (mm_le hM) g⟩
    · intro i hi ih
      have hsi := hsp i hi
      refine b_X12_split_64 hz hG ⟨fun g => absurd g (mm_ge hM hi), fun _ => ?_⟩
      rw [c16, c16, cl_nI (n := 16 * a + i) (by omega), cl_nI (n := 16 * i + b) (by omega), has_b (by omega), nI_1]
      refine ⟨fun g => ?_, fun g => ⟨in_nI (by omega) (by decide), fun g2 => ?_, fun g2 => ⟨in_nI (by omega) (by decide), fun g3 => ?_, fun g3 => ?_⟩⟩⟩
      · rw [cntI, if_neg (by rw [hsi, g]; simp)] at ih
        exact ih
      · rw [cntI, if_neg (by rw [hsi, decide_eq_false g2]; simp)] at ih
        exact ih
      · rw [cntI, if_neg (by rw [hsi, decide_eq_false g3]; simp)] at ih
        exact ih
      · rw [cntI, if_pos (by rw [hsi, g, decide_eq_true g2, decide_eq_true g3]; rfl)] at ih
        exact ih
  · rw [bI_z, isT_B hP h16] at q3
    rw [aSplit, if_neg (by rw [q3]; simp)]
noncomputable def aReduced (s : St) (f t : Int32) : Int64 := if (inR 3 f && (elB (tyO (rN (sC s)) (rA (sC s))).tm t && rdM (rN (sC s)) (rA (sC s)) (fun k => rF (sC s) (256 * f.toNatClampNeg + k)))) = true then rF (sC s) (256 * f.toNatClampNeg + (tyO (rN (sC s)) (rA (sC s))).fs t.toNatClampNeg) else -9223372036854775808
theorem rdM_c {n : Nat} {A : Nat → Int32} (hP : PO n A) (h16 : n ≤ 16) {F F' : Nat → Int64} (h : ∀ k, k < 256 → F k = F' k) : rdM n A F = rdM n A F' := by
  rw [rdM, rdM]
  refine scan_cong _ _ (fun a _ ha => ⟨?_, rfl⟩)
  rw [rdM1, rdM1]
  refine scan_cong _ _ (fun b _ hb => ⟨?_, rfl⟩)
  rw [rdP, rdP]
  cases e : le A a b
  · rfl
  · rw [h _ (by omega), h _ (fs_256 hP h16 (tyO_lt h16 (by omega) (by omega) e))]
set_option maxRecDepth 100000 in
set_option maxHeartbeats 4000000 in
theorem b_X12_reduced_0 {z : amZ} {post : amP} {G : amG} {I : amI} {L : amL} (hz : Go z cX12_reduced RX12 3 (some .long) 44 0 0 post) (hG : Lay G) {v1 : Int32} {v2 : Int32} (h : ((m_isIn v1.toInt64 0 3 = false) → post (some (.long (-9223372036854775808 : Int64))) G I L) ∧ ((m_isIn v1.toInt64 0 3 = true) → ∃ (dq2 : Nat) (postq2 : amP), Nat.ble (dq2 + 1) 44 = true ∧ Mx (zL z) (zD z) (zB z) yX12_isType cX12_isType 2 (some .boolean) dq2 0 0 [.ref ((zB z).size + 64), .int v2] G I L postq2 ∧ ∀ (roq2 : Option Value) (Gq2 : amG) (Iq2 : amI) (Lq2 : amL), postq2 roq2 Gq2 Iq2 Lq2 → ∃ (rq2 : Int32), roq2 = some (.int rq2) ∧ Lay Gq2 ∧ ((rq2 = 0) → post (some (.long (-9223372036854775808 : Int64))) Gq2 Iq2 Lq2) ∧ ((¬ rq2 = 0) → ∃ (dq4 : Nat) (postq4 : amP), Nat.ble (dq4 + 1) 44 = true ∧ Mx (zL z) (zD z) (zB z) yX12_isReduced cX12_isReduced 4 (some .boolean) dq4 0 0 [.ref ((zB z).size + 64), .int v1] Gq2 Iq2 Lq2 postq4 ∧ ∀ (roq4 : Option Value) (Gq4 : amG) (Iq4 : amI) (Lq4 : amL), postq4 roq4 Gq4 Iq4 Lq4 → ∃ (rq4 : Int32), roq4 = some (.int rq4) ∧ Lay Gq4 ∧ ((rq4 = 0) → post (some (.long (-9223372036854775808 : Int64))) Gq4 Iq4 Lq4) ∧ ((¬ rq4 = 0) → (fnOk v1) ∧ (vp_in v2 256) ∧ (vp_in (Iq4 81 v2.toNatClampNeg) 256) ∧ post (some (.long (Lq4 65 (17 + 256 * v1.toNatClampNeg + (Iq4 81 v2.toNatClampNeg).toNatClampNeg)))) Gq4 Iq4 Lq4)))) : Wx z 0 0 0 [(0, .ref ((zB z).size + 64)), (1, .int v1), (2, .int v2)] [] G I L := by
  have hz1 := hz.1
  refine am_iload_n hz1 dX12_reduced_0 1 rfl rfl ?_
  refine am_cSf hz ct_X12_290 [.int v1] [] (c_X12_isFunction hG v1 ) rfl rfl rfl ⟨Nat.le_refl _, Nat.le_refl _⟩ (Nat.le_of_ble_eq_true rfl) dX12_reduced_1 ?_
  refine am_ifb_eq (tgt := 32) hz1 dX12_reduced_4 (by decide) (fun c1 => ?_) (fun c1 => ?_)
  · replace h := h.1 c1
    refine am_ldc2 hz1 kc_X12_269 dX12_reduced_32 ?_
    exact am_lreturn hz dX12_reduced_35 h
  · replace h := h.2 c1
    refine am_aload_n hz1 dX12_reduced_7 0 rfl rfl ?_
    refine am_iload_n hz1 dX12_reduced_8 2 rfl rfl ?_
    obtain ⟨dq2, postq2, hdq2, hMq2, h⟩ := h
    refine am_callV hz1 cv_X12_443 [.int v2] [] hMq2 (ln_64 hG) (lk_64 hG) rfl rfl (hz.fr hdq2) (hz.lo hdq2) (by rw [hz.2.1]; exact ⟨Nat.le_refl _, Nat.le_refl _⟩) (Nat.le_of_ble_eq_true rfl) dX12_reduced_9 (fun roq2 Gq2 Iq2 Lq2 hpq2 => ?_)
    obtain ⟨rq2, rfl, hGq2, h⟩ := h roq2 Gq2 Iq2 Lq2 hpq2
    refine am_if_eq (tgt := 32) hz1 dX12_reduced_12 (by decide) (fun c3 => ?_) (fun c3 => ?_)
    · replace h := h.1 c3
      refine am_ldc2 hz1 kc_X12_269 dX12_reduced_32 ?_
      exact am_lreturn hz dX12_reduced_35 h
    · replace h := h.2 c3
      refine am_aload_n hz1 dX12_reduced_15 0 rfl rfl ?_
      refine am_iload_n hz1 dX12_reduced_16 1 rfl rfl ?_
      obtain ⟨dq4, postq4, hdq4, hMq4, h⟩ := h
      refine am_callV hz1 cv_X12_449 [.int v1] [] hMq4 (ln_64 hGq2) (lk_64 hGq2) rfl rfl (hz.fr hdq4) (hz.lo hdq4) (by rw [hz.2.1]; exact ⟨Nat.le_refl _, Nat.le_refl _⟩) (Nat.le_of_ble_eq_true rfl) dX12_reduced_17 (fun roq4 Gq4 Iq4 Lq4 hpq4 => ?_)
      obtain ⟨rq4, rfl, hGq4, h⟩ := h roq4 Gq4 Iq4 Lq4 hpq4
      refine am_if_eq (tgt := 32) hz1 dX12_reduced_20 (by decide) (fun c5 => ?_) (fun c5 => ?_)
      · replace h := h.1 c5
        refine am_ldc2 hz1 kc_X12_269 dX12_reduced_32 ?_
        exact am_lreturn hz dX12_reduced_35 h
      · replace h := h.2 c5
        refine am_aload_n hz1 dX12_reduced_23 0 rfl rfl ?_
        refine am_iload_n hz1 dX12_reduced_24 1 rfl rfl ?_
        refine am_iload_n hz1 dX12_reduced_25 2 rfl rfl ?_
        obtain ⟨g6, h⟩ := h
        obtain ⟨g7, h⟩ := h
        obtain ⟨g8, h⟩ := h
        refine am_cVf hz cv_X12_446 [.int v1, .int v2] [] (c_X12_valueOfType hGq4 v1 v2 g6 g7 g8) (ln_64 hGq4) (lk_64 hGq4) rfl rfl rfl ⟨Nat.le_refl _, Nat.le_refl _⟩ (Nat.le_of_ble_eq_true rfl) dX12_reduced_26 ?_
        refine am_goto (tgt := 35) hz1 dX12_reduced_29 (by decide) ?_
        exact am_lreturn hz dX12_reduced_35 h
set_option maxRecDepth 100000 in
set_option maxHeartbeats 4000000 in
theorem c_X12_reduced {l : Launch} {D : va_G} {B : Heap} {G : amG} {I : amI} {L : amL}  (hG : Lay G)  (v1 : Int32) (v2 : Int32) {s : St} (hs : RI s I L) (hw : WF s) : Mx l D B yX12_reduced cX12_reduced 3 (some .long) 44 0 0 [.ref (B.size + 64), .int v1, .int v2] G I L (fun r G1 I1 L1 => r = some (.long (aReduced s v1 v2)) ∧ G1 = G ∧ RI s I1 L1 ∧ frM I L I1 L1) := by
  refine Mx.of (by decide) rfl rfl (fun z e1 e2 e3 hz => ?_)
  subst e1; subst e2; subst e3
  refine b_X12_reduced_0 hz hG ?_
  have hM := hs.1.mo
  have h16 := hM.2.1
  have hP := hM.2.2.1
  have h136 := (tyO_I hP h16).1
  rw [isIn3]
  refine ⟨fun h => ⟨by rw [aReduced, if_neg (by rw [h]; simp)], rfl, hs, frM_r⟩, fun h => ?_⟩
  refine ⟨43, _, rfl, c_X12_isType hG _ hM hs.2.2.2.2.2.2.2.2, fun ro G2 I2 L2 ⟨r1, r2, r3, r4, r5⟩ => ⟨_, r1, by rw [r2]; exact hG, fun q => ⟨?_, r2, by rw [r3]; exact RI_T hs r5 r4, by rw [r3]; exact frT_M r5⟩, fun q => ?_⟩⟩
  · rw [bI_z, isT_B hP h16] at q
    rw [aReduced, if_neg (by rw [q]; simp)]
  obtain ⟨f, hf, rfl⟩ := fnR h
  have hrd : rdM (rN (sC s)) (rA (sC s)) (fun k => L 65 (17 + 256 * f + k)) = rdM (rN (sC s)) (rA (sC s)) (fun k => rF (sC s) (256 * (nI f).toNatClampNeg + k)) := rdM_c hP h16 (fun k hk => by rw [cl_nI (by omega), Nat.add_assoc, hs.1.2.1 _ (by omega)])
  rw [r2, r3]
  refine ⟨43, _, rfl, c_X12_isReduced hG _ hM (Or.inr r4) hf rfl, fun ro2 G3 I3 L3 ⟨t1, t2, t3, t4, t5⟩ => ⟨_, t1, by rw [t2]; exact hG, fun q2 => ⟨?_, t2, by rw [t3]; exact RI_T (RI_T hs r5 r4) t5 t4, by rw [t3]; exact frT_M (frT_t r5 t5)⟩, fun q2 => ?_⟩⟩
  · rw [bI_z, hrd] at q2
    rw [aReduced, if_neg (by rw [q2]; simp)]
  · rw [bI_nz, isT_B hP h16] at q
    rw [bI_nz, hrd] at q2
    obtain ⟨t, ht, rfl⟩ := (el_t (by omega)).mp q
    have hfs := fs_256 hP h16 ht
    have d1 : I3 81 (nI t).toNatClampNeg = nI ((tyO (rN (sC s)) (rA (sC s))).fs t) := by rw [cl_nI (by omega), t4.2.2.2 t ht]
    rw [t2, t3, d1]
    refine ⟨⟨f, hf, rfl⟩, in_nI (by omega) (by decide), in_nI hfs (by decide), ?_, rfl, RI_T (RI_T hs r5 r4) t5 t4, frT_M (frT_t r5 t5)⟩
    rw [aReduced, if_pos (by rw [h, q, q2]; rfl), cl_nI (n := f) (by omega), cl_nI (n := t) (by omega), cl_nI (n := (tyO (rN (sC s)) (rA (sC s))).fs t) (by omega), Nat.add_assoc, hs.1.2.1 _ (by omega)]
/-- sums of data, and whether one went beyond -/
def oD (f : Nat → Int64) (s : Int32) : Nat → Bool
  | 0 => false
  | i + 1 => oD f s i || (bt s i && q_ovc (sumS f s i) (f i))
theorem oD_c {f g : Nat → Int64} {s : Int32} : ∀ {n : Nat}, (∀ i, i < n → f i = g i) → oD f s n = oD g s n
  | 0, _ => rfl
  | n + 1, h => by rw [oD, oD, oD_c (fun i hi => h i (by omega)), h n (by omega), sumS_c (fun i hi _ => h i (by omega))]
def sdS (s : St) (e h : Int32) : Int32 := if h = 0 then dnS (rN (sC s)) (rA (sC s)) e.toNatClampNeg else upS (rA (sC s)) e.toNatClampNeg
def aSummed (s : St) (e h : Int32) : Int64 := if (elB (rN (sC s)) e && inR 1 h) = true then (if oD (rD (sC s)) (sdS s e h) (rN (sC s)) = true then -9223372036854775808 else sumS (rD (sC s)) (sdS s e h) (rN (sC s))) else -9223372036854775808
theorem RI_64 {s : St} {I : amI} {L : amL} {k : Nat} {x : Int32} (h : RI s I L) (h2 : k ≠ 2) (h5 : k ≠ 5) (h7 : k ≠ 7) (h24 : k ≠ 24) (h25 : k ≠ 25) : RI s (setI I 64 (upd (I 64) k x)) L :=
  RI_c h rfl rfl (setI_n (by decide)) (setI_n (by decide)) (setI_n (by decide)) (by rw [setI_s, upd_n (Ne.symm h2)]) (by rw [setI_s, upd_n (Ne.symm h5)]) (by rw [setI_s, upd_n (Ne.symm h7)]) (TyK_c (by rw [setI_s, upd_n (Ne.symm h24)]) (by rw [setI_s, upd_n (Ne.symm h25)]) (setI_n (by decide)) (setI_n (by decide)) h.2.2.2.2.2.2.2.2)
theorem RI_o {s : St} {I : amI} {L : amL} {c : Bool} (h : RI s I L) : RI s (oI I c) L := by
  unfold oI
  split
  · exact RI_64 h (by decide) (by decide) (by decide) (by decide) (by decide)
  · exact h
theorem frM_64 {I : amI} {L : amL} {f : Nat → Int32} : frM I L (setI I 64 f) L := frM_I (by decide) (by decide)
theorem frM_o {I : amI} {L : amL} {c : Bool} : frM I L (oI I c) L := fun p hp => ⟨oI_o (by omega), rfl⟩
set_option maxRecDepth 100000 in
set_option maxHeartbeats 4000000 in
theorem b_X12_summed_0 {z : amZ} {post : amP} {G : amG} {I : amI} {L : amL} (hz : Go z cX12_summed RX12 7 (some .long) 3 0 0 post) (hG : Lay G) {v1 : Int32} {v2 : Int32} (h : ((m_el L v1 = false) → post (some (.long (-9223372036854775808 : Int64))) G I L) ∧ ((m_el L v1 = true) → ((m_isIn v2.toInt64 (0 : Int64) (1 : Int64) = true) → ((¬ v2 = 0) → (vp_in v1 16) ∧ Wx z 0 0 51 [(0, .ref ((zB z).size + 64)), (3, .long (0 : Int64)), (5, .int (m_up L v1)), (6, .int 0)] [] G (setI I 64 (upd (I 64) 15 (0 : Int32))) L) ∧ ((v2 = 0) → (mOk L) ∧ Wx z 0 0 51 [(0, .ref ((zB z).size + 64)), (3, .long (0 : Int64)), (5, .int (m_dn L v1)), (6, .int 0)] [] G (setI I 64 (upd (I 64) 15 (0 : Int32))) L)) ∧ ((m_isIn v2.toInt64 (0 : Int64) (1 : Int64) = false) → post (some (.long (-9223372036854775808 : Int64))) G I L))) : Wx z 0 0 0 [(0, .ref ((zB z).size + 64)), (1, .int v1), (2, .int v2)] [] G I L := by
  have hz1 := hz.1
  refine am_aload_n hz1 dX12_summed_0 0 rfl rfl ?_
  refine am_iload_n hz1 dX12_summed_1 1 rfl rfl ?_
  refine am_cVf hz cv_X12_100 [.int v1] [] (c_X12_isElement hG v1 ) (ln_64 hG) (lk_64 hG) rfl rfl rfl ⟨Nat.le_refl _, Nat.le_refl _⟩ (Nat.le_of_ble_eq_true rfl) dX12_summed_2 ?_
  refine am_ifb_eq (tgt := 18) hz1 dX12_summed_5 (by decide) (fun c1 => ?_) (fun c1 => ?_)
  · replace h := h.1 c1
    refine am_ldc2 hz1 kc_X12_269 dX12_summed_18 ?_
    exact am_lreturn hz dX12_summed_21 h
  · replace h := h.2 c1
    refine am_iload_n hz1 dX12_summed_8 2 rfl rfl ?_
    refine am_i2l hz1 dX12_summed_9 ?_
    refine am_lconst (v := 0) hz1 dX12_summed_10 (by decide) ?_
    refine am_lconst (v := 1) hz1 dX12_summed_11 (by decide) ?_
    refine am_cSf hz ct_X12_82 [.long v2.toInt64, .long (0 : Int64), .long (1 : Int64)] [] (c_X12_isIn hG v2.toInt64 (0 : Int64) (1 : Int64) ) rfl rfl rfl ⟨Nat.le_refl _, Nat.le_refl _⟩ (Nat.le_of_ble_eq_true rfl) dX12_summed_12 ?_
    refine am_ifb_ne (tgt := 22) hz1 dX12_summed_15 (by decide) (fun c2 => ?_) (fun c2 => ?_)
    · replace h := h.1 c2
      refine am_aload_n hz1 dX12_summed_22 0 rfl rfl ?_
      refine am_iconst (v := 0) hz1 dX12_summed_23 (by decide) ?_
      refine am_putI hz1 fl_X12_271 (ln_64 hG) (lk_64 hG) rfl rfl (fun _ => rfl) dX12_summed_24 ?_
      refine am_lconst (v := 0) hz1 dX12_summed_27 (by decide) ?_
      refine am_lstore_n (lv' := [(3, .long (0 : Int64)), (0, .ref ((zB z).size + 64)), (1, .int v1), (2, .int v2)]) hz1 dX12_summed_28 rfl rfl rfl ?_
      refine am_iload_n hz1 dX12_summed_29 3 rfl rfl ?_
      refine am_if_ne (tgt := 41) hz1 dX12_summed_30 (by decide) (fun c3 => ?_) (fun c3 => ?_)
      · replace h := h.1 c3
        refine am_aload_n hz1 dX12_summed_41 1 rfl rfl ?_
        refine am_iload_n hz1 dX12_summed_42 2 rfl rfl ?_
        obtain ⟨g4, h⟩ := h
        refine am_cVf hz cv_X12_86 [.int v1] [] (c_X12_up hG v1 g4) (ln_64 hG) (lk_64 hG) rfl rfl rfl ⟨Nat.le_refl _, Nat.le_refl _⟩ (Nat.le_of_ble_eq_true rfl) dX12_summed_43 ?_
        refine am_istore (lv' := [(5, .int (m_up L v1)), (3, .long (0 : Int64)), (0, .ref ((zB z).size + 64)), (1, .int v1), (2, .int v2)]) hz1 dX12_summed_46 rfl rfl ?_
        refine am_iconst (v := 0) hz1 dX12_summed_48 (by decide) ?_
        refine am_istore (lv' := [(6, .int 0), (5, .int (m_up L v1)), (3, .long (0 : Int64)), (0, .ref ((zB z).size + 64)), (1, .int v1), (2, .int v2)]) hz1 dX12_summed_49 rfl rfl ?_
        exact am_sub (lv' := [(0, .ref ((zB z).size + 64)), (3, .long (0 : Int64)), (5, .int (m_up L v1)), (6, .int 0)]) [3, 2, 1, 0] rfl h
      · replace h := h.2 c3
        refine am_aload_n hz1 dX12_summed_33 1 rfl rfl ?_
        refine am_iload_n hz1 dX12_summed_34 2 rfl rfl ?_
        obtain ⟨g5, h⟩ := h
        refine am_cVf hz cv_X12_97 [.int v1] [] (c_X12_down hG v1 g5) (ln_64 hG) (lk_64 hG) rfl rfl rfl ⟨Nat.le_refl _, Nat.le_refl _⟩ (Nat.le_of_ble_eq_true rfl) dX12_summed_35 ?_
        refine am_goto (tgt := 46) hz1 dX12_summed_38 (by decide) ?_
        refine am_istore (lv' := [(5, .int (m_dn L v1)), (3, .long (0 : Int64)), (0, .ref ((zB z).size + 64)), (1, .int v1), (2, .int v2)]) hz1 dX12_summed_46 rfl rfl ?_
        refine am_iconst (v := 0) hz1 dX12_summed_48 (by decide) ?_
        refine am_istore (lv' := [(6, .int 0), (5, .int (m_dn L v1)), (3, .long (0 : Int64)), (0, .ref ((zB z).size + 64)), (1, .int v1), (2, .int v2)]) hz1 dX12_summed_49 rfl rfl ?_
        exact am_sub (lv' := [(0, .ref ((zB z).size + 64)), (3, .long (0 : Int64)), (5, .int (m_dn L v1)), (6, .int 0)]) [3, 2, 1, 0] rfl h
    · replace h := h.2 c2
      refine am_ldc2 hz1 kc_X12_269 dX12_summed_18 ?_
      exact am_lreturn hz dX12_summed_21 h
set_option maxRecDepth 100000 in
set_option maxHeartbeats 4000000 in
theorem b_X12_summed_51 {z : amZ} {post : amP} {G : amG} {I : amI} {L : amL} (hz : Go z cX12_summed RX12 7 (some .long) 3 0 0 post) (hG : Lay G) {v3 : Int64} {v5 : Int32} {v6 : Int32} (h : (((m_many L) ≤ v6) → (((I 64 15) = 0) → post (some (.long v3)) G I L) ∧ ((¬ (I 64 15) = 0) → post (some (.long (-9223372036854775808 : Int64))) G I L)) ∧ ((¬ (m_many L) ≤ v6) → ((m_has v5 v6 = false) → Wx z 0 0 51 [(0, .ref ((zB z).size + 64)), (3, .long v3), (5, .int v5), (6, .int (v6 + 1))] [] G I L) ∧ ((m_has v5 v6 = true) → vp_in ((1041 : Int32) + v6) 1074 ∧ Wx z 0 0 51 [(0, .ref ((zB z).size + 64)), (3, .long (v3 + (L 65 ((1041 : Int32) + v6).toNatClampNeg))), (5, .int v5), (6, .int (v6 + 1))] [] G (oI I (q_ovc v3 (L 65 ((1041 : Int32) + v6).toNatClampNeg))) L))) : Wx z 0 0 51 [(0, .ref ((zB z).size + 64)), (3, .long v3), (5, .int v5), (6, .int v6)] [] G I L := by
  have hz1 := hz.1
  refine am_iload hz1 dX12_summed_51 3 rfl ?_
  refine am_aload_n hz1 dX12_summed_53 0 rfl rfl ?_
  refine am_cVf hz cv_X12_78 [] [.int v6] (c_X12_many hG  ) (ln_64 hG) (lk_64 hG) rfl rfl rfl ⟨Nat.le_refl _, Nat.le_refl _⟩ (Nat.le_of_ble_eq_true rfl) dX12_summed_54 ?_
  refine am_icmp_ge (tgt := 93) hz1 dX12_summed_57 (by decide) (fun c1 => ?_) (fun c1 => ?_)
  · replace h := h.1 c1
    refine am_aload_n hz1 dX12_summed_93 0 rfl rfl ?_
    refine am_getI hz1 fl_X12_271 (ln_64 hG) (lk_64 hG) rfl dX12_summed_94 ?_
    refine am_if_eq (tgt := 106) hz1 dX12_summed_97 (by decide) (fun c2 => ?_) (fun c2 => ?_)
    · replace h := h.1 c2
      refine am_lload_n hz1 dX12_summed_106 1 rfl rfl ?_
      exact am_lreturn hz dX12_summed_107 h
    · replace h := h.2 c2
      refine am_ldc2 hz1 kc_X12_269 dX12_summed_100 ?_
      refine am_goto (tgt := 107) hz1 dX12_summed_103 (by decide) ?_
      exact am_lreturn hz dX12_summed_107 h
  · replace h := h.2 c1
    refine am_iload hz1 dX12_summed_60 2 rfl ?_
    refine am_iload hz1 dX12_summed_62 3 rfl ?_
    refine am_cSf hz ct_X12_90 [.int v5, .int v6] [] (c_X12_has hG v5 v6 ) rfl rfl rfl ⟨Nat.le_refl _, Nat.le_refl _⟩ (Nat.le_of_ble_eq_true rfl) dX12_summed_64 ?_
    refine am_ifb_eq (tgt := 87) hz1 dX12_summed_67 (by decide) (fun c3 => ?_) (fun c3 => ?_)
    · replace h := h.1 c3
      refine am_iinc (v := v6 + 1) (lv' := [(6, .int (v6 + 1)), (0, .ref ((zB z).size + 64)), (3, .long v3), (5, .int v5)]) hz1 dX12_summed_87 3 rfl rfl rfl rfl ?_
      refine am_goto (tgt := 51) hz1 dX12_summed_90 (by decide) ?_
      exact am_sub (lv' := [(0, .ref ((zB z).size + 64)), (3, .long v3), (5, .int v5), (6, .int (v6 + 1))]) [1, 2, 3, 0] rfl h
    · replace h := h.2 c3
      refine am_aload_n hz1 dX12_summed_70 0 rfl rfl ?_
      refine am_lload_n hz1 dX12_summed_71 1 rfl rfl ?_
      refine am_aload_n hz1 dX12_summed_72 0 rfl rfl ?_
      refine am_getR hz1 fl_X12_9 (ln_64 hG) (lk_64 hG) (lr_64_0 hG) rfl dX12_summed_73 ?_
      refine am_sipush (v := 1041) hz1 dX12_summed_76 (by decide) ?_
      refine am_iload hz1 dX12_summed_79 3 rfl ?_
      refine am_iadd hz1 dX12_summed_81 ?_
      obtain ⟨g4, h⟩ := h
      refine am_lald hz1 (ln_65 hG) (lk_65 hG) (by rw [(ll_65 hG)]; exact g4) dX12_summed_82 ?_
      refine am_cVf hz cv_X12_308 [.long v3, .long (L 65 ((1041 : Int32) + v6).toNatClampNeg)] [] (c_X12_plus hG v3 (L 65 ((1041 : Int32) + v6).toNatClampNeg) ) (ln_64 hG) (lk_64 hG) rfl rfl rfl ⟨Nat.le_refl _, Nat.le_refl _⟩ (Nat.le_of_ble_eq_true rfl) dX12_summed_83 ?_
      refine am_lstore_n (lv' := [(3, .long (v3 + (L 65 ((1041 : Int32) + v6).toNatClampNeg))), (0, .ref ((zB z).size + 64)), (5, .int v5), (6, .int v6)]) hz1 dX12_summed_86 rfl rfl rfl ?_
      refine am_iinc (v := v6 + 1) (lv' := [(6, .int (v6 + 1)), (3, .long (v3 + (L 65 ((1041 : Int32) + v6).toNatClampNeg))), (0, .ref ((zB z).size + 64)), (5, .int v5)]) hz1 dX12_summed_87 3 rfl rfl rfl rfl ?_
      refine am_goto (tgt := 51) hz1 dX12_summed_90 (by decide) ?_
      exact am_sub (lv' := [(0, .ref ((zB z).size + 64)), (3, .long (v3 + (L 65 ((1041 : Int32) + v6).toNatClampNeg))), (5, .int v5), (6, .int (v6 + 1))]) [2, 1, 3, 0] rfl h
set_option maxRecDepth 100000 in
set_option maxHeartbeats 4000000 in
theorem c_X12_summed {l : Launch} {D : va_G} {B : Heap} {G : amG} {I : amI} {L : amL}  (hG : Lay G)  (v1 : Int32) (v2 : Int32) {s : St} (hs : RI s I L) (hw : WF s) : Mx l D B yX12_summed cX12_summed 7 (some .long) 3 0 0 [.ref (B.size + 64), .int v1, .int v2] G I L (fun r G1 I1 L1 => r = some (.long (aSummed s v1 v2)) ∧ G1 = G ∧ RI s I1 L1 ∧ frM I L I1 L1) := by
  refine Mx.of (by decide) rfl rfl (fun z e1 e2 e3 hz => ?_)
  subst e1; subst e2; subst e3
  refine b_X12_summed_0 hz hG ?_
  have hM := hs.1.mo
  have h16 := hM.2.1
  rw [hM.el, isIn_R (k := 1) (by decide) (by decide)]
  refine ⟨fun h => ⟨by rw [aSummed, if_neg (by rw [h]; simp)], rfl, hs, frM_r⟩, fun h => ⟨fun h2 => ?_, fun h2 => ⟨by rw [aSummed, if_neg (by rw [h2]; simp)], rfl, hs, frM_r⟩⟩⟩
  obtain ⟨x, hx, rfl⟩ := (el_t (by omega)).mp h
  have ex : (nI x).toNatClampNeg = x := cl_nI (by omega)
  have main : Wx z 0 0 51 [(0, .ref ((zB z).size + 64)), (3, .long 0), (5, .int (sdS s (nI x) v2)), (6, .int (nI 0))] [] G (setI I 64 (upd (I 64) 15 0)) L := by
    refine for_up (P := fun i => Wx z 0 0 51 [(0, .ref ((zB z).size + 64)), (3, .long (sumS (rD (sC s)) (sdS s (nI x) v2) i)), (5, .int (sdS s (nI x) v2)), (6, .int (nI i))] [] G (oI (setI I 64 (upd (I 64) 15 0)) (oD (rD (sC s)) (sdS s (nI x) v2) i)) L) (n := rN (sC s)) ?_ ?_ (Nat.zero_le _)
    · have h15 : oI (setI I 64 (upd (I 64) 15 0)) (oD (rD (sC s)) (sdS s (nI x) v2) (rN (sC s))) 64 15 = bI (oD (rD (sC s)) (sdS s (nI x) v2) (rN (sC s))) := by
        rw [oI_v (b := false) (by rw [setI_s, upd_s]; rfl), Bool.false_or]
      refine b_X12_summed_51 hz hG ⟨fun _ => ?_, fun q => absurd (mm_le hM) q⟩
      rw [h15, bI_z]
      refine ⟨fun q => ⟨?_, rfl, RI_o (RI_64 hs (by decide) (by decide) (by decide) (by decide) (by decide)), frM_t frM_64 frM_o⟩, fun q => ⟨?_, rfl, RI_o (RI_64 hs (by decide) (by decide) (by decide) (by decide) (by decide)), frM_t frM_64 frM_o⟩⟩
      · rw [aSummed, if_pos (by rw [h, h2]; rfl), if_neg (by rw [q]; decide)]
      · rw [Bool.not_eq_false] at q
        rw [aSummed, if_pos (by rw [h, h2]; rfl), if_pos q]
    · intro i hi ih
      have e1 : ((1041 : Int32) + nI i).toNatClampNeg = 1041 + i := clA (a := 1041) (by omega)
      refine b_X12_summed_51 hz hG ⟨fun q => absurd q (mm_ge hM hi), fun _ => ⟨fun q => ?_, fun q => ⟨inA (a := 1041) (by omega) (by decide), ?_⟩⟩⟩
      · rw [has_b (by omega)] at q
        rw [sumS, if_neg (by rw [q]; decide), oD, q, Bool.false_and, Bool.or_false] at ih
        rw [nI_1]
        exact ih
      · rw [has_b (by omega)] at q
        rw [sumS, if_pos q, oD, q, Bool.true_and] at ih
        rw [e1, hs.1.2.2.1 i (by omega), oI_oI, nI_1]
        exact ih
  refine ⟨fun h3 => ⟨in16 h16 hx, ?_⟩, fun h3 => ⟨⟨_, _, hM⟩, ?_⟩⟩
  · rw [sdS, if_neg h3, ex] at main
    rw [hM.up hx]
    exact main
  · rw [sdS, if_pos h3, ex] at main
    rw [hM.dn hx]
    exact main
def gbG (s : St) (e h : Int32) (y : Nat) : Int64 := if h = 0 then mu (rN (sC s)) (rA (sC s)) y e.toNatClampNeg else mu (rN (sC s)) (rA (sC s)) e.toNatClampNeg y
def aGot (s : St) (e h : Int32) : Int64 := if (elB (rN (sC s)) e && inR 1 h) = true then (if oS (rD (sC s)) (gbG s e h) (sdS s e h) (rN (sC s)) = true then -9223372036854775808 else tS (rD (sC s)) (gbG s e h) (sdS s e h) (rN (sC s))) else -9223372036854775808
set_option maxRecDepth 100000 in
set_option maxHeartbeats 4000000 in
theorem b_X12_gotBack_0 {z : amZ} {post : amP} {G : amG} {I : amI} {L : amL} (hz : Go z cX12_gotBack RX12 7 (some .long) 6 0 0 post) (hG : Lay G) {v1 : Int32} {v2 : Int32} (h : ((m_el L v1 = false) → post (some (.long (-9223372036854775808 : Int64))) G I L) ∧ ((m_el L v1 = true) → ((m_isIn v2.toInt64 (0 : Int64) (1 : Int64) = true) → ∃ (dq3 : Nat) (postq3 : amP), Nat.ble (dq3 + 1) 6 = true ∧ Mx (zL z) (zD z) (zB z) yX12_moebiusMade cX12_moebiusMade 4 none dq3 0 0 [.ref ((zB z).size + 64)] G I L postq3 ∧ ∀ (roq3 : Option Value) (Gq3 : amG) (Iq3 : amI) (Lq3 : amL), postq3 roq3 Gq3 Iq3 Lq3 → roq3 = none ∧ Lay Gq3 ∧ ((¬ v2 = 0) → (vp_in v1 16) ∧ Wx z 0 0 55 [(0, .ref ((zB z).size + 64)), (1, .int v1), (2, .int v2), (3, .long (0 : Int64)), (5, .int (m_up Lq3 v1)), (6, .int 0)] [] Gq3 (setI Iq3 64 (upd (Iq3 64) 15 (0 : Int32))) Lq3) ∧ ((v2 = 0) → (mOk Lq3) ∧ Wx z 0 0 55 [(0, .ref ((zB z).size + 64)), (1, .int v1), (2, .int v2), (3, .long (0 : Int64)), (5, .int (m_dn Lq3 v1)), (6, .int 0)] [] Gq3 (setI Iq3 64 (upd (Iq3 64) 15 (0 : Int32))) Lq3)) ∧ ((m_isIn v2.toInt64 (0 : Int64) (1 : Int64) = false) → post (some (.long (-9223372036854775808 : Int64))) G I L))) : Wx z 0 0 0 [(0, .ref ((zB z).size + 64)), (1, .int v1), (2, .int v2)] [] G I L := by
  have hz1 := hz.1
  refine am_aload_n hz1 dX12_gotBack_0 0 rfl rfl ?_
  refine am_iload_n hz1 dX12_gotBack_1 1 rfl rfl ?_
  refine am_cVf hz cv_X12_100 [.int v1] [] (c_X12_isElement hG v1 ) (ln_64 hG) (lk_64 hG) rfl rfl rfl ⟨Nat.le_refl _, Nat.le_refl _⟩ (Nat.le_of_ble_eq_true rfl) dX12_gotBack_2 ?_
  refine am_ifb_eq (tgt := 18) hz1 dX12_gotBack_5 (by decide) (fun c1 => ?_) (fun c1 => ?_)
  · replace h := h.1 c1
    refine am_ldc2 hz1 kc_X12_269 dX12_gotBack_18 ?_
    exact am_lreturn hz dX12_gotBack_21 h
  · replace h := h.2 c1
    refine am_iload_n hz1 dX12_gotBack_8 2 rfl rfl ?_
    refine am_i2l hz1 dX12_gotBack_9 ?_
    refine am_lconst (v := 0) hz1 dX12_gotBack_10 (by decide) ?_
    refine am_lconst (v := 1) hz1 dX12_gotBack_11 (by decide) ?_
    refine am_cSf hz ct_X12_82 [.long v2.toInt64, .long (0 : Int64), .long (1 : Int64)] [] (c_X12_isIn hG v2.toInt64 (0 : Int64) (1 : Int64) ) rfl rfl rfl ⟨Nat.le_refl _, Nat.le_refl _⟩ (Nat.le_of_ble_eq_true rfl) dX12_gotBack_12 ?_
    refine am_ifb_ne (tgt := 22) hz1 dX12_gotBack_15 (by decide) (fun c2 => ?_) (fun c2 => ?_)
    · replace h := h.1 c2
      refine am_aload_n hz1 dX12_gotBack_22 0 rfl rfl ?_
      obtain ⟨dq3, postq3, hdq3, hMq3, h⟩ := h
      refine am_callV hz1 cv_X12_283 [] [] hMq3 (ln_64 hG) (lk_64 hG) rfl rfl (hz.fr hdq3) (hz.lo hdq3) (by rw [hz.2.1]; exact ⟨Nat.le_refl _, Nat.le_refl _⟩) (Nat.le_of_ble_eq_true rfl) dX12_gotBack_23 (fun roq3 Gq3 Iq3 Lq3 hpq3 => ?_)
      obtain ⟨rfl, hGq3, h⟩ := h roq3 Gq3 Iq3 Lq3 hpq3
      refine am_aload_n hz1 dX12_gotBack_26 0 rfl rfl ?_
      refine am_iconst (v := 0) hz1 dX12_gotBack_27 (by decide) ?_
      refine am_putI hz1 fl_X12_271 (ln_64 hGq3) (lk_64 hGq3) rfl rfl (fun _ => rfl) dX12_gotBack_28 ?_
      refine am_lconst (v := 0) hz1 dX12_gotBack_31 (by decide) ?_
      refine am_lstore_n (lv' := [(3, .long (0 : Int64)), (0, .ref ((zB z).size + 64)), (1, .int v1), (2, .int v2)]) hz1 dX12_gotBack_32 rfl rfl rfl ?_
      refine am_iload_n hz1 dX12_gotBack_33 3 rfl rfl ?_
      refine am_if_ne (tgt := 45) hz1 dX12_gotBack_34 (by decide) (fun c4 => ?_) (fun c4 => ?_)
      · replace h := h.1 c4
        refine am_aload_n hz1 dX12_gotBack_45 1 rfl rfl ?_
        refine am_iload_n hz1 dX12_gotBack_46 2 rfl rfl ?_
        obtain ⟨g5, h⟩ := h
        refine am_cVf hz cv_X12_86 [.int v1] [] (c_X12_up hGq3 v1 g5) (ln_64 hGq3) (lk_64 hGq3) rfl rfl rfl ⟨Nat.le_refl _, Nat.le_refl _⟩ (Nat.le_of_ble_eq_true rfl) dX12_gotBack_47 ?_
        refine am_istore (lv' := [(5, .int (m_up Lq3 v1)), (3, .long (0 : Int64)), (0, .ref ((zB z).size + 64)), (1, .int v1), (2, .int v2)]) hz1 dX12_gotBack_50 rfl rfl ?_
        refine am_iconst (v := 0) hz1 dX12_gotBack_52 (by decide) ?_
        refine am_istore (lv' := [(6, .int 0), (5, .int (m_up Lq3 v1)), (3, .long (0 : Int64)), (0, .ref ((zB z).size + 64)), (1, .int v1), (2, .int v2)]) hz1 dX12_gotBack_53 rfl rfl ?_
        exact am_sub (lv' := [(0, .ref ((zB z).size + 64)), (1, .int v1), (2, .int v2), (3, .long (0 : Int64)), (5, .int (m_up Lq3 v1)), (6, .int 0)]) [3, 4, 5, 2, 1, 0] rfl h
      · replace h := h.2 c4
        refine am_aload_n hz1 dX12_gotBack_37 1 rfl rfl ?_
        refine am_iload_n hz1 dX12_gotBack_38 2 rfl rfl ?_
        obtain ⟨g6, h⟩ := h
        refine am_cVf hz cv_X12_97 [.int v1] [] (c_X12_down hGq3 v1 g6) (ln_64 hGq3) (lk_64 hGq3) rfl rfl rfl ⟨Nat.le_refl _, Nat.le_refl _⟩ (Nat.le_of_ble_eq_true rfl) dX12_gotBack_39 ?_
        refine am_goto (tgt := 50) hz1 dX12_gotBack_42 (by decide) ?_
        refine am_istore (lv' := [(5, .int (m_dn Lq3 v1)), (3, .long (0 : Int64)), (0, .ref ((zB z).size + 64)), (1, .int v1), (2, .int v2)]) hz1 dX12_gotBack_50 rfl rfl ?_
        refine am_iconst (v := 0) hz1 dX12_gotBack_52 (by decide) ?_
        refine am_istore (lv' := [(6, .int 0), (5, .int (m_dn Lq3 v1)), (3, .long (0 : Int64)), (0, .ref ((zB z).size + 64)), (1, .int v1), (2, .int v2)]) hz1 dX12_gotBack_53 rfl rfl ?_
        exact am_sub (lv' := [(0, .ref ((zB z).size + 64)), (1, .int v1), (2, .int v2), (3, .long (0 : Int64)), (5, .int (m_dn Lq3 v1)), (6, .int 0)]) [3, 4, 5, 2, 1, 0] rfl h
    · replace h := h.2 c2
      refine am_ldc2 hz1 kc_X12_269 dX12_gotBack_18 ?_
      exact am_lreturn hz dX12_gotBack_21 h
set_option maxRecDepth 100000 in
set_option maxHeartbeats 4000000 in
theorem b_X12_gotBack_55 {z : amZ} {post : amP} {G : amG} {I : amI} {L : amL} (hz : Go z cX12_gotBack RX12 7 (some .long) 6 0 0 post) (hG : Lay G) {v1 : Int32} {v2 : Int32} {v3 : Int64} {v5 : Int32} {v6 : Int32} (h : (((m_many L) ≤ v6) → (((I 64 15) = 0) → post (some (.long v3)) G I L) ∧ ((¬ (I 64 15) = 0) → post (some (.long (-9223372036854775808 : Int64))) G I L)) ∧ ((¬ (m_many L) ≤ v6) → ((m_has v5 v6 = false) → Wx z 0 0 55 [(0, .ref ((zB z).size + 64)), (1, .int v1), (2, .int v2), (3, .long v3), (5, .int v5), (6, .int (v6 + 1))] [] G I L) ∧ ((m_has v5 v6 = true) → vp_in ((1041 : Int32) + v6) 1074 ∧ ((¬ v2 = 0) → vp_in (((16 : Int32) * v1) + v6) 256 ∧ Wx z 0 0 55 [(0, .ref ((zB z).size + 64)), (1, .int v1), (2, .int v2), (3, .long (v3 + ((L 65 ((1041 : Int32) + v6).toNatClampNeg) * (L 72 (((16 : Int32) * v1) + v6).toNatClampNeg)))), (5, .int v5), (6, .int (v6 + 1))] [] G (oI (oI I (q_tl (L 65 ((1041 : Int32) + v6).toNatClampNeg) (L 72 (((16 : Int32) * v1) + v6).toNatClampNeg))) (q_ovc v3 ((L 65 ((1041 : Int32) + v6).toNatClampNeg) * (L 72 (((16 : Int32) * v1) + v6).toNatClampNeg)))) L) ∧ ((v2 = 0) → vp_in (((16 : Int32) * v6) + v1) 256 ∧ Wx z 0 0 55 [(0, .ref ((zB z).size + 64)), (1, .int v1), (2, .int v2), (3, .long (v3 + ((L 65 ((1041 : Int32) + v6).toNatClampNeg) * (L 72 (((16 : Int32) * v6) + v1).toNatClampNeg)))), (5, .int v5), (6, .int (v6 + 1))] [] G (oI (oI I (q_tl (L 65 ((1041 : Int32) + v6).toNatClampNeg) (L 72 (((16 : Int32) * v6) + v1).toNatClampNeg))) (q_ovc v3 ((L 65 ((1041 : Int32) + v6).toNatClampNeg) * (L 72 (((16 : Int32) * v6) + v1).toNatClampNeg)))) L)))) : Wx z 0 0 55 [(0, .ref ((zB z).size + 64)), (1, .int v1), (2, .int v2), (3, .long v3), (5, .int v5), (6, .int v6)] [] G I L := by
  have hz1 := hz.1
  refine am_iload hz1 dX12_gotBack_55 5 rfl ?_
  refine am_aload_n hz1 dX12_gotBack_57 0 rfl rfl ?_
  refine am_cVf hz cv_X12_78 [] [.int v6] (c_X12_many hG  ) (ln_64 hG) (lk_64 hG) rfl rfl rfl ⟨Nat.le_refl _, Nat.le_refl _⟩ (Nat.le_of_ble_eq_true rfl) dX12_gotBack_58 ?_
  refine am_icmp_ge (tgt := 127) hz1 dX12_gotBack_61 (by decide) (fun c1 => ?_) (fun c1 => ?_)
  · replace h := h.1 c1
    refine am_aload_n hz1 dX12_gotBack_127 0 rfl rfl ?_
    refine am_getI hz1 fl_X12_271 (ln_64 hG) (lk_64 hG) rfl dX12_gotBack_128 ?_
    refine am_if_eq (tgt := 140) hz1 dX12_gotBack_131 (by decide) (fun c2 => ?_) (fun c2 => ?_)
    · replace h := h.1 c2
      refine am_lload_n hz1 dX12_gotBack_140 3 rfl rfl ?_
      exact am_lreturn hz dX12_gotBack_141 h
    · replace h := h.2 c2
      refine am_ldc2 hz1 kc_X12_269 dX12_gotBack_134 ?_
      refine am_goto (tgt := 141) hz1 dX12_gotBack_137 (by decide) ?_
      exact am_lreturn hz dX12_gotBack_141 h
  · replace h := h.2 c1
    refine am_iload hz1 dX12_gotBack_64 4 rfl ?_
    refine am_iload hz1 dX12_gotBack_66 5 rfl ?_
    refine am_cSf hz ct_X12_90 [.int v5, .int v6] [] (c_X12_has hG v5 v6 ) rfl rfl rfl ⟨Nat.le_refl _, Nat.le_refl _⟩ (Nat.le_of_ble_eq_true rfl) dX12_gotBack_68 ?_
    refine am_ifb_eq (tgt := 121) hz1 dX12_gotBack_71 (by decide) (fun c3 => ?_) (fun c3 => ?_)
    · replace h := h.1 c3
      refine am_iinc (v := v6 + 1) (lv' := [(6, .int (v6 + 1)), (0, .ref ((zB z).size + 64)), (1, .int v1), (2, .int v2), (3, .long v3), (5, .int v5)]) hz1 dX12_gotBack_121 5 rfl rfl rfl rfl ?_
      refine am_goto (tgt := 55) hz1 dX12_gotBack_124 (by decide) ?_
      exact am_sub (lv' := [(0, .ref ((zB z).size + 64)), (1, .int v1), (2, .int v2), (3, .long v3), (5, .int v5), (6, .int (v6 + 1))]) [1, 2, 3, 4, 5, 0] rfl h
    · replace h := h.2 c3
      refine am_aload_n hz1 dX12_gotBack_74 0 rfl rfl ?_
      refine am_lload_n hz1 dX12_gotBack_75 3 rfl rfl ?_
      refine am_aload_n hz1 dX12_gotBack_76 0 rfl rfl ?_
      refine am_aload_n hz1 dX12_gotBack_77 0 rfl rfl ?_
      refine am_getR hz1 fl_X12_9 (ln_64 hG) (lk_64 hG) (lr_64_0 hG) rfl dX12_gotBack_78 ?_
      refine am_sipush (v := 1041) hz1 dX12_gotBack_81 (by decide) ?_
      refine am_iload hz1 dX12_gotBack_84 5 rfl ?_
      refine am_iadd hz1 dX12_gotBack_86 ?_
      obtain ⟨g4, h⟩ := h
      refine am_lald hz1 (ln_65 hG) (lk_65 hG) (by rw [(ll_65 hG)]; exact g4) dX12_gotBack_87 ?_
      refine am_aload_n hz1 dX12_gotBack_88 0 rfl rfl ?_
      refine am_getR hz1 fl_X12_35 (ln_64 hG) (lk_64 hG) (lr_64_16 hG) rfl dX12_gotBack_89 ?_
      refine am_iload_n hz1 dX12_gotBack_92 2 rfl rfl ?_
      refine am_if_ne (tgt := 106) hz1 dX12_gotBack_93 (by decide) (fun c5 => ?_) (fun c5 => ?_)
      · replace h := h.1 c5
        refine am_bipush (v := 16) hz1 dX12_gotBack_106 (by decide) ?_
        refine am_iload_n hz1 dX12_gotBack_108 1 rfl rfl ?_
        refine am_imul hz1 dX12_gotBack_109 ?_
        refine am_iload hz1 dX12_gotBack_110 5 rfl ?_
        refine am_iadd hz1 dX12_gotBack_112 ?_
        obtain ⟨g6, h⟩ := h
        refine am_lald hz1 (ln_72 hG) (lk_72 hG) (by rw [(ll_72 hG)]; exact g6) dX12_gotBack_113 ?_
        refine am_cVf hz cv_X12_304 [.long (L 65 ((1041 : Int32) + v6).toNatClampNeg), .long (L 72 (((16 : Int32) * v1) + v6).toNatClampNeg)] [.long v3, .ref ((zB z).size + 64)] (c_X12_times hG (L 65 ((1041 : Int32) + v6).toNatClampNeg) (L 72 (((16 : Int32) * v1) + v6).toNatClampNeg) ) (ln_64 hG) (lk_64 hG) rfl rfl rfl ⟨Nat.le_refl _, Nat.le_refl _⟩ (Nat.le_of_ble_eq_true rfl) dX12_gotBack_114 ?_
        refine am_cVf hz cv_X12_308 [.long v3, .long ((L 65 ((1041 : Int32) + v6).toNatClampNeg) * (L 72 (((16 : Int32) * v1) + v6).toNatClampNeg))] [] (c_X12_plus hG v3 ((L 65 ((1041 : Int32) + v6).toNatClampNeg) * (L 72 (((16 : Int32) * v1) + v6).toNatClampNeg)) ) (ln_64 hG) (lk_64 hG) rfl rfl rfl ⟨Nat.le_refl _, Nat.le_refl _⟩ (Nat.le_of_ble_eq_true rfl) dX12_gotBack_117 ?_
        refine am_lstore_n (lv' := [(3, .long (v3 + ((L 65 ((1041 : Int32) + v6).toNatClampNeg) * (L 72 (((16 : Int32) * v1) + v6).toNatClampNeg)))), (0, .ref ((zB z).size + 64)), (1, .int v1), (2, .int v2), (5, .int v5), (6, .int v6)]) hz1 dX12_gotBack_120 rfl rfl rfl ?_
        refine am_iinc (v := v6 + 1) (lv' := [(6, .int (v6 + 1)), (3, .long (v3 + ((L 65 ((1041 : Int32) + v6).toNatClampNeg) * (L 72 (((16 : Int32) * v1) + v6).toNatClampNeg)))), (0, .ref ((zB z).size + 64)), (1, .int v1), (2, .int v2), (5, .int v5)]) hz1 dX12_gotBack_121 5 rfl rfl rfl rfl ?_
        refine am_goto (tgt := 55) hz1 dX12_gotBack_124 (by decide) ?_
        exact am_sub (lv' := [(0, .ref ((zB z).size + 64)), (1, .int v1), (2, .int v2), (3, .long (v3 + ((L 65 ((1041 : Int32) + v6).toNatClampNeg) * (L 72 (((16 : Int32) * v1) + v6).toNatClampNeg)))), (5, .int v5), (6, .int (v6 + 1))]) [2, 3, 4, 1, 5, 0] rfl h
      · replace h := h.2 c5
        refine am_bipush (v := 16) hz1 dX12_gotBack_96 (by decide) ?_
        refine am_iload hz1 dX12_gotBack_98 5 rfl ?_
        refine am_imul hz1 dX12_gotBack_100 ?_
        refine am_iload_n hz1 dX12_gotBack_101 1 rfl rfl ?_
        refine am_iadd hz1 dX12_gotBack_102 ?_
        refine am_goto (tgt := 113) hz1 dX12_gotBack_103 (by decide) ?_
        obtain ⟨g7, h⟩ := h
        refine am_lald hz1 (ln_72 hG) (lk_72 hG) (by rw [(ll_72 hG)]; exact g7) dX12_gotBack_113 ?_
        refine am_cVf hz cv_X12_304 [.long (L 65 ((1041 : Int32) + v6).toNatClampNeg), .long (L 72 (((16 : Int32) * v6) + v1).toNatClampNeg)] [.long v3, .ref ((zB z).size + 64)] (c_X12_times hG (L 65 ((1041 : Int32) + v6).toNatClampNeg) (L 72 (((16 : Int32) * v6) + v1).toNatClampNeg) ) (ln_64 hG) (lk_64 hG) rfl rfl rfl ⟨Nat.le_refl _, Nat.le_refl _⟩ (Nat.le_of_ble_eq_true rfl) dX12_gotBack_114 ?_
        refine am_cVf hz cv_X12_308 [.long v3, .long ((L 65 ((1041 : Int32) + v6).toNatClampNeg) * (L 72 (((16 : Int32) * v6) + v1).toNatClampNeg))] [] (c_X12_plus hG v3 ((L 65 ((1041 : Int32) + v6).toNatClampNeg) * (L 72 (((16 : Int32) * v6) + v1).toNatClampNeg)) ) (ln_64 hG) (lk_64 hG) rfl rfl rfl ⟨Nat.le_refl _, Nat.le_refl _⟩ (Nat.le_of_ble_eq_true rfl) dX12_gotBack_117 ?_
        refine am_lstore_n (lv' := [(3, .long (v3 + ((L 65 ((1041 : Int32) + v6).toNatClampNeg) * (L 72 (((16 : Int32) * v6) + v1).toNatClampNeg)))), (0, .ref ((zB z).size + 64)), (1, .int v1), (2, .int v2), (5, .int v5), (6, .int v6)]) hz1 dX12_gotBack_120 rfl rfl rfl ?_
        refine am_iinc (v := v6 + 1) (lv' := [(6, .int (v6 + 1)), (3, .long (v3 + ((L 65 ((1041 : Int32) + v6).toNatClampNeg) * (L 72 (((16 : Int32) * v6) + v1).toNatClampNeg)))), (0, .ref ((zB z).size + 64)), (1, .int v1), (2, .int v2), (5, .int v5)]) hz1 dX12_gotBack_121 5 rfl rfl rfl rfl ?_
        refine am_goto (tgt := 55) hz1 dX12_gotBack_124 (by decide) ?_
        exact am_sub (lv' := [(0, .ref ((zB z).size + 64)), (1, .int v1), (2, .int v2), (3, .long (v3 + ((L 65 ((1041 : Int32) + v6).toNatClampNeg) * (L 72 (((16 : Int32) * v6) + v1).toNatClampNeg)))), (5, .int v5), (6, .int (v6 + 1))]) [2, 3, 4, 1, 5, 0] rfl h
set_option maxRecDepth 100000 in
set_option maxHeartbeats 4000000 in
theorem c_X12_gotBack {l : Launch} {D : va_G} {B : Heap} {G : amG} {I : amI} {L : amL}  (hG : Lay G)  (v1 : Int32) (v2 : Int32) {s : St} (hs : RI s I L) (hw : WF s) : Mx l D B yX12_gotBack cX12_gotBack 7 (some .long) 6 0 0 [.ref (B.size + 64), .int v1, .int v2] G I L (fun r G1 I1 L1 => r = some (.long (aGot s v1 v2)) ∧ G1 = G ∧ RI s I1 L1 ∧ frM I L I1 L1) := by
  refine Mx.of (by decide) rfl rfl (fun z e1 e2 e3 hz => ?_)
  subst e1; subst e2; subst e3
  refine b_X12_gotBack_0 hz hG ?_
  have hM := hs.1.mo
  have h16 := hM.2.1
  rw [hM.el, isIn_R (k := 1) (by decide) (by decide)]
  refine ⟨fun h => ⟨by rw [aGot, if_neg (by rw [h]; simp)], rfl, hs, frM_r⟩, fun h => ⟨fun h2 => ?_, fun h2 => ⟨by rw [aGot, if_neg (by rw [h2]; simp)], rfl, hs, frM_r⟩⟩⟩
  obtain ⟨x, hx, rfl⟩ := (el_t (by omega)).mp h
  have ex : (nI x).toNatClampNeg = x := cl_nI (by omega)
  refine ⟨5, _, rfl, c_X12_moebiusMade hG hM, fun ro G2 I2 L2 ⟨e1, e2, e3, f, e4, e5⟩ => ⟨e1, by rw [e2]; exact hG, ?_⟩⟩
  rw [e2, e3, e4]
  have hO : MO (setL L 72 f) (rN (sC s)) (rA (sC s)) := MO_72 hM (by decide)
  have hs2 : RI s I (setL L 72 f) := RI_L hs (setL_n (by decide)) (setL_n (by decide))
  have main : Wx z 0 0 55 [(0, .ref ((zB z).size + 64)), (1, .int (nI x)), (2, .int v2), (3, .long 0), (5, .int (sdS s (nI x) v2)), (6, .int (nI 0))] [] G (setI I 64 (upd (I 64) 15 0)) (setL L 72 f) := by
    refine for_up (P := fun i => Wx z 0 0 55 [(0, .ref ((zB z).size + 64)), (1, .int (nI x)), (2, .int v2), (3, .long (tS (rD (sC s)) (gbG s (nI x) v2) (sdS s (nI x) v2) i)), (5, .int (sdS s (nI x) v2)), (6, .int (nI i))] [] G (oI (setI I 64 (upd (I 64) 15 0)) (oS (rD (sC s)) (gbG s (nI x) v2) (sdS s (nI x) v2) i)) (setL L 72 f)) (n := rN (sC s)) ?_ ?_ (Nat.zero_le _)
    · have h15 : oI (setI I 64 (upd (I 64) 15 0)) (oS (rD (sC s)) (gbG s (nI x) v2) (sdS s (nI x) v2) (rN (sC s))) 64 15 = bI (oS (rD (sC s)) (gbG s (nI x) v2) (sdS s (nI x) v2) (rN (sC s))) := by
        rw [oI_v (b := false) (by rw [setI_s, upd_s]; rfl), Bool.false_or]
      refine b_X12_gotBack_55 hz hG ⟨fun _ => ?_, fun q => absurd (mm_le hO) q⟩
      rw [h15, bI_z]
      refine ⟨fun q => ⟨?_, rfl, RI_o (RI_64 hs2 (by decide) (by decide) (by decide) (by decide) (by decide)), frM_t (frM_L (by decide) (by decide)) (frM_t frM_64 frM_o)⟩, fun q => ⟨?_, rfl, RI_o (RI_64 hs2 (by decide) (by decide) (by decide) (by decide) (by decide)), frM_t (frM_L (by decide) (by decide)) (frM_t frM_64 frM_o)⟩⟩
      · rw [aGot, if_pos (by rw [h, h2]; rfl), if_neg (by rw [q]; decide)]
      · rw [Bool.not_eq_false] at q
        rw [aGot, if_pos (by rw [h, h2]; rfl), if_pos q]
    · intro i hi ih
      have e6 : ((1041 : Int32) + nI i).toNatClampNeg = 1041 + i := clA (a := 1041) (by omega)
      refine b_X12_gotBack_55 hz hG ⟨fun q => absurd q (mm_ge hO hi), fun _ => ⟨fun q => ?_, fun q => ⟨inA (a := 1041) (by omega) (by decide), ?_⟩⟩⟩
      · rw [has_b (by omega)] at q
        rw [tS, if_neg (by rw [q]; decide), oS, q, Bool.false_and, Bool.or_false] at ih
        rw [nI_1]
        exact ih
      · rw [has_b (by omega)] at q
        rw [tS, if_pos q, oS, q, Bool.true_and] at ih
        rw [e6, setL_n (q := 65) (by decide), hs.1.2.2.1 i (by omega), setL_s, c16, c16, cl_nI (n := 16 * x + i) (by omega), cl_nI (n := 16 * i + x) (by omega), oI_oI, oI_oI, oI_oI, oI_oI, nI_1, e5 x i (by omega) (by omega), e5 i x (by omega) (by omega), if_pos ⟨hx, hi⟩, if_pos ⟨hi, hx⟩]
        refine ⟨fun h3 => ⟨in_nI (by omega) (by decide), ?_⟩, fun h3 => ⟨in_nI (by omega) (by decide), ?_⟩⟩
        · rw [sdS, if_neg h3, ex, up_b] at q
          rw [muT, if_pos q]
          rw [gbG, if_neg h3, ex] at ih
          exact ih
        · rw [sdS, if_pos h3, ex, dn_b (by omega) hx (by omega), Bool.and_eq_true] at q
          rw [muT, if_pos q.2]
          rw [gbG, if_pos h3, ex] at ih
          exact ih
  refine ⟨fun h3 => ⟨in16 h16 hx, ?_⟩, fun h3 => ⟨⟨_, _, hO⟩, ?_⟩⟩
  · rw [sdS, if_neg h3, ex] at main
    rw [hO.up hx]
    exact main
  · rw [sdS, if_pos h3, ex] at main
    rw [hO.dn hx]
    exact main
