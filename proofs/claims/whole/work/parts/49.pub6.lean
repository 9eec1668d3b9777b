/-! THE REFERENCE: acts, third part: undone, kept, related, formed -/
theorem RI_wi {s : St} {I : amI} {L : amL} {c : Int32} {f : Nat → Int32} (h : RI s I L) : RI s (wi I c f) L := RI_I (RI_64 h (by decide) (by decide) (by decide) (by decide) (by decide)) (by decide) (by decide) (by decide)
theorem wi_fr {I : amI} {L : amL} {c : Int32} {f : Nat → Int32} : frM I L (wi I c f) L := frM_t frM_64 (frM_I (by decide) (by decide))
/-- a new order is taken -/
theorem AD {s : St} {G : amG} {I Ix : amI} {L Lx : amL} {m : Nat} {A : Nat → Int32} (hx : RI (pushS s) Ix Lx) (hf : frM I L Ix Lx) (h1 : 1 ≤ m) (h16 : m ≤ 16) (hP : PO m A) (h12 : Ix 64 12 = nI m) (h70 : ∀ j, j < m → Ix 70 j = upS A j) :
    (some (Value.int (m_many (setL Lx 65 (m_tk (Lx 65) (Ix 70) (Ix 64 12) (Ix 64 5))))) = some (.int (nI m))) ∧ G = G ∧ RI (adoptS s m A) (setI Ix 64 (upd (Ix 64) 24 0)) (setL Lx 65 (m_tk (Lx 65) (Ix 70) (Ix 64 12) (Ix 64 5))) ∧ frM I L (setI Ix 64 (upd (Ix 64) 24 0)) (setL Lx 65 (m_tk (Lx 65) (Ix 70) (Ix 64 12) (Ix 64 5))) := by
  have h := TK hx h1 h16 hP h12 h70
  refine ⟨?_, rfl, h, frM_t hf TK_fr⟩
  rw [h.1.mo.many]; rfl
def popR (s : St) (r : Row) : Row := if rE r = sE s then r else (rN r, rA r, rF r, rD r, fun _ => -1, sE s)
def xUndo (s : St) : Int32 × St := if (sH s).1 = 0 then (-1, s) else (nI ((sH s).1 - 1), (popR s ((sH s).2 ((sH s).1 - 1)), s0 s, s1 s, sE s, sT s, ((sH s).1 - 1, (sH s).2)))
theorem fgt_R {f : Nat → Int64} {r : Row} {e : Int32} (h : RowM f r) : RowM (m_fgt f e) (rN r, rA r, rF r, rD r, fun _ => -1, e) := by
  obtain ⟨⟨a1, a2, a3, a4, a5, a6⟩, a7, a8, a9, a10⟩ := h
  refine ⟨⟨a1, a2, a3, ?_, fun a ha => ?_, fun a ha hb => ?_⟩, fun k hk => ?_, fun a ha => ?_, fun x hx => ?_, ?_⟩
  · rw [m_fgt, updL_n (by decide), wr_out (by omega)]; exact a4
  · have : a < rN r := ha
    rw [m_fgt, updL_n (by omega), wr_out (by omega)]; exact a5 a ha
  · rw [m_fgt, updL_n (by omega), wr_out (by omega)]; exact a6 a ha hb
  · rw [m_fgt, updL_n (by omega), wr_out (by omega)]; exact a7 k hk
  · rw [m_fgt, updL_n (by omega), wr_out (by omega)]; exact a8 a ha
  · rw [m_fgt, updL_n (by omega), wr_in (by omega)]; rfl
  · rw [m_fgt, updL_s]
set_option maxRecDepth 100000 in
set_option maxHeartbeats 4000000 in
theorem b_X12_undo_0 {z : amZ} {post : amP} {G : amG} {I : amI} {L : amL} (hz : Go z cX12_undo RX12 2 (some .int) 1 0 0 post) (hG : Lay G)  (h : ((¬ (I 64 2) = 0) → Wx z 0 0 21 [(0, .ref ((zB z).size + 64)), (1, .int 0)] [] G (setI I 64 (upd (I 64) 2 ((I 64 2) - (1 : Int32)))) L) ∧ (((I 64 2) = 0) → post (some (.int (-1))) G I L)) : Wx z 0 0 0 [(0, .ref ((zB z).size + 64))] [] G I L := by
  have hz1 := hz.1
  refine am_aload_n hz1 dX12_undo_0 0 rfl rfl ?_
  refine am_getI hz1 fl_X12_124 (ln_64 hG) (lk_64 hG) rfl dX12_undo_1 ?_
  refine am_if_ne (tgt := 9) hz1 dX12_undo_4 (by decide) (fun c1 => ?_) (fun c1 => ?_)
  · replace h := h.1 c1
    refine am_aload_n hz1 dX12_undo_9 0 rfl rfl ?_
    refine am_dup hz1 dX12_undo_10 rfl ?_
    refine am_getI hz1 fl_X12_124 (ln_64 hG) (lk_64 hG) rfl dX12_undo_11 ?_
    refine am_iconst (v := 1) hz1 dX12_undo_14 (by decide) ?_
    refine am_isub hz1 dX12_undo_15 ?_
    refine am_putI hz1 fl_X12_124 (ln_64 hG) (lk_64 hG) rfl rfl (fun _ => rfl) dX12_undo_16 ?_
    refine am_iconst (v := 0) hz1 dX12_undo_19 (by decide) ?_
    refine am_istore_n (lv' := [(1, .int 0), (0, .ref ((zB z).size + 64))]) hz1 dX12_undo_20 rfl rfl rfl ?_
    exact am_sub (lv' := [(0, .ref ((zB z).size + 64)), (1, .int 0)]) [1, 0] rfl h
  · replace h := h.2 c1
    refine am_iconst (v := (-1)) hz1 dX12_undo_7 (by decide) ?_
    exact am_ireturn hz dX12_undo_8 h
set_option maxRecDepth 100000 in
set_option maxHeartbeats 4000000 in
theorem b_X12_undo_21 {z : amZ} {post : amP} {G : amG} {I : amI} {L : amL} (hz : Go z cX12_undo RX12 2 (some .int) 1 0 0 post) (hG : Lay G) {v1 : Int32} (h : (((1074 : Int32) ≤ v1) → (((L 65 (1073 : Int32).toNatClampNeg) = (((setI I 64 (upd (I 64) 24 (0 : Int32))) 64 5).toInt64)) → post (some (.int ((setI I 64 (upd (I 64) 24 (0 : Int32))) 64 2))) G (setI I 64 (upd (I 64) 24 (0 : Int32))) L) ∧ ((¬ (L 65 (1073 : Int32).toNatClampNeg) = (((setI I 64 (upd (I 64) 24 (0 : Int32))) 64 5).toInt64)) → post (some (.int ((setI I 64 (upd (I 64) 24 (0 : Int32))) 64 2))) G (setI I 64 (upd (I 64) 24 (0 : Int32))) (setL L 65 (m_fgt (L 65) ((setI I 64 (upd (I 64) 24 (0 : Int32))) 64 5))))) ∧ ((¬ (1074 : Int32) ≤ v1) → vp_in (((1074 : Int32) * (I 64 2)) + v1) 8592 ∧ vp_in v1 1074 ∧ Wx z 0 0 21 [(0, .ref ((zB z).size + 64)), (1, .int (v1 + 1))] [] G I (setL L 65 (vp_updL (L 65) v1.toNatClampNeg (L 66 (((1074 : Int32) * (I 64 2)) + v1).toNatClampNeg))))) : Wx z 0 0 21 [(0, .ref ((zB z).size + 64)), (1, .int v1)] [] G I L := by
  have hz1 := hz.1
  refine am_iload_n hz1 dX12_undo_21 1 rfl rfl ?_
  refine am_sipush (v := 1074) hz1 dX12_undo_22 (by decide) ?_
  refine am_icmp_ge (tgt := 55) hz1 dX12_undo_25 (by decide) (fun c1 => ?_) (fun c1 => ?_)
  · replace h := h.1 c1
    refine am_aload_n hz1 dX12_undo_55 0 rfl rfl ?_
    refine am_iconst (v := 0) hz1 dX12_undo_56 (by decide) ?_
    refine am_putI hz1 fl_X12_114 (ln_64 hG) (lk_64 hG) rfl rfl (fun _ => rfl) dX12_undo_57 ?_
    refine am_aload_n hz1 dX12_undo_60 0 rfl rfl ?_
    refine am_getR hz1 fl_X12_9 (ln_64 hG) (lk_64 hG) (lr_64_0 hG) rfl dX12_undo_61 ?_
    refine am_sipush (v := 1073) hz1 dX12_undo_64 (by decide) ?_
    refine am_lald hz1 (ln_65 hG) (lk_65 hG) (by rw [(ll_65 hG)]; exact in_nI (n := 1073) (by decide) (by decide)) dX12_undo_67 ?_
    refine am_aload_n hz1 dX12_undo_68 0 rfl rfl ?_
    refine am_getI hz1 fl_X12_120 (ln_64 hG) (lk_64 hG) rfl dX12_undo_69 ?_
    refine am_i2l hz1 dX12_undo_72 ?_
    refine am_lif_eq (tgt := 81) hz1 dX12_undo_73 dX12_undo_74 (by decide) (fun c3 => ?_) (fun c3 => ?_)
    · replace h := h.1 c3
      refine am_aload_n hz1 dX12_undo_81 0 rfl rfl ?_
      refine am_getI hz1 fl_X12_124 (ln_64 hG) (lk_64 hG) rfl dX12_undo_82 ?_
      exact am_ireturn hz dX12_undo_85 h
    · replace h := h.2 c3
      refine am_aload_n hz1 dX12_undo_77 0 rfl rfl ?_
      refine am_cVf hz cv_X12_127 [] [] (c_X12_forgetsMap hG  ) (ln_64 hG) (lk_64 hG) rfl rfl rfl ⟨Nat.le_refl _, Nat.le_refl _⟩ (Nat.le_of_ble_eq_true rfl) dX12_undo_78 ?_
      refine am_aload_n hz1 dX12_undo_81 0 rfl rfl ?_
      refine am_getI hz1 fl_X12_124 (ln_64 hG) (lk_64 hG) rfl dX12_undo_82 ?_
      exact am_ireturn hz dX12_undo_85 h
  · replace h := h.2 c1
    refine am_aload_n hz1 dX12_undo_28 0 rfl rfl ?_
    refine am_getR hz1 fl_X12_9 (ln_64 hG) (lk_64 hG) (lr_64_0 hG) rfl dX12_undo_29 ?_
    refine am_iload_n hz1 dX12_undo_32 1 rfl rfl ?_
    refine am_aload_n hz1 dX12_undo_33 0 rfl rfl ?_
    refine am_getR hz1 fl_X12_15 (ln_64 hG) (lk_64 hG) (lr_64_1 hG) rfl dX12_undo_34 ?_
    refine am_sipush (v := 1074) hz1 dX12_undo_37 (by decide) ?_
    refine am_aload_n hz1 dX12_undo_40 0 rfl rfl ?_
    refine am_getI hz1 fl_X12_124 (ln_64 hG) (lk_64 hG) rfl dX12_undo_41 ?_
    refine am_imul hz1 dX12_undo_44 ?_
    refine am_iload_n hz1 dX12_undo_45 1 rfl rfl ?_
    refine am_iadd hz1 dX12_undo_46 ?_
    obtain ⟨g4, h⟩ := h
    refine am_lald hz1 (ln_66 hG) (lk_66 hG) (by rw [(ll_66 hG)]; exact g4) dX12_undo_47 ?_
    obtain ⟨g5, h⟩ := h
    refine am_last hz1 (ln_65 hG) (lk_65 hG) (by rw [(ll_65 hG)]; exact g5) dX12_undo_48 ?_
    refine am_iinc (v := v1 + 1) (lv' := [(1, .int (v1 + 1)), (0, .ref ((zB z).size + 64))]) hz1 dX12_undo_49 1 rfl rfl rfl rfl ?_
    refine am_goto (tgt := 21) hz1 dX12_undo_52 (by decide) ?_
    exact am_sub (lv' := [(0, .ref ((zB z).size + 64)), (1, .int (v1 + 1))]) [1, 0] rfl h
set_option maxRecDepth 100000 in
set_option maxHeartbeats 4000000 in
theorem c_X12_undo {l : Launch} {D : va_G} {B : Heap} {G : amG} {I : amI} {L : amL}  (hG : Lay G)   {s : St} (hs : RI s I L) (hw : WF s) : Mx l D B yX12_undo cX12_undo 2 (some .int) 1 0 0 [.ref (B.size + 64)] G I L (fun r G1 I1 L1 => r = some (.int (xUndo s).1) ∧ G1 = G ∧ RI (xUndo s).2 I1 L1 ∧ frM I L I1 L1) := by
  refine Mx.of (by decide) rfl rfl (fun z e1 e2 e3 hz => ?_)
  subst e1; subst e2; subst e3
  refine b_X12_undo_0 hz hG ?_
  have hm := hw.2.2.2.2.2.2.2.2.1
  obtain ⟨g1, g2, g3, g4, g5, g6, g7, g8, g9⟩ := id hs
  rw [g7]
  refine ⟨fun h => ?_, fun h => ?_⟩
  · have hu : ¬ (sH s).1 = 0 := fun q => h (by rw [q]; rfl)
    generalize hu' : (sH s).1 - 1 = u at *
    have hu1 : (sH s).1 = u + 1 := by omega
    have hx2 : xUndo s = (nI u, (popR s ((sH s).2 u), s0 s, s1 s, sE s, sT s, (u, (sH s).2))) := by rw [xUndo, if_neg hu, hu']
    rw [hu1, nI_pred]
    have e2 : setI I 64 (upd (I 64) 2 (nI u)) 64 2 = nI u := by rw [setI_s, upd_s]
    have main : Wx z 0 0 21 [(0, .ref ((zB z).size + 64)), (1, .int (nI 0))] [] G (setI I 64 (upd (I 64) 2 (nI u))) (setL L 65 (wr (L 65) 0 0 (fun j => L 66 (1074 * u + j)))) := by
      refine for_up (P := fun k => Wx z 0 0 21 [(0, .ref ((zB z).size + 64)), (1, .int (nI k))] [] G (setI I 64 (upd (I 64) 2 (nI u))) (setL L 65 (wr (L 65) 0 k (fun j => L 66 (1074 * u + j))))) (n := 1074) ?_ ?_ (Nat.zero_le _)
      · have hr : RowM (wr (L 65) 0 1074 (fun j => L 66 (1074 * u + j))) ((sH s).2 u) := RowM_c (g8 u (by omega)) (fun k hk => by rw [wr_in (by omega), Nat.sub_zero])
        have c5 : setI (setI I 64 (upd (I 64) 2 (nI u))) 64 (upd (setI I 64 (upd (I 64) 2 (nI u)) 64) 24 0) 64 5 = sE s := by rw [setI_s, upd_n (by decide), setI_s, upd_n (by decide)]; exact g2
        have c2 : setI (setI I 64 (upd (I 64) 2 (nI u))) 64 (upd (setI I 64 (upd (I 64) 2 (nI u)) 64) 24 0) 64 2 = nI u := by rw [setI_s, upd_n (by decide), setI_s, upd_s]
        have c7 : setI (setI I 64 (upd (I 64) 2 (nI u))) 64 (upd (setI I 64 (upd (I 64) 2 (nI u)) 64) 24 0) 64 7 = nI (sT s).1 := by rw [setI_s, upd_n (by decide), setI_s, upd_n (by decide)]; exact g5
        have c24 : setI (setI I 64 (upd (I 64) 2 (nI u))) 64 (upd (setI I 64 (upd (I 64) 2 (nI u)) 64) 24 0) 64 24 = 0 := by rw [setI_s, upd_s]
        have cq : ∀ q, q ≠ 64 → setI (setI I 64 (upd (I 64) 2 (nI u))) 64 (upd (setI I 64 (upd (I 64) 2 (nI u)) 64) 24 0) q = I q := fun q hq => by rw [setI_n hq, setI_n hq]
        have fr : frM I L (setI (setI I 64 (upd (I 64) 2 (nI u))) 64 (upd (setI I 64 (upd (I 64) 2 (nI u)) 64) 24 0)) (setL L 65 (wr (L 65) 0 1074 (fun j => L 66 (1074 * u + j)))) := frM_t frM_64 (frM_t frM_64 (frM_L (by decide) (by decide)))
        have fin : ∀ (r' : Row) (f : Nat → Int64), RowM f r' → RI (r', s0 s, s1 s, sE s, sT s, (u, (sH s).2)) (setI (setI I 64 (upd (I 64) 2 (nI u))) 64 (upd (setI I 64 (upd (I 64) 2 (nI u)) 64) 24 0)) (setL L 65 f) := fun r' f hf =>
          ⟨by rw [setL_s]; exact hf, c5, shM_c (cq 67 (by decide)) (cq 68 (by decide)) g3, shM_c (cq 67 (by decide)) (cq 68 (by decide)) g4, c7, by rw [cq 69 (by decide)]; exact g6, c2, fun j hj => by rw [setL_n (by decide)]; exact g8 j (by have : j < u := hj; omega), Or.inl c24⟩
        refine b_X12_undo_21 hz hG ⟨fun _ => ?_, fun q => absurd (nI_le (a := 1074) (b := 1074) (Nat.le_refl _) (by decide)) q⟩
        rw [c5, c2, setL_s, setL_ss, hx2]
        have e73 : wr (L 65) 0 1074 (fun j => L 66 (1074 * u + j)) (1073 : Int32).toNatClampNeg = (rE ((sH s).2 u)).toInt64 := hr.2.2.2.2
        rw [e73, i64_inj]
        refine ⟨fun q => ⟨rfl, rfl, ?_, fr⟩, fun q => ⟨rfl, rfl, ?_, ?_⟩⟩
        · rw [popR, if_pos q]; exact fin _ _ hr
        · rw [popR, if_neg q]; exact fin _ _ (fgt_R hr)
        · exact frM_t frM_64 (frM_t frM_64 (frM_L (by decide) (by decide)))
      · intro k hk ih
        have e1 : ((1074 : Int32) * setI I 64 (upd (I 64) 2 (nI u)) 64 2 + nI k) = nI (1074 * u + k) := by rw [e2, show (1074 : Int32) = nI 1074 from rfl, nI_mul, nI_add]
        refine b_X12_undo_21 hz hG ⟨fun q => absurd q (nI_ge (b := 1074) hk (by decide)), fun _ => ?_⟩
        rw [e1, cl_nI (n := 1074 * u + k) (by omega), cl_nI (n := k) (by omega), setL_ss, setL_s, setL_n (q := 66) (by decide), nI_1, wr_L0 rfl]
        exact ⟨in_nI (by omega) (by decide), in_nI hk (by decide), ih⟩
    rw [wr_0, setL_id] at main
    exact main
  · have h0 : (sH s).1 = 0 := (nI_eq (a := (sH s).1) (b := 0) (by omega) (by decide)).mp (h.trans (show (0 : Int32) = nI 0 from rfl))
    rw [xUndo, if_pos h0]; exact ⟨rfl, rfl, hs, frM_r⟩
def kpS (s : St) : Shf := (rN (sC s), rA (sC s))
def xKeep (s : St) (j : Int32) : Int32 × St := if j = 0 then (nI (rN (sC s)), ((rN (sC s), rA (sC s), rF (sC s), rD (sC s), fun _ => -1, sE s + 1), kpS s, s1 s, sE s + 1, sT s, sH s)) else if j = 1 then (nI (rN (sC s)), (sC s, s0 s, kpS s, sE s, sT s, sH s)) else (-1, s)
set_option maxRecDepth 100000 in
set_option maxHeartbeats 4000000 in
theorem b_X12_keep_0 {z : amZ} {post : amP} {G : amG} {I : amI} {L : amL} (hz : Go z cX12_keep RX12 3 (some .int) 1 0 0 post) (hG : Lay G) {v1 : Int32} (h : ((m_isIn v1.toInt64 (0 : Int64) (1 : Int64) = true) → vp_in v1 2 ∧ Wx z 0 0 24 [(0, .ref ((zB z).size + 64)), (1, .int v1), (2, .int 0)] [] G (setI I 67 (upd (I 67) v1.toNatClampNeg (m_many L))) L) ∧ ((m_isIn v1.toInt64 (0 : Int64) (1 : Int64) = false) → post (some (.int (-1))) G I L)) : Wx z 0 0 0 [(0, .ref ((zB z).size + 64)), (1, .int v1)] [] G I L := by
  have hz1 := hz.1
  refine am_iload_n hz1 dX12_keep_0 1 rfl rfl ?_
  refine am_i2l hz1 dX12_keep_1 ?_
  refine am_lconst (v := 0) hz1 dX12_keep_2 (by decide) ?_
  refine am_lconst (v := 1) hz1 dX12_keep_3 (by decide) ?_
  refine am_cSf hz ct_X12_82 [.long v1.toInt64, .long (0 : Int64), .long (1 : Int64)] [] (c_X12_isIn hG v1.toInt64 (0 : Int64) (1 : Int64) ) rfl rfl rfl ⟨Nat.le_refl _, Nat.le_refl _⟩ (Nat.le_of_ble_eq_true rfl) dX12_keep_4 ?_
  refine am_ifb_ne (tgt := 12) hz1 dX12_keep_7 (by decide) (fun c1 => ?_) (fun c1 => ?_)
  · replace h := h.1 c1
    refine am_aload_n hz1 dX12_keep_12 0 rfl rfl ?_
    refine am_getR hz1 fl_X12_18 (ln_64 hG) (lk_64 hG) (lr_64_3 hG) rfl dX12_keep_13 ?_
    refine am_iload_n hz1 dX12_keep_16 1 rfl rfl ?_
    refine am_aload_n hz1 dX12_keep_17 0 rfl rfl ?_
    refine am_cVf hz cv_X12_78 [] [.int v1, .ref ((zB z).size + 67)] (c_X12_many hG  ) (ln_64 hG) (lk_64 hG) rfl rfl rfl ⟨Nat.le_refl _, Nat.le_refl _⟩ (Nat.le_of_ble_eq_true rfl) dX12_keep_18 ?_
    obtain ⟨g2, h⟩ := h
    refine am_iast hz1 (ln_67 hG) (lk_67 hG) (by rw [(ll_67 hG)]; exact g2) dX12_keep_21 ?_
    refine am_iconst (v := 0) hz1 dX12_keep_22 (by decide) ?_
    refine am_istore_n (lv' := [(2, .int 0), (0, .ref ((zB z).size + 64)), (1, .int v1)]) hz1 dX12_keep_23 rfl rfl rfl ?_
    exact am_sub (lv' := [(0, .ref ((zB z).size + 64)), (1, .int v1), (2, .int 0)]) [1, 2, 0] rfl h
  · replace h := h.2 c1
    refine am_iconst (v := (-1)) hz1 dX12_keep_10 (by decide) ?_
    exact am_ireturn hz dX12_keep_11 h
set_option maxRecDepth 100000 in
set_option maxHeartbeats 4000000 in
theorem b_X12_keep_24 {z : amZ} {post : amP} {G : amG} {I : amI} {L : amL} (hz : Go z cX12_keep RX12 3 (some .int) 1 0 0 post) (hG : Lay G) {v1 : Int32} {v2 : Int32} (h : (((m_many L) ≤ v2) → ((¬ v1 = 0) → post (some (.int (m_many L))) G I L) ∧ ((v1 = 0) → post (some (.int (m_many (setL L 65 (m_fgt (L 65) ((setI I 64 (upd (I 64) 5 ((I 64 5) + (1 : Int32)))) 64 5)))))) G (setI I 64 (upd (I 64) 5 ((I 64 5) + (1 : Int32)))) (setL L 65 (m_fgt (L 65) ((setI I 64 (upd (I 64) 5 ((I 64 5) + (1 : Int32)))) 64 5))))) ∧ ((¬ (m_many L) ≤ v2) → (vp_in v2 16) ∧ vp_in (((16 : Int32) * v1) + v2) 32 ∧ Wx z 0 0 24 [(0, .ref ((zB z).size + 64)), (1, .int v1), (2, .int (v2 + 1))] [] G (setI I 68 (upd (I 68) (((16 : Int32) * v1) + v2).toNatClampNeg (m_up L v2))) L)) : Wx z 0 0 24 [(0, .ref ((zB z).size + 64)), (1, .int v1), (2, .int v2)] [] G I L := by
  have hz1 := hz.1
  refine am_iload_n hz1 dX12_keep_24 2 rfl rfl ?_
  refine am_aload_n hz1 dX12_keep_25 0 rfl rfl ?_
  refine am_cVf hz cv_X12_78 [] [.int v2] (c_X12_many hG  ) (ln_64 hG) (lk_64 hG) rfl rfl rfl ⟨Nat.le_refl _, Nat.le_refl _⟩ (Nat.le_of_ble_eq_true rfl) dX12_keep_26 ?_
  refine am_icmp_ge (tgt := 54) hz1 dX12_keep_29 (by decide) (fun c1 => ?_) (fun c1 => ?_)
  · replace h := h.1 c1
    refine am_iload_n hz1 dX12_keep_54 1 rfl rfl ?_
    refine am_if_ne (tgt := 72) hz1 dX12_keep_55 (by decide) (fun c2 => ?_) (fun c2 => ?_)
    · replace h := h.1 c2
      refine am_aload_n hz1 dX12_keep_72 0 rfl rfl ?_
      refine am_cVf hz cv_X12_78 [] [] (c_X12_many hG  ) (ln_64 hG) (lk_64 hG) rfl rfl rfl ⟨Nat.le_refl _, Nat.le_refl _⟩ (Nat.le_of_ble_eq_true rfl) dX12_keep_73 ?_
      exact am_ireturn hz dX12_keep_76 h
    · replace h := h.2 c2
      refine am_aload_n hz1 dX12_keep_58 0 rfl rfl ?_
      refine am_dup hz1 dX12_keep_59 rfl ?_
      refine am_getI hz1 fl_X12_120 (ln_64 hG) (lk_64 hG) rfl dX12_keep_60 ?_
      refine am_iconst (v := 1) hz1 dX12_keep_63 (by decide) ?_
      refine am_iadd hz1 dX12_keep_64 ?_
      refine am_putI hz1 fl_X12_120 (ln_64 hG) (lk_64 hG) rfl rfl (fun _ => rfl) dX12_keep_65 ?_
      refine am_aload_n hz1 dX12_keep_68 0 rfl rfl ?_
      refine am_cVf hz cv_X12_127 [] [] (c_X12_forgetsMap hG  ) (ln_64 hG) (lk_64 hG) rfl rfl rfl ⟨Nat.le_refl _, Nat.le_refl _⟩ (Nat.le_of_ble_eq_true rfl) dX12_keep_69 ?_
      refine am_aload_n hz1 dX12_keep_72 0 rfl rfl ?_
      refine am_cVf hz cv_X12_78 [] [] (c_X12_many hG  ) (ln_64 hG) (lk_64 hG) rfl rfl rfl ⟨Nat.le_refl _, Nat.le_refl _⟩ (Nat.le_of_ble_eq_true rfl) dX12_keep_73 ?_
      exact am_ireturn hz dX12_keep_76 h
  · replace h := h.2 c1
    refine am_aload_n hz1 dX12_keep_32 0 rfl rfl ?_
    refine am_getR hz1 fl_X12_22 (ln_64 hG) (lk_64 hG) (lr_64_4 hG) rfl dX12_keep_33 ?_
    refine am_bipush (v := 16) hz1 dX12_keep_36 (by decide) ?_
    refine am_iload_n hz1 dX12_keep_38 1 rfl rfl ?_
    refine am_imul hz1 dX12_keep_39 ?_
    refine am_iload_n hz1 dX12_keep_40 2 rfl rfl ?_
    refine am_iadd hz1 dX12_keep_41 ?_
    refine am_aload_n hz1 dX12_keep_42 0 rfl rfl ?_
    refine am_iload_n hz1 dX12_keep_43 2 rfl rfl ?_
    obtain ⟨g3, h⟩ := h
    refine am_cVf hz cv_X12_86 [.int v2] [.int (((16 : Int32) * v1) + v2), .ref ((zB z).size + 68)] (c_X12_up hG v2 g3) (ln_64 hG) (lk_64 hG) rfl rfl rfl ⟨Nat.le_refl _, Nat.le_refl _⟩ (Nat.le_of_ble_eq_true rfl) dX12_keep_44 ?_
    obtain ⟨g4, h⟩ := h
    refine am_iast hz1 (ln_68 hG) (lk_68 hG) (by rw [(ll_68 hG)]; exact g4) dX12_keep_47 ?_
    refine am_iinc (v := v2 + 1) (lv' := [(2, .int (v2 + 1)), (0, .ref ((zB z).size + 64)), (1, .int v1)]) hz1 dX12_keep_48 2 rfl rfl rfl rfl ?_
    refine am_goto (tgt := 24) hz1 dX12_keep_51 (by decide) ?_
    exact am_sub (lv' := [(0, .ref ((zB z).size + 64)), (1, .int v1), (2, .int (v2 + 1))]) [1, 2, 0] rfl h
set_option maxRecDepth 100000 in
set_option maxHeartbeats 4000000 in
theorem c_X12_keep {l : Launch} {D : va_G} {B : Heap} {G : amG} {I : amI} {L : amL}  (hG : Lay G)  (v1 : Int32) {s : St} (hs : RI s I L) (hw : WF s) : Mx l D B yX12_keep cX12_keep 3 (some .int) 1 0 0 [.ref (B.size + 64), .int v1] G I L (fun r G1 I1 L1 => r = some (.int (xKeep s v1).1) ∧ G1 = G ∧ RI (xKeep s v1).2 I1 L1 ∧ frM I L I1 L1) := by
  refine Mx.of (by decide) rfl rfl (fun z e1 e2 e3 hz => ?_)
  subst e1; subst e2; subst e3
  refine b_X12_keep_0 hz hG ?_
  have hM := hs.1.mo
  have h16 := hM.2.1
  have h1 := hM.1
  have hP := hM.2.2.1
  rw [isIn_R (k := 1) (by decide) (by decide)]
  refine ⟨fun h => ?_, fun h => ?_⟩
  · obtain ⟨j, hj, rfl⟩ := (inR_t (by decide)).mp h
    have hj01 : j = 0 ∨ j = 1 := by omega
    rw [cl_nI (n := j) (by omega), hM.many]
    refine ⟨in_nI (by omega) (by decide), ?_⟩
    have main : Wx z 0 0 24 [(0, .ref ((zB z).size + 64)), (1, .int (nI j)), (2, .int (nI 0))] [] G (setI (setI I 67 (upd (I 67) j (nI (rN (sC s))))) 68 (wr (I 68) (16 * j) 0 (upS (rA (sC s))))) L := by
      refine for_up (P := fun k => Wx z 0 0 24 [(0, .ref ((zB z).size + 64)), (1, .int (nI j)), (2, .int (nI k))] [] G (setI (setI I 67 (upd (I 67) j (nI (rN (sC s))))) 68 (wr (I 68) (16 * j) k (upS (rA (sC s))))) L) (n := rN (sC s)) ?_ ?_ (Nat.zero_le _)
      · refine b_X12_keep_24 hz hG ⟨fun _ => ?_, fun q => absurd (mm_le hM) q⟩
        generalize hI1 : setI (setI I 67 (upd (I 67) j (nI (rN (sC s))))) 68 (wr (I 68) (16 * j) (rN (sC s)) (upS (rA (sC s)))) = I1
        have e67 : I1 67 = upd (I 67) j (nI (rN (sC s))) := by rw [← hI1, setI_n (by decide), setI_s]
        have e68 : I1 68 = wr (I 68) (16 * j) (rN (sC s)) (upS (rA (sC s))) := by rw [← hI1, setI_s]
        have eq : ∀ q, q ≠ 67 → q ≠ 68 → I1 q = I q := fun q q1 q2 => by rw [← hI1, setI_n q2, setI_n q1]
        have fr : frM I L I1 L := by rw [← hI1]; exact frM_t (frM_I (by decide) (by decide)) (frM_I (by decide) (by decide))
        have hKO : KO I1 j (rN (sC s)) (rA (sC s)) := ⟨h1, h16, hP, by rw [e67, upd_s], fun y hy => by rw [e68, wr_in (by omega), show 16 * j + y - 16 * j = y by omega]⟩
        have oth : ∀ (i : Nat) (h : Shf), i ≠ j → i < 2 → shM I i h → shM I1 i h := by
          intro i h hi hi2 q
          rcases q with ⟨q1, q2⟩ | ⟨q1, q2, q3, q4, q5⟩
          · exact Or.inl ⟨q1, by rw [e67, upd_n hi]; exact q2⟩
          · exact Or.inr ⟨q1, q2, q3, by rw [e67, upd_n hi]; exact q4, fun y hy => by rw [e68, wr_out (by omega)]; exact q5 y hy⟩
        obtain ⟨g1, g2, g3, g4, g5, g6, g7, g8, g9⟩ := id hs
        have e64 := eq 64 (by decide) (by decide)
        have hT : ∀ I2 : amI, I2 64 24 = I 64 24 → I2 64 25 = I 64 25 → I2 80 = I 80 → I2 81 = I 81 → (I2 64 24 = 0 ∨ TyK I2 (rN (sC s)) (rA (sC s))) := fun I2 a1 a2 a3 a4 => TyK_c a1 a2 a3 a4 g9
        rcases hj01 with rfl | rfl
        · refine ⟨fun q => absurd rfl q, fun _ => ?_⟩
          have hx2 : xKeep s (nI 0) = (nI (rN (sC s)), ((rN (sC s), rA (sC s), rF (sC s), rD (sC s), fun _ => -1, sE s + 1), kpS s, s1 s, sE s + 1, sT s, sH s)) := by rw [xKeep, if_pos (show nI 0 = 0 from rfl)]
          rw [hx2]
          have c5 : setI I1 64 (upd (I1 64) 5 (I1 64 5 + 1)) 64 5 = sE s + 1 := by rw [setI_s, upd_s, e64, g2]
          have ck : ∀ k, k ≠ 5 → setI I1 64 (upd (I1 64) 5 (I1 64 5 + 1)) 64 k = I 64 k := fun k hk => by rw [setI_s, upd_n hk, e64]
          rw [c5]
          have hr : RowM (m_fgt (L 65) (sE s + 1)) (rN (sC s), rA (sC s), rF (sC s), rD (sC s), fun _ => -1, sE s + 1) := fgt_R g1
          refine ⟨?_, rfl, ?_, frM_t fr (frM_t frM_64 (frM_L (by decide) (by decide)))⟩
          · have hm2 : MO (setL L 65 (m_fgt (L 65) (sE s + 1))) (rN (sC s)) (rA (sC s)) := by
              have := RowM.mo (L := setL L 65 (m_fgt (L 65) (sE s + 1))) (r := (rN (sC s), rA (sC s), rF (sC s), rD (sC s), fun _ => -1, sE s + 1)) (by rw [setL_s]; exact hr)
              exact this
            rw [hm2.many]
          · refine ⟨by rw [setL_s]; exact hr, c5, Or.inr ?_, shM_c (setI_n (by decide)) (setI_n (by decide)) (oth 1 _ (by decide) (by decide) g4), by rw [ck 7 (by decide)]; exact g5, by rw [setI_n (by decide), eq 69 (by decide) (by decide)]; exact g6, by rw [ck 2 (by decide)]; exact g7, fun i hi => by rw [setL_n (by decide)]; exact g8 i hi, hT _ (ck 24 (by decide)) (ck 25 (by decide)) (by rw [setI_n (by decide), eq 80 (by decide) (by decide)]) (by rw [setI_n (by decide), eq 81 (by decide) (by decide)])⟩
            show KO (setI I1 64 (upd (I1 64) 5 (I1 64 5 + 1))) 0 (rN (sC s)) (rA (sC s))
            unfold KO at hKO ⊢
            rw [setI_n (by decide), setI_n (by decide)]
            exact hKO
        · refine ⟨fun _ => ?_, fun q => absurd q (by decide)⟩
          have hx2 : xKeep s (nI 1) = (nI (rN (sC s)), (sC s, s0 s, kpS s, sE s, sT s, sH s)) := by rw [xKeep, if_neg (by decide), if_pos (show nI 1 = 1 from rfl)]
          rw [hx2, hM.many]
          refine ⟨rfl, rfl, ⟨g1, by rw [e64]; exact g2, oth 0 _ (by decide) (by decide) g3, Or.inr hKO, by rw [e64]; exact g5, by rw [eq 69 (by decide) (by decide)]; exact g6, by rw [e64]; exact g7, g8, hT _ (by rw [e64]) (by rw [e64]) (eq 80 (by decide) (by decide)) (eq 81 (by decide) (by decide))⟩, fr⟩
      · intro k hk ih
        refine b_X12_keep_24 hz hG ⟨fun q => absurd q (mm_ge hM hk), fun _ => ?_⟩
        have e1 : ((16 : Int32) * nI j + nI k) = nI (16 * j + k) := c16 _ _
        rw [e1, cl_nI (n := 16 * j + k) (by omega), hM.up hk, setI_ss, setI_s, nI_1, wr_sI rfl]
        exact ⟨in16 h16 hk, in_nI (by omega) (by decide), ih⟩
    rw [wr_0] at main
    have e : setI (setI I 67 (upd (I 67) j (nI (rN (sC s))))) 68 (I 68) = setI I 67 (upd (I 67) j (nI (rN (sC s)))) := by
      have := setI_id (I := setI I 67 (upd (I 67) j (nI (rN (sC s))))) (p := 68)
      rw [setI_n (by decide)] at this
      exact this
    rw [e] at main
    exact main
  · have n0 : ¬ v1 = 0 := fun q => by rw [q] at h; exact absurd h (by decide)
    have n1 : ¬ v1 = 1 := fun q => by rw [q] at h; exact absurd h (by decide)
    rw [xKeep, if_neg n0, if_neg n1]; exact ⟨rfl, rfl, hs, frM_r⟩
def xRelate (s : St) (a b : Int32) : Int32 × St :=
  if (elB (rN (sC s)) a && elB (rN (sC s)) b) = true then
    (if bt (rA (sC s) a.toNatClampNeg) b.toNatClampNeg = true then (-2, s) else if le (rA (sC s)) b.toNatClampNeg a.toNatClampNeg = true then (-3, s) else
      (cvM (rN (sC s)) (relA (rN (sC s)) (rA (sC s)) a.toNatClampNeg b.toNatClampNeg), adoptS s (rN (sC s)) (relA (rN (sC s)) (rA (sC s)) a.toNatClampNeg b.toNatClampNeg)))
  else (-1, s)
theorem cov_M {L : amL} {n : Nat} {A : Nat → Int32} (hM : MO L n A) : m_covers L = cvM n A := by
  rw [m_covers, hM.N, cnt2_n, cvM, sumI_c (fun a ha => by rw [ct_cong (fun b hb => hM.cov ha hb)])]
set_option maxRecDepth 100000 in
set_option maxHeartbeats 4000000 in
theorem b_X12_relate_0 {z : amZ} {post : amP} {G : amG} {I : amI} {L : amL} (hz : Go z cX12_relate RX12 4 (some .int) 6 0 0 post) (hG : Lay G) {v1 : Int32} {v2 : Int32} (h : ((m_el L v1 = false) → post (some (.int (-1))) G I L) ∧ ((m_el L v1 = true) → ((m_el L v2 = true) → (vp_in v1 16) ∧ ((m_bl L v1 v2 = false) → (vp_in v2 16) ∧ ((m_am L v2 v1 = false) → (muOk I) ∧ Wx z 0 0 56 [(0, .ref ((zB z).size + 64)), (1, .int v1), (2, .int v2), (3, .int 0)] [] G (setI (setI I 64 (upd (I 64) 2 (nI (kaU I + 1)))) 64 (upd ((setI I 64 (upd (I 64) 2 (nI (kaU I + 1)))) 64) 12 (m_many (setL L 66 (m_ka I L))))) (setL L 66 (m_ka I L))) ∧ ((m_am L v2 v1 = true) → post (some (.int (-3))) G I L)) ∧ ((m_bl L v1 v2 = true) → post (some (.int (-2))) G I L)) ∧ ((m_el L v2 = false) → post (some (.int (-1))) G I L))) : Wx z 0 0 0 [(0, .ref ((zB z).size + 64)), (1, .int v1), (2, .int v2)] [] G I L := by
  have hz1 := hz.1
  refine am_aload_n hz1 dX12_relate_0 0 rfl rfl ?_
  refine am_iload_n hz1 dX12_relate_1 1 rfl rfl ?_
  refine am_cVf hz cv_X12_100 [.int v1] [] (c_X12_isElement hG v1 ) (ln_64 hG) (lk_64 hG) rfl rfl rfl ⟨Nat.le_refl _, Nat.le_refl _⟩ (Nat.le_of_ble_eq_true rfl) dX12_relate_2 ?_
  refine am_ifb_eq (tgt := 16) hz1 dX12_relate_5 (by decide) (fun c1 => ?_) (fun c1 => ?_)
  · replace h := h.1 c1
    refine am_iconst (v := (-1)) hz1 dX12_relate_16 (by decide) ?_
    exact am_ireturn hz dX12_relate_17 h
  · replace h := h.2 c1
    refine am_aload_n hz1 dX12_relate_8 0 rfl rfl ?_
    refine am_iload_n hz1 dX12_relate_9 2 rfl rfl ?_
    refine am_cVf hz cv_X12_100 [.int v2] [] (c_X12_isElement hG v2 ) (ln_64 hG) (lk_64 hG) rfl rfl rfl ⟨Nat.le_refl _, Nat.le_refl _⟩ (Nat.le_of_ble_eq_true rfl) dX12_relate_10 ?_
    refine am_ifb_ne (tgt := 18) hz1 dX12_relate_13 (by decide) (fun c2 => ?_) (fun c2 => ?_)
    · replace h := h.1 c2
      refine am_aload_n hz1 dX12_relate_18 0 rfl rfl ?_
      refine am_iload_n hz1 dX12_relate_19 1 rfl rfl ?_
      refine am_iload_n hz1 dX12_relate_20 2 rfl rfl ?_
      obtain ⟨g3, h⟩ := h
      refine am_cVf hz cv_X12_104 [.int v1, .int v2] [] (c_X12_isBelow hG v1 v2 g3) (ln_64 hG) (lk_64 hG) rfl rfl rfl ⟨Nat.le_refl _, Nat.le_refl _⟩ (Nat.le_of_ble_eq_true rfl) dX12_relate_21 ?_
      refine am_ifb_eq (tgt := 30) hz1 dX12_relate_24 (by decide) (fun c4 => ?_) (fun c4 => ?_)
      · replace h := h.1 c4
        refine am_aload_n hz1 dX12_relate_30 0 rfl rfl ?_
        refine am_iload_n hz1 dX12_relate_31 2 rfl rfl ?_
        refine am_iload_n hz1 dX12_relate_32 1 rfl rfl ?_
        obtain ⟨g5, h⟩ := h
        refine am_cVf hz cv_X12_94 [.int v2, .int v1] [] (c_X12_isAtMost hG v2 v1 g5) (ln_64 hG) (lk_64 hG) rfl rfl rfl ⟨Nat.le_refl _, Nat.le_refl _⟩ (Nat.le_of_ble_eq_true rfl) dX12_relate_33 ?_
        refine am_ifb_eq (tgt := 42) hz1 dX12_relate_36 (by decide) (fun c6 => ?_) (fun c6 => ?_)
        · replace h := h.1 c6
          refine am_aload_n hz1 dX12_relate_42 0 rfl rfl ?_
          obtain ⟨g7, h⟩ := h
          refine am_cVf hz cv_X12_233 [] [] (c_X12_keepsAct hG  g7) (ln_64 hG) (lk_64 hG) rfl rfl rfl ⟨Nat.le_refl _, Nat.le_refl _⟩ (Nat.le_of_ble_eq_true rfl) dX12_relate_43 ?_
          refine am_aload_n hz1 dX12_relate_46 0 rfl rfl ?_
          refine am_aload_n hz1 dX12_relate_47 0 rfl rfl ?_
          refine am_cVf hz cv_X12_78 [] [.ref ((zB z).size + 64)] (c_X12_many hG  ) (ln_64 hG) (lk_64 hG) rfl rfl rfl ⟨Nat.le_refl _, Nat.le_refl _⟩ (Nat.le_of_ble_eq_true rfl) dX12_relate_48 ?_
          refine am_putI hz1 fl_X12_170 (ln_64 hG) (lk_64 hG) rfl rfl (fun _ => rfl) dX12_relate_51 ?_
          refine am_iconst (v := 0) hz1 dX12_relate_54 (by decide) ?_
          refine am_istore_n (lv' := [(3, .int 0), (0, .ref ((zB z).size + 64)), (1, .int v1), (2, .int v2)]) hz1 dX12_relate_55 rfl rfl rfl ?_
          exact am_sub (lv' := [(0, .ref ((zB z).size + 64)), (1, .int v1), (2, .int v2), (3, .int 0)]) [1, 2, 3, 0] rfl h
        · replace h := h.2 c6
          refine am_bipush (v := (-3)) hz1 dX12_relate_39 (by decide) ?_
          exact am_ireturn hz dX12_relate_41 h
      · replace h := h.2 c4
        refine am_bipush (v := (-2)) hz1 dX12_relate_27 (by decide) ?_
        exact am_ireturn hz dX12_relate_29 h
    · replace h := h.2 c2
      refine am_iconst (v := (-1)) hz1 dX12_relate_16 (by decide) ?_
      exact am_ireturn hz dX12_relate_17 h
set_option maxRecDepth 100000 in
set_option maxHeartbeats 4000000 in
theorem b_X12_relate_56 {z : amZ} {post : amP} {G : amG} {I : amI} {L : amL} (hz : Go z cX12_relate RX12 4 (some .int) 6 0 0 post) (hG : Lay G) {v1 : Int32} {v2 : Int32} {v3 : Int32} (h : (((16 : Int32) ≤ v3) → (w16 (I 64 12)) ∧ (vp_in v2 16) ∧ (m_has (I 70 v2.toNatClampNeg) v1 = false) ∧ (mOk (setL L 65 (m_tk (L 65) ((setI I 70 (m_jn (I 70) (I 64 12).toNatClampNeg v1 v2.toNatClampNeg)) 70) ((setI I 70 (m_jn (I 70) (I 64 12).toNatClampNeg v1 v2.toNatClampNeg)) 64 12) ((setI I 70 (m_jn (I 70) (I 64 12).toNatClampNeg v1 v2.toNatClampNeg)) 64 5)))) ∧ post (some (.int (m_covers (setL L 65 (m_tk (L 65) ((setI I 70 (m_jn (I 70) (I 64 12).toNatClampNeg v1 v2.toNatClampNeg)) 70) ((setI I 70 (m_jn (I 70) (I 64 12).toNatClampNeg v1 v2.toNatClampNeg)) 64 12) ((setI I 70 (m_jn (I 70) (I 64 12).toNatClampNeg v1 v2.toNatClampNeg)) 64 5)))))) G (setI (setI I 70 (m_jn (I 70) (I 64 12).toNatClampNeg v1 v2.toNatClampNeg)) 64 (upd ((setI I 70 (m_jn (I 70) (I 64 12).toNatClampNeg v1 v2.toNatClampNeg)) 64) 24 0)) (setL L 65 (m_tk (L 65) ((setI I 70 (m_jn (I 70) (I 64 12).toNatClampNeg v1 v2.toNatClampNeg)) 70) ((setI I 70 (m_jn (I 70) (I 64 12).toNatClampNeg v1 v2.toNatClampNeg)) 64 12) ((setI I 70 (m_jn (I 70) (I 64 12).toNatClampNeg v1 v2.toNatClampNeg)) 64 5)))) ∧ ((¬ (16 : Int32) ≤ v3) → (vp_in v3 16) ∧ vp_in v3 16 ∧ Wx z 0 0 56 [(0, .ref ((zB z).size + 64)), (1, .int v1), (2, .int v2), (3, .int (v3 + 1))] [] G (setI I 70 (upd (I 70) v3.toNatClampNeg (m_up L v3))) L)) : Wx z 0 0 56 [(0, .ref ((zB z).size + 64)), (1, .int v1), (2, .int v2), (3, .int v3)] [] G I L := by
  have hz1 := hz.1
  refine am_iload_n hz1 dX12_relate_56 3 rfl rfl ?_
  refine am_bipush (v := 16) hz1 dX12_relate_57 (by decide) ?_
  refine am_icmp_ge (tgt := 79) hz1 dX12_relate_59 (by decide) (fun c1 => ?_) (fun c1 => ?_)
  · replace h := h.1 c1
    refine am_aload_n hz1 dX12_relate_79 0 rfl rfl ?_
    refine am_getR hz1 fl_X12_29 (ln_64 hG) (lk_64 hG) (lr_64_13 hG) rfl dX12_relate_80 ?_
    refine am_aload_n hz1 dX12_relate_83 0 rfl rfl ?_
    refine am_getI hz1 fl_X12_170 (ln_64 hG) (lk_64 hG) rfl dX12_relate_84 ?_
    refine am_iload_n hz1 dX12_relate_87 1 rfl rfl ?_
    refine am_iload_n hz1 dX12_relate_88 2 rfl rfl ?_
    obtain ⟨g2, h⟩ := h
    obtain ⟨g3, h⟩ := h
    obtain ⟨g4, h⟩ := h
    refine am_cSf hz ct_X12_190 [.ref ((zB z).size + 70), .int (I 64 12), .int v1, .int v2] [] (c_X12_joins hG (I 64 12) v1 v2 g2 g3 g4) rfl rfl rfl ⟨Nat.le_refl _, Nat.le_refl _⟩ (Nat.le_of_ble_eq_true rfl) dX12_relate_89 ?_
    refine am_aload_n hz1 dX12_relate_92 0 rfl rfl ?_
    refine am_cVf hz cv_X12_236 [] [] (c_X12_takesTold hG  ) (ln_64 hG) (lk_64 hG) rfl rfl rfl ⟨Nat.le_refl _, Nat.le_refl _⟩ (Nat.le_of_ble_eq_true rfl) dX12_relate_93 ?_
    refine am_aload_n hz1 dX12_relate_96 0 rfl rfl ?_
    obtain ⟨g5, h⟩ := h
    refine am_cVf hz cv_X12_242 [] [] (c_X12_covers hG  g5) (ln_64 hG) (lk_64 hG) rfl rfl rfl ⟨Nat.le_refl _, Nat.le_refl _⟩ (Nat.le_of_ble_eq_true rfl) dX12_relate_97 ?_
    exact am_ireturn hz dX12_relate_100 h
  · replace h := h.2 c1
    refine am_aload_n hz1 dX12_relate_62 0 rfl rfl ?_
    refine am_getR hz1 fl_X12_29 (ln_64 hG) (lk_64 hG) (lr_64_13 hG) rfl dX12_relate_63 ?_
    refine am_iload_n hz1 dX12_relate_66 3 rfl rfl ?_
    refine am_aload_n hz1 dX12_relate_67 0 rfl rfl ?_
    refine am_iload_n hz1 dX12_relate_68 3 rfl rfl ?_
    obtain ⟨g6, h⟩ := h
    refine am_cVf hz cv_X12_86 [.int v3] [.int v3, .ref ((zB z).size + 70)] (c_X12_up hG v3 g6) (ln_64 hG) (lk_64 hG) rfl rfl rfl ⟨Nat.le_refl _, Nat.le_refl _⟩ (Nat.le_of_ble_eq_true rfl) dX12_relate_69 ?_
    obtain ⟨g7, h⟩ := h
    refine am_iast hz1 (ln_70 hG) (lk_70 hG) (by rw [(ll_70 hG)]; exact g7) dX12_relate_72 ?_
    refine am_iinc (v := v3 + 1) (lv' := [(3, .int (v3 + 1)), (0, .ref ((zB z).size + 64)), (1, .int v1), (2, .int v2)]) hz1 dX12_relate_73 3 rfl rfl rfl rfl ?_
    refine am_goto (tgt := 56) hz1 dX12_relate_76 (by decide) ?_
    exact am_sub (lv' := [(0, .ref ((zB z).size + 64)), (1, .int v1), (2, .int v2), (3, .int (v3 + 1))]) [1, 2, 3, 0] rfl h
set_option maxRecDepth 100000 in
set_option maxHeartbeats 4000000 in
theorem c_X12_relate {l : Launch} {D : va_G} {B : Heap} {G : amG} {I : amI} {L : amL}  (hG : Lay G)  (v1 : Int32) (v2 : Int32) {s : St} (hs : RI s I L) (hw : WF s) : Mx l D B yX12_relate cX12_relate 4 (some .int) 6 0 0 [.ref (B.size + 64), .int v1, .int v2] G I L (fun r G1 I1 L1 => r = some (.int (xRelate s v1 v2).1) ∧ G1 = G ∧ RI (xRelate s v1 v2).2 I1 L1 ∧ frM I L I1 L1) := by
  refine Mx.of (by decide) rfl rfl (fun z e1 e2 e3 hz => ?_)
  subst e1; subst e2; subst e3
  refine b_X12_relate_0 hz hG ?_
  have hM := hs.1.mo
  have h16 := hM.2.1
  have h1 := hM.1
  have hP := hM.2.2.1
  have hno : (elB (rN (sC s)) v1 && elB (rN (sC s)) v2) = false → xRelate s v1 v2 = (-1, s) := fun h => by rw [xRelate, if_neg (by rw [h]; decide)]
  rw [hM.el, hM.el]
  refine ⟨fun h => ?_, fun h => ⟨fun h2 => ?_, fun h2 => ?_⟩⟩
  · rw [hno (by rw [h]; rfl)]; exact ⟨rfl, rfl, hs, frM_r⟩
  · obtain ⟨a, ha, rfl⟩ := (el_t (by omega)).mp h
    obtain ⟨b, hb, rfl⟩ := (el_t (by omega)).mp h2
    have ea : (nI a).toNatClampNeg = a := cl_nI (by omega)
    have eb : (nI b).toNatClampNeg = b := cl_nI (by omega)
    have hx : xRelate s (nI a) (nI b) = if bt (rA (sC s) a) b = true then (-2, s) else if le (rA (sC s)) b a = true then (-3, s) else (cvM (rN (sC s)) (relA (rN (sC s)) (rA (sC s)) a b), adoptS s (rN (sC s)) (relA (rN (sC s)) (rA (sC s)) a b)) := by
      rw [xRelate, if_pos (by rw [h, h2]; rfl), ea, eb]
    rw [hM.bl ha hb, hM.am hb (by omega)]
    refine ⟨in16 h16 ha, fun q => ⟨in16 h16 hb, fun q2 => ⟨mu_ok hs hw, ?_⟩, fun q2 => ?_⟩, fun q => ?_⟩
    · rw [if_neg (by rw [q]; decide), if_neg (by rw [q2]; decide)] at hx
      have hk := KA hs hw
      have hkf : frM I L (setI I 64 (upd (I 64) 2 (nI (kaU I + 1)))) (setL L 66 (m_ka I L)) := KA_fr
      generalize setI I 64 (upd (I 64) 2 (nI (kaU I + 1))) = Ik at hk hkf ⊢
      generalize setL L 66 (m_ka I L) = Lk at hk hkf ⊢
      have hMk : MO Lk (rN (sC s)) (rA (sC s)) := hk.1.mo
      rw [hMk.many]
      have hup : ∀ j, j < 16 → m_up Lk (nI j) = if j < rN (sC s) then upS (rA (sC s)) j else 0 := fun j hj => by
        by_cases e : j < rN (sC s)
        · rw [if_pos e, hMk.up e]
        · rw [if_neg e, hMk.up0 (by omega) hj]
      have main : Wx z 0 0 56 [(0, .ref ((zB z).size + 64)), (1, .int (nI a)), (2, .int (nI b)), (3, .int (nI 0))] [] G (wi Ik (nI (rN (sC s))) (wr (Ik 70) 0 0 (fun j => m_up Lk (nI j)))) Lk := by
        refine for_up (P := fun k => Wx z 0 0 56 [(0, .ref ((zB z).size + 64)), (1, .int (nI a)), (2, .int (nI b)), (3, .int (nI k))] [] G (wi Ik (nI (rN (sC s))) (wr (Ik 70) 0 k (fun j => m_up Lk (nI j)))) Lk) (n := 16) ?_ ?_ (Nat.zero_le _)
        · refine b_X12_relate_56 hz hG ⟨fun _ => ?_, fun q => absurd (nI_le (a := 16) (b := 16) (Nat.le_refl _) (by decide)) q⟩
          rw [wi_12, wi_70, cl_nI (n := rN (sC s)) (by omega), eb]
          have hf : ∀ j, j < 16 → wr (Ik 70) 0 16 (fun j => m_up Lk (nI j)) j = if j < rN (sC s) then upS (rA (sC s)) j else 0 := fun j hj => by rw [wr_in (by omega), Nat.sub_zero, hup j hj]
          have hbx : wr (Ik 70) 0 16 (fun j => m_up Lk (nI j)) b = upS (rA (sC s)) b := by rw [hf b (by omega), if_pos hb]
          rw [hbx, has_b (by omega)]
          generalize hg : m_jn (wr (Ik 70) 0 16 (fun j => m_up Lk (nI j))) (rN (sC s)) (nI a) b = g
          have hgj : ∀ j, j < rN (sC s) → g j = upS (relA (rN (sC s)) (rA (sC s)) a b) j := fun j hj => by
            rw [← hg, m_jn, hf j (by omega), if_pos hj, hbx, has_b (by omega), up_b, decide_eq_true hj, Bool.true_and, rel_up hj]
          have hxi : RI (pushS s) (setI (wi Ik (nI (rN (sC s))) (wr (Ik 70) 0 16 (fun j => m_up Lk (nI j)))) 70 g) Lk := RI_I (RI_wi hk) (by decide) (by decide) (by decide)
          have hxf : frM I L (setI (wi Ik (nI (rN (sC s))) (wr (Ik 70) 0 16 (fun j => m_up Lk (nI j)))) 70 g) Lk := frM_t hkf (frM_t wi_fr (frM_I (by decide) (by decide)))
          have c12 : setI (wi Ik (nI (rN (sC s))) (wr (Ik 70) 0 16 (fun j => m_up Lk (nI j)))) 70 g 64 12 = nI (rN (sC s)) := by rw [setI_n (by decide), wi_12]
          have hfin := AD (G := G) hxi hxf h1 h16 (rel_PO hP (by omega) ha hb q2) c12 (fun j hj => by rw [setI_s]; exact hgj j hj)
          have hM2 := hfin.2.2.1.1.mo
          rw [c12] at hfin
          rw [c12] at hM2
          rw [hx, c12]
          exact ⟨⟨_, h16, rfl⟩, in16 h16 hb, q2, ⟨_, _, hM2⟩, by rw [cov_M hM2]; rfl, hfin.2⟩
        · intro k hk2 ih
          refine b_X12_relate_56 hz hG ⟨fun q => absurd q (nI_ge (b := 16) hk2 (by decide)), fun _ => ?_⟩
          rw [wi_70, cl_nI (n := k) (by omega), nI_1, wr_I0 rfl]
          refine ⟨in16 (Nat.le_refl _) hk2, in_nI hk2 (by decide), ?_⟩
          rw [wi, setI_ss]
          exact ih
      rw [wr_0, wi] at main
      have e : setI (setI Ik 64 (upd (Ik 64) 12 (nI (rN (sC s))))) 70 (Ik 70) = setI Ik 64 (upd (Ik 64) 12 (nI (rN (sC s)))) := by
        have := setI_id (I := setI Ik 64 (upd (Ik 64) 12 (nI (rN (sC s))))) (p := 70)
        rw [setI_n (by decide)] at this
        exact this
      rw [e] at main
      exact main
    · rw [if_neg (by rw [q]; decide), if_pos q2] at hx
      rw [hx]; exact ⟨rfl, rfl, hs, frM_r⟩
    · rw [if_pos q] at hx
      rw [hx]; exact ⟨rfl, rfl, hs, frM_r⟩
  · rw [hno (by rw [h2, Bool.and_false])]; exact ⟨rfl, rfl, hs, frM_r⟩
/-! formed -/
abbrev shJ (s : St) (j : Nat) : Shf := if j = 0 then s0 s else s1 s
def setB (n : Nat) (a : Int32) : Bool := decide (¬ a = 0) && decide (a &&& (allS n ^^^ (-1)) = 0)
theorem set_t {n : Nat} {a : Int32} (h16 : n ≤ 16) : setB n a = true ↔ ¬ a = 0 ∧ ∀ i, i < 32 → bt a i = true → i < n := by
  rw [setB, Bool.and_eq_true, decide_eq_true_eq, decide_eq_true_eq, b_eq0 (x := a &&& (allS n ^^^ (-1)))]
  refine and_congr Iff.rfl ⟨fun h i hi hb => ?_, fun h i hi => ?_⟩
  · have := h i hi
    rw [b_and, b_not _ hi, b_all n h16 i hi, hb, Bool.true_and] at this
    exact Classical.byContradiction fun q => by rw [decide_eq_false q] at this; cases this
  · rw [b_and, b_not _ hi, b_all n h16 i hi]
    cases e : bt a i
    · rfl
    · rw [decide_eq_true (h i hi e)]; rfl
theorem all_nI {n : Nat} (h16 : n ≤ 16) : allS n = nI (2 ^ n - 1) := b_ext fun i hi => by rw [b_all n h16 i hi, bt_nI _ i hi, Nat.testBit_two_pow_sub_one]
theorem in_set {n : Nat} (h16 : n ≤ 16) (a : Int32) : m_isIn a.toInt64 1 (allS n).toInt64 = setB n a := by
  have hp : 2 ^ n ≤ 65536 := Nat.pow_le_pow_right (n := 2) (by decide) h16
  have hp1 : 1 ≤ 2 ^ n := Nat.one_le_two_pow
  rw [Bool.eq_iff_iff, set_t h16, m_isIn, Bool.and_eq_true, decide_eq_true_eq, decide_eq_true_eq, Int64.lt_iff_toInt_lt, Int64.lt_iff_toInt_lt, Int32.toInt_toInt64, Int32.toInt_toInt64, all_nI h16, nI_toInt (by omega), show (1 : Int64).toInt = 1 from rfl]
  constructor
  · rintro ⟨g1, g2⟩
    have h0 : ¬ a < 0 := by rw [Int32.lt_iff_toInt_lt, show (0 : Int32).toInt = 0 from rfl]; omega
    obtain ⟨k, hk, rfl⟩ := nI_of h0
    rw [nI_toInt hk] at g1 g2
    refine ⟨fun q => ?_, fun i hi hb => ?_⟩
    · have := (nI_eq (b := 0) hk (by decide)).mp q
      omega
    · rw [bt_nI _ i hi] at hb
      exact Classical.byContradiction fun q => by
        have : k.testBit i = false := Nat.testBit_lt_two_pow (Nat.lt_of_lt_of_le (show k < 2 ^ n by omega) (Nat.pow_le_pow_right (by decide) (by omega)))
        rw [this] at hb; cases hb
  · rintro ⟨g1, g2⟩
    obtain ⟨k, hk, rfl, hb⟩ := set16 (x := a) (fun i hi hi2 => by
      rw [Bool.eq_false_iff]
      intro q
      have := g2 i hi2 q
      omega)
    have hk2 : k < 2 ^ n := Nat.lt_pow_two_of_testBit _ (fun i hi => by
      by_cases hi2 : i < 32
      · rw [hb i hi2, Bool.eq_false_iff]
        intro q
        have := g2 i hi2 q
        omega
      · exact Nat.testBit_lt_two_pow (Nat.lt_of_lt_of_le (show k < 2 ^ 16 by omega) (Nat.pow_le_pow_right (by decide) (by omega))))
    rw [nI_toInt (by omega)]
    have : k ≠ 0 := fun q => g1 (by rw [q]; rfl)
    omega
def partS (s : St) (S : Int32) : Int32 × St := (nI (ct (bt S) (rN (sC s))), adoptS s (ct (bt S) (rN (sC s))) (parA (rN (sC s)) (rA (sC s)) S))
def xFormK (s : St) (how : Int32) (h : Shf) : Int32 × St :=
  if how = 5 then (if rN (sC s) * h.1 ≤ 16 then (nI (rN (sC s) * h.1), adoptS s (rN (sC s) * h.1) (prsA (rN (sC s)) h.1 (rA (sC s)) h.2)) else (-2, s))
  else (if rN (sC s) + h.1 ≤ 16 then (nI (rN (sC s) + h.1), adoptS s (rN (sC s) + h.1) (botA (rN (sC s)) h.1 (rA (sC s)) h.2 (decide (how = 4)))) else (-2, s))
def xForm (s : St) (how a b : Int32) : Int32 × St :=
  if how = 0 then (nI (rN (sC s)), adoptS s (rN (sC s)) (bn (rN (sC s)) (rA (sC s))))
  else if how = 1 then (if ivB (rN (sC s)) (rA (sC s)) a b = true then partS s (ivS (rN (sC s)) (rA (sC s)) a.toNatClampNeg b.toNatClampNeg) else (-1, s))
  else if how = 2 then (if setB (rN (sC s)) a = true then partS s a else (-1, s))
  else if how = 3 ∨ how = 4 ∨ how = 5 then (if inR 1 a = true then (if (shJ s a.toNatClampNeg).1 = 0 then (-1, s) else xFormK s how (shJ s a.toNatClampNeg)) else (-1, s))
  else (-1, s)
theorem inR5 {v : Int32} : inR 5 v = true ↔ v = 0 ∨ v = 1 ∨ v = 2 ∨ v = 3 ∨ v = 4 ∨ v = 5 := by
  rw [inR_t (by decide)]
  constructor
  · rintro ⟨x, hx, rfl⟩
    have : x = 0 ∨ x = 1 ∨ x = 2 ∨ x = 3 ∨ x = 4 ∨ x = 5 := by omega
    rcases this with rfl | rfl | rfl | rfl | rfl | rfl <;> decide
  · rintro (rfl | rfl | rfl | rfl | rfl | rfl)
    · exact ⟨0, by decide, rfl⟩
    · exact ⟨1, by decide, rfl⟩
    · exact ⟨2, by decide, rfl⟩
    · exact ⟨3, by decide, rfl⟩
    · exact ⟨4, by decide, rfl⟩
    · exact ⟨5, by decide, rfl⟩
theorem ct_up {S : Int32} {n x : Nat} (hx : x < n) (hb : bt S x = true) : 1 ≤ ct (bt S) n := by
  rcases Nat.eq_zero_or_pos (ct (bt S) n) with h | h
  · have := ct_0.mp h x hx; rw [hb] at this; cases this
  · exact h
theorem pkp_c {p q : Nat → Bool} {s : Int32} : ∀ {n : Nat}, (∀ b, b < n → p b = q b) → pkp p s n = pkp q s n
  | 0, _ => rfl
  | n + 1, h => by
    rw [pkp, pkp, pkp_c (fun b hb => h b (by omega)), h n (by omega)]
theorem wth_up {L : amL} {n : Nat} {A : Nat → Int32} {S : Int32} {f : Nat → Int32} (hM : MO L n A) (hf : ∀ x, x < n → bt S x = true → f (ct (bt S) x) = pkp (fun b => m_am L (nI x) (nI b)) S n) {j : Nat} (hj : j < ct (bt S) n) : f j = upS (parA n A S) j := by
  have h16 := hM.2.1
  obtain ⟨e1, e2, e3⟩ := elN_in hj
  have := hf _ e1 e2
  rw [e3] at this
  rw [this, pkp_c (q := le A (elN n S j)) (fun b hb => hM.am e1 (by omega)), par_up h16 e1 e2, e3]
theorem kept_KO {s : St} {I : amI} {L : amL} (hs : RI s I L) {j : Nat} (hj : j < 2) (h0 : ¬ (shJ s j).1 = 0) : KO I j (shJ s j).1 (shJ s j).2 := by
  have hj01 : j = 0 ∨ j = 1 := by omega
  rcases hj01 with rfl | rfl
  · rcases hs.2.2.1 with ⟨q, _⟩ | q
    · exact absurd q h0
    · exact q
  · rcases hs.2.2.2.1 with ⟨q, _⟩ | q
    · exact absurd q h0
    · exact q
theorem bes_up {I : amI} {L : amL} {n k j : Nat} {A A0 : Nat → Int32} {v : Int32} (hM : MO L n A) (hj : j < 2) (hK : KO I j k A0) (h : n + k ≤ 16) (hv : v = 0 ∨ v = 1) {i : Nat} (hi : i < n + k) : m_bes I L (nI j) v i = upS (botA n k A A0 (decide (v = 1))) i := by
  have ej : (nI j).toNatClampNeg = j := cl_nI (by omega)
  have hk := hK.2.1
  rw [m_bes, ej, hK.2.2.2.1, cl_nI (n := k) (by omega), hM.N]
  by_cases e : i < n
  · rw [wr_out (by omega), wr_in (by omega), Nat.sub_zero, m_besV, hM.up e, ej, hK.2.2.2.1, hM.many, upS, upS, botA, if_pos e, or3]
    rcases hv with rfl | rfl
    · rfl
    · rfl
  · rw [wr_in (by omega), hK.2.2.2.2 _ (by omega), hM.many, up_shl h hK.2.2.1 (by omega), upS, botA, if_neg e, if_pos hi, show n + (i - n) = i by omega]
theorem prs_M {I : amI} {L : amL} {n k j : Nat} {A A0 : Nat → Int32} (hM : MO L n A) (hj : j < 2) (hK : KO I j k A0) (h : n * k ≤ 16) {i : Nat} (hi : i < n * k) : m_prs I L (nI j) i = upS (prsA n k A A0) i := by
  have ej : (nI j).toNatClampNeg = j := cl_nI (by omega)
  have hk := hK.2.1
  have hk1 := hK.1
  have h16 := hM.2.1
  rw [m_prs, ej, hK.2.2.2.1, cl_nI (n := k) (by omega), hM.N, wr_in (by omega), Nat.sub_zero, prs_up h16 hk1 hk h hi]
  refine mkset_cong (fun b hb => ?_)
  obtain ⟨d1, d2⟩ := dv_lt hk1 hi
  obtain ⟨d3, d4⟩ := dv_lt hk1 hb
  rw [m_prsP, hM.am d1 (by omega), hK.2.2.2.2 _ d2, has_b (by omega), up_b]
set_option maxRecDepth 100000 in
set_option maxHeartbeats 4000000 in
theorem b_X12_form_0 {z : amZ} {post : amP} {G : amG} {I : amI} {L : amL} (hz : Go z cX12_form RX12 4 (some .int) 4 0 0 post) (hG : Lay G) {v1 : Int32} {v2 : Int32} {v3 : Int32} (h : ((m_isIn v1.toInt64 (0 : Int64) (5 : Int64) = true) → ((¬ v1 = (1 : Int32)) → Wx z 0 0 30 [(0, .ref ((zB z).size + 64)), (1, .int v1), (2, .int v2), (3, .int v3)] [] G I L) ∧ ((v1 = (1 : Int32)) → (mOk L) ∧ ((m_isiv L v2 v3 = true) → Wx z 0 0 30 [(0, .ref ((zB z).size + 64)), (1, .int v1), (2, .int v2), (3, .int v3)] [] G I L) ∧ ((m_isiv L v2 v3 = false) → post (some (.int (-1))) G I L))) ∧ ((m_isIn v1.toInt64 (0 : Int64) (5 : Int64) = false) → post (some (.int (-1))) G I L)) : Wx z 0 0 0 [(0, .ref ((zB z).size + 64)), (1, .int v1), (2, .int v2), (3, .int v3)] [] G I L := by
  have hz1 := hz.1
  refine am_iload_n hz1 dX12_form_0 1 rfl rfl ?_
  refine am_i2l hz1 dX12_form_1 ?_
  refine am_lconst (v := 0) hz1 dX12_form_2 (by decide) ?_
  refine am_ldc2 hz1 kc_X12_245 dX12_form_3 ?_
  refine am_cSf hz ct_X12_82 [.long v1.toInt64, .long (0 : Int64), .long (5 : Int64)] [] (c_X12_isIn hG v1.toInt64 (0 : Int64) (5 : Int64) ) rfl rfl rfl ⟨Nat.le_refl _, Nat.le_refl _⟩ (Nat.le_of_ble_eq_true rfl) dX12_form_6 ?_
  refine am_ifb_ne (tgt := 14) hz1 dX12_form_9 (by decide) (fun c1 => ?_) (fun c1 => ?_)
  · replace h := h.1 c1
    refine am_iload_n hz1 dX12_form_14 1 rfl rfl ?_
    refine am_iconst (v := 1) hz1 dX12_form_15 (by decide) ?_
    refine am_icmp_ne (tgt := 30) hz1 dX12_form_16 (by decide) (fun c2 => ?_) (fun c2 => ?_)
    · replace h := h.1 c2
      exact h
    · replace h := h.2 c2
      refine am_aload_n hz1 dX12_form_19 0 rfl rfl ?_
      refine am_iload_n hz1 dX12_form_20 2 rfl rfl ?_
      refine am_iload_n hz1 dX12_form_21 3 rfl rfl ?_
      obtain ⟨g3, h⟩ := h
      refine am_cVf hz cv_X12_247 [.int v2, .int v3] [] (c_X12_isInterval hG v2 v3 g3) (ln_64 hG) (lk_64 hG) rfl rfl rfl ⟨Nat.le_refl _, Nat.le_refl _⟩ (Nat.le_of_ble_eq_true rfl) dX12_form_22 ?_
      refine am_ifb_ne (tgt := 30) hz1 dX12_form_25 (by decide) (fun c4 => ?_) (fun c4 => ?_)
      · replace h := h.1 c4
        exact h
      · replace h := h.2 c4
        refine am_iconst (v := (-1)) hz1 dX12_form_28 (by decide) ?_
        exact am_ireturn hz dX12_form_29 h
  · replace h := h.2 c1
    refine am_iconst (v := (-1)) hz1 dX12_form_12 (by decide) ?_
    exact am_ireturn hz dX12_form_13 h
set_option maxRecDepth 100000 in
set_option maxHeartbeats 4000000 in
theorem b_X12_form_30 {z : amZ} {post : amP} {G : amG} {I : amI} {L : amL} (hz : Go z cX12_form RX12 4 (some .int) 4 0 0 post) (hG : Lay G) {v1 : Int32} {v2 : Int32} {v3 : Int32} (h : ((¬ v1 = (2 : Int32)) → ((v1 ≤ (2 : Int32)) → ((v1 ≤ (2 : Int32)) → Wx z 0 0 89 [(0, .ref ((zB z).size + 64)), (1, .int v1), (2, .int v2), (3, .int v3)] [] G I L) ∧ ((¬ v1 ≤ (2 : Int32)) → (vp_in v2 2) ∧ (((if v1 = 5 then m_many L * I 67 v2.toNatClampNeg else m_many L + I 67 v2.toNatClampNeg) ≤ (16 : Int32)) → Wx z 0 0 89 [(0, .ref ((zB z).size + 64)), (1, .int v1), (2, .int v2), (3, .int v3)] [] G I L) ∧ ((¬ (if v1 = 5 then m_many L * I 67 v2.toNatClampNeg else m_many L + I 67 v2.toNatClampNeg) ≤ (16 : Int32)) → post (some (.int (-2))) G I L))) ∧ ((¬ v1 ≤ (2 : Int32)) → ((m_kept I v2 = true) → ((v1 ≤ (2 : Int32)) → Wx z 0 0 89 [(0, .ref ((zB z).size + 64)), (1, .int v1), (2, .int v2), (3, .int v3)] [] G I L) ∧ ((¬ v1 ≤ (2 : Int32)) → (vp_in v2 2) ∧ (((if v1 = 5 then m_many L * I 67 v2.toNatClampNeg else m_many L + I 67 v2.toNatClampNeg) ≤ (16 : Int32)) → Wx z 0 0 89 [(0, .ref ((zB z).size + 64)), (1, .int v1), (2, .int v2), (3, .int v3)] [] G I L) ∧ ((¬ (if v1 = 5 then m_many L * I 67 v2.toNatClampNeg else m_many L + I 67 v2.toNatClampNeg) ≤ (16 : Int32)) → post (some (.int (-2))) G I L))) ∧ ((m_kept I v2 = false) → post (some (.int (-1))) G I L))) ∧ ((v1 = (2 : Int32)) → ((m_isIn v2.toInt64 (1 : Int64) ((((1 : Int32) <<< ((m_many L) &&& 31)) - (1 : Int32)).toInt64) = true) → ((v1 ≤ (2 : Int32)) → ((v1 ≤ (2 : Int32)) → Wx z 0 0 89 [(0, .ref ((zB z).size + 64)), (1, .int v1), (2, .int v2), (3, .int v3)] [] G I L) ∧ ((¬ v1 ≤ (2 : Int32)) → (vp_in v2 2) ∧ (((if v1 = 5 then m_many L * I 67 v2.toNatClampNeg else m_many L + I 67 v2.toNatClampNeg) ≤ (16 : Int32)) → Wx z 0 0 89 [(0, .ref ((zB z).size + 64)), (1, .int v1), (2, .int v2), (3, .int v3)] [] G I L) ∧ ((¬ (if v1 = 5 then m_many L * I 67 v2.toNatClampNeg else m_many L + I 67 v2.toNatClampNeg) ≤ (16 : Int32)) → post (some (.int (-2))) G I L))) ∧ ((¬ v1 ≤ (2 : Int32)) → ((m_kept I v2 = true) → ((v1 ≤ (2 : Int32)) → Wx z 0 0 89 [(0, .ref ((zB z).size + 64)), (1, .int v1), (2, .int v2), (3, .int v3)] [] G I L) ∧ ((¬ v1 ≤ (2 : Int32)) → (vp_in v2 2) ∧ (((if v1 = 5 then m_many L * I 67 v2.toNatClampNeg else m_many L + I 67 v2.toNatClampNeg) ≤ (16 : Int32)) → Wx z 0 0 89 [(0, .ref ((zB z).size + 64)), (1, .int v1), (2, .int v2), (3, .int v3)] [] G I L) ∧ ((¬ (if v1 = 5 then m_many L * I 67 v2.toNatClampNeg else m_many L + I 67 v2.toNatClampNeg) ≤ (16 : Int32)) → post (some (.int (-2))) G I L))) ∧ ((m_kept I v2 = false) → post (some (.int (-1))) G I L))) ∧ ((m_isIn v2.toInt64 (1 : Int64) ((((1 : Int32) <<< ((m_many L) &&& 31)) - (1 : Int32)).toInt64) = false) → post (some (.int (-1))) G I L))) : Wx z 0 0 30 [(0, .ref ((zB z).size + 64)), (1, .int v1), (2, .int v2), (3, .int v3)] [] G I L := by
  have hz1 := hz.1
  refine am_iload_n hz1 dX12_form_30 1 rfl rfl ?_
  refine am_iconst (v := 2) hz1 dX12_form_31 (by decide) ?_
  refine am_icmp_ne (tgt := 55) hz1 dX12_form_32 (by decide) (fun c1 => ?_) (fun c1 => ?_)
  · replace h := h.1 c1
    refine am_iload_n hz1 dX12_form_55 1 rfl rfl ?_
    refine am_iconst (v := 2) hz1 dX12_form_56 (by decide) ?_
    refine am_icmp_le (tgt := 70) hz1 dX12_form_57 (by decide) (fun c2 => ?_) (fun c2 => ?_)
    · replace h := h.1 c2
      refine am_iload_n hz1 dX12_form_70 1 rfl rfl ?_
      refine am_iconst (v := 2) hz1 dX12_form_71 (by decide) ?_
      refine am_icmp_le (tgt := 89) hz1 dX12_form_72 (by decide) (fun c3 => ?_) (fun c3 => ?_)
      · replace h := h.1 c3
        exact h
      · replace h := h.2 c3
        refine am_aload_n hz1 dX12_form_75 0 rfl rfl ?_
        refine am_iload_n hz1 dX12_form_76 1 rfl rfl ?_
        refine am_iload_n hz1 dX12_form_77 2 rfl rfl ?_
        obtain ⟨g4, h⟩ := h
        refine am_cVf hz cv_X12_253 [.int v1, .int v2] [] (c_X12_sizeFormed hG v1 v2 g4) (ln_64 hG) (lk_64 hG) rfl rfl rfl ⟨Nat.le_refl _, Nat.le_refl _⟩ (Nat.le_of_ble_eq_true rfl) dX12_form_78 ?_
        refine am_bipush (v := 16) hz1 dX12_form_81 (by decide) ?_
        refine am_icmp_le (tgt := 89) hz1 dX12_form_83 (by decide) (fun c5 => ?_) (fun c5 => ?_)
        · replace h := h.1 c5
          exact h
        · replace h := h.2 c5
          refine am_bipush (v := (-2)) hz1 dX12_form_86 (by decide) ?_
          exact am_ireturn hz dX12_form_88 h
    · replace h := h.2 c2
      refine am_aload_n hz1 dX12_form_60 0 rfl rfl ?_
      refine am_iload_n hz1 dX12_form_61 2 rfl rfl ?_
      refine am_cVf hz cv_X12_250 [.int v2] [] (c_X12_isKept hG v2 ) (ln_64 hG) (lk_64 hG) rfl rfl rfl ⟨Nat.le_refl _, Nat.le_refl _⟩ (Nat.le_of_ble_eq_true rfl) dX12_form_62 ?_
      refine am_ifb_ne (tgt := 70) hz1 dX12_form_65 (by decide) (fun c6 => ?_) (fun c6 => ?_)
      · replace h := h.1 c6
        refine am_iload_n hz1 dX12_form_70 1 rfl rfl ?_
        refine am_iconst (v := 2) hz1 dX12_form_71 (by decide) ?_
        refine am_icmp_le (tgt := 89) hz1 dX12_form_72 (by decide) (fun c7 => ?_) (fun c7 => ?_)
        · replace h := h.1 c7
          exact h
        · replace h := h.2 c7
          refine am_aload_n hz1 dX12_form_75 0 rfl rfl ?_
          refine am_iload_n hz1 dX12_form_76 1 rfl rfl ?_
          refine am_iload_n hz1 dX12_form_77 2 rfl rfl ?_
          obtain ⟨g8, h⟩ := h
          refine am_cVf hz cv_X12_253 [.int v1, .int v2] [] (c_X12_sizeFormed hG v1 v2 g8) (ln_64 hG) (lk_64 hG) rfl rfl rfl ⟨Nat.le_refl _, Nat.le_refl _⟩ (Nat.le_of_ble_eq_true rfl) dX12_form_78 ?_
          refine am_bipush (v := 16) hz1 dX12_form_81 (by decide) ?_
          refine am_icmp_le (tgt := 89) hz1 dX12_form_83 (by decide) (fun c9 => ?_) (fun c9 => ?_)
          · replace h := h.1 c9
            exact h
          · replace h := h.2 c9
            refine am_bipush (v := (-2)) hz1 dX12_form_86 (by decide) ?_
            exact am_ireturn hz dX12_form_88 h
      · replace h := h.2 c6
        refine am_iconst (v := (-1)) hz1 dX12_form_68 (by decide) ?_
        exact am_ireturn hz dX12_form_69 h
  · replace h := h.2 c1
    refine am_iload_n hz1 dX12_form_35 2 rfl rfl ?_
    refine am_i2l hz1 dX12_form_36 ?_
    refine am_lconst (v := 1) hz1 dX12_form_37 (by decide) ?_
    refine am_iconst (v := 1) hz1 dX12_form_38 (by decide) ?_
    refine am_aload_n hz1 dX12_form_39 0 rfl rfl ?_
    refine am_cVf hz cv_X12_78 [] [.int 1, .long (1 : Int64), .long v2.toInt64] (c_X12_many hG  ) (ln_64 hG) (lk_64 hG) rfl rfl rfl ⟨Nat.le_refl _, Nat.le_refl _⟩ (Nat.le_of_ble_eq_true rfl) dX12_form_40 ?_
    refine am_ishl hz1 dX12_form_43 ?_
    refine am_iconst (v := 1) hz1 dX12_form_44 (by decide) ?_
    refine am_isub hz1 dX12_form_45 ?_
    refine am_i2l hz1 dX12_form_46 ?_
    refine am_cSf hz ct_X12_82 [.long v2.toInt64, .long (1 : Int64), .long ((((1 : Int32) <<< ((m_many L) &&& 31)) - (1 : Int32)).toInt64)] [] (c_X12_isIn hG v2.toInt64 (1 : Int64) ((((1 : Int32) <<< ((m_many L) &&& 31)) - (1 : Int32)).toInt64) ) rfl rfl rfl ⟨Nat.le_refl _, Nat.le_refl _⟩ (Nat.le_of_ble_eq_true rfl) dX12_form_47 ?_
    refine am_ifb_ne (tgt := 55) hz1 dX12_form_50 (by decide) (fun c10 => ?_) (fun c10 => ?_)
    · replace h := h.1 c10
      refine am_iload_n hz1 dX12_form_55 1 rfl rfl ?_
      refine am_iconst (v := 2) hz1 dX12_form_56 (by decide) ?_
      refine am_icmp_le (tgt := 70) hz1 dX12_form_57 (by decide) (fun c11 => ?_) (fun c11 => ?_)
      · replace h := h.1 c11
        refine am_iload_n hz1 dX12_form_70 1 rfl rfl ?_
        refine am_iconst (v := 2) hz1 dX12_form_71 (by decide) ?_
        refine am_icmp_le (tgt := 89) hz1 dX12_form_72 (by decide) (fun c12 => ?_) (fun c12 => ?_)
        · replace h := h.1 c12
          exact h
        · replace h := h.2 c12
          refine am_aload_n hz1 dX12_form_75 0 rfl rfl ?_
          refine am_iload_n hz1 dX12_form_76 1 rfl rfl ?_
          refine am_iload_n hz1 dX12_form_77 2 rfl rfl ?_
          obtain ⟨g13, h⟩ := h
          refine am_cVf hz cv_X12_253 [.int v1, .int v2] [] (c_X12_sizeFormed hG v1 v2 g13) (ln_64 hG) (lk_64 hG) rfl rfl rfl ⟨Nat.le_refl _, Nat.le_refl _⟩ (Nat.le_of_ble_eq_true rfl) dX12_form_78 ?_
          refine am_bipush (v := 16) hz1 dX12_form_81 (by decide) ?_
          refine am_icmp_le (tgt := 89) hz1 dX12_form_83 (by decide) (fun c14 => ?_) (fun c14 => ?_)
          · replace h := h.1 c14
            exact h
          · replace h := h.2 c14
            refine am_bipush (v := (-2)) hz1 dX12_form_86 (by decide) ?_
            exact am_ireturn hz dX12_form_88 h
      · replace h := h.2 c11
        refine am_aload_n hz1 dX12_form_60 0 rfl rfl ?_
        refine am_iload_n hz1 dX12_form_61 2 rfl rfl ?_
        refine am_cVf hz cv_X12_250 [.int v2] [] (c_X12_isKept hG v2 ) (ln_64 hG) (lk_64 hG) rfl rfl rfl ⟨Nat.le_refl _, Nat.le_refl _⟩ (Nat.le_of_ble_eq_true rfl) dX12_form_62 ?_
        refine am_ifb_ne (tgt := 70) hz1 dX12_form_65 (by decide) (fun c15 => ?_) (fun c15 => ?_)
        · replace h := h.1 c15
          refine am_iload_n hz1 dX12_form_70 1 rfl rfl ?_
          refine am_iconst (v := 2) hz1 dX12_form_71 (by decide) ?_
          refine am_icmp_le (tgt := 89) hz1 dX12_form_72 (by decide) (fun c16 => ?_) (fun c16 => ?_)
          · replace h := h.1 c16
            exact h
          · replace h := h.2 c16
            refine am_aload_n hz1 dX12_form_75 0 rfl rfl ?_
            refine am_iload_n hz1 dX12_form_76 1 rfl rfl ?_
            refine am_iload_n hz1 dX12_form_77 2 rfl rfl ?_
            obtain ⟨g17, h⟩ := h
            refine am_cVf hz cv_X12_253 [.int v1, .int v2] [] (c_X12_sizeFormed hG v1 v2 g17) (ln_64 hG) (lk_64 hG) rfl rfl rfl ⟨Nat.le_refl _, Nat.le_refl _⟩ (Nat.le_of_ble_eq_true rfl) dX12_form_78 ?_
            refine am_bipush (v := 16) hz1 dX12_form_81 (by decide) ?_
            refine am_icmp_le (tgt := 89) hz1 dX12_form_83 (by decide) (fun c18 => ?_) (fun c18 => ?_)
            · replace h := h.1 c18
              exact h
            · replace h := h.2 c18
              refine am_bipush (v := (-2)) hz1 dX12_form_86 (by decide) ?_
              exact am_ireturn hz dX12_form_88 h
        · replace h := h.2 c15
          refine am_iconst (v := (-1)) hz1 dX12_form_68 (by decide) ?_
          exact am_ireturn hz dX12_form_69 h
    · replace h := h.2 c10
      refine am_iconst (v := (-1)) hz1 dX12_form_53 (by decide) ?_
      exact am_ireturn hz dX12_form_54 h
set_option maxRecDepth 100000 in
set_option maxHeartbeats 4000000 in
theorem b_X12_form_89 {z : amZ} {post : amP} {G : amG} {I : amI} {L : amL} (hz : Go z cX12_form RX12 4 (some .int) 4 0 0 post) (hG : Lay G) {v1 : Int32} {v2 : Int32} {v3 : Int32} (h : (muOk I) ∧ ((¬ v1 = 0) → ((¬ v1 = (1 : Int32)) → ((¬ v1 = (2 : Int32)) → (((5 : Int32) ≤ v1) → (mOk (setL L 66 (m_ka I L))) ∧ (prsOk (setI I 64 (upd (I 64) 2 (nI (kaU I + 1)))) (setL L 66 (m_ka I L)) v2) ∧ post (some (.int (m_many (setL (setL L 66 (m_ka I L)) 65 (m_tk ((setL L 66 (m_ka I L)) 65) ((wi (setI I 64 (upd (I 64) 2 (nI (kaU I + 1)))) (m_many (setL L 66 (m_ka I L)) * (setI I 64 (upd (I 64) 2 (nI (kaU I + 1)))) 67 v2.toNatClampNeg) (m_prs (setI I 64 (upd (I 64) 2 (nI (kaU I + 1)))) (setL L 66 (m_ka I L)) v2)) 70) ((wi (setI I 64 (upd (I 64) 2 (nI (kaU I + 1)))) (m_many (setL L 66 (m_ka I L)) * (setI I 64 (upd (I 64) 2 (nI (kaU I + 1)))) 67 v2.toNatClampNeg) (m_prs (setI I 64 (upd (I 64) 2 (nI (kaU I + 1)))) (setL L 66 (m_ka I L)) v2)) 64 12) ((wi (setI I 64 (upd (I 64) 2 (nI (kaU I + 1)))) (m_many (setL L 66 (m_ka I L)) * (setI I 64 (upd (I 64) 2 (nI (kaU I + 1)))) 67 v2.toNatClampNeg) (m_prs (setI I 64 (upd (I 64) 2 (nI (kaU I + 1)))) (setL L 66 (m_ka I L)) v2)) 64 5)))))) G (setI (wi (setI I 64 (upd (I 64) 2 (nI (kaU I + 1)))) (m_many (setL L 66 (m_ka I L)) * (setI I 64 (upd (I 64) 2 (nI (kaU I + 1)))) 67 v2.toNatClampNeg) (m_prs (setI I 64 (upd (I 64) 2 (nI (kaU I + 1)))) (setL L 66 (m_ka I L)) v2)) 64 (upd ((wi (setI I 64 (upd (I 64) 2 (nI (kaU I + 1)))) (m_many (setL L 66 (m_ka I L)) * (setI I 64 (upd (I 64) 2 (nI (kaU I + 1)))) 67 v2.toNatClampNeg) (m_prs (setI I 64 (upd (I 64) 2 (nI (kaU I + 1)))) (setL L 66 (m_ka I L)) v2)) 64) 24 0)) (setL (setL L 66 (m_ka I L)) 65 (m_tk ((setL L 66 (m_ka I L)) 65) ((wi (setI I 64 (upd (I 64) 2 (nI (kaU I + 1)))) (m_many (setL L 66 (m_ka I L)) * (setI I 64 (upd (I 64) 2 (nI (kaU I + 1)))) 67 v2.toNatClampNeg) (m_prs (setI I 64 (upd (I 64) 2 (nI (kaU I + 1)))) (setL L 66 (m_ka I L)) v2)) 70) ((wi (setI I 64 (upd (I 64) 2 (nI (kaU I + 1)))) (m_many (setL L 66 (m_ka I L)) * (setI I 64 (upd (I 64) 2 (nI (kaU I + 1)))) 67 v2.toNatClampNeg) (m_prs (setI I 64 (upd (I 64) 2 (nI (kaU I + 1)))) (setL L 66 (m_ka I L)) v2)) 64 12) ((wi (setI I 64 (upd (I 64) 2 (nI (kaU I + 1)))) (m_many (setL L 66 (m_ka I L)) * (setI I 64 (upd (I 64) 2 (nI (kaU I + 1)))) 67 v2.toNatClampNeg) (m_prs (setI I 64 (upd (I 64) 2 (nI (kaU I + 1)))) (setL L 66 (m_ka I L)) v2)) 64 5)))) ∧ ((¬ (5 : Int32) ≤ v1) → ((¬ v1 = (4 : Int32)) → (mOk (setL L 66 (m_ka I L))) ∧ (besOk (setI I 64 (upd (I 64) 2 (nI (kaU I + 1)))) (setL L 66 (m_ka I L)) v2) ∧ post (some (.int (m_many (setL (setL L 66 (m_ka I L)) 65 (m_tk ((setL L 66 (m_ka I L)) 65) ((wi (setI I 64 (upd (I 64) 2 (nI (kaU I + 1)))) (m_many (setL L 66 (m_ka I L)) + (setI I 64 (upd (I 64) 2 (nI (kaU I + 1)))) 67 v2.toNatClampNeg) (m_bes (setI I 64 (upd (I 64) 2 (nI (kaU I + 1)))) (setL L 66 (m_ka I L)) v2 (0 : Int32))) 70) ((wi (setI I 64 (upd (I 64) 2 (nI (kaU I + 1)))) (m_many (setL L 66 (m_ka I L)) + (setI I 64 (upd (I 64) 2 (nI (kaU I + 1)))) 67 v2.toNatClampNeg) (m_bes (setI I 64 (upd (I 64) 2 (nI (kaU I + 1)))) (setL L 66 (m_ka I L)) v2 (0 : Int32))) 64 12) ((wi (setI I 64 (upd (I 64) 2 (nI (kaU I + 1)))) (m_many (setL L 66 (m_ka I L)) + (setI I 64 (upd (I 64) 2 (nI (kaU I + 1)))) 67 v2.toNatClampNeg) (m_bes (setI I 64 (upd (I 64) 2 (nI (kaU I + 1)))) (setL L 66 (m_ka I L)) v2 (0 : Int32))) 64 5)))))) G (setI (wi (setI I 64 (upd (I 64) 2 (nI (kaU I + 1)))) (m_many (setL L 66 (m_ka I L)) + (setI I 64 (upd (I 64) 2 (nI (kaU I + 1)))) 67 v2.toNatClampNeg) (m_bes (setI I 64 (upd (I 64) 2 (nI (kaU I + 1)))) (setL L 66 (m_ka I L)) v2 (0 : Int32))) 64 (upd ((wi (setI I 64 (upd (I 64) 2 (nI (kaU I + 1)))) (m_many (setL L 66 (m_ka I L)) + (setI I 64 (upd (I 64) 2 (nI (kaU I + 1)))) 67 v2.toNatClampNeg) (m_bes (setI I 64 (upd (I 64) 2 (nI (kaU I + 1)))) (setL L 66 (m_ka I L)) v2 (0 : Int32))) 64) 24 0)) (setL (setL L 66 (m_ka I L)) 65 (m_tk ((setL L 66 (m_ka I L)) 65) ((wi (setI I 64 (upd (I 64) 2 (nI (kaU I + 1)))) (m_many (setL L 66 (m_ka I L)) + (setI I 64 (upd (I 64) 2 (nI (kaU I + 1)))) 67 v2.toNatClampNeg) (m_bes (setI I 64 (upd (I 64) 2 (nI (kaU I + 1)))) (setL L 66 (m_ka I L)) v2 (0 : Int32))) 70) ((wi (setI I 64 (upd (I 64) 2 (nI (kaU I + 1)))) (m_many (setL L 66 (m_ka I L)) + (setI I 64 (upd (I 64) 2 (nI (kaU I + 1)))) 67 v2.toNatClampNeg) (m_bes (setI I 64 (upd (I 64) 2 (nI (kaU I + 1)))) (setL L 66 (m_ka I L)) v2 (0 : Int32))) 64 12) ((wi (setI I 64 (upd (I 64) 2 (nI (kaU I + 1)))) (m_many (setL L 66 (m_ka I L)) + (setI I 64 (upd (I 64) 2 (nI (kaU I + 1)))) 67 v2.toNatClampNeg) (m_bes (setI I 64 (upd (I 64) 2 (nI (kaU I + 1)))) (setL L 66 (m_ka I L)) v2 (0 : Int32))) 64 5)))) ∧ ((v1 = (4 : Int32)) → (mOk (setL L 66 (m_ka I L))) ∧ (besOk (setI I 64 (upd (I 64) 2 (nI (kaU I + 1)))) (setL L 66 (m_ka I L)) v2) ∧ post (some (.int (m_many (setL (setL L 66 (m_ka I L)) 65 (m_tk ((setL L 66 (m_ka I L)) 65) ((wi (setI I 64 (upd (I 64) 2 (nI (kaU I + 1)))) (m_many (setL L 66 (m_ka I L)) + (setI I 64 (upd (I 64) 2 (nI (kaU I + 1)))) 67 v2.toNatClampNeg) (m_bes (setI I 64 (upd (I 64) 2 (nI (kaU I + 1)))) (setL L 66 (m_ka I L)) v2 (1 : Int32))) 70) ((wi (setI I 64 (upd (I 64) 2 (nI (kaU I + 1)))) (m_many (setL L 66 (m_ka I L)) + (setI I 64 (upd (I 64) 2 (nI (kaU I + 1)))) 67 v2.toNatClampNeg) (m_bes (setI I 64 (upd (I 64) 2 (nI (kaU I + 1)))) (setL L 66 (m_ka I L)) v2 (1 : Int32))) 64 12) ((wi (setI I 64 (upd (I 64) 2 (nI (kaU I + 1)))) (m_many (setL L 66 (m_ka I L)) + (setI I 64 (upd (I 64) 2 (nI (kaU I + 1)))) 67 v2.toNatClampNeg) (m_bes (setI I 64 (upd (I 64) 2 (nI (kaU I + 1)))) (setL L 66 (m_ka I L)) v2 (1 : Int32))) 64 5)))))) G (setI (wi (setI I 64 (upd (I 64) 2 (nI (kaU I + 1)))) (m_many (setL L 66 (m_ka I L)) + (setI I 64 (upd (I 64) 2 (nI (kaU I + 1)))) 67 v2.toNatClampNeg) (m_bes (setI I 64 (upd (I 64) 2 (nI (kaU I + 1)))) (setL L 66 (m_ka I L)) v2 (1 : Int32))) 64 (upd ((wi (setI I 64 (upd (I 64) 2 (nI (kaU I + 1)))) (m_many (setL L 66 (m_ka I L)) + (setI I 64 (upd (I 64) 2 (nI (kaU I + 1)))) 67 v2.toNatClampNeg) (m_bes (setI I 64 (upd (I 64) 2 (nI (kaU I + 1)))) (setL L 66 (m_ka I L)) v2 (1 : Int32))) 64) 24 0)) (setL (setL L 66 (m_ka I L)) 65 (m_tk ((setL L 66 (m_ka I L)) 65) ((wi (setI I 64 (upd (I 64) 2 (nI (kaU I + 1)))) (m_many (setL L 66 (m_ka I L)) + (setI I 64 (upd (I 64) 2 (nI (kaU I + 1)))) 67 v2.toNatClampNeg) (m_bes (setI I 64 (upd (I 64) 2 (nI (kaU I + 1)))) (setL L 66 (m_ka I L)) v2 (1 : Int32))) 70) ((wi (setI I 64 (upd (I 64) 2 (nI (kaU I + 1)))) (m_many (setL L 66 (m_ka I L)) + (setI I 64 (upd (I 64) 2 (nI (kaU I + 1)))) 67 v2.toNatClampNeg) (m_bes (setI I 64 (upd (I 64) 2 (nI (kaU I + 1)))) (setL L 66 (m_ka I L)) v2 (1 : Int32))) 64 12) ((wi (setI I 64 (upd (I 64) 2 (nI (kaU I + 1)))) (m_many (setL L 66 (m_ka I L)) + (setI I 64 (upd (I 64) 2 (nI (kaU I + 1)))) 67 v2.toNatClampNeg) (m_bes (setI I 64 (upd (I 64) 2 (nI (kaU I + 1)))) (setL L 66 (m_ka I L)) v2 (1 : Int32))) 64 5)))))) ∧ ((v1 = (2 : Int32)) → ∃ (dq13 : Nat) (postq13 : amP), Nat.ble (dq13 + 1) 4 = true ∧ Mx (zL z) (zD z) (zB z) yX12_within cX12_within 5 none dq13 0 0 [.ref ((zB z).size + 64), .int v2] G (setI I 64 (upd (I 64) 2 (nI (kaU I + 1)))) (setL L 66 (m_ka I L)) postq13 ∧ ∀ (roq13 : Option Value) (Gq13 : amG) (Iq13 : amI) (Lq13 : amL), postq13 roq13 Gq13 Iq13 Lq13 → roq13 = none ∧ Lay Gq13 ∧ post (some (.int (m_many (setL Lq13 65 (m_tk (Lq13 65) (Iq13 70) (Iq13 64 12) (Iq13 64 5)))))) Gq13 (setI Iq13 64 (upd (Iq13 64) 24 0)) (setL Lq13 65 (m_tk (Lq13 65) (Iq13 70) (Iq13 64 12) (Iq13 64 5))))) ∧ ((v1 = (1 : Int32)) → (mOk (setL L 66 (m_ka I L))) ∧ (vp_in v2 16) ∧ ∃ (dq16 : Nat) (postq16 : amP), Nat.ble (dq16 + 1) 4 = true ∧ Mx (zL z) (zD z) (zB z) yX12_within cX12_within 5 none dq16 0 0 [.ref ((zB z).size + 64), .int (m_iv (setL L 66 (m_ka I L)) v2 v3)] G (setI I 64 (upd (I 64) 2 (nI (kaU I + 1)))) (setL L 66 (m_ka I L)) postq16 ∧ ∀ (roq16 : Option Value) (Gq16 : amG) (Iq16 : amI) (Lq16 : amL), postq16 roq16 Gq16 Iq16 Lq16 → roq16 = none ∧ Lay Gq16 ∧ post (some (.int (m_many (setL Lq16 65 (m_tk (Lq16 65) (Iq16 70) (Iq16 64 12) (Iq16 64 5)))))) Gq16 (setI Iq16 64 (upd (Iq16 64) 24 0)) (setL Lq16 65 (m_tk (Lq16 65) (Iq16 70) (Iq16 64 12) (Iq16 64 5))))) ∧ ((v1 = 0) → (mOk (setL L 66 (m_ka I L))) ∧ post (some (.int (m_many (setL (setL L 66 (m_ka I L)) 65 (m_tk ((setL L 66 (m_ka I L)) 65) ((setI (setI (setI I 64 (upd (I 64) 2 (nI (kaU I + 1)))) 64 (upd ((setI I 64 (upd (I 64) 2 (nI (kaU I + 1)))) 64) 12 (m_many (setL L 66 (m_ka I L))))) 70 (wr ((setI I 64 (upd (I 64) 2 (nI (kaU I + 1)))) 70) 0 16 (fun a => if m_many (setL L 66 (m_ka I L)) ≤ nI a then 0 else m_dn (setL L 66 (m_ka I L)) (nI a)))) 70) ((setI (setI (setI I 64 (upd (I 64) 2 (nI (kaU I + 1)))) 64 (upd ((setI I 64 (upd (I 64) 2 (nI (kaU I + 1)))) 64) 12 (m_many (setL L 66 (m_ka I L))))) 70 (wr ((setI I 64 (upd (I 64) 2 (nI (kaU I + 1)))) 70) 0 16 (fun a => if m_many (setL L 66 (m_ka I L)) ≤ nI a then 0 else m_dn (setL L 66 (m_ka I L)) (nI a)))) 64 12) ((setI (setI (setI I 64 (upd (I 64) 2 (nI (kaU I + 1)))) 64 (upd ((setI I 64 (upd (I 64) 2 (nI (kaU I + 1)))) 64) 12 (m_many (setL L 66 (m_ka I L))))) 70 (wr ((setI I 64 (upd (I 64) 2 (nI (kaU I + 1)))) 70) 0 16 (fun a => if m_many (setL L 66 (m_ka I L)) ≤ nI a then 0 else m_dn (setL L 66 (m_ka I L)) (nI a)))) 64 5)))))) G (setI (setI (setI (setI I 64 (upd (I 64) 2 (nI (kaU I + 1)))) 64 (upd ((setI I 64 (upd (I 64) 2 (nI (kaU I + 1)))) 64) 12 (m_many (setL L 66 (m_ka I L))))) 70 (wr ((setI I 64 (upd (I 64) 2 (nI (kaU I + 1)))) 70) 0 16 (fun a => if m_many (setL L 66 (m_ka I L)) ≤ nI a then 0 else m_dn (setL L 66 (m_ka I L)) (nI a)))) 64 (upd ((setI (setI (setI I 64 (upd (I 64) 2 (nI (kaU I + 1)))) 64 (upd ((setI I 64 (upd (I 64) 2 (nI (kaU I + 1)))) 64) 12 (m_many (setL L 66 (m_ka I L))))) 70 (wr ((setI I 64 (upd (I 64) 2 (nI (kaU I + 1)))) 70) 0 16 (fun a => if m_many (setL L 66 (m_ka I L)) ≤ nI a then 0 else m_dn (setL L 66 (m_ka I L)) (nI a)))) 64) 24 0)) (setL (setL L 66 (m_ka I L)) 65 (m_tk ((setL L 66 (m_ka I L)) 65) ((setI (setI (setI I 64 (upd (I 64) 2 (nI (kaU I + 1)))) 64 (upd ((setI I 64 (upd (I 64) 2 (nI (kaU I + 1)))) 64) 12 (m_many (setL L 66 (m_ka I L))))) 70 (wr ((setI I 64 (upd (I 64) 2 (nI (kaU I + 1)))) 70) 0 16 (fun a => if m_many (setL L 66 (m_ka I L)) ≤ nI a then 0 else m_dn (setL L 66 (m_ka I L)) (nI a)))) 70) ((setI (setI (setI I 64 (upd (I 64) 2 (nI (kaU I + 1)))) 64 (upd ((setI I 64 (upd (I 64) 2 (nI (kaU I + 1)))) 64) 12 (m_many (setL L 66 (m_ka I L))))) 70 (wr ((setI I 64 (upd (I 64) 2 (nI (kaU I + 1)))) 70) 0 16 (fun a => if m_many (setL L 66 (m_ka I L)) ≤ nI a then 0 else m_dn (setL L 66 (m_ka I L)) (nI a)))) 64 12) ((setI (setI (setI I 64 (upd (I 64) 2 (nI (kaU I + 1)))) 64 (upd ((setI I 64 (upd (I 64) 2 (nI (kaU I + 1)))) 64) 12 (m_many (setL L 66 (m_ka I L))))) 70 (wr ((setI I 64 (upd (I 64) 2 (nI (kaU I + 1)))) 70) 0 16 (fun a => if m_many (setL L 66 (m_ka I L)) ≤ nI a then 0 else m_dn (setL L 66 (m_ka I L)) (nI a)))) 64 5))))) : Wx z 0 0 89 [(0, .ref ((zB z).size + 64)), (1, .int v1), (2, .int v2), (3, .int v3)] [] G I L := by
  have hz1 := hz.1
  refine am_aload_n hz1 dX12_form_89 0 rfl rfl ?_
  obtain ⟨g1, h⟩ := h
  refine am_cVf hz cv_X12_233 [] [] (c_X12_keepsAct hG  g1) (ln_64 hG) (lk_64 hG) rfl rfl rfl ⟨Nat.le_refl _, Nat.le_refl _⟩ (Nat.le_of_ble_eq_true rfl) dX12_form_90 ?_
  refine am_iload_n hz1 dX12_form_93 1 rfl rfl ?_
  refine am_if_ne (tgt := 104) hz1 dX12_form_94 (by decide) (fun c2 => ?_) (fun c2 => ?_)
  · replace h := h.1 c2
    refine am_iload_n hz1 dX12_form_104 1 rfl rfl ?_
    refine am_iconst (v := 1) hz1 dX12_form_105 (by decide) ?_
    refine am_icmp_ne (tgt := 122) hz1 dX12_form_106 (by decide) (fun c3 => ?_) (fun c3 => ?_)
    · replace h := h.1 c3
      refine am_iload_n hz1 dX12_form_122 1 rfl rfl ?_
      refine am_iconst (v := 2) hz1 dX12_form_123 (by decide) ?_
      refine am_icmp_ne (tgt := 135) hz1 dX12_form_124 (by decide) (fun c4 => ?_) (fun c4 => ?_)
      · replace h := h.1 c4
        refine am_iload_n hz1 dX12_form_135 1 rfl rfl ?_
        refine am_iconst (v := 5) hz1 dX12_form_136 (by decide) ?_
        refine am_icmp_ge (tgt := 158) hz1 dX12_form_137 (by decide) (fun c5 => ?_) (fun c5 => ?_)
        · replace h := h.1 c5
          refine am_aload_n hz1 dX12_form_158 0 rfl rfl ?_
          refine am_iload_n hz1 dX12_form_159 2 rfl rfl ?_
          obtain ⟨g6, h⟩ := h
          obtain ⟨g7, h⟩ := h
          refine am_cVf hz cv_X12_266 [.int v2] [] (c_X12_pairs hG v2 g6 g7) (ln_64 hG) (lk_64 hG) rfl rfl rfl ⟨Nat.le_refl _, Nat.le_refl _⟩ (Nat.le_of_ble_eq_true rfl) dX12_form_160 ?_
          refine am_aload_n hz1 dX12_form_163 0 rfl rfl ?_
          refine am_cVf hz cv_X12_236 [] [] (c_X12_takesTold hG  ) (ln_64 hG) (lk_64 hG) rfl rfl rfl ⟨Nat.le_refl _, Nat.le_refl _⟩ (Nat.le_of_ble_eq_true rfl) dX12_form_164 ?_
          refine am_aload_n hz1 dX12_form_167 0 rfl rfl ?_
          refine am_cVf hz cv_X12_78 [] [] (c_X12_many hG  ) (ln_64 hG) (lk_64 hG) rfl rfl rfl ⟨Nat.le_refl _, Nat.le_refl _⟩ (Nat.le_of_ble_eq_true rfl) dX12_form_168 ?_
          exact am_ireturn hz dX12_form_171 h
        · replace h := h.2 c5
          refine am_aload_n hz1 dX12_form_140 0 rfl rfl ?_
          refine am_iload_n hz1 dX12_form_141 2 rfl rfl ?_
          refine am_iload_n hz1 dX12_form_142 1 rfl rfl ?_
          refine am_iconst (v := 4) hz1 dX12_form_143 (by decide) ?_
          refine am_icmp_ne (tgt := 151) hz1 dX12_form_144 (by decide) (fun c8 => ?_) (fun c8 => ?_)
          · replace h := h.1 c8
            refine am_iconst (v := 0) hz1 dX12_form_151 (by decide) ?_
            obtain ⟨g9, h⟩ := h
            obtain ⟨g10, h⟩ := h
            refine am_cVf hz cv_X12_262 [.int v2, .int 0] [] (c_X12_beside hG v2 (0 : Int32) g9 g10) (ln_64 hG) (lk_64 hG) rfl rfl rfl ⟨Nat.le_refl _, Nat.le_refl _⟩ (Nat.le_of_ble_eq_true rfl) dX12_form_152 ?_
            refine am_goto (tgt := 163) hz1 dX12_form_155 (by decide) ?_
            refine am_aload_n hz1 dX12_form_163 0 rfl rfl ?_
            refine am_cVf hz cv_X12_236 [] [] (c_X12_takesTold hG  ) (ln_64 hG) (lk_64 hG) rfl rfl rfl ⟨Nat.le_refl _, Nat.le_refl _⟩ (Nat.le_of_ble_eq_true rfl) dX12_form_164 ?_
            refine am_aload_n hz1 dX12_form_167 0 rfl rfl ?_
            refine am_cVf hz cv_X12_78 [] [] (c_X12_many hG  ) (ln_64 hG) (lk_64 hG) rfl rfl rfl ⟨Nat.le_refl _, Nat.le_refl _⟩ (Nat.le_of_ble_eq_true rfl) dX12_form_168 ?_
            exact am_ireturn hz dX12_form_171 h
          · replace h := h.2 c8
            refine am_iconst (v := 1) hz1 dX12_form_147 (by decide) ?_
            refine am_goto (tgt := 152) hz1 dX12_form_148 (by decide) ?_
            obtain ⟨g11, h⟩ := h
            obtain ⟨g12, h⟩ := h
            refine am_cVf hz cv_X12_262 [.int v2, .int 1] [] (c_X12_beside hG v2 (1 : Int32) g11 g12) (ln_64 hG) (lk_64 hG) rfl rfl rfl ⟨Nat.le_refl _, Nat.le_refl _⟩ (Nat.le_of_ble_eq_true rfl) dX12_form_152 ?_
            refine am_goto (tgt := 163) hz1 dX12_form_155 (by decide) ?_
            refine am_aload_n hz1 dX12_form_163 0 rfl rfl ?_
            refine am_cVf hz cv_X12_236 [] [] (c_X12_takesTold hG  ) (ln_64 hG) (lk_64 hG) rfl rfl rfl ⟨Nat.le_refl _, Nat.le_refl _⟩ (Nat.le_of_ble_eq_true rfl) dX12_form_164 ?_
            refine am_aload_n hz1 dX12_form_167 0 rfl rfl ?_
            refine am_cVf hz cv_X12_78 [] [] (c_X12_many hG  ) (ln_64 hG) (lk_64 hG) rfl rfl rfl ⟨Nat.le_refl _, Nat.le_refl _⟩ (Nat.le_of_ble_eq_true rfl) dX12_form_168 ?_
            exact am_ireturn hz dX12_form_171 h
      · replace h := h.2 c4
        refine am_aload_n hz1 dX12_form_127 0 rfl rfl ?_
        refine am_iload_n hz1 dX12_form_128 2 rfl rfl ?_
        obtain ⟨dq13, postq13, hdq13, hMq13, h⟩ := h
        refine am_callV hz1 cv_X12_259 [.int v2] [] hMq13 (ln_64 hG) (lk_64 hG) rfl rfl (hz.fr hdq13) (hz.lo hdq13) (by rw [hz.2.1]; exact ⟨Nat.le_refl _, Nat.le_refl _⟩) (Nat.le_of_ble_eq_true rfl) dX12_form_129 (fun roq13 Gq13 Iq13 Lq13 hpq13 => ?_)
        obtain ⟨rfl, hGq13, h⟩ := h roq13 Gq13 Iq13 Lq13 hpq13
        refine am_goto (tgt := 163) hz1 dX12_form_132 (by decide) ?_
        refine am_aload_n hz1 dX12_form_163 0 rfl rfl ?_
        refine am_cVf hz cv_X12_236 [] [] (c_X12_takesTold hGq13  ) (ln_64 hGq13) (lk_64 hGq13) rfl rfl rfl ⟨Nat.le_refl _, Nat.le_refl _⟩ (Nat.le_of_ble_eq_true rfl) dX12_form_164 ?_
        refine am_aload_n hz1 dX12_form_167 0 rfl rfl ?_
        refine am_cVf hz cv_X12_78 [] [] (c_X12_many hGq13  ) (ln_64 hGq13) (lk_64 hGq13) rfl rfl rfl ⟨Nat.le_refl _, Nat.le_refl _⟩ (Nat.le_of_ble_eq_true rfl) dX12_form_168 ?_
        exact am_ireturn hz dX12_form_171 h
    · replace h := h.2 c3
      refine am_aload_n hz1 dX12_form_109 0 rfl rfl ?_
      refine am_aload_n hz1 dX12_form_110 0 rfl rfl ?_
      refine am_iload_n hz1 dX12_form_111 2 rfl rfl ?_
      refine am_iload_n hz1 dX12_form_112 3 rfl rfl ?_
      obtain ⟨g14, h⟩ := h
      obtain ⟨g15, h⟩ := h
      refine am_cVf hz cv_X12_107 [.int v2, .int v3] [.ref ((zB z).size + 64)] (c_X12_interval hG v2 v3 g14 g15) (ln_64 hG) (lk_64 hG) rfl rfl rfl ⟨Nat.le_refl _, Nat.le_refl _⟩ (Nat.le_of_ble_eq_true rfl) dX12_form_113 ?_
      obtain ⟨dq16, postq16, hdq16, hMq16, h⟩ := h
      refine am_callV hz1 cv_X12_259 [.int (m_iv (setL L 66 (m_ka I L)) v2 v3)] [] hMq16 (ln_64 hG) (lk_64 hG) rfl rfl (hz.fr hdq16) (hz.lo hdq16) (by rw [hz.2.1]; exact ⟨Nat.le_refl _, Nat.le_refl _⟩) (Nat.le_of_ble_eq_true rfl) dX12_form_116 (fun roq16 Gq16 Iq16 Lq16 hpq16 => ?_)
      obtain ⟨rfl, hGq16, h⟩ := h roq16 Gq16 Iq16 Lq16 hpq16
      refine am_goto (tgt := 163) hz1 dX12_form_119 (by decide) ?_
      refine am_aload_n hz1 dX12_form_163 0 rfl rfl ?_
      refine am_cVf hz cv_X12_236 [] [] (c_X12_takesTold hGq16  ) (ln_64 hGq16) (lk_64 hGq16) rfl rfl rfl ⟨Nat.le_refl _, Nat.le_refl _⟩ (Nat.le_of_ble_eq_true rfl) dX12_form_164 ?_
      refine am_aload_n hz1 dX12_form_167 0 rfl rfl ?_
      refine am_cVf hz cv_X12_78 [] [] (c_X12_many hGq16  ) (ln_64 hGq16) (lk_64 hGq16) rfl rfl rfl ⟨Nat.le_refl _, Nat.le_refl _⟩ (Nat.le_of_ble_eq_true rfl) dX12_form_168 ?_
      exact am_ireturn hz dX12_form_171 h
  · replace h := h.2 c2
    refine am_aload_n hz1 dX12_form_97 0 rfl rfl ?_
    obtain ⟨g17, h⟩ := h
    refine am_cVf hz cv_X12_256 [] [] (c_X12_turned hG  g17) (ln_64 hG) (lk_64 hG) rfl rfl rfl ⟨Nat.le_refl _, Nat.le_refl _⟩ (Nat.le_of_ble_eq_true rfl) dX12_form_98 ?_
    refine am_goto (tgt := 163) hz1 dX12_form_101 (by decide) ?_
    refine am_aload_n hz1 dX12_form_163 0 rfl rfl ?_
    refine am_cVf hz cv_X12_236 [] [] (c_X12_takesTold hG  ) (ln_64 hG) (lk_64 hG) rfl rfl rfl ⟨Nat.le_refl _, Nat.le_refl _⟩ (Nat.le_of_ble_eq_true rfl) dX12_form_164 ?_
    refine am_aload_n hz1 dX12_form_167 0 rfl rfl ?_
    refine am_cVf hz cv_X12_78 [] [] (c_X12_many hG  ) (ln_64 hG) (lk_64 hG) rfl rfl rfl ⟨Nat.le_refl _, Nat.le_refl _⟩ (Nat.le_of_ble_eq_true rfl) dX12_form_168 ?_
    exact am_ireturn hz dX12_form_171 h
set_option maxRecDepth 100000 in
set_option maxHeartbeats 4000000 in
theorem c_X12_form {l : Launch} {D : va_G} {B : Heap} {G : amG} {I : amI} {L : amL}  (hG : Lay G)  (v1 : Int32) (v2 : Int32) (v3 : Int32) {s : St} (hs : RI s I L) (hw : WF s) : Mx l D B yX12_form cX12_form 4 (some .int) 4 0 0 [.ref (B.size + 64), .int v1, .int v2, .int v3] G I L (fun r G1 I1 L1 => r = some (.int (xForm s v1 v2 v3).1) ∧ G1 = G ∧ RI (xForm s v1 v2 v3).2 I1 L1 ∧ frM I L I1 L1) := by
  refine Mx.of (by decide) rfl rfl (fun z e1 e2 e3 hz => ?_)
  subst e1; subst e2; subst e3
  refine b_X12_form_0 hz hG ?_
  have hM := hs.1.mo
  have h16 := hM.2.1
  have h1 := hM.1
  have hP := hM.2.2.1
  have hk := KA hs hw
  have hkf : frM I L (setI I 64 (upd (I 64) 2 (nI (kaU I + 1)))) (setL L 66 (m_ka I L)) := KA_fr
  have hMk : MO (setL L 66 (m_ka I L)) (rN (sC s)) (rA (sC s)) := hk.1.mo
  have hmk : mOk (setL L 66 (m_ka I L)) := ⟨_, _, hMk⟩
  have part : ∀ (S : Int32) (d' : Nat), d' = 3 → (∃ x, x < rN (sC s) ∧ bt S x = true) → ∃ (d : Nat) (post : amP), Nat.ble (d + 1) 4 = true ∧ Mx (zL z) (zD z) (zB z) yX12_within cX12_within 5 none d 0 0 [.ref ((zB z).size + 64), .int S] G (setI I 64 (upd (I 64) 2 (nI (kaU I + 1)))) (setL L 66 (m_ka I L)) post ∧ ∀ (ro : Option Value) (G2 : amG) (I2 : amI) (L2 : amL), post ro G2 I2 L2 → ro = none ∧ Lay G2 ∧ (some (Value.int (m_many (setL L2 65 (m_tk (L2 65) (I2 70) (I2 64 12) (I2 64 5))))) = some (.int (partS s S).1) ∧ G2 = G ∧ RI (partS s S).2 (setI I2 64 (upd (I2 64) 24 0)) (setL L2 65 (m_tk (L2 65) (I2 70) (I2 64 12) (I2 64 5))) ∧ frM I L (setI I2 64 (upd (I2 64) 24 0)) (setL L2 65 (m_tk (L2 65) (I2 70) (I2 64 12) (I2 64 5)))) := by
    intro S d' _ hS
    obtain ⟨x, hx, hb⟩ := hS
    refine ⟨2, _, rfl, c_X12_within hG _ hMk, fun ro G2 I2 L2 ⟨e1, e2, e3, f, e4, e5, e6⟩ => ⟨e1, by rw [e2]; exact hG, ?_⟩⟩
    rw [e2, e3, e4]
    exact AD (RI_wi hk) (frM_t hkf wi_fr) (ct_up hx hb) (Nat.le_trans (ct_le _ _) h16) (par_PO hP h16) wi_12 (fun j hj => by rw [wi_70]; exact wth_up hMk e5 hj)
  have go : (v1 = 1 → ivB (rN (sC s)) (rA (sC s)) v2 v3 = true) → (v1 = 2 → setB (rN (sC s)) v2 = true) → (¬ v1 ≤ 2 → ∃ j, j < 2 ∧ v2 = nI j ∧ ¬ (shJ s j).1 = 0 ∧ (if v1 = 5 then rN (sC s) * (shJ s j).1 ≤ 16 else rN (sC s) + (shJ s j).1 ≤ 16)) → inR 5 v1 = true → Wx z 0 0 89 [(0, .ref ((zB z).size + 64)), (1, .int v1), (2, .int v2), (3, .int v3)] [] G I L := by
    intro g1 g2 g3 g4
    have h345 : ¬ v1 = 0 → ¬ v1 = 1 → ¬ v1 = 2 → v1 = 3 ∨ v1 = 4 ∨ v1 = 5 := fun a b c => by
      rcases inR5.mp g4 with q | q | q | q
      · exact absurd q a
      · exact absurd q b
      · exact absurd q c
      · exact q
    refine b_X12_form_89 hz hG ⟨mu_ok hs hw, fun n0 => ⟨fun n1 => ⟨fun n2 => ⟨fun q5 => ?_, fun q5 => ⟨fun n4 => ?_, fun q4 => ?_⟩⟩, fun q2 => ?_⟩, fun q1 => ?_⟩, fun q0 => ?_⟩
    · have e5 : v1 = 5 := by
        rcases h345 n0 n1 n2 with q | q | q
        · subst q; exact absurd q5 (by decide)
        · subst q; exact absurd q5 (by decide)
        · exact q
      subst e5
      obtain ⟨j, hj, rfl, k0, k1⟩ := g3 (by decide)
      rw [if_pos rfl] at k1
      have hK := kept_KO hk hj k0
      have hx : xForm s 5 (nI j) v3 = (nI (rN (sC s) * (shJ s j).1), adoptS s (rN (sC s) * (shJ s j).1) (prsA (rN (sC s)) (shJ s j).1 (rA (sC s)) (shJ s j).2)) := by
        rw [xForm, if_neg (by decide), if_neg (by decide), if_neg (by decide), if_pos (by decide), if_pos ((inR_t (by decide)).mpr ⟨j, by omega, rfl⟩), cl_nI (n := j) (by omega), if_neg k0, xFormK, if_pos rfl, if_pos k1]
      rw [hx]
      have e67 : (setI I 64 (upd (I 64) 2 (nI (kaU I + 1)))) 67 (nI j).toNatClampNeg = nI (shJ s j).1 := by rw [cl_nI (n := j) (by omega)]; exact hK.2.2.2.1
      refine ⟨hmk, ⟨j, _, hj, rfl, hK.2.2.2.1, hK.1, by rw [hMk.N]; exact k1⟩, ?_⟩
      rw [e67, hMk.many, nI_mul]
      exact AD (RI_wi hk) (frM_t hkf wi_fr) (Nat.mul_pos h1 hK.1) k1 (prs_PO hP hK.2.2.1 h16 hK.1 hK.2.1 k1) wi_12 (fun i hi => by rw [wi_70]; exact prs_M hMk hj hK k1 hi)
    · have e3 : v1 = 3 := by
        rcases h345 n0 n1 n2 with q | q | q
        · exact q
        · exact absurd q n4
        · subst q; exact absurd (by decide) q5
      subst e3
      obtain ⟨j, hj, rfl, k0, k1⟩ := g3 (by decide)
      rw [if_neg (by decide)] at k1
      have hK := kept_KO hk hj k0
      have hx : xForm s 3 (nI j) v3 = (nI (rN (sC s) + (shJ s j).1), adoptS s (rN (sC s) + (shJ s j).1) (botA (rN (sC s)) (shJ s j).1 (rA (sC s)) (shJ s j).2 (decide ((3 : Int32) = 4)))) := by
        rw [xForm, if_neg (by decide), if_neg (by decide), if_neg (by decide), if_pos (by decide), if_pos ((inR_t (by decide)).mpr ⟨j, by omega, rfl⟩), cl_nI (n := j) (by omega), if_neg k0, xFormK, if_neg (by decide), if_pos k1]
      rw [hx]
      have e67 : (setI I 64 (upd (I 64) 2 (nI (kaU I + 1)))) 67 (nI j).toNatClampNeg = nI (shJ s j).1 := by rw [cl_nI (n := j) (by omega)]; exact hK.2.2.2.1
      refine ⟨hmk, ⟨j, _, hj, rfl, hK.2.2.2.1, by rw [hMk.N]; exact k1⟩, ?_⟩
      rw [e67, hMk.many, nI_add]
      exact AD (RI_wi hk) (frM_t hkf wi_fr) (by omega) k1 (bot_PO hP hK.2.2.1 k1) wi_12 (fun i hi => by rw [wi_70]; exact bes_up hMk hj hK k1 (Or.inl rfl) hi)
    · subst q4
      obtain ⟨j, hj, rfl, k0, k1⟩ := g3 (by decide)
      rw [if_neg (by decide)] at k1
      have hK := kept_KO hk hj k0
      have hx : xForm s 4 (nI j) v3 = (nI (rN (sC s) + (shJ s j).1), adoptS s (rN (sC s) + (shJ s j).1) (botA (rN (sC s)) (shJ s j).1 (rA (sC s)) (shJ s j).2 (decide ((4 : Int32) = 4)))) := by
        rw [xForm, if_neg (by decide), if_neg (by decide), if_neg (by decide), if_pos (by decide), if_pos ((inR_t (by decide)).mpr ⟨j, by omega, rfl⟩), cl_nI (n := j) (by omega), if_neg k0, xFormK, if_neg (by decide), if_pos k1]
      rw [hx]
      have e67 : (setI I 64 (upd (I 64) 2 (nI (kaU I + 1)))) 67 (nI j).toNatClampNeg = nI (shJ s j).1 := by rw [cl_nI (n := j) (by omega)]; exact hK.2.2.2.1
      refine ⟨hmk, ⟨j, _, hj, rfl, hK.2.2.2.1, by rw [hMk.N]; exact k1⟩, ?_⟩
      rw [e67, hMk.many, nI_add]
      exact AD (RI_wi hk) (frM_t hkf wi_fr) (by omega) k1 (bot_PO hP hK.2.2.1 k1) wi_12 (fun i hi => by rw [wi_70]; exact bes_up hMk hj hK k1 (Or.inr rfl) hi)
    · subst q2
      have hS := g2 rfl
      have hx : xForm s 2 v2 v3 = partS s v2 := by rw [xForm, if_neg (by decide), if_neg (by decide), if_pos rfl, if_pos hS]
      rw [hx]
      refine part v2 3 rfl ?_
      obtain ⟨s1, s2⟩ := (set_t h16).mp hS
      exact Classical.byContradiction fun q => s1 (b_eq0.mpr (fun i hi => by
        rw [Bool.eq_false_iff]
        intro e
        exact q ⟨i, s2 i hi e, e⟩))
    · subst q1
      have hS := g1 rfl
      obtain ⟨x, y, hx, hy, rfl, rfl, hl⟩ := (iv_t h16).mp hS
      have hx2 : xForm s 1 (nI x) (nI y) = partS s (ivS (rN (sC s)) (rA (sC s)) x y) := by rw [xForm, if_neg (by decide), if_pos rfl, if_pos hS, cl_nI (n := x) (by omega), cl_nI (n := y) (by omega)]
      rw [hx2, hMk.iv hx hy]
      refine ⟨hmk, in16 h16 hx, part _ 3 rfl ⟨x, hx, ?_⟩⟩
      rw [iv_b (by omega) hy (by omega), decide_eq_true hx, le_rf (by omega), hl]; rfl
    · subst q0
      have hx : xForm s 0 v2 v3 = (nI (rN (sC s)), adoptS s (rN (sC s)) (bn (rN (sC s)) (rA (sC s)))) := by rw [xForm, if_pos rfl]
      rw [hx]
      refine ⟨hmk, ?_⟩
      rw [hMk.many]
      exact AD (RI_wi hk) (frM_t hkf wi_fr) h1 h16 (turn_PO hP (by omega)) wi_12 (fun j hj => by
        rw [setI_s, wr_in (by omega), Nat.sub_zero, if_neg (nI_ge hj (by omega)), hMk.dn hj]
        rfl)
  have neg : ∀ {r : Int32 × St}, xForm s v1 v2 v3 = r → r.2 = s → (some (Value.int r.1) = some (.int (xForm s v1 v2 v3).1) ∧ G = G ∧ RI (xForm s v1 v2 v3).2 I L ∧ frM I L I L) := fun e1 e2 => by rw [e1]; exact ⟨rfl, rfl, by rw [e2]; exact hs, frM_r⟩
  have big : ∀ {v : Int32}, inR 5 v = true → ¬ v ≤ 2 → v = 3 ∨ v = 4 ∨ v = 5 := fun g4 g => by
    rcases inR5.mp g4 with q | q | q | q
    · subst q; exact absurd (by decide) g
    · subst q; exact absurd (by decide) g
    · subst q; exact absurd (by decide) g
    · exact q
  have sz : ∀ {j : Nat}, j < 2 → ¬ (shJ s j).1 = 0 → (((if v1 = 5 then m_many L * I 67 j else m_many L + I 67 j) ≤ 16) ↔ (if v1 = 5 then rN (sC s) * (shJ s j).1 ≤ 16 else rN (sC s) + (shJ s j).1 ≤ 16)) := by
    intro j hj h0
    have hK := kept_KO hs hj h0
    have hk16 := hK.2.1
    rw [hK.2.2.2.1, hM.many]
    by_cases e : v1 = 5
    · rw [if_pos e, if_pos e, nI_mul, show (16 : Int32) = nI 16 from rfl, nI_leI (by have := Nat.mul_le_mul h16 hk16; omega) (by decide)]
    · rw [if_neg e, if_neg e, nI_add, show (16 : Int32) = nI 16 from rfl, nI_leI (by omega) (by decide)]
  have mid : inR 5 v1 = true → (v1 = 1 → ivB (rN (sC s)) (rA (sC s)) v2 v3 = true) → Wx z 0 0 30 [(0, .ref ((zB z).size + 64)), (1, .int v1), (2, .int v2), (3, .int v3)] [] G I L := by
    intro g4 g1
    have kp : ¬ v1 ≤ 2 → ¬ v1 = 2 → (m_kept I v2 = true → (vp_in v2 2) ∧ (((if v1 = 5 then m_many L * I 67 v2.toNatClampNeg else m_many L + I 67 v2.toNatClampNeg) ≤ (16)) → Wx z 0 0 89 [(0, .ref ((zB z).size + 64)), (1, .int v1), (2, .int v2), (3, .int v3)] [] G I L) ∧ ((¬ (if v1 = 5 then m_many L * I 67 v2.toNatClampNeg else m_many L + I 67 v2.toNatClampNeg) ≤ (16)) → (some (Value.int (-2)) = some (.int (xForm s v1 v2 v3).1) ∧ G = G ∧ RI (xForm s v1 v2 v3).2 I L ∧ frM I L I L))) ∧ (m_kept I v2 = false → (some (Value.int (-1)) = some (.int (xForm s v1 v2 v3).1) ∧ G = G ∧ RI (xForm s v1 v2 v3).2 I L ∧ frM I L I L)) := by
      intro hb n2
      have h3 := big g4 hb
      have n0 : ¬ v1 = 0 := fun q => hb (by rw [q]; decide)
      have n1 : ¬ v1 = 1 := fun q => hb (by rw [q]; decide)
      have hx : xForm s v1 v2 v3 = (if inR 1 v2 = true then (if (shJ s v2.toNatClampNeg).1 = 0 then (-1, s) else xFormK s v1 (shJ s v2.toNatClampNeg)) else (-1, s)) := by
        rw [xForm, if_neg n0, if_neg n1, if_neg n2, if_pos h3]
      cases hr : inR 1 v2 with
      | false =>
        have hk0 : m_kept I v2 = false := by rw [m_kept, isIn_R (k := 1) (by decide) (by decide), hr]; rfl
        refine ⟨fun q => (by rw [hk0] at q; cases q), fun _ => neg (r := (-1, s)) ?_ rfl⟩
        rw [hx, if_neg (by rw [hr]; decide)]
      | true =>
        obtain ⟨j, hj, rfl⟩ := (inR_t (by decide)).mp hr
        rw [if_pos hr, cl_nI (n := j) (by omega)] at hx
        have hkm := kept_M hs hw (j := j) (by omega)
        have hkm2 : m_kept I (nI j) = decide (¬ (shJ s j).1 = 0) := by
          rw [hkm]
          have hj01 : j = 0 ∨ j = 1 := by omega
          rcases hj01 with rfl | rfl <;> rfl
        rw [hkm2, cl_nI (n := j) (by omega)]
        refine ⟨fun q => ?_, fun q => neg (r := (-1, s)) ?_ rfl⟩
        · have h0 : ¬ (shJ s j).1 = 0 := of_decide_eq_true q
          rw [if_neg h0] at hx
          rw [sz (by omega) h0]
          refine ⟨in_nI (by omega) (by decide), fun w => go g1 (fun e => absurd e n2) (fun _ => ⟨j, by omega, rfl, h0, w⟩) g4, fun w => neg (r := (-2, s)) ?_ rfl⟩
          rw [hx, xFormK]
          by_cases e : v1 = 5
          · rw [if_pos e]
            rw [if_pos e] at w
            rw [if_neg w]
          · rw [if_neg e]
            rw [if_neg e] at w
            rw [if_neg w]
        · have h0 : (shJ s j).1 = 0 := Classical.byContradiction fun w => by rw [decide_eq_true w] at q; cases q
          rw [hx, if_pos h0]
    refine b_X12_form_30 hz hG ⟨fun n2 => ⟨fun a => ⟨fun _ => go g1 (fun e => absurd e n2) (fun b => absurd a b) g4, fun b => absurd a b⟩, fun b => ⟨fun q => ⟨fun a => absurd a b, fun _ => (kp b n2).1 q⟩, (kp b n2).2⟩⟩, fun q2 => ?_⟩
    have h2 : v1 ≤ 2 := by rw [q2]; decide
    have hx : xForm s v1 v2 v3 = (if setB (rN (sC s)) v2 = true then partS s v2 else (-1, s)) := by rw [q2, xForm, if_neg (by decide), if_neg (by decide), if_pos rfl]
    rw [hM.many, in_set h16]
    refine ⟨fun q => ⟨fun _ => ⟨fun _ => go g1 (fun _ => q) (fun b => absurd h2 b) g4, fun b => absurd h2 b⟩, fun b => absurd h2 b⟩, fun q => neg (r := (-1, s)) ?_ rfl⟩
    rw [hx, if_neg (by rw [q]; decide)]
  rw [isIn_R (k := 5) (by decide) (by decide), hM.isiv]
  refine ⟨fun h => ⟨fun n1 => mid h (fun e => absurd e n1), fun q1 => ⟨⟨_, _, hM⟩, fun q => mid h (fun _ => q), fun q => neg (r := (-1, s)) ?_ rfl⟩⟩, fun h => neg (r := (-1, s)) ?_ rfl⟩
  · rw [q1, xForm, if_neg (by decide), if_pos rfl, if_neg (by rw [q]; decide)]
  · have hall : ∀ k, (k = 0 ∨ k = 1 ∨ k = 2 ∨ k = 3 ∨ k = 4 ∨ k = 5) → ¬ v1 = k := fun k hk q => by
      rw [q, inR5.mpr hk] at h; cases h
    rw [xForm, if_neg (hall 0 (by decide)), if_neg (hall 1 (by decide)), if_neg (hall 2 (by decide)), if_neg (by
      rintro (q | q | q)
      · exact hall 3 (by decide) q
      · exact hall 4 (by decide) q
      · exact hall 5 (by decide) q)]
