/-! THE REFERENCE: acts -/
def pushH (s : St) : Nat × (Nat → Row) := if (sH s).1 = 8 then (8, fun j => if j = 7 then sC s else (sH s).2 (j + 1)) else ((sH s).1 + 1, fun j => if j = (sH s).1 then sC s else (sH s).2 j)
def pushS (s : St) : St := (sC s, s0 s, s1 s, sE s, sT s, pushH s)
def withC (s : St) (r : Row) : St := (r, s.2)
theorem KA {s : St} {I : amI} {L : amL} (hs : RI s I L) (hw : WF s) : RI (pushS s) (setI I 64 (upd (I 64) 2 (nI (kaU I + 1)))) (setL L 66 (m_ka I L)) := by
  obtain ⟨h1, h2, h3, h4, h5, h6, h7, h8, h9⟩ := hs
  have hu8 := hw.2.2.2.2.2.2.2.2.1
  refine ⟨by rw [setL_n (by decide)]; exact h1, by rw [setI_s, upd_n (by decide)]; exact h2, shM_c (setI_n (by decide)) (setI_n (by decide)) h3, shM_c (setI_n (by decide)) (setI_n (by decide)) h4, by rw [setI_s, upd_n (by decide)]; exact h5, by rw [setI_n (by decide)]; exact h6, ?_, ?_, TyK_c (by rw [setI_s, upd_n (by decide)]) (by rw [setI_s, upd_n (by decide)]) (setI_n (by decide)) (setI_n (by decide)) h9⟩
  · rw [setI_s, upd_s]
    show nI (kaU I + 1) = nI (pushH s).1
    by_cases e : (sH s).1 = 8
    · rw [kaU, if_pos (by rw [h7, e]; rfl), pushH, if_pos e]
    · rw [kaU, if_neg (by rw [h7, show (8 : Int32) = nI 8 from rfl, nI_eq (by omega) (by decide)]; exact e), pushH, if_neg e, h7, cl_nI (by omega)]
  · intro j hj
    rw [setL_s]
    by_cases e : (sH s).1 = 8
    · have k7 : kaU I = 7 := by rw [kaU, if_pos (by rw [h7, e]; rfl)]
      have hp : pushH s = (8, fun j => if j = 7 then sC s else (sH s).2 (j + 1)) := by rw [pushH, if_pos e]
      have hj8 : j < 8 := by
        have : j < (pushH s).1 := hj
        rw [hp] at this; exact this
      show RowM _ ((pushH s).2 j)
      rw [hp]
      show RowM _ (if j = 7 then sC s else (sH s).2 (j + 1))
      by_cases e7 : j = 7
      · rw [if_pos e7]
        refine RowM_c h1 (fun k hk => ?_)
        show m_ka I L (1074 * j + k) = L 65 k
        rw [m_ka, k7, e7, wr_in (by omega), Nat.add_sub_cancel_left]
      · rw [if_neg e7]
        refine RowM_c (h8 (j + 1) (by omega)) (fun k hk => ?_)
        show m_ka I L (1074 * j + k) = L 66 (1074 * (j + 1) + k)
        rw [m_ka, k7, wr_out (by omega), kaS, if_pos (by rw [h7, e]; rfl), wr_in (by omega), show 1074 * j + k - 0 + 1074 = 1074 * (j + 1) + k by omega]
    · have k7 : kaU I = (sH s).1 := by rw [kaU, if_neg (by rw [h7, show (8 : Int32) = nI 8 from rfl, nI_eq (by omega) (by decide)]; exact e), h7, cl_nI (by omega)]
      have hp : pushH s = ((sH s).1 + 1, fun j => if j = (sH s).1 then sC s else (sH s).2 j) := by rw [pushH, if_neg e]
      have hj8 : j < (sH s).1 + 1 := by
        have : j < (pushH s).1 := hj
        rw [hp] at this; exact this
      show RowM _ ((pushH s).2 j)
      rw [hp]
      show RowM _ (if j = (sH s).1 then sC s else (sH s).2 j)
      by_cases e7 : j = (sH s).1
      · rw [if_pos e7]
        refine RowM_c h1 (fun k hk => ?_)
        show m_ka I L (1074 * j + k) = L 65 k
        rw [m_ka, k7, e7, wr_in (by omega), Nat.add_sub_cancel_left]
      · rw [if_neg e7]
        refine RowM_c (h8 j (by omega)) (fun k hk => ?_)
        show m_ka I L (1074 * j + k) = L 66 (1074 * j + k)
        rw [m_ka, k7, wr_out (by omega), kaS, if_neg (by rw [h7, show (8 : Int32) = nI 8 from rfl, nI_eq (by omega) (by decide)]; exact e)]
theorem KA_fr {I : amI} {L : amL} {f : Nat → Int32} {g : Nat → Int64} : frM I L (setI I 64 f) (setL L 66 g) := frM_t (frM_I (by decide) (by decide)) (frM_L (by decide) (by decide))
theorem mu_ok {s : St} {I : amI} {L : amL} (hs : RI s I L) (hw : WF s) : muOk I := ⟨_, hw.2.2.2.2.2.2.2.2.1, hs.2.2.2.2.2.2.1⟩
/-- the current row is another one -/
theorem RI_w {s : St} {r : Row} {I : amI} {L : amL} {f : Nat → Int64} (hs : RI s I L) (hr : RowM f r) (hn : rN r = rN (sC s)) (hA : rA r = rA (sC s)) : RI (withC s r) I (setL L 65 f) := by
  obtain ⟨h1, h2, h3, h4, h5, h6, h7, h8, h9⟩ := hs
  refine ⟨by rw [setL_s]; exact hr, h2, h3, h4, h5, h6, h7, fun j hj => ?_, ?_⟩
  · rw [setL_n (by decide)]; exact h8 j hj
  · show I 64 24 = 0 ∨ TyK I (rN r) (rA r)
    rw [hn, hA]; exact h9
def newR (m : Nat) (A : Nat → Int32) (e : Int32) : Row := (m, A, fun _ => 0, fun _ => 0, fun _ => -1, e)
def adoptS (s : St) (m : Nat) (A : Nat → Int32) : St := withC (pushS s) (newR m A (sE s))
theorem TK {s : St} {I : amI} {L : amL} {m : Nat} {A : Nat → Int32} (hs : RI s I L) (h1 : 1 ≤ m) (h16 : m ≤ 16) (hP : PO m A) (h12 : I 64 12 = nI m) (h70 : ∀ j, j < m → I 70 j = upS A j) : RI (withC s (newR m A (sE s))) (setI I 64 (upd (I 64) 24 0)) (setL L 65 (m_tk (L 65) (I 70) (I 64 12) (I 64 5))) := by
  obtain ⟨g1, g2, g3, g4, g5, g6, g7, g8, g9⟩ := hs
  refine ⟨?_, by rw [setI_s, upd_n (by decide)]; exact g2, shM_c (setI_n (by decide)) (setI_n (by decide)) g3, shM_c (setI_n (by decide)) (setI_n (by decide)) g4, by rw [setI_s, upd_n (by decide)]; exact g5, by rw [setI_n (by decide)]; exact g6, by rw [setI_s, upd_n (by decide)]; exact g7, fun j hj => by rw [setL_n (by decide)]; exact g8 j hj, Or.inl (by rw [setI_s, upd_s])⟩
  rw [setL_s, h12, g2]
  refine ⟨⟨h1, h16, hP, ?_, fun a ha => ?_, fun a ha hb => ?_⟩, fun k hk => ?_, fun a ha => ?_, fun x hx => ?_, ?_⟩
  · show m_tk (L 65) (I 70) (nI m) (sE s) 0 = lN m
    rw [m_tk, m_clr, m_fgt, updL_n (by decide), wr_out (by omega), wr_out (by omega), wr_out (by omega), updL_s, nI_l (by omega)]
  · show m_tk (L 65) (I 70) (nI m) (sE s) (1 + a) = (upS A a).toInt64
    have hm : a < m := ha
    rw [m_tk, m_clr, m_fgt, updL_n (by omega), wr_out (by omega), wr_out (by omega), wr_in (by omega), show 1 + a - 1 = a by omega, if_neg (nI_ge hm (by omega)), h70 a hm]
  · show m_tk (L 65) (I 70) (nI m) (sE s) (1 + a) = 0
    have hm : m ≤ a := ha
    rw [m_tk, m_clr, m_fgt, updL_n (by omega), wr_out (by omega), wr_out (by omega), wr_in (by omega), show 1 + a - 1 = a by omega, if_pos (nI_le hm (by omega))]
  · rw [m_tk, m_clr, m_fgt, updL_n (by omega), wr_out (by omega), wr_in (by omega)]; rfl
  · rw [m_tk, m_clr, m_fgt, updL_n (by omega), wr_out (by omega), wr_in (by omega)]; rfl
  · rw [m_tk, m_clr, m_fgt, updL_n (by omega), wr_in (by omega)]; rfl
  · rw [m_tk, m_clr, m_fgt, updL_s]; rfl
theorem TK_fr {I : amI} {L : amL} {f : Nat → Int32} {g : Nat → Int64} : frM I L (setI I 64 f) (setL L 65 g) := frM_t (frM_I (by decide) (by decide)) (frM_L (by decide) (by decide))
/-! data, points, values -/
def xData (s : St) (e : Int32) (v : Int64) : Int32 × St :=
  if elB (rN (sC s)) e = true then (if rD (sC s) e.toNatClampNeg = v then (-2, s) else (1, withC (pushS s) (rN (sC s), rA (sC s), rF (sC s), vp_updL (rD (sC s)) e.toNatClampNeg v, rP (sC s), rE (sC s)))) else (-1, s)
set_option maxRecDepth 100000 in
set_option maxHeartbeats 4000000 in
theorem b_X12_data_0 {z : amZ} {post : amP} {G : amG} {I : amI} {L : amL} (hz : Go z cX12_data RX12 4 (some .int) 2 0 0 post) (hG : Lay G) {v1 : Int32} {v2 : Int64} (h : ((m_el L v1 = true) → vp_in ((1041 : Int32) + v1) 1074 ∧ ((¬ (L 65 ((1041 : Int32) + v1).toNatClampNeg) = v2) → (muOk I) ∧ vp_in ((1041 : Int32) + v1) 1074 ∧ post (some (.int 1)) G (setI I 64 (upd (I 64) 2 (nI (kaU I + 1)))) (setL (setL L 66 (m_ka I L)) 65 (vp_updL ((setL L 66 (m_ka I L)) 65) ((1041 : Int32) + v1).toNatClampNeg v2))) ∧ (((L 65 ((1041 : Int32) + v1).toNatClampNeg) = v2) → post (some (.int (-2))) G I L)) ∧ ((m_el L v1 = false) → post (some (.int (-1))) G I L)) : Wx z 0 0 0 [(0, .ref ((zB z).size + 64)), (1, .int v1), (2, .long v2)] [] G I L := by
  have hz1 := hz.1
  refine am_aload_n hz1 dX12_data_0 0 rfl rfl ?_
  refine am_iload_n hz1 dX12_data_1 1 rfl rfl ?_
  refine am_cVf hz cv_X12_100 [.int v1] [] (c_X12_isElement hG v1 ) (ln_64 hG) (lk_64 hG) rfl rfl rfl ⟨Nat.le_refl _, Nat.le_refl _⟩ (Nat.le_of_ble_eq_true rfl) dX12_data_2 ?_
  refine am_ifb_ne (tgt := 10) hz1 dX12_data_5 (by decide) (fun c1 => ?_) (fun c1 => ?_)
  · replace h := h.1 c1
    refine am_aload_n hz1 dX12_data_10 0 rfl rfl ?_
    refine am_getR hz1 fl_X12_9 (ln_64 hG) (lk_64 hG) (lr_64_0 hG) rfl dX12_data_11 ?_
    refine am_sipush (v := 1041) hz1 dX12_data_14 (by decide) ?_
    refine am_iload_n hz1 dX12_data_17 1 rfl rfl ?_
    refine am_iadd hz1 dX12_data_18 ?_
    obtain ⟨g2, h⟩ := h
    refine am_lald hz1 (ln_65 hG) (lk_65 hG) (by rw [(ll_65 hG)]; exact g2) dX12_data_19 ?_
    refine am_lload_n hz1 dX12_data_20 2 rfl rfl ?_
    refine am_lif_ne (tgt := 28) hz1 dX12_data_21 dX12_data_22 (by decide) (fun c3 => ?_) (fun c3 => ?_)
    · replace h := h.1 c3
      refine am_aload_n hz1 dX12_data_28 0 rfl rfl ?_
      obtain ⟨g4, h⟩ := h
      refine am_cVf hz cv_X12_233 [] [] (c_X12_keepsAct hG  g4) (ln_64 hG) (lk_64 hG) rfl rfl rfl ⟨Nat.le_refl _, Nat.le_refl _⟩ (Nat.le_of_ble_eq_true rfl) dX12_data_29 ?_
      refine am_aload_n hz1 dX12_data_32 0 rfl rfl ?_
      refine am_getR hz1 fl_X12_9 (ln_64 hG) (lk_64 hG) (lr_64_0 hG) rfl dX12_data_33 ?_
      refine am_sipush (v := 1041) hz1 dX12_data_36 (by decide) ?_
      refine am_iload_n hz1 dX12_data_39 1 rfl rfl ?_
      refine am_iadd hz1 dX12_data_40 ?_
      refine am_lload_n hz1 dX12_data_41 2 rfl rfl ?_
      obtain ⟨g5, h⟩ := h
      refine am_last hz1 (ln_65 hG) (lk_65 hG) (by rw [(ll_65 hG)]; exact g5) dX12_data_42 ?_
      refine am_iconst (v := 1) hz1 dX12_data_43 (by decide) ?_
      exact am_ireturn hz dX12_data_44 h
    · replace h := h.2 c3
      refine am_bipush (v := (-2)) hz1 dX12_data_25 (by decide) ?_
      exact am_ireturn hz dX12_data_27 h
  · replace h := h.2 c1
    refine am_iconst (v := (-1)) hz1 dX12_data_8 (by decide) ?_
    exact am_ireturn hz dX12_data_9 h
set_option maxRecDepth 100000 in
set_option maxHeartbeats 4000000 in
theorem c_X12_data {l : Launch} {D : va_G} {B : Heap} {G : amG} {I : amI} {L : amL}  (hG : Lay G)  (v1 : Int32) (v2 : Int64) {s : St} (hs : RI s I L) (hw : WF s) : Mx l D B yX12_data cX12_data 4 (some .int) 2 0 0 [.ref (B.size + 64), .int v1, .long v2] G I L (fun r G1 I1 L1 => r = some (.int (xData s v1 v2).1) ∧ G1 = G ∧ RI (xData s v1 v2).2 I1 L1 ∧ frM I L I1 L1) := by
  refine Mx.of (by decide) rfl rfl (fun z e1 e2 e3 hz => ?_)
  subst e1; subst e2; subst e3
  refine b_X12_data_0 hz hG ?_
  have hM := hs.1.mo
  have h16 := hM.2.1
  rw [hM.el]
  refine ⟨fun h => ?_, fun h => ?_⟩
  · obtain ⟨x, hx, rfl⟩ := (el_t (by omega)).mp h
    have ex : (nI x).toNatClampNeg = x := cl_nI (by omega)
    have e1 : ((1041 : Int32) + nI x).toNatClampNeg = 1041 + x := clA (a := 1041) (by omega)
    have hin : vp_in ((1041 : Int32) + nI x) 1074 := inA (a := 1041) (by omega) (by decide)
    rw [e1, hs.1.2.2.1 x (by omega)]
    refine ⟨hin, fun q => ?_, fun q => ?_⟩
    · have hx2 : xData s (nI x) v2 = (1, withC (pushS s) (rN (sC s), rA (sC s), rF (sC s), vp_updL (rD (sC s)) x v2, rP (sC s), rE (sC s))) := by rw [xData, if_pos h, ex, if_neg q]
      rw [hx2, setL_n (q := 65) (by decide)]
      refine ⟨mu_ok hs hw, hin, rfl, rfl, RI_w (KA hs hw) ?_ rfl rfl, frM_t KA_fr (frM_L (by decide) (by decide))⟩
      obtain ⟨⟨a1, a2, a3, a4, a5, a6⟩, a7, a8, a9, a10⟩ := hs.1
      refine ⟨⟨a1, a2, a3, by rw [updL_n (by omega)]; exact a4, fun a ha => by rw [updL_n (by have : a < rN (sC s) := ha; omega)]; exact a5 a ha, fun a ha hb => by rw [updL_n (by omega)]; exact a6 a ha hb⟩, fun k hk => by rw [updL_n (by omega)]; exact a7 k hk, fun a ha => ?_, fun y hy => by rw [updL_n (by omega)]; exact a9 y hy, by rw [updL_n (by omega)]; exact a10⟩
      show vp_updL (L 65) (1041 + x) v2 (1041 + a) = vp_updL (rD (sC s)) x v2 a
      by_cases e : a = x
      · subst e; rw [updL_s, updL_s]
      · rw [updL_n (by omega), updL_n e]; exact a8 a ha
    · have hx2 : xData s (nI x) v2 = (-2, s) := by rw [xData, if_pos h, ex, if_pos q]
      rw [hx2]
      exact ⟨rfl, rfl, hs, frM_r⟩
  · have hx2 : xData s v1 v2 = (-1, s) := by rw [xData, if_neg (by rw [h]; decide)]
    rw [hx2]
    exact ⟨rfl, rfl, hs, frM_r⟩
def xPoint (s : St) (x y : Int32) : Int32 × St :=
  if (elB (rN (sC s)) x && elB (s0 s).1 y) = true then (if rP (sC s) x.toNatClampNeg = y then (-2, s) else (1, withC (pushS s) (rN (sC s), rA (sC s), rF (sC s), rD (sC s), upd (rP (sC s)) x.toNatClampNeg y, rE (sC s)))) else (-1, s)
theorem i64_inj {x y : Int32} : x.toInt64 = y.toInt64 ↔ x = y := by
  rw [← Int64.toInt_inj, ← Int32.toInt_inj, Int32.toInt_toInt64, Int32.toInt_toInt64]
set_option maxRecDepth 100000 in
set_option maxHeartbeats 4000000 in
theorem b_X12_point_0 {z : amZ} {post : amP} {G : amG} {I : amI} {L : amL} (hz : Go z cX12_point RX12 3 (some .int) 2 0 0 post) (hG : Lay G) {v1 : Int32} {v2 : Int32} (h : ((m_el L v1 = false) → post (some (.int (-1))) G I L) ∧ ((m_el L v1 = true) → ((m_kept I (0 : Int32) = false) → post (some (.int (-1))) G I L) ∧ ((m_kept I (0 : Int32) = true) → ((m_isIn v2.toInt64 (0 : Int64) (((I 67 (0 : Int32).toNatClampNeg) - (1 : Int32)).toInt64) = true) → vp_in ((1057 : Int32) + v1) 1074 ∧ ((¬ (L 65 ((1057 : Int32) + v1).toNatClampNeg) = v2.toInt64) → (muOk I) ∧ vp_in ((1057 : Int32) + v1) 1074 ∧ post (some (.int 1)) G (setI I 64 (upd (I 64) 2 (nI (kaU I + 1)))) (setL (setL L 66 (m_ka I L)) 65 (vp_updL ((setL L 66 (m_ka I L)) 65) ((1057 : Int32) + v1).toNatClampNeg v2.toInt64))) ∧ (((L 65 ((1057 : Int32) + v1).toNatClampNeg) = v2.toInt64) → post (some (.int (-2))) G I L)) ∧ ((m_isIn v2.toInt64 (0 : Int64) (((I 67 (0 : Int32).toNatClampNeg) - (1 : Int32)).toInt64) = false) → post (some (.int (-1))) G I L)))) : Wx z 0 0 0 [(0, .ref ((zB z).size + 64)), (1, .int v1), (2, .int v2)] [] G I L := by
  have hz1 := hz.1
  refine am_aload_n hz1 dX12_point_0 0 rfl rfl ?_
  refine am_iload_n hz1 dX12_point_1 1 rfl rfl ?_
  refine am_cVf hz cv_X12_100 [.int v1] [] (c_X12_isElement hG v1 ) (ln_64 hG) (lk_64 hG) rfl rfl rfl ⟨Nat.le_refl _, Nat.le_refl _⟩ (Nat.le_of_ble_eq_true rfl) dX12_point_2 ?_
  refine am_ifb_eq (tgt := 34) hz1 dX12_point_5 (by decide) (fun c1 => ?_) (fun c1 => ?_)
  · replace h := h.1 c1
    refine am_iconst (v := (-1)) hz1 dX12_point_34 (by decide) ?_
    exact am_ireturn hz dX12_point_35 h
  · replace h := h.2 c1
    refine am_aload_n hz1 dX12_point_8 0 rfl rfl ?_
    refine am_iconst (v := 0) hz1 dX12_point_9 (by decide) ?_
    refine am_cVf hz cv_X12_250 [.int 0] [] (c_X12_isKept hG (0 : Int32) ) (ln_64 hG) (lk_64 hG) rfl rfl rfl ⟨Nat.le_refl _, Nat.le_refl _⟩ (Nat.le_of_ble_eq_true rfl) dX12_point_10 ?_
    refine am_ifb_eq (tgt := 34) hz1 dX12_point_13 (by decide) (fun c2 => ?_) (fun c2 => ?_)
    · replace h := h.1 c2
      refine am_iconst (v := (-1)) hz1 dX12_point_34 (by decide) ?_
      exact am_ireturn hz dX12_point_35 h
    · replace h := h.2 c2
      refine am_iload_n hz1 dX12_point_16 2 rfl rfl ?_
      refine am_i2l hz1 dX12_point_17 ?_
      refine am_lconst (v := 0) hz1 dX12_point_18 (by decide) ?_
      refine am_aload_n hz1 dX12_point_19 0 rfl rfl ?_
      refine am_getR hz1 fl_X12_18 (ln_64 hG) (lk_64 hG) (lr_64_3 hG) rfl dX12_point_20 ?_
      refine am_iconst (v := 0) hz1 dX12_point_23 (by decide) ?_
      refine am_iald hz1 (ln_67 hG) (lk_67 hG) (by rw [(ll_67 hG)]; exact in_nI (n := 0) (by decide) (by decide)) dX12_point_24 ?_
      refine am_iconst (v := 1) hz1 dX12_point_25 (by decide) ?_
      refine am_isub hz1 dX12_point_26 ?_
      refine am_i2l hz1 dX12_point_27 ?_
      refine am_cSf hz ct_X12_82 [.long v2.toInt64, .long (0 : Int64), .long (((I 67 (0 : Int32).toNatClampNeg) - (1 : Int32)).toInt64)] [] (c_X12_isIn hG v2.toInt64 (0 : Int64) (((I 67 (0 : Int32).toNatClampNeg) - (1 : Int32)).toInt64) ) rfl rfl rfl ⟨Nat.le_refl _, Nat.le_refl _⟩ (Nat.le_of_ble_eq_true rfl) dX12_point_28 ?_
      refine am_ifb_ne (tgt := 36) hz1 dX12_point_31 (by decide) (fun c4 => ?_) (fun c4 => ?_)
      · replace h := h.1 c4
        refine am_aload_n hz1 dX12_point_36 0 rfl rfl ?_
        refine am_getR hz1 fl_X12_9 (ln_64 hG) (lk_64 hG) (lr_64_0 hG) rfl dX12_point_37 ?_
        refine am_sipush (v := 1057) hz1 dX12_point_40 (by decide) ?_
        refine am_iload_n hz1 dX12_point_43 1 rfl rfl ?_
        refine am_iadd hz1 dX12_point_44 ?_
        obtain ⟨g5, h⟩ := h
        refine am_lald hz1 (ln_65 hG) (lk_65 hG) (by rw [(ll_65 hG)]; exact g5) dX12_point_45 ?_
        refine am_iload_n hz1 dX12_point_46 2 rfl rfl ?_
        refine am_i2l hz1 dX12_point_47 ?_
        refine am_lif_ne (tgt := 55) hz1 dX12_point_48 dX12_point_49 (by decide) (fun c6 => ?_) (fun c6 => ?_)
        · replace h := h.1 c6
          refine am_aload_n hz1 dX12_point_55 0 rfl rfl ?_
          obtain ⟨g7, h⟩ := h
          refine am_cVf hz cv_X12_233 [] [] (c_X12_keepsAct hG  g7) (ln_64 hG) (lk_64 hG) rfl rfl rfl ⟨Nat.le_refl _, Nat.le_refl _⟩ (Nat.le_of_ble_eq_true rfl) dX12_point_56 ?_
          refine am_aload_n hz1 dX12_point_59 0 rfl rfl ?_
          refine am_getR hz1 fl_X12_9 (ln_64 hG) (lk_64 hG) (lr_64_0 hG) rfl dX12_point_60 ?_
          refine am_sipush (v := 1057) hz1 dX12_point_63 (by decide) ?_
          refine am_iload_n hz1 dX12_point_66 1 rfl rfl ?_
          refine am_iadd hz1 dX12_point_67 ?_
          refine am_iload_n hz1 dX12_point_68 2 rfl rfl ?_
          refine am_i2l hz1 dX12_point_69 ?_
          obtain ⟨g8, h⟩ := h
          refine am_last hz1 (ln_65 hG) (lk_65 hG) (by rw [(ll_65 hG)]; exact g8) dX12_point_70 ?_
          refine am_iconst (v := 1) hz1 dX12_point_71 (by decide) ?_
          exact am_ireturn hz dX12_point_72 h
        · replace h := h.2 c6
          refine am_bipush (v := (-2)) hz1 dX12_point_52 (by decide) ?_
          exact am_ireturn hz dX12_point_54 h
      · replace h := h.2 c4
        refine am_iconst (v := (-1)) hz1 dX12_point_34 (by decide) ?_
        exact am_ireturn hz dX12_point_35 h
set_option maxRecDepth 100000 in
set_option maxHeartbeats 4000000 in
theorem c_X12_point {l : Launch} {D : va_G} {B : Heap} {G : amG} {I : amI} {L : amL}  (hG : Lay G)  (v1 : Int32) (v2 : Int32) {s : St} (hs : RI s I L) (hw : WF s) : Mx l D B yX12_point cX12_point 3 (some .int) 2 0 0 [.ref (B.size + 64), .int v1, .int v2] G I L (fun r G1 I1 L1 => r = some (.int (xPoint s v1 v2).1) ∧ G1 = G ∧ RI (xPoint s v1 v2).2 I1 L1 ∧ frM I L I1 L1) := by
  refine Mx.of (by decide) rfl rfl (fun z e1 e2 e3 hz => ?_)
  subst e1; subst e2; subst e3
  refine b_X12_point_0 hz hG ?_
  have hM := hs.1.mo
  have h16 := hM.2.1
  have hk16 := hw.2.2.1
  have hno : (elB (rN (sC s)) v1 && elB (s0 s).1 v2) = false → xPoint s v1 v2 = (-1, s) := fun h => by rw [xPoint, if_neg (by rw [h]; decide)]
  have hkp : m_kept I 0 = decide (¬ (s0 s).1 = 0) := kept_M hs hw (j := 0) (by decide)
  have hth : m_isIn v2.toInt64 0 ((I 67 (0 : Int32).toNatClampNeg - 1).toInt64) = elB (s0 s).1 v2 := th_B hs hw v2
  rw [hM.el, hkp, hth]
  refine ⟨fun h => ?_, fun h => ⟨fun h2 => ?_, fun h2 => ⟨fun h3 => ?_, fun h3 => ?_⟩⟩⟩
  · rw [hno (by rw [h]; rfl)]; exact ⟨rfl, rfl, hs, frM_r⟩
  · have : (s0 s).1 = 0 := Classical.byContradiction fun q => by rw [decide_eq_true q] at h2; cases h2
    have he : elB (s0 s).1 v2 = false := by
      rw [Bool.eq_false_iff]
      intro q
      obtain ⟨y, hy, _⟩ := (el_t (by omega)).mp q
      omega
    rw [hno (by rw [he, Bool.and_false])]; exact ⟨rfl, rfl, hs, frM_r⟩
  · obtain ⟨x, hx, rfl⟩ := (el_t (by omega)).mp h
    have ex : (nI x).toNatClampNeg = x := cl_nI (by omega)
    have e1 : ((1057 : Int32) + nI x).toNatClampNeg = 1057 + x := clA (a := 1057) (by omega)
    have hin : vp_in ((1057 : Int32) + nI x) 1074 := inA (a := 1057) (by omega) (by decide)
    rw [e1, hs.1.2.2.2.1 x (by omega), i64_inj]
    refine ⟨hin, fun q => ?_, fun q => ?_⟩
    · have hx2 : xPoint s (nI x) v2 = (1, withC (pushS s) (rN (sC s), rA (sC s), rF (sC s), rD (sC s), upd (rP (sC s)) x v2, rE (sC s))) := by rw [xPoint, if_pos (by rw [h, h3]; rfl), ex, if_neg q]
      rw [hx2, setL_n (q := 65) (by decide)]
      refine ⟨mu_ok hs hw, hin, rfl, rfl, RI_w (KA hs hw) ?_ rfl rfl, frM_t KA_fr (frM_L (by decide) (by decide))⟩
      obtain ⟨⟨a1, a2, a3, a4, a5, a6⟩, a7, a8, a9, a10⟩ := hs.1
      refine ⟨⟨a1, a2, a3, by rw [updL_n (by omega)]; exact a4, fun a ha => by rw [updL_n (by have : a < rN (sC s) := ha; omega)]; exact a5 a ha, fun a ha hb => by rw [updL_n (by omega)]; exact a6 a ha hb⟩, fun k hk => by rw [updL_n (by omega)]; exact a7 k hk, fun a ha => by rw [updL_n (by omega)]; exact a8 a ha, fun y hy => ?_, by rw [updL_n (by omega)]; exact a10⟩
      show vp_updL (L 65) (1057 + x) v2.toInt64 (1057 + y) = (upd (rP (sC s)) x v2 y).toInt64
      by_cases e : y = x
      · subst e; rw [updL_s, upd_s]
      · rw [updL_n (by omega), upd_n e]; exact a9 y hy
    · have hx2 : xPoint s (nI x) v2 = (-2, s) := by rw [xPoint, if_pos (by rw [h, h3]; rfl), ex, if_pos q]
      rw [hx2]
      exact ⟨rfl, rfl, hs, frM_r⟩
  · rw [hno (by rw [h3, Bool.and_false])]; exact ⟨rfl, rfl, hs, frM_r⟩
def xPut (s : St) (f a b v : Int32) : Int32 × St :=
  if (inR 3 f && ivB (rN (sC s)) (rA (sC s)) a b) = true then (if rF (sC s) (256 * f.toNatClampNeg + 16 * a.toNatClampNeg + b.toNatClampNeg) = v.toInt64 then (-2, s) else (1, withC (pushS s) (rN (sC s), rA (sC s), vp_updL (rF (sC s)) (256 * f.toNatClampNeg + 16 * a.toNatClampNeg + b.toNatClampNeg) v.toInt64, rD (sC s), rP (sC s), rE (sC s)))) else (-1, s)
set_option maxRecDepth 100000 in
set_option maxHeartbeats 4000000 in
theorem b_X12_put_0 {z : amZ} {post : amP} {G : amG} {I : amI} {L : amL} (hz : Go z cX12_put RX12 5 (some .int) 3 0 0 post) (hG : Lay G) {v1 : Int32} {v2 : Int32} {v3 : Int32} {v4 : Int32} (h : ((m_isIn v1.toInt64 0 3 = false) → post (some (.int (-1))) G I L) ∧ ((m_isIn v1.toInt64 0 3 = true) → (mOk L) ∧ ((m_isiv L v2 v3 = true) → vp_in (m_at v1 v2 v3) 1074 ∧ ((¬ (L 65 (m_at v1 v2 v3).toNatClampNeg) = v4.toInt64) → (muOk I) ∧ vp_in (m_at v1 v2 v3) 1074 ∧ post (some (.int 1)) G (setI I 64 (upd (I 64) 2 (nI (kaU I + 1)))) (setL (setL L 66 (m_ka I L)) 65 (vp_updL ((setL L 66 (m_ka I L)) 65) (m_at v1 v2 v3).toNatClampNeg v4.toInt64))) ∧ (((L 65 (m_at v1 v2 v3).toNatClampNeg) = v4.toInt64) → post (some (.int (-2))) G I L)) ∧ ((m_isiv L v2 v3 = false) → post (some (.int (-1))) G I L))) : Wx z 0 0 0 [(0, .ref ((zB z).size + 64)), (1, .int v1), (2, .int v2), (3, .int v3), (4, .int v4)] [] G I L := by
  have hz1 := hz.1
  refine am_iload_n hz1 dX12_put_0 1 rfl rfl ?_
  refine am_cSf hz ct_X12_290 [.int v1] [] (c_X12_isFunction hG v1 ) rfl rfl rfl ⟨Nat.le_refl _, Nat.le_refl _⟩ (Nat.le_of_ble_eq_true rfl) dX12_put_1 ?_
  refine am_ifb_eq (tgt := 16) hz1 dX12_put_4 (by decide) (fun c1 => ?_) (fun c1 => ?_)
  · replace h := h.1 c1
    refine am_iconst (v := (-1)) hz1 dX12_put_16 (by decide) ?_
    exact am_ireturn hz dX12_put_17 h
  · replace h := h.2 c1
    refine am_aload_n hz1 dX12_put_7 0 rfl rfl ?_
    refine am_iload_n hz1 dX12_put_8 2 rfl rfl ?_
    refine am_iload_n hz1 dX12_put_9 3 rfl rfl ?_
    obtain ⟨g2, h⟩ := h
    refine am_cVf hz cv_X12_247 [.int v2, .int v3] [] (c_X12_isInterval hG v2 v3 g2) (ln_64 hG) (lk_64 hG) rfl rfl rfl ⟨Nat.le_refl _, Nat.le_refl _⟩ (Nat.le_of_ble_eq_true rfl) dX12_put_10 ?_
    refine am_ifb_ne (tgt := 18) hz1 dX12_put_13 (by decide) (fun c3 => ?_) (fun c3 => ?_)
    · replace h := h.1 c3
      refine am_aload_n hz1 dX12_put_18 0 rfl rfl ?_
      refine am_getR hz1 fl_X12_9 (ln_64 hG) (lk_64 hG) (lr_64_0 hG) rfl dX12_put_19 ?_
      refine am_iload_n hz1 dX12_put_22 1 rfl rfl ?_
      refine am_iload_n hz1 dX12_put_23 2 rfl rfl ?_
      refine am_iload_n hz1 dX12_put_24 3 rfl rfl ?_
      refine am_cSf hz ct_X12_301 [.int v1, .int v2, .int v3] [.ref ((zB z).size + 65)] (c_X12_at hG v1 v2 v3 ) rfl rfl rfl ⟨Nat.le_refl _, Nat.le_refl _⟩ (Nat.le_of_ble_eq_true rfl) dX12_put_25 ?_
      obtain ⟨g4, h⟩ := h
      refine am_lald hz1 (ln_65 hG) (lk_65 hG) (by rw [(ll_65 hG)]; exact g4) dX12_put_28 ?_
      refine am_iload hz1 dX12_put_29 4 rfl ?_
      refine am_i2l hz1 dX12_put_31 ?_
      refine am_lif_ne (tgt := 39) hz1 dX12_put_32 dX12_put_33 (by decide) (fun c5 => ?_) (fun c5 => ?_)
      · replace h := h.1 c5
        refine am_aload_n hz1 dX12_put_39 0 rfl rfl ?_
        obtain ⟨g6, h⟩ := h
        refine am_cVf hz cv_X12_233 [] [] (c_X12_keepsAct hG  g6) (ln_64 hG) (lk_64 hG) rfl rfl rfl ⟨Nat.le_refl _, Nat.le_refl _⟩ (Nat.le_of_ble_eq_true rfl) dX12_put_40 ?_
        refine am_aload_n hz1 dX12_put_43 0 rfl rfl ?_
        refine am_getR hz1 fl_X12_9 (ln_64 hG) (lk_64 hG) (lr_64_0 hG) rfl dX12_put_44 ?_
        refine am_iload_n hz1 dX12_put_47 1 rfl rfl ?_
        refine am_iload_n hz1 dX12_put_48 2 rfl rfl ?_
        refine am_iload_n hz1 dX12_put_49 3 rfl rfl ?_
        refine am_cSf hz ct_X12_301 [.int v1, .int v2, .int v3] [.ref ((zB z).size + 65)] (c_X12_at hG v1 v2 v3 ) rfl rfl rfl ⟨Nat.le_refl _, Nat.le_refl _⟩ (Nat.le_of_ble_eq_true rfl) dX12_put_50 ?_
        refine am_iload hz1 dX12_put_53 4 rfl ?_
        refine am_i2l hz1 dX12_put_55 ?_
        obtain ⟨g7, h⟩ := h
        refine am_last hz1 (ln_65 hG) (lk_65 hG) (by rw [(ll_65 hG)]; exact g7) dX12_put_56 ?_
        refine am_iconst (v := 1) hz1 dX12_put_57 (by decide) ?_
        exact am_ireturn hz dX12_put_58 h
      · replace h := h.2 c5
        refine am_bipush (v := (-2)) hz1 dX12_put_36 (by decide) ?_
        exact am_ireturn hz dX12_put_38 h
    · replace h := h.2 c3
      refine am_iconst (v := (-1)) hz1 dX12_put_16 (by decide) ?_
      exact am_ireturn hz dX12_put_17 h
set_option maxRecDepth 100000 in
set_option maxHeartbeats 4000000 in
theorem c_X12_put {l : Launch} {D : va_G} {B : Heap} {G : amG} {I : amI} {L : amL}  (hG : Lay G)  (v1 : Int32) (v2 : Int32) (v3 : Int32) (v4 : Int32) {s : St} (hs : RI s I L) (hw : WF s) : Mx l D B yX12_put cX12_put 5 (some .int) 3 0 0 [.ref (B.size + 64), .int v1, .int v2, .int v3, .int v4] G I L (fun r G1 I1 L1 => r = some (.int (xPut s v1 v2 v3 v4).1) ∧ G1 = G ∧ RI (xPut s v1 v2 v3 v4).2 I1 L1 ∧ frM I L I1 L1) := by
  refine Mx.of (by decide) rfl rfl (fun z e1 e2 e3 hz => ?_)
  subst e1; subst e2; subst e3
  refine b_X12_put_0 hz hG ?_
  have hM := hs.1.mo
  have h16 := hM.2.1
  rw [isIn3, hM.isiv]
  have hno : (inR 3 v1 && ivB (rN (sC s)) (rA (sC s)) v2 v3) = false → xPut s v1 v2 v3 v4 = (-1, s) := fun h => by rw [xPut, if_neg (by rw [h]; decide)]
  refine ⟨fun h => ?_, fun h => ⟨⟨_, _, hM⟩, fun h2 => ?_, fun h2 => ?_⟩⟩
  · rw [hno (by rw [h]; rfl)]; exact ⟨rfl, rfl, hs, frM_r⟩
  · obtain ⟨f, hf, rfl⟩ := fnR h
    obtain ⟨x, y, hx, hy, rfl, rfl, hl⟩ := (iv_t h16).mp h2
    have ef : (nI f).toNatClampNeg = f := cl_nI (by omega)
    have ex : (nI x).toNatClampNeg = x := cl_nI (by omega)
    have ey : (nI y).toNatClampNeg = y := cl_nI (by omega)
    rw [m_at_n, cl_nI (n := 17 + (256 * f + 16 * x + y)) (by omega), hs.1.2.1 _ (by omega)]
    have hin : vp_in (nI (17 + (256 * f + 16 * x + y))) 1074 := in_nI (by omega) (by decide)
    refine ⟨hin, fun q => ?_, fun q => ?_⟩
    · have hx2 : xPut s (nI f) (nI x) (nI y) v4 = (1, withC (pushS s) (rN (sC s), rA (sC s), vp_updL (rF (sC s)) (256 * f + 16 * x + y) v4.toInt64, rD (sC s), rP (sC s), rE (sC s))) := by rw [xPut, if_pos (by rw [h, h2]; rfl), ef, ex, ey, if_neg q]
      rw [hx2, setL_n (q := 65) (by decide)]
      refine ⟨mu_ok hs hw, hin, rfl, rfl, RI_w (KA hs hw) ?_ rfl rfl, frM_t KA_fr (frM_L (by decide) (by decide))⟩
      obtain ⟨⟨a1, a2, a3, a4, a5, a6⟩, a7, a8, a9, a10⟩ := hs.1
      refine ⟨⟨a1, a2, a3, by rw [updL_n (by omega)]; exact a4, fun a ha => by rw [updL_n (by have : a < rN (sC s) := ha; omega)]; exact a5 a ha, fun a ha hb => by rw [updL_n (by omega)]; exact a6 a ha hb⟩, fun k hk => ?_, fun a ha => by rw [updL_n (by omega)]; exact a8 a ha, fun y hy => by rw [updL_n (by omega)]; exact a9 y hy, by rw [updL_n (by omega)]; exact a10⟩
      show vp_updL (L 65) (17 + (256 * f + 16 * x + y)) v4.toInt64 (17 + k) = vp_updL (rF (sC s)) (256 * f + 16 * x + y) v4.toInt64 k
      by_cases e : k = 256 * f + 16 * x + y
      · subst e; rw [updL_s, updL_s]
      · rw [updL_n (by omega), updL_n e]; exact a7 k hk
    · have hx2 : xPut s (nI f) (nI x) (nI y) v4 = (-2, s) := by rw [xPut, if_pos (by rw [h, h2]; rfl), ef, ex, ey, if_pos q]
      rw [hx2]
      exact ⟨rfl, rfl, hs, frM_r⟩
  · rw [hno (by rw [h2, Bool.and_false])]; exact ⟨rfl, rfl, hs, frM_r⟩
/-! functions stored -/
def tabF (n : Nat) (V : Nat → Nat → Int64) (c : Nat) : Int64 := if c / 16 < n ∧ c % 16 < n then V (c / 16) (c % 16) else 0
theorem KV_tab {V : Nat → Nat → Int64} {n : Nat} {f : Nat → Int64} (h : KV V n f) {c : Nat} (hc : c < 256) : f c = tabF n V c := by
  have := h (c / 16) (c % 16) (by omega) (by omega)
  rw [show 16 * (c / 16) + c % 16 = c by omega] at this
  rw [this, tabF]
def storeS (s : St) (f : Nat) (V : Nat → Nat → Int64) : St := withC (pushS s) (rN (sC s), rA (sC s), wr (rF (sC s)) (256 * f) 256 (tabF (rN (sC s)) V), rD (sC s), rP (sC s), rE (sC s))
theorem RowM_F {f : Nat → Int64} {r : Row} {q : Nat} {g g' : Nat → Int64} (h : RowM f r) (hq : q < 4) (hg : ∀ c, c < 256 → g c = g' c) : RowM (wr f (17 + 256 * q) 256 g) (rN r, rA r, wr (rF r) (256 * q) 256 g', rD r, rP r, rE r) := by
  obtain ⟨⟨a1, a2, a3, a4, a5, a6⟩, a7, a8, a9, a10⟩ := h
  refine ⟨⟨a1, a2, a3, by rw [wr_out (by omega)]; exact a4, fun a ha => by rw [wr_out (by have : a < rN r := ha; omega)]; exact a5 a ha, fun a ha hb => by rw [wr_out (by omega)]; exact a6 a ha hb⟩, fun k hk => ?_, fun a ha => by rw [wr_out (by omega)]; exact a8 a ha, fun y hy => by rw [wr_out (by omega)]; exact a9 y hy, by rw [wr_out (by omega)]; exact a10⟩
  show wr f (17 + 256 * q) 256 g (17 + k) = wr (rF r) (256 * q) 256 g' k
  by_cases e : 256 * q ≤ k ∧ k < 256 * q + 256
  · rw [wr_in (by omega), wr_in e, show 17 + k - (17 + 256 * q) = k - 256 * q by omega]
    exact hg _ (by omega)
  · rw [wr_out (by omega), wr_out e]; exact a7 k hk
theorem STO {s : St} {I : amI} {L : amL} {q : Nat} {V : Nat → Nat → Int64} {g : Nat → Int64} (hs : RI (pushS s) I L) (hq : q < 4) (hg : KV V (rN (sC s)) g) : RI (storeS s q V) I (setL L 65 (wr (L 65) (17 + 256 * q) 256 g)) :=
  RI_w hs (RowM_F (r := sC s) hs.1 hq (fun c hc => KV_tab hg hc)) rfl rfl
def kvM (n : Nat) (A : Nat → Int32) (k : Int32) (a b : Nat) : Int64 := if k = 1 then (if a = b then 1 else 0) else if k = 2 then 1 else if k = 4 then (if a = b then 0 else 1) else if k = 5 then (if cv n A a b = true then 1 else 0) else if k = 6 then lN (rkS n A a b) else 0
def kdS (n : Nat) (A : Nat → Int32) (k : Int32) (a b : Nat) : Int64 := if le A a b = true then (if k = 3 then mu n A a b else kvM n A k a b) else 0
theorem kd_S {L : amL} {n : Nat} {A : Nat → Int32} (hM : MO L n A) (k : Int32) {a b : Nat} (ha : a < n) (hb : b < n) : kdM L k n A a b = kdS n A k a b := by
  have h16 := hM.2.1
  have hr := rk_le (A := A) (a := a) h16 hb
  rw [kdM, kdS, m_kv, kvM, hM.cov ha hb, msz hM ha hb, nI_l (by omega)]
  by_cases e : a = b
  · subst e; rw [if_pos rfl, if_pos rfl, if_pos rfl, if_pos rfl]
  · rw [if_neg e, if_neg e, if_neg (fun q => e ((nI_eq (by omega) (by omega)).mp q)), if_neg (fun q => e ((nI_eq (by omega) (by omega)).mp q))]
def xMake (s : St) (f k : Int32) : Int32 × St := if (inR 3 f && inR 6 k) = true then (k, storeS s f.toNatClampNeg (kdS (rN (sC s)) (rA (sC s)) k)) else (-1, s)
set_option maxRecDepth 100000 in
set_option maxHeartbeats 4000000 in
theorem b_X12_make_0 {z : amZ} {post : amP} {G : amG} {I : amI} {L : amL} (hz : Go z cX12_make RX12 3 (some .int) 7 0 0 post) (hG : Lay G) {v1 : Int32} {v2 : Int32} (h : ((m_isIn v1.toInt64 0 3 = false) → post (some (.int (-1))) G I L) ∧ ((m_isIn v1.toInt64 0 3 = true) → ((m_isIn v2.toInt64 (0 : Int64) (6 : Int64) = true) → (muOk I) ∧ ∃ (dq4 : Nat) (postq4 : amP), Nat.ble (dq4 + 1) 7 = true ∧ Mx (zL z) (zD z) (zB z) yX12_laysKind cX12_laysKind 4 none dq4 0 0 [.ref ((zB z).size + 64), .int v2] G (setI I 64 (upd (I 64) 2 (nI (kaU I + 1)))) (setL L 66 (m_ka I L)) postq4 ∧ ∀ (roq4 : Option Value) (Gq4 : amG) (Iq4 : amI) (Lq4 : amL), postq4 roq4 Gq4 Iq4 Lq4 → roq4 = none ∧ Lay Gq4 ∧ (fnOk v1) ∧ post (some (.int v2)) Gq4 Iq4 (setL Lq4 65 (wr (Lq4 65) (17 + 256 * v1.toNatClampNeg) 256 (Lq4 72)))) ∧ ((m_isIn v2.toInt64 (0 : Int64) (6 : Int64) = false) → post (some (.int (-1))) G I L))) : Wx z 0 0 0 [(0, .ref ((zB z).size + 64)), (1, .int v1), (2, .int v2)] [] G I L := by
  have hz1 := hz.1
  refine am_iload_n hz1 dX12_make_0 1 rfl rfl ?_
  refine am_cSf hz ct_X12_290 [.int v1] [] (c_X12_isFunction hG v1 ) rfl rfl rfl ⟨Nat.le_refl _, Nat.le_refl _⟩ (Nat.le_of_ble_eq_true rfl) dX12_make_1 ?_
  refine am_ifb_eq (tgt := 19) hz1 dX12_make_4 (by decide) (fun c1 => ?_) (fun c1 => ?_)
  · replace h := h.1 c1
    refine am_iconst (v := (-1)) hz1 dX12_make_19 (by decide) ?_
    exact am_ireturn hz dX12_make_20 h
  · replace h := h.2 c1
    refine am_iload_n hz1 dX12_make_7 2 rfl rfl ?_
    refine am_i2l hz1 dX12_make_8 ?_
    refine am_lconst (v := 0) hz1 dX12_make_9 (by decide) ?_
    refine am_ldc2 hz1 kc_X12_293 dX12_make_10 ?_
    refine am_cSf hz ct_X12_82 [.long v2.toInt64, .long (0 : Int64), .long (6 : Int64)] [] (c_X12_isIn hG v2.toInt64 (0 : Int64) (6 : Int64) ) rfl rfl rfl ⟨Nat.le_refl _, Nat.le_refl _⟩ (Nat.le_of_ble_eq_true rfl) dX12_make_13 ?_
    refine am_ifb_ne (tgt := 21) hz1 dX12_make_16 (by decide) (fun c2 => ?_) (fun c2 => ?_)
    · replace h := h.1 c2
      refine am_aload_n hz1 dX12_make_21 0 rfl rfl ?_
      obtain ⟨g3, h⟩ := h
      refine am_cVf hz cv_X12_233 [] [] (c_X12_keepsAct hG  g3) (ln_64 hG) (lk_64 hG) rfl rfl rfl ⟨Nat.le_refl _, Nat.le_refl _⟩ (Nat.le_of_ble_eq_true rfl) dX12_make_22 ?_
      refine am_aload_n hz1 dX12_make_25 0 rfl rfl ?_
      refine am_iload_n hz1 dX12_make_26 2 rfl rfl ?_
      obtain ⟨dq4, postq4, hdq4, hMq4, h⟩ := h
      refine am_callV hz1 cv_X12_295 [.int v2] [] hMq4 (ln_64 hG) (lk_64 hG) rfl rfl (hz.fr hdq4) (hz.lo hdq4) (by rw [hz.2.1]; exact ⟨Nat.le_refl _, Nat.le_refl _⟩) (Nat.le_of_ble_eq_true rfl) dX12_make_27 (fun roq4 Gq4 Iq4 Lq4 hpq4 => ?_)
      obtain ⟨rfl, hGq4, h⟩ := h roq4 Gq4 Iq4 Lq4 hpq4
      refine am_aload_n hz1 dX12_make_30 0 rfl rfl ?_
      refine am_iload_n hz1 dX12_make_31 1 rfl rfl ?_
      obtain ⟨g5, h⟩ := h
      refine am_cVf hz cv_X12_298 [.int v1] [] (c_X12_takesMade hGq4 v1 g5) (ln_64 hGq4) (lk_64 hGq4) rfl rfl rfl ⟨Nat.le_refl _, Nat.le_refl _⟩ (Nat.le_of_ble_eq_true rfl) dX12_make_32 ?_
      refine am_iload_n hz1 dX12_make_35 2 rfl rfl ?_
      exact am_ireturn hz dX12_make_36 h
    · replace h := h.2 c2
      refine am_iconst (v := (-1)) hz1 dX12_make_19 (by decide) ?_
      exact am_ireturn hz dX12_make_20 h
set_option maxRecDepth 100000 in
set_option maxHeartbeats 4000000 in
theorem c_X12_make {l : Launch} {D : va_G} {B : Heap} {G : amG} {I : amI} {L : amL}  (hG : Lay G)  (v1 : Int32) (v2 : Int32) {s : St} (hs : RI s I L) (hw : WF s) : Mx l D B yX12_make cX12_make 3 (some .int) 7 0 0 [.ref (B.size + 64), .int v1, .int v2] G I L (fun r G1 I1 L1 => r = some (.int (xMake s v1 v2).1) ∧ G1 = G ∧ RI (xMake s v1 v2).2 I1 L1 ∧ frM I L I1 L1) := by
  refine Mx.of (by decide) rfl rfl (fun z e1 e2 e3 hz => ?_)
  subst e1; subst e2; subst e3
  refine b_X12_make_0 hz hG ?_
  have hM := hs.1.mo
  have h16 := hM.2.1
  rw [isIn3, isIn_R (k := 6) (by decide) (by decide)]
  have hno : (inR 3 v1 && inR 6 v2) = false → xMake s v1 v2 = (-1, s) := fun h => by rw [xMake, if_neg (by rw [h]; decide)]
  refine ⟨fun h => ?_, fun h => ⟨fun h2 => ?_, fun h2 => ?_⟩⟩
  · rw [hno (by rw [h]; rfl)]; exact ⟨rfl, rfl, hs, frM_r⟩
  · obtain ⟨f, hf, rfl⟩ := fnR h
    have hx2 : xMake s (nI f) v2 = (v2, storeS s f (kdS (rN (sC s)) (rA (sC s)) v2)) := by rw [xMake, if_pos (by rw [h, h2]; rfl), cl_nI (by omega)]
    have hM2 : MO (setL L 66 (m_ka I L)) (rN (sC s)) (rA (sC s)) := MO_72 hM (by decide)
    refine ⟨mu_ok hs hw, 6, _, rfl, c_X12_laysKind hG _ hM2, fun ro G2 I2 L2 ⟨e1, e2, e3, g, e4, e5⟩ => ⟨e1, by rw [e2]; exact hG, ⟨f, hf, rfl⟩, ?_⟩⟩
    rw [hx2, e3, e4, cl_nI (by omega), setL_n (q := 65) (p := 72) (by decide), setL_s]
    refine ⟨rfl, e2, ?_, frM_t KA_fr (frM_t (frM_L (by decide) (by decide)) (frM_L (by decide) (by decide)))⟩
    have h := STO (g := g) (RI_L (KA hs hw) (L1 := setL (setL L 66 (m_ka I L)) 72 g) (setL_n (by decide)) (setL_n (by decide))) hf (KV_c e5 (fun a b ha hb => kd_S hM2 v2 ha hb))
    rw [setL_n (q := 65) (p := 72) (by decide)] at h
    exact h
  · rw [hno (by rw [h2, Bool.and_false])]; exact ⟨rfl, rfl, hs, frM_r⟩
/-- functions of pairs -/
def fnF (s : St) (q a b : Nat) : Int64 := rF (sC s) (256 * q + 16 * a + b)
def rkV (n : Nat) (A : Nat → Int32) (F1 F2 : Nat → Nat → Int64) (how : Int32) (a b : Nat) : Int64 := if how = 0 then F1 a b + F2 a b else if how = 1 then F1 a b - F2 a b else if how = 2 then tS (F1 a) (fun w => F2 w b) (ivS n A a b) n else F1 a b * F2 a b
def rkB (n : Nat) (A : Nat → Int32) (F1 F2 : Nat → Nat → Int64) (how : Int32) (a b : Nat) : Bool := if how = 0 then q_ovc (F1 a b) (F2 a b) else if how = 1 then q_ovd (F1 a b) (F2 a b) else if how = 2 then oS (F1 a) (fun w => F2 w b) (ivS n A a b) n else q_tl (F1 a b) (F2 a b)
def anyB (n : Nat) (A : Nat → Int32) (p : Nat → Nat → Bool) : Bool := orN (fun a => orN (fun b => le A a b && p a b) n) n
theorem anyB_t {n : Nat} {A : Nat → Int32} {p : Nat → Nat → Bool} : anyB n A p = true ↔ ∃ x y, x < n ∧ y < n ∧ le A x y = true ∧ p x y = true := by
  rw [anyB, orN_t]
  constructor
  · rintro ⟨x, hx, h⟩
    obtain ⟨y, hy, h⟩ := orN_t.mp h
    rw [Bool.and_eq_true] at h
    exact ⟨x, y, hx, hy, h.1, h.2⟩
  · rintro ⟨x, y, hx, hy, h1, h2⟩
    exact ⟨x, hx, orN_t.mpr ⟨y, hy, by rw [h1, h2]; rfl⟩⟩
def xReckon (s : St) (f x y how : Int32) : Int32 × St :=
  if (inR 3 f && (inR 3 x && (inR 3 y && inR 3 how))) = true then
    (if anyB (rN (sC s)) (rA (sC s)) (rkB (rN (sC s)) (rA (sC s)) (fnF s x.toNatClampNeg) (fnF s y.toNatClampNeg) how) = true then (-3, s) else (1, storeS s f.toNatClampNeg (fun a b => if le (rA (sC s)) a b = true then rkV (rN (sC s)) (rA (sC s)) (fnF s x.toNatClampNeg) (fnF s y.toNatClampNeg) how a b else 0)))
  else (-1, s)
theorem one_F {s : St} {I : amI} {L : amL} (hs : RI s I L) {q c : Nat} (hq : q < 4) (hc : c < 256) {a b : Nat} (e : c = 16 * a + b) : L 65 (17 + 256 * q + c) = fnF s q a b := by
  rw [fnF, Nat.add_assoc, hs.1.2.1 _ (by omega), e, Nat.add_assoc]
set_option maxRecDepth 100000 in
set_option maxHeartbeats 4000000 in
theorem b_X12_reckon_0 {z : amZ} {post : amP} {G : amG} {I : amI} {L : amL} (hz : Go z cX12_reckon RX12 5 (some .int) 7 0 0 post) (hG : Lay G) {v1 : Int32} {v2 : Int32} {v3 : Int32} {v4 : Int32} (h : ((m_isIn v1.toInt64 0 3 = false) → post (some (.int (-1))) G I L) ∧ ((m_isIn v1.toInt64 0 3 = true) → ((m_isIn v2.toInt64 0 3 = false) → post (some (.int (-1))) G I L) ∧ ((m_isIn v2.toInt64 0 3 = true) → ((m_isIn v3.toInt64 0 3 = false) → post (some (.int (-1))) G I L) ∧ ((m_isIn v3.toInt64 0 3 = true) → ((m_isIn v4.toInt64 (0 : Int64) (3 : Int64) = true) → (73 ≠ 65) ∧ (fnOk v2) ∧ (74 ≠ 65) ∧ (fnOk v3) ∧ ∃ (dq9 : Nat) (postq9 : amP), Nat.ble (dq9 + 1) 7 = true ∧ Mx (zL z) (zD z) (zB z) yX12_reckons cX12_reckons 4 none dq9 0 0 [.ref ((zB z).size + 64), .int v4] G (setI I 64 (upd (I 64) 15 (0 : Int32))) (setL (setL L 73 (wr (L 73) 0 256 (fun j => L 65 (17 + 256 * v2.toNatClampNeg + j)))) 74 (wr ((setL L 73 (wr (L 73) 0 256 (fun j => L 65 (17 + 256 * v2.toNatClampNeg + j)))) 74) 0 256 (fun j => (setL L 73 (wr (L 73) 0 256 (fun j => L 65 (17 + 256 * v2.toNatClampNeg + j)))) 65 (17 + 256 * v3.toNatClampNeg + j)))) postq9 ∧ ∀ (roq9 : Option Value) (Gq9 : amG) (Iq9 : amI) (Lq9 : amL), postq9 roq9 Gq9 Iq9 Lq9 → roq9 = none ∧ Lay Gq9 ∧ (((Iq9 64 15) = 0) → (muOk Iq9) ∧ (fnOk v1) ∧ post (some (.int 1)) Gq9 (setI Iq9 64 (upd (Iq9 64) 2 (nI (kaU Iq9 + 1)))) (setL (setL Lq9 66 (m_ka Iq9 Lq9)) 65 (wr ((setL Lq9 66 (m_ka Iq9 Lq9)) 65) (17 + 256 * v1.toNatClampNeg) 256 ((setL Lq9 66 (m_ka Iq9 Lq9)) 72)))) ∧ ((¬ (Iq9 64 15) = 0) → post (some (.int (-3))) Gq9 Iq9 Lq9)) ∧ ((m_isIn v4.toInt64 (0 : Int64) (3 : Int64) = false) → post (some (.int (-1))) G I L))))) : Wx z 0 0 0 [(0, .ref ((zB z).size + 64)), (1, .int v1), (2, .int v2), (3, .int v3), (4, .int v4)] [] G I L := by
  have hz1 := hz.1
  refine am_iload_n hz1 dX12_reckon_0 1 rfl rfl ?_
  refine am_cSf hz ct_X12_290 [.int v1] [] (c_X12_isFunction hG v1 ) rfl rfl rfl ⟨Nat.le_refl _, Nat.le_refl _⟩ (Nat.le_of_ble_eq_true rfl) dX12_reckon_1 ?_
  refine am_ifb_eq (tgt := 34) hz1 dX12_reckon_4 (by decide) (fun c1 => ?_) (fun c1 => ?_)
  · replace h := h.1 c1
    refine am_iconst (v := (-1)) hz1 dX12_reckon_34 (by decide) ?_
    exact am_ireturn hz dX12_reckon_35 h
  · replace h := h.2 c1
    refine am_iload_n hz1 dX12_reckon_7 2 rfl rfl ?_
    refine am_cSf hz ct_X12_290 [.int v2] [] (c_X12_isFunction hG v2 ) rfl rfl rfl ⟨Nat.le_refl _, Nat.le_refl _⟩ (Nat.le_of_ble_eq_true rfl) dX12_reckon_8 ?_
    refine am_ifb_eq (tgt := 34) hz1 dX12_reckon_11 (by decide) (fun c2 => ?_) (fun c2 => ?_)
    · replace h := h.1 c2
      refine am_iconst (v := (-1)) hz1 dX12_reckon_34 (by decide) ?_
      exact am_ireturn hz dX12_reckon_35 h
    · replace h := h.2 c2
      refine am_iload_n hz1 dX12_reckon_14 3 rfl rfl ?_
      refine am_cSf hz ct_X12_290 [.int v3] [] (c_X12_isFunction hG v3 ) rfl rfl rfl ⟨Nat.le_refl _, Nat.le_refl _⟩ (Nat.le_of_ble_eq_true rfl) dX12_reckon_15 ?_
      refine am_ifb_eq (tgt := 34) hz1 dX12_reckon_18 (by decide) (fun c3 => ?_) (fun c3 => ?_)
      · replace h := h.1 c3
        refine am_iconst (v := (-1)) hz1 dX12_reckon_34 (by decide) ?_
        exact am_ireturn hz dX12_reckon_35 h
      · replace h := h.2 c3
        refine am_iload hz1 dX12_reckon_21 4 rfl ?_
        refine am_i2l hz1 dX12_reckon_23 ?_
        refine am_lconst (v := 0) hz1 dX12_reckon_24 (by decide) ?_
        refine am_ldc2 hz1 kc_X12_274 dX12_reckon_25 ?_
        refine am_cSf hz ct_X12_82 [.long v4.toInt64, .long (0 : Int64), .long (3 : Int64)] [] (c_X12_isIn hG v4.toInt64 (0 : Int64) (3 : Int64) ) rfl rfl rfl ⟨Nat.le_refl _, Nat.le_refl _⟩ (Nat.le_of_ble_eq_true rfl) dX12_reckon_28 ?_
        refine am_ifb_ne (tgt := 36) hz1 dX12_reckon_31 (by decide) (fun c4 => ?_) (fun c4 => ?_)
        · replace h := h.1 c4
          refine am_aload_n hz1 dX12_reckon_36 0 rfl rfl ?_
          refine am_iconst (v := 0) hz1 dX12_reckon_37 (by decide) ?_
          refine am_putI hz1 fl_X12_271 (ln_64 hG) (lk_64 hG) rfl rfl (fun _ => rfl) dX12_reckon_38 ?_
          refine am_aload_n hz1 dX12_reckon_41 0 rfl rfl ?_
          refine am_aload_n hz1 dX12_reckon_42 0 rfl rfl ?_
          refine am_getR hz1 fl_X12_38 (ln_64 hG) (lk_64 hG) (lr_64_17 hG) rfl dX12_reckon_43 ?_
          refine am_iload_n hz1 dX12_reckon_46 2 rfl rfl ?_
          obtain ⟨g5, h⟩ := h
          obtain ⟨g6, h⟩ := h
          refine am_cVf hz cv_X12_320 [.ref ((zB z).size + 73), .int v2] [] (c_X12_takes hG (ln_73 hG) (lk_73 hG) (ll_73 hG) v2 g5 g6) (ln_64 hG) (lk_64 hG) rfl rfl rfl ⟨Nat.le_refl _, Nat.le_refl _⟩ (Nat.le_of_ble_eq_true rfl) dX12_reckon_47 ?_
          refine am_aload_n hz1 dX12_reckon_50 0 rfl rfl ?_
          refine am_aload_n hz1 dX12_reckon_51 0 rfl rfl ?_
          refine am_getR hz1 fl_X12_41 (ln_64 hG) (lk_64 hG) (lr_64_18 hG) rfl dX12_reckon_52 ?_
          refine am_iload_n hz1 dX12_reckon_55 3 rfl rfl ?_
          obtain ⟨g7, h⟩ := h
          obtain ⟨g8, h⟩ := h
          refine am_cVf hz cv_X12_320 [.ref ((zB z).size + 74), .int v3] [] (c_X12_takes hG (ln_74 hG) (lk_74 hG) (ll_74 hG) v3 g7 g8) (ln_64 hG) (lk_64 hG) rfl rfl rfl ⟨Nat.le_refl _, Nat.le_refl _⟩ (Nat.le_of_ble_eq_true rfl) dX12_reckon_56 ?_
          refine am_aload_n hz1 dX12_reckon_59 0 rfl rfl ?_
          refine am_iload hz1 dX12_reckon_60 4 rfl ?_
          obtain ⟨dq9, postq9, hdq9, hMq9, h⟩ := h
          refine am_callV hz1 cv_X12_324 [.int v4] [] hMq9 (ln_64 hG) (lk_64 hG) rfl rfl (hz.fr hdq9) (hz.lo hdq9) (by rw [hz.2.1]; exact ⟨Nat.le_refl _, Nat.le_refl _⟩) (Nat.le_of_ble_eq_true rfl) dX12_reckon_62 (fun roq9 Gq9 Iq9 Lq9 hpq9 => ?_)
          obtain ⟨rfl, hGq9, h⟩ := h roq9 Gq9 Iq9 Lq9 hpq9
          refine am_aload_n hz1 dX12_reckon_65 0 rfl rfl ?_
          refine am_getI hz1 fl_X12_271 (ln_64 hGq9) (lk_64 hGq9) rfl dX12_reckon_66 ?_
          refine am_if_eq (tgt := 75) hz1 dX12_reckon_69 (by decide) (fun c10 => ?_) (fun c10 => ?_)
          · replace h := h.1 c10
            refine am_aload_n hz1 dX12_reckon_75 0 rfl rfl ?_
            obtain ⟨g11, h⟩ := h
            refine am_cVf hz cv_X12_233 [] [] (c_X12_keepsAct hGq9  g11) (ln_64 hGq9) (lk_64 hGq9) rfl rfl rfl ⟨Nat.le_refl _, Nat.le_refl _⟩ (Nat.le_of_ble_eq_true rfl) dX12_reckon_76 ?_
            refine am_aload_n hz1 dX12_reckon_79 0 rfl rfl ?_
            refine am_iload_n hz1 dX12_reckon_80 1 rfl rfl ?_
            obtain ⟨g12, h⟩ := h
            refine am_cVf hz cv_X12_298 [.int v1] [] (c_X12_takesMade hGq9 v1 g12) (ln_64 hGq9) (lk_64 hGq9) rfl rfl rfl ⟨Nat.le_refl _, Nat.le_refl _⟩ (Nat.le_of_ble_eq_true rfl) dX12_reckon_81 ?_
            refine am_iconst (v := 1) hz1 dX12_reckon_84 (by decide) ?_
            exact am_ireturn hz dX12_reckon_85 h
          · replace h := h.2 c10
            refine am_bipush (v := (-3)) hz1 dX12_reckon_72 (by decide) ?_
            exact am_ireturn hz dX12_reckon_74 h
        · replace h := h.2 c4
          refine am_iconst (v := (-1)) hz1 dX12_reckon_34 (by decide) ?_
          exact am_ireturn hz dX12_reckon_35 h
set_option maxRecDepth 100000 in
set_option maxHeartbeats 4000000 in
theorem c_X12_reckon {l : Launch} {D : va_G} {B : Heap} {G : amG} {I : amI} {L : amL}  (hG : Lay G)  (v1 : Int32) (v2 : Int32) (v3 : Int32) (v4 : Int32) {s : St} (hs : RI s I L) (hw : WF s) : Mx l D B yX12_reckon cX12_reckon 5 (some .int) 7 0 0 [.ref (B.size + 64), .int v1, .int v2, .int v3, .int v4] G I L (fun r G1 I1 L1 => r = some (.int (xReckon s v1 v2 v3 v4).1) ∧ G1 = G ∧ RI (xReckon s v1 v2 v3 v4).2 I1 L1 ∧ frM I L I1 L1) := by
  refine Mx.of (by decide) rfl rfl (fun z e1 e2 e3 hz => ?_)
  subst e1; subst e2; subst e3
  refine b_X12_reckon_0 hz hG ?_
  have hM := hs.1.mo
  have h16 := hM.2.1
  have hno : (inR 3 v1 && (inR 3 v2 && (inR 3 v3 && inR 3 v4))) = false → xReckon s v1 v2 v3 v4 = (-1, s) := fun h => by rw [xReckon, if_neg (by rw [h]; decide)]
  rw [isIn3, isIn3, isIn3, isIn_R (k := 3) (by decide) (by decide)]
  refine ⟨fun h => ?_, fun h => ⟨fun h2 => ?_, fun h2 => ⟨fun h3 => ?_, fun h3 => ⟨fun h4 => ?_, fun h4 => ?_⟩⟩⟩⟩
  · rw [hno (by rw [h]; rfl)]; exact ⟨rfl, rfl, hs, frM_r⟩
  · rw [hno (by rw [h2]; simp)]; exact ⟨rfl, rfl, hs, frM_r⟩
  · rw [hno (by rw [h3]; simp)]; exact ⟨rfl, rfl, hs, frM_r⟩
  · obtain ⟨f, hf, rfl⟩ := fnR h
    obtain ⟨x, hx, rfl⟩ := fnR h2
    obtain ⟨y, hy, rfl⟩ := fnR h3
    have ef : (nI f).toNatClampNeg = f := cl_nI (by omega)
    have ex : (nI x).toNatClampNeg = x := cl_nI (by omega)
    have ey : (nI y).toNatClampNeg = y := cl_nI (by omega)
    refine ⟨by decide, ⟨x, hx, rfl⟩, by decide, ⟨y, hy, rfl⟩, ?_⟩
    rw [ex, ey]
    generalize hL0 : setL (setL L 73 (wr (L 73) 0 256 (fun j => L 65 (17 + 256 * x + j)))) 74 (wr ((setL L 73 (wr (L 73) 0 256 (fun j => L 65 (17 + 256 * x + j)))) 74) 0 256 (fun j => (setL L 73 (wr (L 73) 0 256 (fun j => L 65 (17 + 256 * x + j)))) 65 (17 + 256 * y + j))) = L0
    have e65 : L0 65 = L 65 := by rw [← hL0, setL_n (by decide), setL_n (by decide)]
    have e66 : L0 66 = L 66 := by rw [← hL0, setL_n (by decide), setL_n (by decide)]
    have e73 : ∀ a b, a < 16 → b < 16 → L0 73 (16 * a + b) = fnF s x a b := fun a b ha hb => by
      rw [← hL0, setL_n (by decide), setL_s, wr_in (by omega), Nat.sub_zero]
      exact one_F hs hx (by omega) rfl
    have e74 : ∀ a b, a < 16 → b < 16 → L0 74 (16 * a + b) = fnF s y a b := fun a b ha hb => by
      rw [← hL0, setL_s, wr_in (by omega), Nat.sub_zero, setL_n (by decide)]
      exact one_F hs hy (by omega) rfl
    have fr0 : frM I L (setI I 64 (upd (I 64) 15 0)) L0 := by
      rw [← hL0]
      exact frM_t frM_64 (frM_t (frM_L (by decide) (by decide)) (frM_L (by decide) (by decide)))
    have hM0 : MO L0 (rN (sC s)) (rA (sC s)) := MO_c hM e65
    have hs0 : RI s (setI I 64 (upd (I 64) 15 0)) L0 := RI_L (RI_64 hs (by decide) (by decide) (by decide) (by decide) (by decide)) e65 e66
    have hrk : ∀ a b, a < rN (sC s) → b < rN (sC s) → m_rk L0 v4 (nI a) (nI b) = rkV (rN (sC s)) (rA (sC s)) (fnF s x) (fnF s y) v4 a b := by
      intro a b ha hb
      rw [m_rk, rkV, m_cvl, hM0.iv ha hb, hM0.N, cl_nI (n := a) (by omega), cl_nI (n := b) (by omega), e73 a b (by omega) (by omega), e74 a b (by omega) (by omega)]
      rw [tS_c (f' := fnF s x a) (g' := fun w => fnF s y w b) (fun w hw _ => ⟨e73 a w (by omega) (by omega), e74 w b (by omega) (by omega)⟩)]
    have hrO : ∀ a b, a < rN (sC s) → b < rN (sC s) → m_rkO L0 v4 (nI a) (nI b) = rkB (rN (sC s)) (rA (sC s)) (fnF s x) (fnF s y) v4 a b := by
      intro a b ha hb
      rw [m_rkO, rkB, m_cvlO, hM0.iv ha hb, hM0.N, cl_nI (n := a) (by omega), cl_nI (n := b) (by omega), e73 a b (by omega) (by omega), e74 a b (by omega) (by omega)]
      rw [oS_c (f' := fnF s x a) (g' := fun w => fnF s y w b) (fun w hw _ => ⟨e73 a w (by omega) (by omega), e74 w b (by omega) (by omega)⟩)]
    refine ⟨6, _, rfl, c_X12_reckons hG _ hM0, fun ro G2 I2 L2 ⟨e1, e2, g, c, e3, e4, e5, e6⟩ => ⟨e1, by rw [e2]; exact hG, ?_⟩⟩
    have hc : c = anyB (rN (sC s)) (rA (sC s)) (rkB (rN (sC s)) (rA (sC s)) (fnF s x) (fnF s y) v4) := by
      rw [Bool.eq_iff_iff, e6, anyB_t]
      exact ⟨fun ⟨a, b, ha, hb, hl, ho⟩ => ⟨a, b, ha, hb, hl, by rw [← hrO a b ha hb]; exact ho⟩, fun ⟨a, b, ha, hb, hl, ho⟩ => ⟨a, b, ha, hb, hl, by rw [hrO a b ha hb]; exact ho⟩⟩
    have h15 : I2 64 15 = bI c := by rw [e3, oI_v (b := false) (by rw [setI_s, upd_s]; rfl), Bool.false_or]
    have hs2 : RI s I2 L2 := by rw [e3, e4]; exact RI_L (RI_o hs0) (setL_n (by decide)) (setL_n (by decide))
    have fr2 : frM I L I2 L2 := by rw [e3, e4]; exact frM_t fr0 (frM_t frM_o (frM_L (by decide) (by decide)))
    rw [h15, bI_z]
    refine ⟨fun q => ⟨mu_ok hs2 hw, ⟨f, hf, rfl⟩, ?_⟩, fun q => ?_⟩
    · have hx2 : xReckon s (nI f) (nI x) (nI y) v4 = (1, storeS s f (fun a b => if le (rA (sC s)) a b = true then rkV (rN (sC s)) (rA (sC s)) (fnF s x) (fnF s y) v4 a b else 0)) := by
        rw [xReckon, if_pos (by rw [h, h2, h3, h4]; rfl), ef, ex, ey, if_neg (by rw [← hc, q]; decide)]
      rw [hx2, ef, setL_n (q := 72) (by decide)]
      refine ⟨rfl, e2, ?_, frM_t fr2 (frM_t KA_fr (frM_L (by decide) (by decide)))⟩
      refine STO (KA hs2 hw) hf ?_
      rw [e4, setL_s]
      exact KV_c e5 (fun a b ha hb => by rw [rkT, hrk a b ha hb])
    · rw [Bool.not_eq_false] at q
      have hx2 : xReckon s (nI f) (nI x) (nI y) v4 = (-3, s) := by
        rw [xReckon, if_pos (by rw [h, h2, h3, h4]; rfl), ex, ey, if_pos (by rw [← hc, q])]
      rw [hx2]
      exact ⟨rfl, e2, hs2, fr2⟩
  · rw [hno (by rw [h4]; simp)]; exact ⟨rfl, rfl, hs, frM_r⟩
