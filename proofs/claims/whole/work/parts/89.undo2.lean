/-! THE CLASS: undo -/
def WZr (r : Row) : Prop := ∀ x, rN r ≤ x → rA r x = 0
def WZ (s : St) : Prop := WZr (sC s) ∧ ∀ j, j < (sH s).1 → WZr ((sH s).2 j)
set_option maxRecDepth 100000 in
set_option maxHeartbeats 4000000 in
theorem b_X1_pop_0 {z : amZ} {post : amP} {G : amG} {I : amI} {L : amL} (hz : Go z cX1_pop RX1 1 (some (.object "OrderAlgebra$State")) 0 0 0 post) (hG : Lay G)  (h : ((¬ (I 61 2) = 0) → vp_in ((setI (setI I 61 (upd (I 61) 2 ((I 61 2) - (1 : Int32)))) 61 (upd ((setI I 61 (upd (I 61) 2 ((I 61 2) - (1 : Int32)))) 61) 1 (((((setI I 61 (upd (I 61) 2 ((I 61 2) - (1 : Int32)))) 61 1) + (8 : Int32)) - (1 : Int32)) - ((((setI I 61 (upd (I 61) 2 ((I 61 2) - (1 : Int32)))) 61 1) + (8 : Int32)) - (1 : Int32)) / (8 : Int32) * (8 : Int32)))) 61 1) 8 ∧ ∃ hh : Nat, gR G 62 ((setI (setI I 61 (upd (I 61) 2 ((I 61 2) - (1 : Int32)))) 61 (upd ((setI I 61 (upd (I 61) 2 ((I 61 2) - (1 : Int32)))) 61) 1 (((((setI I 61 (upd (I 61) 2 ((I 61 2) - (1 : Int32)))) 61 1) + (8 : Int32)) - (1 : Int32)) - ((((setI I 61 (upd (I 61) 2 ((I 61 2) - (1 : Int32)))) 61 1) + (8 : Int32)) - (1 : Int32)) / (8 : Int32) * (8 : Int32)))) 61 1).toNatClampNeg = some hh ∧ post (some (.ref ((zB z).size + hh))) G (setI (setI I 61 (upd (I 61) 2 ((I 61 2) - (1 : Int32)))) 61 (upd ((setI I 61 (upd (I 61) 2 ((I 61 2) - (1 : Int32)))) 61) 1 (((((setI I 61 (upd (I 61) 2 ((I 61 2) - (1 : Int32)))) 61 1) + (8 : Int32)) - (1 : Int32)) - ((((setI I 61 (upd (I 61) 2 ((I 61 2) - (1 : Int32)))) 61 1) + (8 : Int32)) - (1 : Int32)) / (8 : Int32) * (8 : Int32)))) L) ∧ (((I 61 2) = 0) → post (some (.null)) G I L)) : Wx z 0 0 0 [(0, .ref ((zB z).size + 61))] [] G I L := by
  have hz1 := hz.1
  refine am_aload_n hz1 dX1_pop_0 0 rfl rfl ?_
  refine am_getI hz1 fl_X1_22 (ln_61 hG) (lk_61 hG) rfl dX1_pop_1 ?_
  refine am_if_ne (tgt := 9) hz1 dX1_pop_4 (by decide) (fun c1 => ?_) (fun c1 => ?_)
  · replace h := h.1 c1
    refine am_aload_n hz1 dX1_pop_9 0 rfl rfl ?_
    refine am_dup hz1 dX1_pop_10 rfl ?_
    refine am_getI hz1 fl_X1_22 (ln_61 hG) (lk_61 hG) rfl dX1_pop_11 ?_
    refine am_iconst (v := 1) hz1 dX1_pop_14 (by decide) ?_
    refine am_isub hz1 dX1_pop_15 ?_
    refine am_putI hz1 fl_X1_22 (ln_61 hG) (lk_61 hG) rfl rfl (fun _ => rfl) dX1_pop_16 ?_
    refine am_aload_n hz1 dX1_pop_19 0 rfl rfl ?_
    refine am_aload_n hz1 dX1_pop_20 0 rfl rfl ?_
    refine am_getI hz1 fl_X1_17 (ln_61 hG) (lk_61 hG) rfl dX1_pop_21 ?_
    refine am_bipush (v := 8) hz1 dX1_pop_24 (by decide) ?_
    refine am_iadd hz1 dX1_pop_26 ?_
    refine am_iconst (v := 1) hz1 dX1_pop_27 (by decide) ?_
    refine am_isub hz1 dX1_pop_28 ?_
    refine am_bipush (v := 8) hz1 dX1_pop_29 (by decide) ?_
    refine am_irem hz1 dX1_pop_31 (by decide) ?_
    refine am_putI hz1 fl_X1_17 (ln_61 hG) (lk_61 hG) rfl rfl (fun _ => rfl) dX1_pop_32 ?_
    refine am_aload_n hz1 dX1_pop_35 0 rfl rfl ?_
    refine am_getR hz1 fl_X1_11 (ln_61 hG) (lk_61 hG) (lr_61_0 hG) rfl dX1_pop_36 ?_
    refine am_aload_n hz1 dX1_pop_39 0 rfl rfl ?_
    refine am_getI hz1 fl_X1_17 (ln_61 hG) (lk_61 hG) rfl dX1_pop_40 ?_
    obtain ⟨g3, hh, hr4, h⟩ := h
    refine am_aald hz1 (t := 4) (kd := 54) rfl (by decide) (ln_62 hG) (lk_62 hG) (by rw [(ll_62 hG)]; exact g3) hr4 dX1_pop_43 ?_
    exact am_areturn hz (Or.inr ⟨_, rfl⟩) dX1_pop_44 h
  · replace h := h.2 c1
    refine am_null hz1 dX1_pop_7 ?_
    exact am_areturn hz (Or.inl rfl) dX1_pop_8 h
theorem pop_I {I : amI} {nx m : Nat} (h1 : I 61 1 = nI nx) (hn : nx < 8) (h2 : I 61 2 = nI (m + 1)) (h8 : m + 1 ≤ 8) : ∀ I1, I1 = (setI (setI I 61 (upd (I 61) 2 ((I 61 2) - (1 : Int32)))) 61 (upd ((setI I 61 (upd (I 61) 2 ((I 61 2) - (1 : Int32)))) 61) 1 (((((setI I 61 (upd (I 61) 2 ((I 61 2) - (1 : Int32)))) 61 1) + (8 : Int32)) - (1 : Int32)) - ((((setI I 61 (upd (I 61) 2 ((I 61 2) - (1 : Int32)))) 61 1) + (8 : Int32)) - (1 : Int32)) / (8 : Int32) * (8 : Int32)))) → I1 61 1 = nI ((nx + 7) % 8) ∧ I1 61 2 = nI m ∧ ∀ q, q ≠ 61 → I1 q = I q := by
  rintro _ rfl
  have e1 : (nI nx + 8 : Int32) - 1 = nI (nx + 7) := by rw [show (8 : Int32) = nI 8 from rfl, nI_add, show nx + 8 = nx + 7 + 1 from rfl, nI_pred]
  have e2 : nI (nx + 7) - nI (nx + 7) / (8 : Int32) * 8 = nI ((nx + 7) % 8) := nI_rem (b := 8) (by omega) (by decide) (by decide)
  refine ⟨?_, ?_, fun q hq => by rw [setI_n hq, setI_n hq]⟩
  · rw [setI_s, upd_s, setI_s, upd_n (by decide), h1, e1, e2]
  · rw [setI_s, upd_n (by decide), setI_s, upd_s, h2, nI_pred]
set_option maxRecDepth 100000 in
set_option maxHeartbeats 4000000 in
theorem c_X1_popR {l : Launch} {D : va_G} {B : Heap} {G : amG} {I : amI} {L : amL} {nx m h : Nat} (hG : Lay G) (h1 : I 61 1 = nI nx) (hn : nx < 8) (h2 : I 61 2 = nI (m + 1)) (h8 : m + 1 ≤ 8) (hr : gR G 62 ((nx + 7) % 8) = some h) : Mx l D B yX1_pop cX1_pop 1 (some (.object "OrderAlgebra$State")) 0 0 0 [.ref (B.size + 61)] G I L (fun r G1 I1 L1 => r = some (.ref (B.size + h)) ∧ G1 = G ∧ L1 = L ∧ I1 61 1 = nI ((nx + 7) % 8) ∧ I1 61 2 = nI m ∧ ∀ q, q ≠ 61 → I1 q = I q) := by
  refine Mx.of (by decide) rfl rfl (fun z e1 e2 e3 hz => ?_)
  subst e1; subst e2; subst e3
  refine b_X1_pop_0 hz hG ⟨fun _ => ?_, fun e => ?_⟩
  · obtain ⟨a, b, c⟩ := pop_I h1 hn h2 h8 _ rfl
    generalize (setI (setI I 61 (upd (I 61) 2 ((I 61 2) - (1 : Int32)))) 61 (upd ((setI I 61 (upd (I 61) 2 ((I 61 2) - (1 : Int32)))) 61) 1 (((((setI I 61 (upd (I 61) 2 ((I 61 2) - (1 : Int32)))) 61 1) + (8 : Int32)) - (1 : Int32)) - ((((setI I 61 (upd (I 61) 2 ((I 61 2) - (1 : Int32)))) 61 1) + (8 : Int32)) - (1 : Int32)) / (8 : Int32) * (8 : Int32)))) = I1 at a b c ⊢
    rw [a, cl_nI (by omega)]
    exact ⟨in_nI (Nat.mod_lt _ (by decide)) (by decide), h, hr, rfl, rfl, rfl, rfl, b, c⟩
  · rw [h2] at e
    exact absurd ((nI_eq (b := 0) (by omega) (by decide)).mp e) (by omega)
set_option maxRecDepth 100000 in
set_option maxHeartbeats 4000000 in
theorem c_X1_popN {l : Launch} {D : va_G} {B : Heap} {G : amG} {I : amI} {L : amL} (hG : Lay G) (h2 : I 61 2 = 0) : Mx l D B yX1_pop cX1_pop 1 (some (.object "OrderAlgebra$State")) 0 0 0 [.ref (B.size + 61)] G I L (fun r G1 I1 L1 => r = some .null ∧ G1 = G ∧ I1 = I ∧ L1 = L) := by
  refine Mx.of (by decide) rfl rfl (fun z e1 e2 e3 hz => ?_)
  subst e1; subst e2; subst e3
  exact b_X1_pop_0 hz hG ⟨fun e => absurd h2 e, fun _ => ⟨rfl, rfl, rfl, rfl⟩⟩
theorem CR_pop {H : Nat × (Nat → Row)} {m : Nat} {G : amG} {I I1 : amI} {L L1 : amL} {nx : Nat} (hm : H.1 = m + 1) (n8 : nx < 8) (m8 : H.1 ≤ 8) (hHS : ∀ i h, i < 8 → gR G 62 i = some h → HS G h) (hdis : ∀ i j h k, i < 8 → j < 8 → i ≠ j → gR G 62 i = some h → gR G 62 j = some k → h + 5 ≤ k ∨ k + 5 ≤ h) (hrow : ∀ j, j < H.1 → ∃ h, gR G 62 ((nx + 8 - H.1 + j) % 8) = some h ∧ HR I L h (H.2 j)) (a : I1 61 1 = nI ((nx + 7) % 8)) (b : I1 61 2 = nI m) (e1 : ∀ q, 85 ≤ q → I1 q = I q) (e2 : ∀ q, 85 ≤ q → L1 q = L q) : CR (m, H.2) G I1 L1 := by
  refine ⟨(nx + 7) % 8, Nat.mod_lt _ (by decide), a, b, by show m ≤ 8; omega, hHS, hdis, fun j hj => ?_⟩
  have hj : j < m := hj
  obtain ⟨h, h1, h2⟩ := hrow j (by omega)
  have h85 := (hHS _ h (Nat.mod_lt _ (by decide)) h1).1
  show ∃ h, gR G 62 (((nx + 7) % 8 + 8 - m + j) % 8) = some h ∧ HR I1 L1 h (H.2 j)
  rw [show ((nx + 7) % 8 + 8 - m + j) % 8 = (nx + 8 - H.1 + j) % 8 by omega]
  exact ⟨h, h1, HR_c h2 (fun q p _ => e1 q (by omega)) (fun q p _ => e2 q (by omega))⟩
set_option maxRecDepth 100000 in
set_option maxHeartbeats 4000000 in
theorem b_X11_undoN_0 {z : amZ} {post : amP} {G : amG} {I : amI} {L : amL} (hz : Go z cX11_undo RX11 2 (some .int) 3 0 0 post) (hG : Lay G)  (h : ∃ (dq1 : Nat) (postq1 : amP), Nat.ble (dq1 + 1) 3 = true ∧ Mx (zL z) (zD z) (zB z) yX1_pop cX1_pop 1 (some (.object "OrderAlgebra$State")) dq1 0 0 [.ref ((zB z).size + 61)] G I L postq1 ∧ ∀ (roq1 : Option Value) (Gq1 : amG) (Iq1 : amI) (Lq1 : amL), postq1 roq1 Gq1 Iq1 Lq1 → roq1 = some (.null) ∧ Lay Gq1 ∧ post (some (.int (-1))) Gq1 Iq1 Lq1) : Wx z 0 0 0 [(0, .ref ((zB z).size + 0))] [] G I L := by
  have hz1 := hz.1
  refine am_aload_n hz1 dX11_undo_0 0 rfl rfl ?_
  refine am_getR hz1 fl_X11_96 (ln_0 hG) (lk_0 hG) (lr_0_11 hG) rfl dX11_undo_1 ?_
  obtain ⟨dq1, postq1, hdq1, hMq1, h⟩ := h
  refine am_callV hz1 cv_X11_229 [] [] hMq1 (ln_61 hG) (lk_61 hG) rfl rfl (hz.fr hdq1) (hz.lo hdq1) (by rw [hz.2.1]; exact ⟨Nat.le_refl _, Nat.le_refl _⟩) (Nat.le_of_ble_eq_true rfl) dX11_undo_4 (fun roq1 Gq1 Iq1 Lq1 hpq1 => ?_)
  obtain ⟨rfl, hGq1, h⟩ := h roq1 Gq1 Iq1 Lq1 hpq1
  refine am_astore_nN (lv' := [(1, .null), (0, .ref ((zB z).size + 0))]) hz1 dX11_undo_7 rfl rfl rfl ?_
  refine am_aload_nN hz1 dX11_undo_8 0 rfl rfl ?_
  refine am_ifnnN hz1 dX11_undo_9 ?_
  refine am_iconst (v := (-1)) hz1 dX11_undo_12 (by decide) ?_
  exact am_ireturn hz dX11_undo_13 h
set_option maxRecDepth 100000 in
set_option maxHeartbeats 4000000 in
theorem b_X11_undoR_0 {z : amZ} {post : amP} {G : amG} {I : amI} {L : amL} (hz : Go z cX11_undo RX11 2 (some .int) 3 0 0 post) (hG : Lay G)  (h : ∃ (dq1 : Nat) (postq1 : amP), Nat.ble (dq1 + 1) 3 = true ∧ Mx (zL z) (zD z) (zB z) yX1_pop cX1_pop 1 (some (.object "OrderAlgebra$State")) dq1 0 0 [.ref ((zB z).size + 61)] G I L postq1 ∧ ∀ (roq1 : Option Value) (Gq1 : amG) (Iq1 : amI) (Lq1 : amL), postq1 roq1 Gq1 Iq1 Lq1 → ∃ (hh : Nat), roq1 = some (.ref ((zB z).size + hh)) ∧ Lay Gq1 ∧ HS Gq1 hh ∧ (szOk Iq1 3) ∧ ((q_isTold Iq1 3 (Iq1 hh 0) (hh + 1) = true) → Wx z 0 0 58 [(0, .ref ((zB z).size + 0)), (1, .ref ((zB z).size + hh))] [] Gq1 Iq1 Lq1) ∧ ((q_isTold Iq1 3 (Iq1 hh 0) (hh + 1) = false) → ((hh + 1) ≠ 3) ∧ ((hh + 1) ≠ 3 + 1) ∧ ∃ (dq6 : Nat) (postq6 : amP), Nat.ble (dq6 + 1) 3 = true ∧ Mx (zL z) (zD z) (zB z) yX4_derive cX4_derive 1 none dq6 0 0 [.ref ((zB z).size + 3)] Gq1 (q_copy Iq1 3 (Iq1 hh 0) (hh + 1)) Lq1 postq6 ∧ ∀ (roq6 : Option Value) (Gq6 : amG) (Iq6 : amI) (Lq6 : amL), postq6 roq6 Gq6 Iq6 Lq6 → roq6 = none ∧ Lay Gq6 ∧ Wx z 0 0 58 [(0, .ref ((zB z).size + 0)), (1, .ref ((zB z).size + hh))] [] Gq6 (fgI Iq6) Lq6)) : Wx z 0 0 0 [(0, .ref ((zB z).size + 0))] [] G I L := by
  have hz1 := hz.1
  refine am_aload_n hz1 dX11_undo_0 0 rfl rfl ?_
  refine am_getR hz1 fl_X11_96 (ln_0 hG) (lk_0 hG) (lr_0_11 hG) rfl dX11_undo_1 ?_
  obtain ⟨dq1, postq1, hdq1, hMq1, h⟩ := h
  refine am_callV hz1 cv_X11_229 [] [] hMq1 (ln_61 hG) (lk_61 hG) rfl rfl (hz.fr hdq1) (hz.lo hdq1) (by rw [hz.2.1]; exact ⟨Nat.le_refl _, Nat.le_refl _⟩) (Nat.le_of_ble_eq_true rfl) dX11_undo_4 (fun roq1 Gq1 Iq1 Lq1 hpq1 => ?_)
  obtain ⟨hh, rfl, hGq1, hH, h⟩ := h roq1 Gq1 Iq1 Lq1 hpq1
  refine am_astore_n (lv' := [(1, .ref ((zB z).size + hh)), (0, .ref ((zB z).size + 0))]) hz1 dX11_undo_7 rfl rfl rfl ?_
  refine am_aload_n hz1 dX11_undo_8 0 rfl rfl ?_
  refine am_ifnn (tgt := 14) hz1 dX11_undo_9 (by decide) ?_
  refine am_aload_n hz1 dX11_undo_14 1 rfl rfl ?_
  refine am_getR hz1 fl_X11_21 (ln_0 hGq1) (lk_0 hGq1) (lr_0_2 hGq1) rfl dX11_undo_15 ?_
  refine am_aload_n hz1 dX11_undo_18 0 rfl rfl ?_
  refine am_getI hz1 fl_X11_209 (HS_n0 hH) (HS_k0 hH) rfl dX11_undo_19 ?_
  refine am_aload_n hz1 dX11_undo_22 0 rfl rfl ?_
  refine am_getR hz1 fl_X11_213 (HS_n0 hH) (HS_k0 hH) (HS_r2 hH) rfl dX11_undo_23 ?_
  obtain ⟨g2, h⟩ := h
  refine am_cVf hz cv_X11_232 [.int (Iq1 hh 0), .ref ((zB z).size + (hh + 1))] [] (c_X4_isTold hGq1 isO_3 (HS_n1 hH) (HS_k1 hH) (HS_l1 hH) (Iq1 hh 0) g2) (ln_3 hGq1) (lk_3 hGq1) rfl rfl rfl ⟨Nat.le_refl _, Nat.le_refl _⟩ (Nat.le_of_ble_eq_true rfl) dX11_undo_26 ?_
  refine am_ifb_ne (tgt := 58) hz1 dX11_undo_29 (by decide) (fun c3 => ?_) (fun c3 => ?_)
  · replace h := h.1 c3
    exact am_sub (lv' := [(0, .ref ((zB z).size + 0)), (1, .ref ((zB z).size + hh))]) [1, 0] rfl h
  · replace h := h.2 c3
    refine am_aload_n hz1 dX11_undo_32 1 rfl rfl ?_
    refine am_getR hz1 fl_X11_21 (ln_0 hGq1) (lk_0 hGq1) (lr_0_2 hGq1) rfl dX11_undo_33 ?_
    refine am_aload_n hz1 dX11_undo_36 0 rfl rfl ?_
    refine am_getI hz1 fl_X11_209 (HS_n0 hH) (HS_k0 hH) rfl dX11_undo_37 ?_
    refine am_aload_n hz1 dX11_undo_40 0 rfl rfl ?_
    refine am_getR hz1 fl_X11_213 (HS_n0 hH) (HS_k0 hH) (HS_r2 hH) rfl dX11_undo_41 ?_
    obtain ⟨g4, h⟩ := h
    obtain ⟨g5, h⟩ := h
    refine am_cVf hz cv_X11_134 [.int (Iq1 hh 0), .ref ((zB z).size + (hh + 1))] [] (c_X4_copy hGq1 isO_3 (HS_n1 hH) (HS_k1 hH) (HS_l1 hH) (Iq1 hh 0) g4 g5) (ln_3 hGq1) (lk_3 hGq1) rfl rfl rfl ⟨Nat.le_refl _, Nat.le_refl _⟩ (Nat.le_of_ble_eq_true rfl) dX11_undo_44 ?_
    refine am_aload_n hz1 dX11_undo_47 1 rfl rfl ?_
    refine am_getR hz1 fl_X11_21 (ln_0 hGq1) (lk_0 hGq1) (lr_0_2 hGq1) rfl dX11_undo_48 ?_
    obtain ⟨dq6, postq6, hdq6, hMq6, h⟩ := h
    refine am_callV hz1 cv_X11_176 [] [] hMq6 (ln_3 hGq1) (lk_3 hGq1) rfl rfl (hz.fr hdq6) (hz.lo hdq6) (by rw [hz.2.1]; exact ⟨Nat.le_refl _, Nat.le_refl _⟩) (Nat.le_of_ble_eq_true rfl) dX11_undo_51 (fun roq6 Gq6 Iq6 Lq6 hpq6 => ?_)
    obtain ⟨rfl, hGq6, h⟩ := h roq6 Gq6 Iq6 Lq6 hpq6
    refine am_aload_n hz1 dX11_undo_54 1 rfl rfl ?_
    refine am_cVf hz cv_X11_191 [] [] (c_X11_forgetReckoned hGq6  ) (ln_0 hGq6) (lk_0 hGq6) rfl rfl rfl ⟨Nat.le_refl _, Nat.le_refl _⟩ (Nat.le_of_ble_eq_true rfl) dX11_undo_55 ?_
    exact am_sub (lv' := [(0, .ref ((zB z).size + 0)), (1, .ref ((zB z).size + hh))]) [1, 0] rfl h
set_option maxRecDepth 100000 in
set_option maxHeartbeats 4000000 in
theorem b_X11_undoR_58 {z : amZ} {post : amP} {G : amG} {I : amI} {L : amL} (hz : Go z cX11_undo RX11 2 (some .int) 3 0 0 post) (hG : Lay G) {hh : Nat} (hH : HS G hh)  (h : ((((setI I 42 (va_cpy (I (hh + 4)) (I 42) (0 : Int32).toNatClampNeg (0 : Int32).toNatClampNeg (16 : Int32).toNatClampNeg)) hh 1) = ((setI I 42 (va_cpy (I (hh + 4)) (I 42) (0 : Int32).toNatClampNeg (0 : Int32).toNatClampNeg (16 : Int32).toNatClampNeg)) 0 15)) → post (some (.int ((setI I 42 (va_cpy (I (hh + 4)) (I 42) (0 : Int32).toNatClampNeg (0 : Int32).toNatClampNeg (16 : Int32).toNatClampNeg)) 61 2))) G (setI I 42 (va_cpy (I (hh + 4)) (I 42) (0 : Int32).toNatClampNeg (0 : Int32).toNatClampNeg (16 : Int32).toNatClampNeg)) (setL (setL L 36 (va_cpy (L (hh + 2)) (L 36) (0 : Int32).toNatClampNeg (0 : Int32).toNatClampNeg (1024 : Int32).toNatClampNeg)) 40 (va_cpy ((setL L 36 (va_cpy (L (hh + 2)) (L 36) (0 : Int32).toNatClampNeg (0 : Int32).toNatClampNeg (1024 : Int32).toNatClampNeg)) (hh + 3)) ((setL L 36 (va_cpy (L (hh + 2)) (L 36) (0 : Int32).toNatClampNeg (0 : Int32).toNatClampNeg (1024 : Int32).toNatClampNeg)) 40) (0 : Int32).toNatClampNeg (0 : Int32).toNatClampNeg (16 : Int32).toNatClampNeg))) ∧ ((¬ ((setI I 42 (va_cpy (I (hh + 4)) (I 42) (0 : Int32).toNatClampNeg (0 : Int32).toNatClampNeg (16 : Int32).toNatClampNeg)) hh 1) = ((setI I 42 (va_cpy (I (hh + 4)) (I 42) (0 : Int32).toNatClampNeg (0 : Int32).toNatClampNeg (16 : Int32).toNatClampNeg)) 0 15)) → post (some (.int ((setI (setI I 42 (va_cpy (I (hh + 4)) (I 42) (0 : Int32).toNatClampNeg (0 : Int32).toNatClampNeg (16 : Int32).toNatClampNeg)) 42 (q_fill ((setI I 42 (va_cpy (I (hh + 4)) (I 42) (0 : Int32).toNatClampNeg (0 : Int32).toNatClampNeg (16 : Int32).toNatClampNeg)) 42) 16 (-1))) 61 2))) G (setI (setI I 42 (va_cpy (I (hh + 4)) (I 42) (0 : Int32).toNatClampNeg (0 : Int32).toNatClampNeg (16 : Int32).toNatClampNeg)) 42 (q_fill ((setI I 42 (va_cpy (I (hh + 4)) (I 42) (0 : Int32).toNatClampNeg (0 : Int32).toNatClampNeg (16 : Int32).toNatClampNeg)) 42) 16 (-1))) (setL (setL L 36 (va_cpy (L (hh + 2)) (L 36) (0 : Int32).toNatClampNeg (0 : Int32).toNatClampNeg (1024 : Int32).toNatClampNeg)) 40 (va_cpy ((setL L 36 (va_cpy (L (hh + 2)) (L 36) (0 : Int32).toNatClampNeg (0 : Int32).toNatClampNeg (1024 : Int32).toNatClampNeg)) (hh + 3)) ((setL L 36 (va_cpy (L (hh + 2)) (L 36) (0 : Int32).toNatClampNeg (0 : Int32).toNatClampNeg (1024 : Int32).toNatClampNeg)) 40) (0 : Int32).toNatClampNeg (0 : Int32).toNatClampNeg (16 : Int32).toNatClampNeg)))) : Wx z 0 0 58 [(0, .ref ((zB z).size + 0)), (1, .ref ((zB z).size + hh))] [] G I L := by
  have hz1 := hz.1
  refine am_aload_n hz1 dX11_undo_58 1 rfl rfl ?_
  refine am_getR hz1 fl_X11_223 (HS_n0 hH) (HS_k0 hH) (HS_r3 hH) rfl dX11_undo_59 ?_
  refine am_iconst (v := 0) hz1 dX11_undo_62 (by decide) ?_
  refine am_aload_n hz1 dX11_undo_63 0 rfl rfl ?_
  refine am_getR hz1 fl_X11_53 (ln_0 hG) (lk_0 hG) (lr_0_5 hG) rfl dX11_undo_64 ?_
  refine am_getR hz1 fl_X11_220 (ln_35 hG) (lk_35 hG) (lr_35_0 hG) rfl dX11_undo_67 ?_
  refine am_iconst (v := 0) hz1 dX11_undo_70 (by decide) ?_
  refine am_sipush (v := 1024) hz1 dX11_undo_71 (by decide) ?_
  refine am_copyL hz ml_X11_214 (HS_n2 hH) (HS_k2 hH) (ln_36 hG) (lk_36 hG) (by decide) (by decide) (by decide) (by rw [(HS_l2 hH)]; decide) (by rw [(ll_36 hG)]; decide) rfl (Nat.le_of_ble_eq_true rfl) dX11_undo_74 ?_
  refine am_aload_n hz1 dX11_undo_77 1 rfl rfl ?_
  refine am_getR hz1 fl_X11_224 (HS_n0 hH) (HS_k0 hH) (HS_r4 hH) rfl dX11_undo_78 ?_
  refine am_iconst (v := 0) hz1 dX11_undo_81 (by decide) ?_
  refine am_aload_n hz1 dX11_undo_82 0 rfl rfl ?_
  refine am_getR hz1 fl_X11_57 (ln_0 hG) (lk_0 hG) (lr_0_6 hG) rfl dX11_undo_83 ?_
  refine am_iconst (v := 0) hz1 dX11_undo_86 (by decide) ?_
  refine am_bipush (v := 16) hz1 dX11_undo_87 (by decide) ?_
  refine am_copyL hz ml_X11_214 (HS_n3 hH) (HS_k3 hH) (ln_40 hG) (lk_40 hG) (by decide) (by decide) (by decide) (by rw [(HS_l3 hH)]; decide) (by rw [(ll_40 hG)]; decide) rfl (Nat.le_of_ble_eq_true rfl) dX11_undo_89 ?_
  refine am_aload_n hz1 dX11_undo_92 1 rfl rfl ?_
  refine am_getR hz1 fl_X11_228 (HS_n0 hH) (HS_k0 hH) (HS_r5 hH) rfl dX11_undo_93 ?_
  refine am_iconst (v := 0) hz1 dX11_undo_96 (by decide) ?_
  refine am_aload_n hz1 dX11_undo_97 0 rfl rfl ?_
  refine am_getR hz1 fl_X11_66 (ln_0 hG) (lk_0 hG) (lr_0_7 hG) rfl dX11_undo_98 ?_
  refine am_getR hz1 fl_X11_225 (ln_41 hG) (lk_41 hG) (lr_41_0 hG) rfl dX11_undo_101 ?_
  refine am_iconst (v := 0) hz1 dX11_undo_104 (by decide) ?_
  refine am_bipush (v := 16) hz1 dX11_undo_105 (by decide) ?_
  refine am_copyI hz ml_X11_214 (HS_n4 hH) (HS_k4 hH) (ln_42 hG) (lk_42 hG) (by decide) (by decide) (by decide) (by rw [(HS_l4 hH)]; decide) (by rw [(ll_42 hG)]; decide) rfl (Nat.le_of_ble_eq_true rfl) dX11_undo_107 ?_
  refine am_aload_n hz1 dX11_undo_110 1 rfl rfl ?_
  refine am_getI hz1 fl_X11_212 (HS_n0 hH) (HS_k0 hH) rfl dX11_undo_111 ?_
  refine am_aload_n hz1 dX11_undo_114 0 rfl rfl ?_
  refine am_getI hz1 fl_X11_185 (ln_0 hG) (lk_0 hG) rfl dX11_undo_115 ?_
  refine am_icmp_eq (tgt := 128) hz1 dX11_undo_118 (by decide) (fun c4 => ?_) (fun c4 => ?_)
  · replace h := h.1 c4
    refine am_aload_n hz1 dX11_undo_128 0 rfl rfl ?_
    refine am_getR hz1 fl_X11_96 (ln_0 hG) (lk_0 hG) (lr_0_11 hG) rfl dX11_undo_129 ?_
    refine am_getI hz1 fl_X11_236 (ln_61 hG) (lk_61 hG) rfl dX11_undo_132 ?_
    exact am_ireturn hz dX11_undo_135 h
  · replace h := h.2 c4
    refine am_aload_n hz1 dX11_undo_121 0 rfl rfl ?_
    refine am_getR hz1 fl_X11_66 (ln_0 hG) (lk_0 hG) (lr_0_7 hG) rfl dX11_undo_122 ?_
    refine am_cVf hz cv_X11_182 [] [] (c_X3_clear hG  ) (ln_41 hG) (lk_41 hG) rfl rfl rfl ⟨Nat.le_refl _, Nat.le_refl _⟩ (Nat.le_of_ble_eq_true rfl) dX11_undo_125 ?_
    refine am_aload_n hz1 dX11_undo_128 0 rfl rfl ?_
    refine am_getR hz1 fl_X11_96 (ln_0 hG) (lk_0 hG) (lr_0_11 hG) rfl dX11_undo_129 ?_
    refine am_getI hz1 fl_X11_236 (ln_61 hG) (lk_61 hG) rfl dX11_undo_132 ?_
    exact am_ireturn hz dX11_undo_135 h
/-- behind the order's coming back -/
theorem undo_CO {s : St} {r : Row} {m h : Nat} {G : amG} {I I2 If : amI} {L Lf : amL} (hs : CO s G I L) (hO : OI I2 3 (rN r) (rA r)) (hK : (I2 46 12 = 0 ∨ LK I2 (rN r) (rA r)) ∧ (I2 56 5 = 0 ∨ DK L (rN r) (rA r)) ∧ (I2 56 6 = 0 ∨ L 56 7 = eF (rN r) (rA r) (rN r) (fun _ => true))) (o2 : ∀ q, (q < 3 ∨ 9 < q) → q ≠ 46 → q ≠ 56 → q ≠ 61 → I2 q = I q) (oF : ∀ q, q ≠ 42 → If q = I2 q) (oL : ∀ q, q ≠ 36 → q ≠ 40 → Lf q = L q) (hCR : CR (m, (sH s).2) G If Lf) (h36 : ∀ k, k < 1024 → Lf 36 k = rF r k) (h40 : ∀ a, a < 16 → Lf 40 a = rD r a) (h42 : ∀ x, x < 16 → If 42 x = rP (popR s r) x) : CO (popR s r, s0 s, s1 s, sE s, sT s, (m, (sH s).2)) G If Lf ∧ frK I L If Lf := by
  obtain ⟨k1, ⟨_, _, _, _, e0, a0, a1, b, t1, t2⟩, _, _, k5⟩ := hs
  have hn : rN (popR s r) = rN r := by rw [popR]; split <;> rfl
  have hA : rA (popR s r) = rA r := by rw [popR]; split <;> rfl
  have hF : rF (popR s r) = rF r := by rw [popR]; split <;> rfl
  have hD : rD (popR s r) = rD r := by rw [popR]; split <;> rfl
  have oI : ∀ q, (q < 3 ∨ 9 < q) → q ≠ 42 → q ≠ 46 → q ≠ 56 → q ≠ 61 → If q = I q := fun q p1 p2 p3 p4 p5 => by rw [oF q p2, o2 q p1 p3 p4 p5]
  refine ⟨⟨k1, ⟨?_, ?_, ?_, h42, ?_, ?_, ?_, ?_, ?_, ?_⟩, ?_, hCR, k5⟩, fun q p1 p2 => ⟨oI q (by omega) (by omega) (by omega) (by omega) (by omega), oL q (by omega) (by omega)⟩⟩
  · show OI If 3 (rN (popR s r)) (rA (popR s r))
    rw [hn, hA]; exact OI_20 hO (fun q a b => oF q (by omega))
  · show ∀ k, k < 1024 → Lf 36 k = rF (popR s r) k
    rw [hF]; exact h36
  · show ∀ a, a < 16 → Lf 40 a = rD (popR s r) a
    rw [hD]; exact h40
  · rw [oI 0 (by omega) (by decide) (by decide) (by decide) (by decide)]; exact e0
  · exact shC_c a0 (by rw [oI 0 (by omega) (by decide) (by decide) (by decide) (by decide)]) (fun q a b => oI q (by omega) (by omega) (by omega) (by omega) (by omega))
  · exact shC_c a1 (by rw [oI 0 (by omega) (by decide) (by decide) (by decide) (by decide)]) (fun q a b => oI q (by omega) (by omega) (by omega) (by omega) (by omega))
  · rw [oI 0 (by omega) (by decide) (by decide) (by decide) (by decide)]; exact b
  · rw [oI 1 (by omega) (by decide) (by decide) (by decide) (by decide)]; exact t1
  · rw [oI 2 (by omega) (by decide) (by decide) (by decide) (by decide)]; exact t2
  · unfold CK
    show (_ ∨ LK If (rN (popR s r)) (rA (popR s r))) ∧ (_ ∨ DK Lf (rN (popR s r)) (rA (popR s r))) ∧ (_ ∨ Lf 56 7 = eF (rN (popR s r)) (rA (popR s r)) (rN (popR s r)) (fun _ => true))
    rw [hn, hA, oF 46 (by decide), oF 56 (by decide), oL 56 (by decide) (by decide)]
    obtain ⟨q1, q2, q3⟩ := hK
    refine ⟨?_, ?_, q3⟩
    · unfold LK LkM at q1 ⊢
      rw [oF 46 (by decide), oF 50 (by decide), oF 47 (by decide), oF 48 (by decide), oF 49 (by decide)]; exact q1
    · unfold DK at q2 ⊢
      rw [oL 57 (by decide) (by decide)]; exact q2
set_option maxRecDepth 100000 in
set_option maxHeartbeats 4000000 in
theorem c_X11_undo {l : Launch} {D : va_G} {B : Heap} {G : amG} {I : amI} {L : amL} {s : St} (hG : Lay G) (hs : CO s G I L) (hw : WF s) (hzz : WZ s) : Mx l D B yX11_undo cX11_undo 2 (some .int) 3 0 0 [.ref (B.size + 0)] G I L (CA (xUndo s).2 (xUndo s).1 G I L) := by
  obtain ⟨nx, n8, h1, h2, m8, hHS, hdis, hrow⟩ := hs.2.2.2.1
  refine Mx.of (by decide) rfl rfl (fun z e1 e2 e3 hz => ?_)
  subst e1; subst e2; subst e3
  by_cases e0 : (sH s).1 = 0
  · refine b_X11_undoN_0 hz hG ⟨0, _, rfl, c_X1_popN hG (by rw [h2, e0]; rfl), fun ro G1 I1 L1 ⟨r1, r2, r3, r4⟩ => ⟨r1, by rw [r2]; exact hG, ?_⟩⟩
    rw [r2, r3, r4, xUndo, if_pos e0]; exact CA_no hs rfl
  obtain ⟨m, hm⟩ : ∃ m, (sH s).1 = m + 1 := ⟨(sH s).1 - 1, by omega⟩
  obtain ⟨h, k1, k2⟩ := hrow m (by omega)
  rw [show (nx + 8 - (sH s).1 + m) % 8 = (nx + 7) % 8 by omega] at k1
  have hH := hHS _ h (Nat.mod_lt _ (by decide)) k1
  have h85 := hH.1
  rw [xUndo, if_neg e0, hm, Nat.add_sub_cancel] at hz
  have hr : ∀ q, q = m → WFr (s0 s).1 (sE s) ((sH s).2 q) := fun q hq => hw.2.2.2.2.2.2.2.2.2 q (by omega)
  have hwr := hr m rfl
  have hzr := hzz.2 m (by omega)
  generalize (sH s).2 m = r at k2 hwr hzr hz
  have hO := hs.2.1.1
  have h16 := hO.2.2.1
  refine b_X11_undoR_0 hz hG ⟨0, _, rfl, c_X1_popR (h := h) (m := m) hG h1 n8 (by rw [h2, hm]) (by omega) k1, fun ro G1 I1 L1 ⟨r1, r2, r3, r4, r5, r6⟩ => ⟨h, r1, by rw [r2]; exact hG, by rw [r2]; exact hH, ?_⟩⟩
  rw [r2, r3]
  have hO1 : OI I1 3 (rN (sC s)) (rA (sC s)) := OI_20 hO (fun q a b => r6 q (by omega))
  have kr : HR I1 L h r := HR_c k2 (fun q a _ => r6 q (by omega)) (fun _ _ _ => rfl)
  -- the end of the walk
  have main : ∀ I2 : amI, OI I2 3 (rN r) (rA r) → ((I2 46 12 = 0 ∨ LK I2 (rN r) (rA r)) ∧ (I2 56 5 = 0 ∨ DK L (rN r) (rA r)) ∧ (I2 56 6 = 0 ∨ L 56 7 = eF (rN r) (rA r) (rN r) (fun _ => true))) → (∀ q, (q < 3 ∨ 9 < q) → q ≠ 46 → q ≠ 56 → I2 q = I1 q) → Wx z 0 0 58 [(0, .ref ((zB z).size + 0)), (1, .ref ((zB z).size + h))] [] G I2 L := by
    intro I2 hO2 hK2 o2
    have o2' : ∀ q, (q < 3 ∨ 9 < q) → q ≠ 46 → q ≠ 56 → q ≠ 61 → I2 q = I q := fun q a b c d => by rw [o2 q a b c, r6 q d]
    have kr2 : HR I2 L h r := HR_c kr (fun q a _ => o2 q (by omega) (by omega) (by omega)) (fun _ _ _ => rfl)
    have eh : I2 h 1 = rE r := kr2.2.1
    have e15 : I2 0 15 = sE s := by rw [o2' 0 (by omega) (by decide) (by decide) (by decide)]; exact hs.2.1.2.2.2.2.1
    have oL : ∀ q, q ≠ 36 → q ≠ 40 → (setL (setL L 36 (va_cpy (L (h + 2)) (L 36) (0 : Int32).toNatClampNeg (0 : Int32).toNatClampNeg (1024 : Int32).toNatClampNeg)) 40 (va_cpy ((setL L 36 (va_cpy (L (h + 2)) (L 36) (0 : Int32).toNatClampNeg (0 : Int32).toNatClampNeg (1024 : Int32).toNatClampNeg)) (h + 3)) ((setL L 36 (va_cpy (L (h + 2)) (L 36) (0 : Int32).toNatClampNeg (0 : Int32).toNatClampNeg (1024 : Int32).toNatClampNeg)) 40) (0 : Int32).toNatClampNeg (0 : Int32).toNatClampNeg (16 : Int32).toNatClampNeg)) q = L q := fun q p1 p2 => by rw [setL_n p2, setL_n p1]
    have l36 : ∀ k, k < 1024 → (setL (setL L 36 (va_cpy (L (h + 2)) (L 36) (0 : Int32).toNatClampNeg (0 : Int32).toNatClampNeg (1024 : Int32).toNatClampNeg)) 40 (va_cpy ((setL L 36 (va_cpy (L (h + 2)) (L 36) (0 : Int32).toNatClampNeg (0 : Int32).toNatClampNeg (1024 : Int32).toNatClampNeg)) (h + 3)) ((setL L 36 (va_cpy (L (h + 2)) (L 36) (0 : Int32).toNatClampNeg (0 : Int32).toNatClampNeg (1024 : Int32).toNatClampNeg)) 40) (0 : Int32).toNatClampNeg (0 : Int32).toNatClampNeg (16 : Int32).toNatClampNeg)) 36 k = rF r k := fun k hk => by
      rw [setL_n (by decide), setL_s, cpy0 (N := 1024) (by decide) hk]; exact kr2.2.2.2.1 k hk
    have l40 : ∀ a, a < 16 → (setL (setL L 36 (va_cpy (L (h + 2)) (L 36) (0 : Int32).toNatClampNeg (0 : Int32).toNatClampNeg (1024 : Int32).toNatClampNeg)) 40 (va_cpy ((setL L 36 (va_cpy (L (h + 2)) (L 36) (0 : Int32).toNatClampNeg (0 : Int32).toNatClampNeg (1024 : Int32).toNatClampNeg)) (h + 3)) ((setL L 36 (va_cpy (L (h + 2)) (L 36) (0 : Int32).toNatClampNeg (0 : Int32).toNatClampNeg (1024 : Int32).toNatClampNeg)) 40) (0 : Int32).toNatClampNeg (0 : Int32).toNatClampNeg (16 : Int32).toNatClampNeg)) 40 a = rD r a := fun a ha => by
      rw [setL_s, cpy0 (N := 16) (by decide) ha, setL_n (by omega)]; exact kr2.2.2.2.2.1 a ha
    refine b_X11_undoR_58 hz hG hH ?_
    rw [setI_n (show h ≠ 42 by omega), setI_n (show 0 ≠ 42 by decide), eh, e15]
    generalize (setL (setL L 36 (va_cpy (L (h + 2)) (L 36) (0 : Int32).toNatClampNeg (0 : Int32).toNatClampNeg (1024 : Int32).toNatClampNeg)) 40 (va_cpy ((setL L 36 (va_cpy (L (h + 2)) (L 36) (0 : Int32).toNatClampNeg (0 : Int32).toNatClampNeg (1024 : Int32).toNatClampNeg)) (h + 3)) ((setL L 36 (va_cpy (L (h + 2)) (L 36) (0 : Int32).toNatClampNeg (0 : Int32).toNatClampNeg (1024 : Int32).toNatClampNeg)) 40) (0 : Int32).toNatClampNeg (0 : Int32).toNatClampNeg (16 : Int32).toNatClampNeg)) = Lf at oL l36 l40 ⊢
    have hcr : ∀ If : amI, (∀ q, q ≠ 42 → If q = I2 q) → CR (m, (sH s).2) G If Lf := fun If oF => CR_pop hm n8 m8 hHS hdis hrow (by rw [oF 61 (by decide), o2 61 (by omega) (by decide) (by decide)]; exact r4) (by rw [oF 61 (by decide), o2 61 (by omega) (by decide) (by decide)]; exact r5) (fun q p => by rw [oF q (by omega), o2' q (by omega) (by omega) (by omega) (by omega)]) (fun q p => oL q (by omega) (by omega))
    refine ⟨fun q => ?_, fun q => ?_⟩
    · have oF : ∀ q, q ≠ 42 → setI I2 42 (va_cpy (I2 (h + 4)) (I2 42) (0 : Int32).toNatClampNeg (0 : Int32).toNatClampNeg (16 : Int32).toNatClampNeg) q = I2 q := fun q p => setI_n p
      have := undo_CO (h := h) hs hO2 hK2 o2' oF oL (hcr _ oF) l36 l40 (fun x hx => by
        rw [popR, if_pos q, setI_s, cpy0 (N := 16) (by decide) hx]; exact kr2.2.2.2.2.2 x hx)
      exact ⟨by rw [oF 61 (by decide), o2 61 (by omega) (by decide) (by decide), r5], this.1, this.2, rfl⟩
    · have oF : ∀ q, q ≠ 42 → setI (setI I2 42 (va_cpy (I2 (h + 4)) (I2 42) (0 : Int32).toNatClampNeg (0 : Int32).toNatClampNeg (16 : Int32).toNatClampNeg)) 42 (q_fill ((setI I2 42 (va_cpy (I2 (h + 4)) (I2 42) (0 : Int32).toNatClampNeg (0 : Int32).toNatClampNeg (16 : Int32).toNatClampNeg)) 42) 16 (-1)) q = I2 q := fun q p => by rw [setI_n p, setI_n p]
      have := undo_CO (h := h) hs hO2 hK2 o2' oF oL (hcr _ oF) l36 l40 (fun x hx => by
        rw [popR, if_neg q, setI_s, q_fill, if_pos hx])
      exact ⟨by rw [oF 61 (by decide), o2 61 (by omega) (by decide) (by decide), r5], this.1, this.2, rfl⟩
  refine ⟨hO1.sz, fun q => ?_, fun q => ⟨by omega, by omega, ?_⟩⟩
  · -- as it is told already
    rw [q_isTold, Bool.and_eq_true, decide_eq_true_eq, hO1.1, kr.1, sz_eq hO1.1 h16, scan_tf] at q
    have hn : rN r = rN (sC s) := ((nI_eq (by omega) (by have := hwr.1.2.1; omega)).mp q.1).symm
    have hA : rA r = rA (sC s) := by
      funext x
      rcases Nat.lt_or_ge x (rN (sC s)) with e | e
      · have := q.2 x e
        rw [decide_eq_false_iff_not, Decidable.not_not, kr.2.2.1 x (by omega), hO1.2.2.2.1 x e] at this
        exact this.symm
      · rw [hzz.1 x e, hzr x (by omega)]
    refine main I1 (by rw [hn, hA]; exact hO1) ?_ (fun _ _ _ _ => rfl)
    rw [hn, hA]
    exact CK_c hs.2.2.1 (fun q a b => r6 q (by omega)) rfl rfl
  · obtain ⟨c0, c4, co⟩ := copy_f (I := I1) (o := 3) (p := h + 1) hwr.1.1 hwr.1.2.1 kr.1 (by omega) (by omega) (A := rA r) (fun x hx => kr.2.2.1 x (by have := hwr.1.2.1; omega))
    generalize q_copy I1 3 (I1 h 0) (h + 1) = I2 at c0 c4 co ⊢
    refine ⟨2, _, rfl, c_X4_derive hG (Or.inl rfl) c0 hwr.1.1 hwr.1.2.1 (PO_c (fun x hx => by rw [c4 x (by have := hwr.1.2.1; omega), if_pos hx]) hwr.1.2.2), fun ro2 G2 I3 L2 ⟨u1, u2, u3, u4, u5⟩ => ⟨u1, by rw [u2]; exact hG, ?_⟩⟩
    have hO3 := OI_derive c0 hwr.1.1 hwr.1.2.1 c4 hwr.1.2.2 u4 u5
    rw [u2, u3]
    exact main (fgI I3) (OI_20 hO3 (fun q a b => fgI_o (by omega) (by omega))) ⟨Or.inl fgI_46, Or.inl fgI_5, Or.inl fgI_6⟩ (fun q a b c => by rw [fgI_o b c, u4 q (fun j p1 p2 => by omega), co q (by omega) (by omega)])
