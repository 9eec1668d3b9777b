/-! THE CLASS: invert -/
set_option maxRecDepth 100000 in
set_option maxHeartbeats 4000000 in
theorem b_X11_invert_0 {z : amZ} {ce sl mc ms : Nat} {post : amP} {G : amG} {I : amI} {L : amL} (hz : Go z cX11_invert RX11 3 (some .int) 5 mc ms post) (hce : ce ≤ mc ∧ sl ≤ ms) (hG : Lay G) {v1 : Int32} {v2 : Int32} (h : ((inR 3 v1 = false) → post (some (.int (-1))) G I L) ∧ ((inR 3 v1 = true) → ((inR 3 v2 = true) → (szOk I 3) ∧ (fnOk v2) ∧ ((q_inv I L v2 = true) → ∃ (dq6 mcq6 msq6 : Nat) (postq6 : amP), Nat.ble (dq6 + 1) 5 = true ∧ (ce + mcq6 ≤ mc ∧ sl + msq6 ≤ ms) ∧ Mx (zL z) (zD z) (zB z) yX0_reckonInverse cX0_reckonInverse 5 none dq6 mcq6 msq6 [.ref ((zB z).size + 35), .int v2] G (sI I 0) (sL L 0) postq6 ∧ ∀ (roq6 : Option Value) (Gq6 : amG) (Iq6 : amI) (Lq6 : amL), postq6 roq6 Gq6 Iq6 Lq6 → roq6 = none ∧ Lay Gq6 ∧ (((Iq6 34 1) = 0) → ∃ (dq8 mcq8 msq8 : Nat) (postq8 : amP), Nat.ble (dq8 + 1) 5 = true ∧ (ce + mcq6 + mcq8 ≤ mc ∧ sl + msq6 + msq8 ≤ ms) ∧ Mx (zL z) (zD z) (zB z) yX11_storeReckoned cX11_storeReckoned 3 (some .int) dq8 mcq8 msq8 [.ref ((zB z).size + 0), .int v1, .int 1] Gq6 Iq6 Lq6 postq8 ∧ ∀ (roq8 : Option Value) (Gq8 : amG) (Iq8 : amI) (Lq8 : amL), postq8 roq8 Gq8 Iq8 Lq8 → ∃ (rq8 : Int32), roq8 = some (.int rq8) ∧ Lay Gq8 ∧ post (some (.int rq8)) Gq8 Iq8 Lq8) ∧ ((¬ (Iq6 34 1) = 0) → post (some (.int (-3))) Gq6 Iq6 Lq6)) ∧ ((q_inv I L v2 = false) → post (some (.int (-2))) G I L)) ∧ ((inR 3 v2 = false) → post (some (.int (-1))) G I L))) : Wx z ce sl 0 [(0, .ref ((zB z).size + 0)), (1, .int v1), (2, .int v2)] [] G I L := by
  have hz1 := hz.1
  refine am_iload_n hz1 dX11_invert_0 1 rfl rfl ?_
  refine am_cSf hz ct_X11_237 [.int v1] [] (c_X11_isFunction hG v1 ) rfl rfl rfl hce (Nat.le_of_ble_eq_true rfl) dX11_invert_1 ?_
  refine am_ifb_eq (tgt := 14) hz1 dX11_invert_4 (by decide) (fun c1 => ?_) (fun c1 => ?_)
  · replace h := h.1 c1
    refine am_iconst (v := (-1)) hz1 dX11_invert_14 (by decide) ?_
    exact am_widen hce.1 hce.2 (am_ireturn hz dX11_invert_15 h)
  · replace h := h.2 c1
    refine am_iload_n hz1 dX11_invert_7 2 rfl rfl ?_
    refine am_cSf hz ct_X11_237 [.int v2] [] (c_X11_isFunction hG v2 ) rfl rfl rfl hce (Nat.le_of_ble_eq_true rfl) dX11_invert_8 ?_
    refine am_ifb_ne (tgt := 16) hz1 dX11_invert_11 (by decide) (fun c2 => ?_) (fun c2 => ?_)
    · replace h := h.1 c2
      refine am_aload_n hz1 dX11_invert_16 0 rfl rfl ?_
      refine am_getR hz1 fl_X11_53 (ln_0 hG) (lk_0 hG) (lr_0_5 hG) rfl dX11_invert_17 ?_
      refine am_iload_n hz1 dX11_invert_20 2 rfl rfl ?_
      obtain ⟨g3, h⟩ := h
      obtain ⟨g4, h⟩ := h
      refine am_cVf hz cv_X11_269 [.int v2] [] (c_X0_isInvertible hG v2 g3 g4) (ln_35 hG) (lk_35 hG) rfl rfl rfl hce (Nat.le_of_ble_eq_true rfl) dX11_invert_21 ?_
      refine am_ifb_ne (tgt := 30) hz1 dX11_invert_24 (by decide) (fun c5 => ?_) (fun c5 => ?_)
      · replace h := h.1 c5
        refine am_aload_n hz1 dX11_invert_30 0 rfl rfl ?_
        refine am_getR hz1 fl_X11_44 (ln_0 hG) (lk_0 hG) (lr_0_12 hG) rfl dX11_invert_31 ?_
        refine am_cVf hz cv_X11_254 [] [] (c_X9_begin hG  ) (ln_34 hG) (lk_34 hG) rfl rfl rfl hce (Nat.le_of_ble_eq_true rfl) dX11_invert_34 ?_
        refine am_aload_n hz1 dX11_invert_37 0 rfl rfl ?_
        refine am_getR hz1 fl_X11_53 (ln_0 hG) (lk_0 hG) (lr_0_5 hG) rfl dX11_invert_38 ?_
        refine am_iload_n hz1 dX11_invert_41 2 rfl rfl ?_
        obtain ⟨dq6, mcq6, msq6, postq6, hdq6, hcq6, hMq6, h⟩ := h
        refine am_callV hz1 cv_X11_272 [.int v2] [] hMq6 (ln_35 hG) (lk_35 hG) rfl rfl (hz.fr hdq6) (hz.lo hdq6) (by rw [hz.2.1]; exact hcq6) (Nat.le_of_ble_eq_true rfl) dX11_invert_42 (fun roq6 Gq6 Iq6 Lq6 hpq6 => ?_)
        obtain ⟨rfl, hGq6, h⟩ := h roq6 Gq6 Iq6 Lq6 hpq6
        refine am_aload_n hz1 dX11_invert_45 0 rfl rfl ?_
        refine am_getR hz1 fl_X11_44 (ln_0 hGq6) (lk_0 hGq6) (lr_0_12 hGq6) rfl dX11_invert_46 ?_
        refine am_getI hz1 fl_X11_265 (ln_34 hGq6) (lk_34 hGq6) rfl dX11_invert_49 ?_
        refine am_if_eq (tgt := 60) hz1 dX11_invert_52 (by decide) (fun c7 => ?_) (fun c7 => ?_)
        · replace h := h.1 c7
          refine am_aload_n hz1 dX11_invert_60 0 rfl rfl ?_
          refine am_iload_n hz1 dX11_invert_61 1 rfl rfl ?_
          refine am_iconst (v := 1) hz1 dX11_invert_62 (by decide) ?_
          obtain ⟨dq8, mcq8, msq8, postq8, hdq8, hcq8, hMq8, h⟩ := h
          refine am_callV hz1 cv_X11_243 [.int v1, .int 1] [] hMq8 (ln_0 hGq6) (lk_0 hGq6) rfl rfl (hz.fr hdq8) (hz.lo hdq8) (by rw [hz.2.1]; exact hcq8) (Nat.le_of_ble_eq_true rfl) dX11_invert_63 (fun roq8 Gq8 Iq8 Lq8 hpq8 => ?_)
          obtain ⟨rq8, rfl, hGq8, h⟩ := h roq8 Gq8 Iq8 Lq8 hpq8
          exact am_widen hcq8.1 hcq8.2 (am_ireturn hz dX11_invert_66 h)
        · replace h := h.2 c7
          refine am_bipush (v := (-3)) hz1 dX11_invert_55 (by decide) ?_
          refine am_goto (tgt := 66) hz1 dX11_invert_57 (by decide) ?_
          exact am_widen hcq6.1 hcq6.2 (am_ireturn hz dX11_invert_66 h)
      · replace h := h.2 c5
        refine am_bipush (v := (-2)) hz1 dX11_invert_27 (by decide) ?_
        exact am_widen hce.1 hce.2 (am_ireturn hz dX11_invert_29 h)
    · replace h := h.2 c2
      refine am_iconst (v := (-1)) hz1 dX11_invert_14 (by decide) ?_
      exact am_widen hce.1 hce.2 (am_ireturn hz dX11_invert_15 h)
set_option maxRecDepth 100000 in
set_option maxHeartbeats 4000000 in
theorem c_X11_invert {l : Launch} {D : va_G} {B : Heap} {G : amG} {I : amI} {L : amL}  (hG : Lay G)  (v1 : Int32) (v2 : Int32) {s : St} (hs : CO s G I L) (hw : WF s) : Mx l D B yX11_invert cX11_invert 3 (some .int) 5 5 1078 [.ref (B.size + 0), .int v1, .int v2] G I L (CA (xInvert s v1 v2).2 (xInvert s v1 v2).1 G I L) := by
  refine Mx.of (by decide) rfl rfl (fun z e1 e2 e3 hz => ?_)
  subst e1; subst e2; subst e3
  refine b_X11_invert_0 hz ⟨Nat.zero_le _, Nat.zero_le _⟩ hG ?_
  have hO := hs.2.1.1
  have h16 := hO.2.2.1
  have hP := hO.2.2.2.2.2.1
  refine ⟨fun h => by rw [xInvert, if_neg (by rw [h]; simp)]; exact CA_no hs rfl, fun h => ⟨fun h2 => ?_, fun h2 => by rw [xInvert, if_neg (by rw [h2]; simp)]; exact CA_no hs rfl⟩⟩
  rw [xInvert, if_pos (by rw [h, h2]; rfl)]
  obtain ⟨f, hf, rfl⟩ := fnR h
  obtain ⟨x, hx, rfl⟩ := fnR h2
  rw [cl_nI (n := f) (by omega), cl_nI (n := x) (by omega)]
  have hq : q_inv I L (nI x) = invM (rN (sC s)) (fnF s x) := by
    rw [q_inv, invM, sz_eq hO.1 h16]
    refine scan_cong _ _ (fun a _ ha => ⟨?_, rfl⟩)
    rw [cell_n, cl_nI (by omega), fn_36 hs hx (by omega) (by omega)]
  rw [hq]
  have hb0 : (sI I 0) 34 1 = bI false := sI_v
  refine ⟨hO.sz, ⟨x, hx, rfl⟩, fun h3 => ?_, fun h3 => by rw [if_neg (by rw [h3]; decide)]; exact CA_no hs rfl⟩
  rw [if_pos h3]
  refine ⟨3, 0, 0, _, rfl, ⟨by omega, by omega⟩, c_X0_reckonInverse (x := x) hG _ (OI_sI hO (Or.inl rfl)) hb0 hx rfl, fun ro G1 I1 L1 ⟨r1, r2, r3, g, t, r4, r5⟩ => ⟨r1, by rw [r2]; exact hG, ?_⟩⟩
  have hF : ∀ a b, a < rN (sC s) → b < rN (sC s) → Ffn (sL L 0) x a b = fnF s x a b := fun a b ha hb => by rw [Ffn, sL_36]; exact fn_36 hs hx (by omega) (by omega)
  have hc : orN (fun c => orN (fun a => ivO (rN (sC s)) (rA (sC s)) (Ffn (sL L 0) x) a c) (rN (sC s))) (rN (sC s)) = anyB (rN (sC s)) (rA (sC s)) (ivO (rN (sC s)) (rA (sC s)) (fnF s x)) := by
    rw [Bool.eq_iff_iff, orN_t, anyB_t]
    constructor
    · rintro ⟨b, hb, e⟩
      obtain ⟨a, ha, e⟩ := orN_t.mp e
      rw [ivO_cF hF ha] at e
      have e2 := e
      rw [ivO, Bool.and_eq_true] at e2
      exact ⟨a, b, ha, hb, lt_le (by omega) (by omega) e2.1, e⟩
    · rintro ⟨a, b, ha, hb, hl, e⟩
      exact ⟨b, hb, orN_t.mpr ⟨a, ha, by rw [ivO_cF hF ha]; exact e⟩⟩
  have hV : KV (iv (rN (sC s)) (rA (sC s)) (fnF s x)) (rN (sC s)) g := KV_c r5 (fun a b ha hb => iv_cF hF ha)
  rw [Bool.false_or, hc] at r3
  rw [r2, r3, r4, sI_v, bI_z]
  have hV2 : ∀ V, KV V (rN (sC s)) g → KV V (rN (sC s)) ((sL (setL (sL L 0) 37 g) t) 37) := fun V h => by rw [sL_37, setL_s]; exact h
  refine ⟨fun q => ⟨4, 5, 1078, _, rfl, ⟨by omega, by omega⟩, c_X11_storeReckoned hG _ _ (CO_r hs).1 hw hf rfl (hV2 _ hV), fun ro2 G2 I2 L2 ⟨u1, u2, u3, u4⟩ => ⟨_, u1, u2.1, ?_⟩⟩, fun q => ?_⟩
  · rw [if_neg (by rw [q]; decide)]
    exact ⟨rfl, u2, frK_t (CO_r hs).2 u3, u4⟩
  · rw [Bool.not_eq_false] at q
    rw [if_pos q]
    exact ⟨rfl, (CO_r hs).1, (CO_r hs).2, rfl⟩
