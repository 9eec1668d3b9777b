/-! THE CLASS: raise -/
theorem pw_eq {I : amI} {L : amL} {n x : Nat} {A : Nat → Int32} {F : Nat → Nat → Int64} (hO : OI I 3 n A) (hF : ∀ a b, a < n → b < n → L 36 (256 * x + 16 * a + b) = F a b) : ∀ k a b, a < n → b < n → pwT I L n A x k a b = pwM n A F k a b
  | 0, a, b, ha, hb => by
    have h16 := hO.2.2.1
    show kdV I 1 n A a b = if le A a b = true then (if a = b then 1 else 0) else 0
    rw [kdV, hO.am ha hb, if_neg (show ¬ (1 : Int32) = 3 by decide)]
    by_cases hl : le A a b = true
    · rw [if_pos hl, if_pos hl, kind_S hO ha hb hl, kvM, if_pos rfl]
    · rw [if_neg hl, if_neg hl]
  | k + 1, a, b, ha, hb => by
    have h16 := hO.2.2.1
    have hP := hO.2.2.2.2.2.1
    show tS (fun w => if a < n ∧ w < n then pwT I L n A x k a w else 0) (QFx L x b) (q_between I 3 (nI a) (nI b)) n = if le A a b = true then tS (fun w => if a < n ∧ w < n then pwM n A F k a w else 0) (fun w => F w b) (ivS n A a b) n else 0
    rw [hO.btw ha hb]
    by_cases hl : le A a b = true
    · rw [if_pos hl]
      refine tS_c (fun w hw _ => ⟨?_, hF w b hw hb⟩)
      rw [if_pos ⟨ha, hw⟩, if_pos ⟨ha, hw⟩, pw_eq hO hF k a w ha hw]
    · rw [if_neg hl]
      rw [Bool.not_eq_true] at hl
      exact (tS_0 (iv_no hP h16 ha hb hl)).1
theorem pwO_eq {I : amI} {L : amL} {n x k : Nat} {A : Nat → Int32} {F : Nat → Nat → Int64} (hO : OI I 3 n A) (hF : ∀ a b, a < n → b < n → L 36 (256 * x + 16 * a + b) = F a b) : pwO I L n A x k = anyB n A (pwMO n A F k) := by
  have h16 := hO.2.2.1
  have hP := hO.2.2.2.2.2.1
  have e : ∀ a b, a < n → b < n → oS (fun w => if a < n ∧ w < n then pwT I L n A x k a w else 0) (QFx L x b) (q_between I 3 (nI a) (nI b)) n = pwMO n A F k a b := fun a b ha hb => by
    rw [hO.btw ha hb, pwMO]
    refine oS_c (fun w hw _ => ⟨?_, hF w b hw hb⟩)
    rw [if_pos ⟨ha, hw⟩, if_pos ⟨ha, hw⟩, pw_eq hO hF k a w ha hw]
  rw [Bool.eq_iff_iff, pwO, orN_t, anyB_t]
  constructor
  · rintro ⟨a, ha, q⟩
    obtain ⟨b, hb, q⟩ := orN_t.mp q
    rw [e a b ha hb] at q
    refine ⟨a, b, ha, hb, ?_, q⟩
    cases hl : le A a b
    · rw [pwMO, (tS_0 (iv_no hP h16 ha hb hl)).2] at q; cases q
    · rfl
  · rintro ⟨a, b, ha, hb, _, q⟩
    exact ⟨a, ha, orN_t.mpr ⟨b, hb, by rw [e a b ha hb]; exact q⟩⟩
set_option maxRecDepth 100000 in
set_option maxHeartbeats 4000000 in
theorem b_X11_raise_0 {z : amZ} {ce sl mc ms : Nat} {post : amP} {G : amG} {I : amI} {L : amL} (hz : Go z cX11_raise RX11 4 (some .int) 6 mc ms post) (hce : ce ≤ mc ∧ sl ≤ ms) (hG : Lay G) {v1 : Int32} {v2 : Int32} {v3 : Int32} (h : ((inR 3 v1 = false) → post (some (.int (-1))) G I L) ∧ ((inR 3 v1 = true) → ((inR 3 v2 = false) → post (some (.int (-1))) G I L) ∧ ((inR 3 v2 = true) → ((v3 < 0) → post (some (.int (-1))) G I L) ∧ ((¬ v3 < 0) → ((v3 ≤ (20 : Int32)) → ∃ (dq5 mcq5 msq5 : Nat) (postq5 : amP), Nat.ble (dq5 + 1) 6 = true ∧ (ce + mcq5 ≤ mc ∧ sl + msq5 ≤ ms) ∧ Mx (zL z) (zD z) (zB z) yX0_reckonPower cX0_reckonPower 4 none dq5 mcq5 msq5 [.ref ((zB z).size + 35), .int v2, .int v3] G (sI I 0) (sL L 0) postq5 ∧ ∀ (roq5 : Option Value) (Gq5 : amG) (Iq5 : amI) (Lq5 : amL), postq5 roq5 Gq5 Iq5 Lq5 → roq5 = none ∧ Lay Gq5 ∧ (((Iq5 34 1) = 0) → ∃ (dq7 mcq7 msq7 : Nat) (postq7 : amP), Nat.ble (dq7 + 1) 6 = true ∧ (ce + mcq5 + mcq7 ≤ mc ∧ sl + msq5 + msq7 ≤ ms) ∧ Mx (zL z) (zD z) (zB z) yX11_storeReckoned cX11_storeReckoned 3 (some .int) dq7 mcq7 msq7 [.ref ((zB z).size + 0), .int v1, .int 1] Gq5 Iq5 Lq5 postq7 ∧ ∀ (roq7 : Option Value) (Gq7 : amG) (Iq7 : amI) (Lq7 : amL), postq7 roq7 Gq7 Iq7 Lq7 → ∃ (rq7 : Int32), roq7 = some (.int rq7) ∧ Lay Gq7 ∧ post (some (.int rq7)) Gq7 Iq7 Lq7) ∧ ((¬ (Iq5 34 1) = 0) → post (some (.int (-3))) Gq5 Iq5 Lq5)) ∧ ((¬ v3 ≤ (20 : Int32)) → post (some (.int (-1))) G I L))))) : Wx z ce sl 0 [(0, .ref ((zB z).size + 0)), (1, .int v1), (2, .int v2), (3, .int v3)] [] G I L := by
  have hz1 := hz.1
  refine am_iload_n hz1 dX11_raise_0 1 rfl rfl ?_
  refine am_cSf hz ct_X11_237 [.int v1] [] (c_X11_isFunction hG v1 ) rfl rfl rfl hce (Nat.le_of_ble_eq_true rfl) dX11_raise_1 ?_
  refine am_ifb_eq (tgt := 24) hz1 dX11_raise_4 (by decide) (fun c1 => ?_) (fun c1 => ?_)
  · replace h := h.1 c1
    refine am_iconst (v := (-1)) hz1 dX11_raise_24 (by decide) ?_
    exact am_widen hce.1 hce.2 (am_ireturn hz dX11_raise_25 h)
  · replace h := h.2 c1
    refine am_iload_n hz1 dX11_raise_7 2 rfl rfl ?_
    refine am_cSf hz ct_X11_237 [.int v2] [] (c_X11_isFunction hG v2 ) rfl rfl rfl hce (Nat.le_of_ble_eq_true rfl) dX11_raise_8 ?_
    refine am_ifb_eq (tgt := 24) hz1 dX11_raise_11 (by decide) (fun c2 => ?_) (fun c2 => ?_)
    · replace h := h.1 c2
      refine am_iconst (v := (-1)) hz1 dX11_raise_24 (by decide) ?_
      exact am_widen hce.1 hce.2 (am_ireturn hz dX11_raise_25 h)
    · replace h := h.2 c2
      refine am_iload_n hz1 dX11_raise_14 3 rfl rfl ?_
      refine am_if_lt (tgt := 24) hz1 dX11_raise_15 (by decide) (fun c3 => ?_) (fun c3 => ?_)
      · replace h := h.1 c3
        refine am_iconst (v := (-1)) hz1 dX11_raise_24 (by decide) ?_
        exact am_widen hce.1 hce.2 (am_ireturn hz dX11_raise_25 h)
      · replace h := h.2 c3
        refine am_iload_n hz1 dX11_raise_18 3 rfl rfl ?_
        refine am_bipush (v := 20) hz1 dX11_raise_19 (by decide) ?_
        refine am_icmp_le (tgt := 26) hz1 dX11_raise_21 (by decide) (fun c4 => ?_) (fun c4 => ?_)
        · replace h := h.1 c4
          refine am_aload_n hz1 dX11_raise_26 0 rfl rfl ?_
          refine am_getR hz1 fl_X11_44 (ln_0 hG) (lk_0 hG) (lr_0_12 hG) rfl dX11_raise_27 ?_
          refine am_cVf hz cv_X11_254 [] [] (c_X9_begin hG  ) (ln_34 hG) (lk_34 hG) rfl rfl rfl hce (Nat.le_of_ble_eq_true rfl) dX11_raise_30 ?_
          refine am_aload_n hz1 dX11_raise_33 0 rfl rfl ?_
          refine am_getR hz1 fl_X11_53 (ln_0 hG) (lk_0 hG) (lr_0_5 hG) rfl dX11_raise_34 ?_
          refine am_iload_n hz1 dX11_raise_37 2 rfl rfl ?_
          refine am_iload_n hz1 dX11_raise_38 3 rfl rfl ?_
          obtain ⟨dq5, mcq5, msq5, postq5, hdq5, hcq5, hMq5, h⟩ := h
          refine am_callV hz1 cv_X11_275 [.int v2, .int v3] [] hMq5 (ln_35 hG) (lk_35 hG) rfl rfl (hz.fr hdq5) (hz.lo hdq5) (by rw [hz.2.1]; exact hcq5) (Nat.le_of_ble_eq_true rfl) dX11_raise_39 (fun roq5 Gq5 Iq5 Lq5 hpq5 => ?_)
          obtain ⟨rfl, hGq5, h⟩ := h roq5 Gq5 Iq5 Lq5 hpq5
          refine am_aload_n hz1 dX11_raise_42 0 rfl rfl ?_
          refine am_getR hz1 fl_X11_44 (ln_0 hGq5) (lk_0 hGq5) (lr_0_12 hGq5) rfl dX11_raise_43 ?_
          refine am_getI hz1 fl_X11_265 (ln_34 hGq5) (lk_34 hGq5) rfl dX11_raise_46 ?_
          refine am_if_eq (tgt := 57) hz1 dX11_raise_49 (by decide) (fun c6 => ?_) (fun c6 => ?_)
          · replace h := h.1 c6
            refine am_aload_n hz1 dX11_raise_57 0 rfl rfl ?_
            refine am_iload_n hz1 dX11_raise_58 1 rfl rfl ?_
            refine am_iconst (v := 1) hz1 dX11_raise_59 (by decide) ?_
            obtain ⟨dq7, mcq7, msq7, postq7, hdq7, hcq7, hMq7, h⟩ := h
            refine am_callV hz1 cv_X11_243 [.int v1, .int 1] [] hMq7 (ln_0 hGq5) (lk_0 hGq5) rfl rfl (hz.fr hdq7) (hz.lo hdq7) (by rw [hz.2.1]; exact hcq7) (Nat.le_of_ble_eq_true rfl) dX11_raise_60 (fun roq7 Gq7 Iq7 Lq7 hpq7 => ?_)
            obtain ⟨rq7, rfl, hGq7, h⟩ := h roq7 Gq7 Iq7 Lq7 hpq7
            exact am_widen hcq7.1 hcq7.2 (am_ireturn hz dX11_raise_63 h)
          · replace h := h.2 c6
            refine am_bipush (v := (-3)) hz1 dX11_raise_52 (by decide) ?_
            refine am_goto (tgt := 63) hz1 dX11_raise_54 (by decide) ?_
            exact am_widen hcq5.1 hcq5.2 (am_ireturn hz dX11_raise_63 h)
        · replace h := h.2 c4
          refine am_iconst (v := (-1)) hz1 dX11_raise_24 (by decide) ?_
          exact am_widen hce.1 hce.2 (am_ireturn hz dX11_raise_25 h)
set_option maxRecDepth 100000 in
set_option maxHeartbeats 4000000 in
theorem c_X11_raise {l : Launch} {D : va_G} {B : Heap} {G : amG} {I : amI} {L : amL}  (hG : Lay G)  (v1 : Int32) (v2 : Int32) (v3 : Int32) {s : St} (hs : CO s G I L) (hw : WF s) : Mx l D B yX11_raise cX11_raise 4 (some .int) 6 5 1078 [.ref (B.size + 0), .int v1, .int v2, .int v3] G I L (CA (xRaise s v1 v2 v3).2 (xRaise s v1 v2 v3).1 G I L) := by
  refine Mx.of (by decide) rfl rfl (fun z e1 e2 e3 hz => ?_)
  subst e1; subst e2; subst e3
  refine b_X11_raise_0 hz ⟨Nat.zero_le _, Nat.zero_le _⟩ hG ?_
  have hO := hs.2.1.1
  have h16 := hO.2.2.1
  have hP := hO.2.2.2.2.2.1
  refine ⟨fun h => by rw [xRaise, if_neg (by rw [h]; simp)]; exact CA_no hs rfl, fun h => ⟨fun h2 => by rw [xRaise, if_neg (by rw [h2]; simp)]; exact CA_no hs rfl, fun h2 => ⟨fun h3 => by rw [xRaise, if_neg (by rw [inR_lo h3]; simp)]; exact CA_no hs rfl, fun h3 => ⟨fun h4 => ?_, fun h4 => by rw [xRaise, if_neg (by rw [inR_hi h4]; simp)]; exact CA_no hs rfl⟩⟩⟩⟩
  have h5 := inR_in (k := 20) h3 h4
  rw [xRaise, if_pos (by rw [h, h2, h5]; rfl)]
  obtain ⟨f, hf, rfl⟩ := fnR h
  obtain ⟨x, hx, rfl⟩ := fnR h2
  obtain ⟨k, hk, rfl⟩ := (inR_t (by decide)).mp h5
  rw [cl_nI (n := f) (by omega), cl_nI (n := x) (by omega), cl_nI (n := k) (by omega)]
  have hb0 : (sI I 0) 34 1 = bI false := sI_v
  have hO2 : OI (sI I 0) 3 (rN (sC s)) (rA (sC s)) := OI_sI hO (Or.inl rfl)
  have hF : ∀ a b, a < rN (sC s) → b < rN (sC s) → (sL L 0) 36 (256 * x + 16 * a + b) = fnF s x a b := fun a b ha hb => by rw [sL_36]; exact fn_36 hs hx (by omega) (by omega)
  refine ⟨5, 0, 0, _, rfl, ⟨by omega, by omega⟩, c_X0_reckonPower (x := x) (m := k) hG _ _ hO2 hb0 hx hk rfl rfl, fun ro G1 I1 L1 ⟨r1, r2, r3, g, g2, g3, t, r4, r5⟩ => ⟨r1, by rw [r2]; exact hG, ?_⟩⟩
  have hc : orN (pwO (sI I 0) (sL L 0) (rN (sC s)) (rA (sC s)) x) k = orN (fun j => anyB (rN (sC s)) (rA (sC s)) (pwMO (rN (sC s)) (rA (sC s)) (fnF s x) j)) k := orN_c (fun j _ => pwO_eq hO2 hF)
  rw [hc] at r3 r5
  have hs2 := CO_v (I1 := sI (sI I 0) (bI (orN (fun j => anyB (rN (sC s)) (rA (sC s)) (pwMO (rN (sC s)) (rA (sC s)) (fnF s x) j)) k))) (L1 := sL (setL (setL (setL (sL L 0) 37 g) 38 g2) 39 g3) t) hs (fun q a => by rw [sI_o a, sI_o a]) (fun q a b c d _ _ _ => by rw [sL_o a, setL_n d, setL_n c, setL_n b, sL_o a])
  rw [r2, r3, r4, sI_v, bI_z]
  refine ⟨fun q => ⟨4, 5, 1078, _, rfl, ⟨by omega, by omega⟩, c_X11_storeReckoned (V := pwM (rN (sC s)) (rA (sC s)) (fnF s x) k) hG _ _ hs2.1 hw hf rfl ?_, fun ro2 G2 I2 L2 ⟨u1, u2, u3, u4⟩ => ⟨_, u1, u2.1, ?_⟩⟩, fun q => ?_⟩
  · rw [sL_37, setL_n (by decide), setL_n (by decide), setL_s]
    exact KV_c (r5 q) (fun a b ha hb => pw_eq hO2 hF k a b ha hb)
  · rw [if_neg (by rw [q]; decide)]
    exact ⟨rfl, u2, frK_t hs2.2 u3, u4⟩
  · rw [Bool.not_eq_false] at q
    rw [if_pos q]
    exact ⟨rfl, hs2.1, hs2.2, rfl⟩
