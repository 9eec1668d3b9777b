/-! THE CLASS: reckon -/
set_option maxRecDepth 100000 in
set_option maxHeartbeats 4000000 in
theorem b_X11_reckon_0 {z : amZ} {ce sl mc ms : Nat} {post : amP} {G : amG} {I : amI} {L : amL} (hz : Go z cX11_reckon RX11 5 (some .int) 5 mc ms post) (hce : ce ≤ mc ∧ sl ≤ ms) (hG : Lay G) {v1 : Int32} {v2 : Int32} {v3 : Int32} {v4 : Int32} (h : ((inR 3 v1 = false) → post (some (.int (-1))) G I L) ∧ ((inR 3 v1 = true) → ((inR 3 v2 = false) → post (some (.int (-1))) G I L) ∧ ((inR 3 v2 = true) → ((inR 3 v3 = false) → post (some (.int (-1))) G I L) ∧ ((inR 3 v3 = true) → ((v4 < 0) → post (some (.int (-1))) G I L) ∧ ((¬ v4 < 0) → ((v4 ≤ (3 : Int32)) → ((¬ v4 = (2 : Int32)) → ∃ (dq7 mcq7 msq7 : Nat) (postq7 : amP), Nat.ble (dq7 + 1) 5 = true ∧ (ce + mcq7 ≤ mc ∧ sl + msq7 ≤ ms) ∧ Mx (zL z) (zD z) (zB z) yX0_reckonEach cX0_reckonEach 9 none dq7 mcq7 msq7 [.ref ((zB z).size + 35), .int v2, .int v3, .int v4] G (sI I 0) (sL L 0) postq7 ∧ ∀ (roq7 : Option Value) (Gq7 : amG) (Iq7 : amI) (Lq7 : amL), postq7 roq7 Gq7 Iq7 Lq7 → roq7 = none ∧ Lay Gq7 ∧ (((Iq7 34 1) = 0) → ∃ (dq9 mcq9 msq9 : Nat) (postq9 : amP), Nat.ble (dq9 + 1) 5 = true ∧ (ce + mcq7 + mcq9 ≤ mc ∧ sl + msq7 + msq9 ≤ ms) ∧ Mx (zL z) (zD z) (zB z) yX11_storeReckoned cX11_storeReckoned 3 (some .int) dq9 mcq9 msq9 [.ref ((zB z).size + 0), .int v1, .int 1] Gq7 Iq7 Lq7 postq9 ∧ ∀ (roq9 : Option Value) (Gq9 : amG) (Iq9 : amI) (Lq9 : amL), postq9 roq9 Gq9 Iq9 Lq9 → ∃ (rq9 : Int32), roq9 = some (.int rq9) ∧ Lay Gq9 ∧ post (some (.int rq9)) Gq9 Iq9 Lq9) ∧ ((¬ (Iq7 34 1) = 0) → post (some (.int (-3))) Gq7 Iq7 Lq7)) ∧ ((v4 = (2 : Int32)) → ∃ (dq10 mcq10 msq10 : Nat) (postq10 : amP), Nat.ble (dq10 + 1) 5 = true ∧ (ce + mcq10 ≤ mc ∧ sl + msq10 ≤ ms) ∧ Mx (zL z) (zD z) (zB z) yX0_reckonProduct cX0_reckonProduct 8 none dq10 mcq10 msq10 [.ref ((zB z).size + 35), .ref ((zB z).size + 36), .int (v2 * (256 : Int32)), .int v3] G (sI I 0) (sL L 0) postq10 ∧ ∀ (roq10 : Option Value) (Gq10 : amG) (Iq10 : amI) (Lq10 : amL), postq10 roq10 Gq10 Iq10 Lq10 → roq10 = none ∧ Lay Gq10 ∧ (((Iq10 34 1) = 0) → ∃ (dq12 mcq12 msq12 : Nat) (postq12 : amP), Nat.ble (dq12 + 1) 5 = true ∧ (ce + mcq10 + mcq12 ≤ mc ∧ sl + msq10 + msq12 ≤ ms) ∧ Mx (zL z) (zD z) (zB z) yX11_storeReckoned cX11_storeReckoned 3 (some .int) dq12 mcq12 msq12 [.ref ((zB z).size + 0), .int v1, .int 1] Gq10 Iq10 Lq10 postq12 ∧ ∀ (roq12 : Option Value) (Gq12 : amG) (Iq12 : amI) (Lq12 : amL), postq12 roq12 Gq12 Iq12 Lq12 → ∃ (rq12 : Int32), roq12 = some (.int rq12) ∧ Lay Gq12 ∧ post (some (.int rq12)) Gq12 Iq12 Lq12) ∧ ((¬ (Iq10 34 1) = 0) → post (some (.int (-3))) Gq10 Iq10 Lq10))) ∧ ((¬ v4 ≤ (3 : Int32)) → post (some (.int (-1))) G I L)))))) : Wx z ce sl 0 [(0, .ref ((zB z).size + 0)), (1, .int v1), (2, .int v2), (3, .int v3), (4, .int v4)] [] G I L := by
  have hz1 := hz.1
  refine am_iload_n hz1 dX11_reckon_0 1 rfl rfl ?_
  refine am_cSf hz ct_X11_237 [.int v1] [] (c_X11_isFunction hG v1 ) rfl rfl rfl hce (Nat.le_of_ble_eq_true rfl) dX11_reckon_1 ?_
  refine am_ifb_eq (tgt := 32) hz1 dX11_reckon_4 (by decide) (fun c1 => ?_) (fun c1 => ?_)
  · replace h := h.1 c1
    refine am_iconst (v := (-1)) hz1 dX11_reckon_32 (by decide) ?_
    exact am_widen hce.1 hce.2 (am_ireturn hz dX11_reckon_33 h)
  · replace h := h.2 c1
    refine am_iload_n hz1 dX11_reckon_7 2 rfl rfl ?_
    refine am_cSf hz ct_X11_237 [.int v2] [] (c_X11_isFunction hG v2 ) rfl rfl rfl hce (Nat.le_of_ble_eq_true rfl) dX11_reckon_8 ?_
    refine am_ifb_eq (tgt := 32) hz1 dX11_reckon_11 (by decide) (fun c2 => ?_) (fun c2 => ?_)
    · replace h := h.1 c2
      refine am_iconst (v := (-1)) hz1 dX11_reckon_32 (by decide) ?_
      exact am_widen hce.1 hce.2 (am_ireturn hz dX11_reckon_33 h)
    · replace h := h.2 c2
      refine am_iload_n hz1 dX11_reckon_14 3 rfl rfl ?_
      refine am_cSf hz ct_X11_237 [.int v3] [] (c_X11_isFunction hG v3 ) rfl rfl rfl hce (Nat.le_of_ble_eq_true rfl) dX11_reckon_15 ?_
      refine am_ifb_eq (tgt := 32) hz1 dX11_reckon_18 (by decide) (fun c3 => ?_) (fun c3 => ?_)
      · replace h := h.1 c3
        refine am_iconst (v := (-1)) hz1 dX11_reckon_32 (by decide) ?_
        exact am_widen hce.1 hce.2 (am_ireturn hz dX11_reckon_33 h)
      · replace h := h.2 c3
        refine am_iload hz1 dX11_reckon_21 4 rfl ?_
        refine am_if_lt (tgt := 32) hz1 dX11_reckon_23 (by decide) (fun c4 => ?_) (fun c4 => ?_)
        · replace h := h.1 c4
          refine am_iconst (v := (-1)) hz1 dX11_reckon_32 (by decide) ?_
          exact am_widen hce.1 hce.2 (am_ireturn hz dX11_reckon_33 h)
        · replace h := h.2 c4
          refine am_iload hz1 dX11_reckon_26 4 rfl ?_
          refine am_iconst (v := 3) hz1 dX11_reckon_28 (by decide) ?_
          refine am_icmp_le (tgt := 34) hz1 dX11_reckon_29 (by decide) (fun c5 => ?_) (fun c5 => ?_)
          · replace h := h.1 c5
            refine am_aload_n hz1 dX11_reckon_34 0 rfl rfl ?_
            refine am_getR hz1 fl_X11_44 (ln_0 hG) (lk_0 hG) (lr_0_12 hG) rfl dX11_reckon_35 ?_
            refine am_cVf hz cv_X11_254 [] [] (c_X9_begin hG  ) (ln_34 hG) (lk_34 hG) rfl rfl rfl hce (Nat.le_of_ble_eq_true rfl) dX11_reckon_38 ?_
            refine am_iload hz1 dX11_reckon_41 4 rfl ?_
            refine am_iconst (v := 2) hz1 dX11_reckon_43 (by decide) ?_
            refine am_icmp_ne (tgt := 70) hz1 dX11_reckon_44 (by decide) (fun c6 => ?_) (fun c6 => ?_)
            · replace h := h.1 c6
              refine am_aload_n hz1 dX11_reckon_70 0 rfl rfl ?_
              refine am_getR hz1 fl_X11_53 (ln_0 hG) (lk_0 hG) (lr_0_5 hG) rfl dX11_reckon_71 ?_
              refine am_iload_n hz1 dX11_reckon_74 2 rfl rfl ?_
              refine am_iload_n hz1 dX11_reckon_75 3 rfl rfl ?_
              refine am_iload hz1 dX11_reckon_76 4 rfl ?_
              obtain ⟨dq7, mcq7, msq7, postq7, hdq7, hcq7, hMq7, h⟩ := h
              refine am_callV hz1 cv_X11_261 [.int v2, .int v3, .int v4] [] hMq7 (ln_35 hG) (lk_35 hG) rfl rfl (hz.fr hdq7) (hz.lo hdq7) (by rw [hz.2.1]; exact hcq7) (Nat.le_of_ble_eq_true rfl) dX11_reckon_78 (fun roq7 Gq7 Iq7 Lq7 hpq7 => ?_)
              obtain ⟨rfl, hGq7, h⟩ := h roq7 Gq7 Iq7 Lq7 hpq7
              refine am_aload_n hz1 dX11_reckon_81 0 rfl rfl ?_
              refine am_getR hz1 fl_X11_44 (ln_0 hGq7) (lk_0 hGq7) (lr_0_12 hGq7) rfl dX11_reckon_82 ?_
              refine am_getI hz1 fl_X11_265 (ln_34 hGq7) (lk_34 hGq7) rfl dX11_reckon_85 ?_
              refine am_if_eq (tgt := 96) hz1 dX11_reckon_88 (by decide) (fun c8 => ?_) (fun c8 => ?_)
              · replace h := h.1 c8
                refine am_aload_n hz1 dX11_reckon_96 0 rfl rfl ?_
                refine am_iload_n hz1 dX11_reckon_97 1 rfl rfl ?_
                refine am_iconst (v := 1) hz1 dX11_reckon_98 (by decide) ?_
                obtain ⟨dq9, mcq9, msq9, postq9, hdq9, hcq9, hMq9, h⟩ := h
                refine am_callV hz1 cv_X11_243 [.int v1, .int 1] [] hMq9 (ln_0 hGq7) (lk_0 hGq7) rfl rfl (hz.fr hdq9) (hz.lo hdq9) (by rw [hz.2.1]; exact hcq9) (Nat.le_of_ble_eq_true rfl) dX11_reckon_99 (fun roq9 Gq9 Iq9 Lq9 hpq9 => ?_)
                obtain ⟨rq9, rfl, hGq9, h⟩ := h roq9 Gq9 Iq9 Lq9 hpq9
                exact am_widen hcq9.1 hcq9.2 (am_ireturn hz dX11_reckon_102 h)
              · replace h := h.2 c8
                refine am_bipush (v := (-3)) hz1 dX11_reckon_91 (by decide) ?_
                refine am_goto (tgt := 102) hz1 dX11_reckon_93 (by decide) ?_
                exact am_widen hcq7.1 hcq7.2 (am_ireturn hz dX11_reckon_102 h)
            · replace h := h.2 c6
              refine am_aload_n hz1 dX11_reckon_47 0 rfl rfl ?_
              refine am_getR hz1 fl_X11_53 (ln_0 hG) (lk_0 hG) (lr_0_5 hG) rfl dX11_reckon_48 ?_
              refine am_aload_n hz1 dX11_reckon_51 0 rfl rfl ?_
              refine am_getR hz1 fl_X11_53 (ln_0 hG) (lk_0 hG) (lr_0_5 hG) rfl dX11_reckon_52 ?_
              refine am_getR hz1 fl_X11_220 (ln_35 hG) (lk_35 hG) (lr_35_0 hG) rfl dX11_reckon_55 ?_
              refine am_iload_n hz1 dX11_reckon_58 2 rfl rfl ?_
              refine am_sipush (v := 256) hz1 dX11_reckon_59 (by decide) ?_
              refine am_imul hz1 dX11_reckon_62 ?_
              refine am_iload_n hz1 dX11_reckon_63 3 rfl rfl ?_
              obtain ⟨dq10, mcq10, msq10, postq10, hdq10, hcq10, hMq10, h⟩ := h
              refine am_callV hz1 cv_X11_257 [.ref ((zB z).size + 36), .int (v2 * (256 : Int32)), .int v3] [] hMq10 (ln_35 hG) (lk_35 hG) rfl rfl (hz.fr hdq10) (hz.lo hdq10) (by rw [hz.2.1]; exact hcq10) (Nat.le_of_ble_eq_true rfl) dX11_reckon_64 (fun roq10 Gq10 Iq10 Lq10 hpq10 => ?_)
              obtain ⟨rfl, hGq10, h⟩ := h roq10 Gq10 Iq10 Lq10 hpq10
              refine am_goto (tgt := 81) hz1 dX11_reckon_67 (by decide) ?_
              refine am_aload_n hz1 dX11_reckon_81 0 rfl rfl ?_
              refine am_getR hz1 fl_X11_44 (ln_0 hGq10) (lk_0 hGq10) (lr_0_12 hGq10) rfl dX11_reckon_82 ?_
              refine am_getI hz1 fl_X11_265 (ln_34 hGq10) (lk_34 hGq10) rfl dX11_reckon_85 ?_
              refine am_if_eq (tgt := 96) hz1 dX11_reckon_88 (by decide) (fun c11 => ?_) (fun c11 => ?_)
              · replace h := h.1 c11
                refine am_aload_n hz1 dX11_reckon_96 0 rfl rfl ?_
                refine am_iload_n hz1 dX11_reckon_97 1 rfl rfl ?_
                refine am_iconst (v := 1) hz1 dX11_reckon_98 (by decide) ?_
                obtain ⟨dq12, mcq12, msq12, postq12, hdq12, hcq12, hMq12, h⟩ := h
                refine am_callV hz1 cv_X11_243 [.int v1, .int 1] [] hMq12 (ln_0 hGq10) (lk_0 hGq10) rfl rfl (hz.fr hdq12) (hz.lo hdq12) (by rw [hz.2.1]; exact hcq12) (Nat.le_of_ble_eq_true rfl) dX11_reckon_99 (fun roq12 Gq12 Iq12 Lq12 hpq12 => ?_)
                obtain ⟨rq12, rfl, hGq12, h⟩ := h roq12 Gq12 Iq12 Lq12 hpq12
                exact am_widen hcq12.1 hcq12.2 (am_ireturn hz dX11_reckon_102 h)
              · replace h := h.2 c11
                refine am_bipush (v := (-3)) hz1 dX11_reckon_91 (by decide) ?_
                refine am_goto (tgt := 102) hz1 dX11_reckon_93 (by decide) ?_
                exact am_widen hcq10.1 hcq10.2 (am_ireturn hz dX11_reckon_102 h)
          · replace h := h.2 c5
            refine am_iconst (v := (-1)) hz1 dX11_reckon_32 (by decide) ?_
            exact am_widen hce.1 hce.2 (am_ireturn hz dX11_reckon_33 h)
set_option maxRecDepth 100000 in
set_option maxHeartbeats 4000000 in
theorem c_X11_reckon {l : Launch} {D : va_G} {B : Heap} {G : amG} {I : amI} {L : amL}  (hG : Lay G)  (v1 : Int32) (v2 : Int32) (v3 : Int32) (v4 : Int32) {s : St} (hs : CO s G I L) (hw : WF s) : Mx l D B yX11_reckon cX11_reckon 5 (some .int) 5 5 1078 [.ref (B.size + 0), .int v1, .int v2, .int v3, .int v4] G I L (CA (xReckon s v1 v2 v3 v4).2 (xReckon s v1 v2 v3 v4).1 G I L) := by
  refine Mx.of (by decide) rfl rfl (fun z e1 e2 e3 hz => ?_)
  subst e1; subst e2; subst e3
  refine b_X11_reckon_0 hz ⟨Nat.zero_le _, Nat.zero_le _⟩ hG ?_
  have hO := hs.2.1.1
  have h16 := hO.2.2.1
  have h1n := hO.2.1
  have hP := hO.2.2.2.2.2.1
  refine ⟨fun h => by rw [xReckon, if_neg (by rw [h]; simp)]; exact CA_no hs rfl, fun h => ⟨fun h2 => by rw [xReckon, if_neg (by rw [h2]; simp)]; exact CA_no hs rfl, fun h2 => ⟨fun h3 => by rw [xReckon, if_neg (by rw [h3]; simp)]; exact CA_no hs rfl, fun h3 => ⟨fun h4 => by rw [xReckon, if_neg (by rw [inR_lo h4]; simp)]; exact CA_no hs rfl, fun h4 => ⟨fun h5 => ?_, fun h5 => by rw [xReckon, if_neg (by rw [inR_hi h5]; simp)]; exact CA_no hs rfl⟩⟩⟩⟩⟩
  have h7 := inR_in (k := 3) h4 h5
  rw [xReckon, if_pos (by rw [h, h2, h3, h7]; rfl)]
  obtain ⟨f, hf, rfl⟩ := fnR h
  obtain ⟨x, hx, rfl⟩ := fnR h2
  obtain ⟨y, hy, rfl⟩ := fnR h3
  rw [cl_nI (n := f) (by omega), cl_nI (n := x) (by omega), cl_nI (n := y) (by omega)]
  have hb0 : (sI I 0) 34 1 = bI false := sI_v
  refine ⟨fun h6 => ?_, fun h6 => ?_⟩
  · refine ⟨2, 0, 0, _, rfl, ⟨by omega, by omega⟩, c_X0_reckonEach hG _ _ _ hb0 hx hy rfl rfl, fun ro G1 I1 L1 ⟨r1, r2, r3, g, t, r4, r5⟩ => ⟨r1, by rw [r2]; exact hG, ?_⟩⟩
    rw [sL_36] at r3 r5
    have hout : ∀ q a b, q < 4 → a < 16 → b < 16 → ¬ (a < rN (sC s) ∧ b < rN (sC s) ∧ le (rA (sC s)) a b = true) → L 36 (256 * q + (16 * a + b)) = 0 := fun q a b hq ha hb hno => by
      rw [← Nat.add_assoc, hs.2.1.2.1 _ (by omega)]; exact hw.1.2.1 q a b hq ha hb hno
    have hc : orN (fun i => eO v4 (L 36 (256 * x + i)) (L 36 (256 * y + i))) 256 = anyB (rN (sC s)) (rA (sC s)) (rkB (rN (sC s)) (rA (sC s)) (fnF s x) (fnF s y) v4) := by
      have ek : ∀ a b, rkB (rN (sC s)) (rA (sC s)) (fnF s x) (fnF s y) v4 a b = eO v4 (fnF s x a b) (fnF s y a b) := fun a b => by
        obtain ⟨k, hk, rfl⟩ := (inR_t (by decide)).mp h7
        rw [rkB, eO, if_neg h6]
        by_cases k0 : nI k = 0
        · rw [if_pos k0, if_neg (by rw [k0]; decide), if_pos k0]
        · rw [if_neg k0, if_neg k0]
          by_cases k3 : nI k = 3
          · rw [if_pos k3, if_neg (by rw [k3]; decide)]
          · rw [if_neg k3, if_pos]
            have : k ≠ 0 := fun e => k0 (by rw [e]; rfl)
            have : k ≠ 2 := fun e => h6 (by rw [e]; rfl)
            have : k ≠ 3 := fun e => k3 (by rw [e]; rfl)
            rw [show k = 1 by omega]; rfl
      rw [Bool.eq_iff_iff, orN_t, anyB_t]
      constructor
      · rintro ⟨i, hi, e⟩
        have ei : i = 16 * (i / 16) + i % 16 := by omega
        by_cases hin : i / 16 < rN (sC s) ∧ i % 16 < rN (sC s) ∧ le (rA (sC s)) (i / 16) (i % 16) = true
        · refine ⟨i / 16, i % 16, hin.1, hin.2.1, hin.2.2, ?_⟩
          rw [ek, ← fn_36 hs hx (by omega) (by omega), ← fn_36 hs hy (by omega) (by omega), Nat.add_assoc, Nat.add_assoc, ← ei]
          exact e
        · rw [ei, hout x _ _ hx (by omega) (by omega) hin, hout y _ _ hy (by omega) (by omega) hin, (e_zero v4).1] at e
          cases e
      · rintro ⟨a, b, ha, hb, hl, e⟩
        rw [ek, ← fn_36 hs hx (by omega) (by omega), ← fn_36 hs hy (by omega) (by omega), Nat.add_assoc, Nat.add_assoc] at e
        exact ⟨16 * a + b, by omega, e⟩
    have hV : KV (fun a b => if le (rA (sC s)) a b = true then rkV (rN (sC s)) (rA (sC s)) (fnF s x) (fnF s y) v4 a b else 0) (rN (sC s)) g := by
      intro a b ha hb
      rw [r5 (16 * a + b) (by omega)]
      by_cases hin : a < rN (sC s) ∧ b < rN (sC s)
      · rw [if_pos hin]
        show _ = if le (rA (sC s)) a b = true then rkV (rN (sC s)) (rA (sC s)) (fnF s x) (fnF s y) v4 a b else 0
        by_cases hl : le (rA (sC s)) a b = true
        · rw [if_pos hl, ← Nat.add_assoc, ← Nat.add_assoc, fn_36 hs hx ha hb, fn_36 hs hy ha hb]
          obtain ⟨k, hk, rfl⟩ := (inR_t (by decide)).mp h7
          rw [rkV, eV, if_neg h6]
          by_cases k0 : nI k = 0
          · rw [if_pos k0, if_neg (by rw [k0]; decide), if_pos k0]
          · rw [if_neg k0, if_neg k0]
            by_cases k3 : nI k = 3
            · rw [if_pos k3, if_neg (by rw [k3]; decide)]
            · rw [if_neg k3, if_pos]
              have : k ≠ 0 := fun e => k0 (by rw [e]; rfl)
              have : k ≠ 2 := fun e => h6 (by rw [e]; rfl)
              have : k ≠ 3 := fun e => k3 (by rw [e]; rfl)
              rw [show k = 1 by omega]; rfl
        · rw [if_neg hl, hout x _ _ hx ha hb (fun q => hl q.2.2), hout y _ _ hy ha hb (fun q => hl q.2.2)]
          exact (e_zero v4).2
      · rw [if_neg hin, hout x _ _ hx ha hb (fun q => hin ⟨q.1, q.2.1⟩), hout y _ _ hy ha hb (fun q => hin ⟨q.1, q.2.1⟩)]
        exact (e_zero v4).2
    rw [Bool.false_or, hc] at r3
    rw [r2, r3, r4, sI_v, bI_z]
    have hV2 : ∀ V, KV V (rN (sC s)) g → KV V (rN (sC s)) ((sL (setL (sL L 0) 37 g) t) 37) := fun V h => by rw [sL_37, setL_s]; exact h
    refine ⟨fun q => ⟨4, 5, 1078, _, rfl, ⟨by omega, by omega⟩, c_X11_storeReckoned hG _ _ (CO_r hs).1 hw hf rfl (hV2 _ hV), fun ro2 G2 I2 L2 ⟨u1, u2, u3, u4⟩ => ⟨_, u1, u2.1, ?_⟩⟩, fun q => ?_⟩
    · rw [if_neg (by rw [q]; decide)]
      exact ⟨rfl, u2, frK_t (CO_r hs).2 u3, u4⟩
    · rw [Bool.not_eq_false] at q
      rw [if_pos q]
      exact ⟨rfl, (CO_r hs).1, (CO_r hs).2, rfl⟩
  · refine ⟨3, 0, 0, _, rfl, ⟨by omega, by omega⟩, c_X0_reckonProduct (n := rN (sC s)) (beg := 256 * x) (y := y) (b := false) hG (ln_36 hG) (lk_36 hG) (ll_36 hG) _ _ (by rw [sI_o (by decide)]; exact hO.1) h1n h16 hb0 (by decide) (by decide) (by omega) (by decide) hy (by rw [show (256 : Int32) = nI 256 from rfl, nI_mul, Nat.mul_comm]) rfl, fun ro G1 I1 L1 ⟨r1, r2, r3, g, t, r4, r5⟩ => ⟨r1, by rw [r2]; exact hG, ?_⟩⟩
    have hO2 : OI (sI I 0) 3 (rN (sC s)) (rA (sC s)) := OI_sI hO (Or.inl rfl)
    have hpr : ∀ a b, a < rN (sC s) → b < rN (sC s) → prV (sI I 0) (sL L 0) 36 (256 * x) y (rN (sC s)) a b = tS (fnF s x a) (fun w => fnF s y w b) (ivS (rN (sC s)) (rA (sC s)) a b) (rN (sC s)) ∧ prO (sI I 0) (sL L 0) 36 (256 * x) y (rN (sC s)) a b = oS (fnF s x a) (fun w => fnF s y w b) (ivS (rN (sC s)) (rA (sC s)) a b) (rN (sC s)) := fun a b ha hb => by
      have e : ∀ w, w < rN (sC s) → bt (ivS (rN (sC s)) (rA (sC s)) a b) w = true → PFx (sL L 0) 36 (256 * x) a w = fnF s x a w ∧ QFx (sL L 0) y b w = fnF s y w b := fun w hw' _ => ⟨by rw [PFx, sL_36, ← Nat.add_assoc]; exact fn_36 hs hx (by omega) (by omega), by rw [QFx, sL_36]; exact fn_36 hs hy (by omega) (by omega)⟩
      rw [prV, prO, hO2.btw ha hb]
      exact ⟨tS_c e, oS_c e⟩
    have hc : orN (fun a => orN (prO (sI I 0) (sL L 0) 36 (256 * x) y (rN (sC s)) a) (rN (sC s))) (rN (sC s)) = anyB (rN (sC s)) (rA (sC s)) (rkB (rN (sC s)) (rA (sC s)) (fnF s x) (fnF s y) v4) := by
      have ek : ∀ a b, rkB (rN (sC s)) (rA (sC s)) (fnF s x) (fnF s y) v4 a b = oS (fnF s x a) (fun w => fnF s y w b) (ivS (rN (sC s)) (rA (sC s)) a b) (rN (sC s)) := fun a b => by
        rw [rkB, if_neg (by rw [h6]; decide), if_neg (by rw [h6]; decide), if_pos h6]
      rw [Bool.eq_iff_iff, orN_t, anyB_t]
      constructor
      · rintro ⟨a, ha, e⟩
        obtain ⟨b, hb, e⟩ := orN_t.mp e
        rw [(hpr a b ha hb).2] at e
        refine ⟨a, b, ha, hb, ?_, by rw [ek]; exact e⟩
        cases hl : le (rA (sC s)) a b
        · rw [(tS_0 (iv_no hP h16 ha hb hl)).2] at e; cases e
        · rfl
      · rintro ⟨a, b, ha, hb, hl, e⟩
        rw [ek] at e
        exact ⟨a, ha, orN_t.mpr ⟨b, hb, by rw [(hpr a b ha hb).2]; exact e⟩⟩
    have hV : KV (fun a b => if le (rA (sC s)) a b = true then rkV (rN (sC s)) (rA (sC s)) (fnF s x) (fnF s y) v4 a b else 0) (rN (sC s)) g := KV_c r5 (fun a b ha hb => by
      rw [(hpr a b ha hb).1]
      by_cases hl : le (rA (sC s)) a b = true
      · rw [if_pos hl, rkV, if_neg (by rw [h6]; decide), if_neg (by rw [h6]; decide), if_pos h6]
      · rw [if_neg hl]; rw [Bool.not_eq_true] at hl; exact (tS_0 (iv_no hP h16 ha hb hl)).1)
    rw [Bool.false_or, hc] at r3
    rw [r2, r3, r4, sI_v, bI_z]
    have hV2 : ∀ V, KV V (rN (sC s)) g → KV V (rN (sC s)) ((sL (setL (sL L 0) 37 g) t) 37) := fun V h => by rw [sL_37, setL_s]; exact h
    refine ⟨fun q => ⟨4, 5, 1078, _, rfl, ⟨by omega, by omega⟩, c_X11_storeReckoned hG _ _ (CO_r hs).1 hw hf rfl (hV2 _ hV), fun ro2 G2 I2 L2 ⟨u1, u2, u3, u4⟩ => ⟨_, u1, u2.1, ?_⟩⟩, fun q => ?_⟩
    · rw [if_neg (by rw [q]; decide)]
      exact ⟨rfl, u2, frK_t (CO_r hs).2 u3, u4⟩
    · rw [Bool.not_eq_false] at q
      rw [if_pos q]
      exact ⟨rfl, (CO_r hs).1, (CO_r hs).2, rfl⟩
