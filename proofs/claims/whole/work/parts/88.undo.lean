/-! THE CLASS: keep, undo, sets -/
theorem CO_kp {s s' : St} {G : amG} {I I3 : amI} {L : amL} {h0 h1 : Shf} {P : Nat → Int32} {e' : Int32} (h : CO s G I L) (hs' : s' = ((rN (sC s), rA (sC s), rF (sC s), rD (sC s), P, e'), h0, h1, e', sT s, sH s)) (e : ∀ q, (q < 20 ∨ 33 < q) → q ≠ 0 → q ≠ 42 → I3 q = I q) (c0 : shC I3 20 0 h0) (c1 : shC I3 27 1 h1) (h14 : ∀ i, 2 ≤ i → i < 32 → bt (I3 0 14) i = false) (h15 : I3 0 15 = e') (h42 : ∀ x, x < 16 → I3 42 x = P x) : CO s' G I3 L ∧ frK I L I3 L := by
  subst hs'
  obtain ⟨k1, ⟨o, f, d, p, e0, a0, a1, b, t1, t2⟩, k3, k4, k5⟩ := h
  exact ⟨⟨k1, ⟨OI_20 o (fun q a b => e q (by omega) (by omega) (by omega)), f, d, h42, h15, c0, c1, h14, by rw [e 1 (by omega) (by decide) (by decide)]; exact t1, by rw [e 2 (by omega) (by decide) (by decide)]; exact t2⟩, CK_c k3 (fun q a b => e q (by omega) (by omega) (by omega)) rfl rfl, CR_c k4 (e 61 (by omega) (by decide) (by decide)) (fun q hq => e q (by omega) (by omega) (by omega)) (fun _ _ => rfl), k5⟩, fun q a b => ⟨e q (by omega) (by omega) (by omega), rfl⟩⟩
theorem bit_on {x : Int32} {j i : Nat} (hj : j < 32) (hi : i < 32) : bt (x ||| ((1 : Int32) <<< (nI j &&& 31))) i = (bt x i || decide (i = j)) := by rw [b_or, b_one j hj hi]
theorem lt2 {v : Int32} (h0 : ¬ v < 0) (h : v < 2) : v = nI 0 ∨ v = nI 1 := by
  obtain ⟨j, hj, rfl⟩ := nI_of h0
  have : j < 2 := (nI_ltI (b := 2) hj (by decide)).mp h
  rcases (show j = 0 ∨ j = 1 by omega) with e | e <;> subst e
  · exact Or.inl rfl
  · exact Or.inr rfl
set_option maxRecDepth 100000 in
set_option maxHeartbeats 4000000 in
theorem b_X11_keep_0 {z : amZ} {post : amP} {G : amG} {I : amI} {L : amL} (hz : Go z cX11_keep RX11 2 (some .int) 3 0 0 post) (hG : Lay G) {v1 : Int32} (h : ((v1 < 0) → post (some (.int (-1))) G I L) ∧ ((¬ v1 < 0) → ((v1 < (2 : Int32)) → vp_in v1 2 ∧ (v1 = 0 → (4 ≠ 20) ∧ (4 ≠ 20 + 1) ∧ vp_in v1 2 ∧ (v1 = 0 → ∃ (dq9 : Nat) (postq9 : amP), Nat.ble (dq9 + 1) 3 = true ∧ Mx (zL z) (zD z) (zB z) yX4_derive cX4_derive 1 none dq9 0 0 [.ref ((zB z).size + 20)] G (q_copy I 20 (I 3 0) 4) L postq9 ∧ ∀ (roq9 : Option Value) (Gq9 : amG) (Iq9 : amI) (Lq9 : amL), postq9 roq9 Gq9 Iq9 Lq9 → roq9 = none ∧ Lay Gq9 ∧ ((¬ v1 = 0) → post (some (.int ((setI Iq9 0 (upd (Iq9 0) 14 ((Iq9 0 14) ||| ((1 : Int32) <<< (v1 &&& 31))))) 3 0))) Gq9 (setI Iq9 0 (upd (Iq9 0) 14 ((Iq9 0 14) ||| ((1 : Int32) <<< (v1 &&& 31))))) Lq9) ∧ ((v1 = 0) → post (some (.int ((setI (setI (setI Iq9 0 (upd (Iq9 0) 14 ((Iq9 0 14) ||| ((1 : Int32) <<< (v1 &&& 31))))) 42 (q_fill ((setI Iq9 0 (upd (Iq9 0) 14 ((Iq9 0 14) ||| ((1 : Int32) <<< (v1 &&& 31))))) 42) 16 (-1))) 0 (upd ((setI (setI Iq9 0 (upd (Iq9 0) 14 ((Iq9 0 14) ||| ((1 : Int32) <<< (v1 &&& 31))))) 42 (q_fill ((setI Iq9 0 (upd (Iq9 0) 14 ((Iq9 0 14) ||| ((1 : Int32) <<< (v1 &&& 31))))) 42) 16 (-1))) 0) 15 (((setI (setI Iq9 0 (upd (Iq9 0) 14 ((Iq9 0 14) ||| ((1 : Int32) <<< (v1 &&& 31))))) 42 (q_fill ((setI Iq9 0 (upd (Iq9 0) 14 ((Iq9 0 14) ||| ((1 : Int32) <<< (v1 &&& 31))))) 42) 16 (-1))) 0 15) + (1 : Int32)))) 3 0))) Gq9 (setI (setI (setI Iq9 0 (upd (Iq9 0) 14 ((Iq9 0 14) ||| ((1 : Int32) <<< (v1 &&& 31))))) 42 (q_fill ((setI Iq9 0 (upd (Iq9 0) 14 ((Iq9 0 14) ||| ((1 : Int32) <<< (v1 &&& 31))))) 42) 16 (-1))) 0 (upd ((setI (setI Iq9 0 (upd (Iq9 0) 14 ((Iq9 0 14) ||| ((1 : Int32) <<< (v1 &&& 31))))) 42 (q_fill ((setI Iq9 0 (upd (Iq9 0) 14 ((Iq9 0 14) ||| ((1 : Int32) <<< (v1 &&& 31))))) 42) 16 (-1))) 0) 15 (((setI (setI Iq9 0 (upd (Iq9 0) 14 ((Iq9 0 14) ||| ((1 : Int32) <<< (v1 &&& 31))))) 42 (q_fill ((setI Iq9 0 (upd (Iq9 0) 14 ((Iq9 0 14) ||| ((1 : Int32) <<< (v1 &&& 31))))) 42) 16 (-1))) 0 15) + (1 : Int32)))) Lq9)) ∧ (v1 = 1 → ∃ (dq11 : Nat) (postq11 : amP), Nat.ble (dq11 + 1) 3 = true ∧ Mx (zL z) (zD z) (zB z) yX4_derive cX4_derive 1 none dq11 0 0 [.ref ((zB z).size + 27)] G (q_copy I 20 (I 3 0) 4) L postq11 ∧ ∀ (roq11 : Option Value) (Gq11 : amG) (Iq11 : amI) (Lq11 : amL), postq11 roq11 Gq11 Iq11 Lq11 → roq11 = none ∧ Lay Gq11 ∧ ((¬ v1 = 0) → post (some (.int ((setI Iq11 0 (upd (Iq11 0) 14 ((Iq11 0 14) ||| ((1 : Int32) <<< (v1 &&& 31))))) 3 0))) Gq11 (setI Iq11 0 (upd (Iq11 0) 14 ((Iq11 0 14) ||| ((1 : Int32) <<< (v1 &&& 31))))) Lq11) ∧ ((v1 = 0) → post (some (.int ((setI (setI (setI Iq11 0 (upd (Iq11 0) 14 ((Iq11 0 14) ||| ((1 : Int32) <<< (v1 &&& 31))))) 42 (q_fill ((setI Iq11 0 (upd (Iq11 0) 14 ((Iq11 0 14) ||| ((1 : Int32) <<< (v1 &&& 31))))) 42) 16 (-1))) 0 (upd ((setI (setI Iq11 0 (upd (Iq11 0) 14 ((Iq11 0 14) ||| ((1 : Int32) <<< (v1 &&& 31))))) 42 (q_fill ((setI Iq11 0 (upd (Iq11 0) 14 ((Iq11 0 14) ||| ((1 : Int32) <<< (v1 &&& 31))))) 42) 16 (-1))) 0) 15 (((setI (setI Iq11 0 (upd (Iq11 0) 14 ((Iq11 0 14) ||| ((1 : Int32) <<< (v1 &&& 31))))) 42 (q_fill ((setI Iq11 0 (upd (Iq11 0) 14 ((Iq11 0 14) ||| ((1 : Int32) <<< (v1 &&& 31))))) 42) 16 (-1))) 0 15) + (1 : Int32)))) 3 0))) Gq11 (setI (setI (setI Iq11 0 (upd (Iq11 0) 14 ((Iq11 0 14) ||| ((1 : Int32) <<< (v1 &&& 31))))) 42 (q_fill ((setI Iq11 0 (upd (Iq11 0) 14 ((Iq11 0 14) ||| ((1 : Int32) <<< (v1 &&& 31))))) 42) 16 (-1))) 0 (upd ((setI (setI Iq11 0 (upd (Iq11 0) 14 ((Iq11 0 14) ||| ((1 : Int32) <<< (v1 &&& 31))))) 42 (q_fill ((setI Iq11 0 (upd (Iq11 0) 14 ((Iq11 0 14) ||| ((1 : Int32) <<< (v1 &&& 31))))) 42) 16 (-1))) 0) 15 (((setI (setI Iq11 0 (upd (Iq11 0) 14 ((Iq11 0 14) ||| ((1 : Int32) <<< (v1 &&& 31))))) 42 (q_fill ((setI Iq11 0 (upd (Iq11 0) 14 ((Iq11 0 14) ||| ((1 : Int32) <<< (v1 &&& 31))))) 42) 16 (-1))) 0 15) + (1 : Int32)))) Lq11))) ∧ (v1 = 1 → (4 ≠ 27) ∧ (4 ≠ 27 + 1) ∧ vp_in v1 2 ∧ (v1 = 0 → ∃ (dq17 : Nat) (postq17 : amP), Nat.ble (dq17 + 1) 3 = true ∧ Mx (zL z) (zD z) (zB z) yX4_derive cX4_derive 1 none dq17 0 0 [.ref ((zB z).size + 20)] G (q_copy I 27 (I 3 0) 4) L postq17 ∧ ∀ (roq17 : Option Value) (Gq17 : amG) (Iq17 : amI) (Lq17 : amL), postq17 roq17 Gq17 Iq17 Lq17 → roq17 = none ∧ Lay Gq17 ∧ ((¬ v1 = 0) → post (some (.int ((setI Iq17 0 (upd (Iq17 0) 14 ((Iq17 0 14) ||| ((1 : Int32) <<< (v1 &&& 31))))) 3 0))) Gq17 (setI Iq17 0 (upd (Iq17 0) 14 ((Iq17 0 14) ||| ((1 : Int32) <<< (v1 &&& 31))))) Lq17) ∧ ((v1 = 0) → post (some (.int ((setI (setI (setI Iq17 0 (upd (Iq17 0) 14 ((Iq17 0 14) ||| ((1 : Int32) <<< (v1 &&& 31))))) 42 (q_fill ((setI Iq17 0 (upd (Iq17 0) 14 ((Iq17 0 14) ||| ((1 : Int32) <<< (v1 &&& 31))))) 42) 16 (-1))) 0 (upd ((setI (setI Iq17 0 (upd (Iq17 0) 14 ((Iq17 0 14) ||| ((1 : Int32) <<< (v1 &&& 31))))) 42 (q_fill ((setI Iq17 0 (upd (Iq17 0) 14 ((Iq17 0 14) ||| ((1 : Int32) <<< (v1 &&& 31))))) 42) 16 (-1))) 0) 15 (((setI (setI Iq17 0 (upd (Iq17 0) 14 ((Iq17 0 14) ||| ((1 : Int32) <<< (v1 &&& 31))))) 42 (q_fill ((setI Iq17 0 (upd (Iq17 0) 14 ((Iq17 0 14) ||| ((1 : Int32) <<< (v1 &&& 31))))) 42) 16 (-1))) 0 15) + (1 : Int32)))) 3 0))) Gq17 (setI (setI (setI Iq17 0 (upd (Iq17 0) 14 ((Iq17 0 14) ||| ((1 : Int32) <<< (v1 &&& 31))))) 42 (q_fill ((setI Iq17 0 (upd (Iq17 0) 14 ((Iq17 0 14) ||| ((1 : Int32) <<< (v1 &&& 31))))) 42) 16 (-1))) 0 (upd ((setI (setI Iq17 0 (upd (Iq17 0) 14 ((Iq17 0 14) ||| ((1 : Int32) <<< (v1 &&& 31))))) 42 (q_fill ((setI Iq17 0 (upd (Iq17 0) 14 ((Iq17 0 14) ||| ((1 : Int32) <<< (v1 &&& 31))))) 42) 16 (-1))) 0) 15 (((setI (setI Iq17 0 (upd (Iq17 0) 14 ((Iq17 0 14) ||| ((1 : Int32) <<< (v1 &&& 31))))) 42 (q_fill ((setI Iq17 0 (upd (Iq17 0) 14 ((Iq17 0 14) ||| ((1 : Int32) <<< (v1 &&& 31))))) 42) 16 (-1))) 0 15) + (1 : Int32)))) Lq17)) ∧ (v1 = 1 → ∃ (dq19 : Nat) (postq19 : amP), Nat.ble (dq19 + 1) 3 = true ∧ Mx (zL z) (zD z) (zB z) yX4_derive cX4_derive 1 none dq19 0 0 [.ref ((zB z).size + 27)] G (q_copy I 27 (I 3 0) 4) L postq19 ∧ ∀ (roq19 : Option Value) (Gq19 : amG) (Iq19 : amI) (Lq19 : amL), postq19 roq19 Gq19 Iq19 Lq19 → roq19 = none ∧ Lay Gq19 ∧ ((¬ v1 = 0) → post (some (.int ((setI Iq19 0 (upd (Iq19 0) 14 ((Iq19 0 14) ||| ((1 : Int32) <<< (v1 &&& 31))))) 3 0))) Gq19 (setI Iq19 0 (upd (Iq19 0) 14 ((Iq19 0 14) ||| ((1 : Int32) <<< (v1 &&& 31))))) Lq19) ∧ ((v1 = 0) → post (some (.int ((setI (setI (setI Iq19 0 (upd (Iq19 0) 14 ((Iq19 0 14) ||| ((1 : Int32) <<< (v1 &&& 31))))) 42 (q_fill ((setI Iq19 0 (upd (Iq19 0) 14 ((Iq19 0 14) ||| ((1 : Int32) <<< (v1 &&& 31))))) 42) 16 (-1))) 0 (upd ((setI (setI Iq19 0 (upd (Iq19 0) 14 ((Iq19 0 14) ||| ((1 : Int32) <<< (v1 &&& 31))))) 42 (q_fill ((setI Iq19 0 (upd (Iq19 0) 14 ((Iq19 0 14) ||| ((1 : Int32) <<< (v1 &&& 31))))) 42) 16 (-1))) 0) 15 (((setI (setI Iq19 0 (upd (Iq19 0) 14 ((Iq19 0 14) ||| ((1 : Int32) <<< (v1 &&& 31))))) 42 (q_fill ((setI Iq19 0 (upd (Iq19 0) 14 ((Iq19 0 14) ||| ((1 : Int32) <<< (v1 &&& 31))))) 42) 16 (-1))) 0 15) + (1 : Int32)))) 3 0))) Gq19 (setI (setI (setI Iq19 0 (upd (Iq19 0) 14 ((Iq19 0 14) ||| ((1 : Int32) <<< (v1 &&& 31))))) 42 (q_fill ((setI Iq19 0 (upd (Iq19 0) 14 ((Iq19 0 14) ||| ((1 : Int32) <<< (v1 &&& 31))))) 42) 16 (-1))) 0 (upd ((setI (setI Iq19 0 (upd (Iq19 0) 14 ((Iq19 0 14) ||| ((1 : Int32) <<< (v1 &&& 31))))) 42 (q_fill ((setI Iq19 0 (upd (Iq19 0) 14 ((Iq19 0 14) ||| ((1 : Int32) <<< (v1 &&& 31))))) 42) 16 (-1))) 0) 15 (((setI (setI Iq19 0 (upd (Iq19 0) 14 ((Iq19 0 14) ||| ((1 : Int32) <<< (v1 &&& 31))))) 42 (q_fill ((setI Iq19 0 (upd (Iq19 0) 14 ((Iq19 0 14) ||| ((1 : Int32) <<< (v1 &&& 31))))) 42) 16 (-1))) 0 15) + (1 : Int32)))) Lq19)))) ∧ ((¬ v1 < (2 : Int32)) → post (some (.int (-1))) G I L))) : Wx z 0 0 0 [(0, .ref ((zB z).size + 0)), (1, .int v1)] [] G I L := by
  have hz1 := hz.1
  refine am_iload_n hz1 dX11_keep_0 1 rfl rfl ?_
  refine am_if_lt (tgt := 9) hz1 dX11_keep_1 (by decide) (fun c1 => ?_) (fun c1 => ?_)
  · replace h := h.1 c1
    refine am_iconst (v := (-1)) hz1 dX11_keep_9 (by decide) ?_
    exact am_ireturn hz dX11_keep_10 h
  · replace h := h.2 c1
    refine am_iload_n hz1 dX11_keep_4 1 rfl rfl ?_
    refine am_iconst (v := 2) hz1 dX11_keep_5 (by decide) ?_
    refine am_icmp_lt (tgt := 11) hz1 dX11_keep_6 (by decide) (fun c2 => ?_) (fun c2 => ?_)
    · replace h := h.1 c2
      refine am_aload_n hz1 dX11_keep_11 0 rfl rfl ?_
      refine am_getR hz1 fl_X11_37 (ln_0 hG) (lk_0 hG) (lr_0_4 hG) rfl dX11_keep_12 ?_
      refine am_iload_n hz1 dX11_keep_15 1 rfl rfl ?_
      obtain ⟨g3, h⟩ := h
      rcases in2 g3 with c4 | c4
      · replace h := h.1 c4
        refine am_aald hz1 (t := 3) (kd := 53) rfl (by decide) (ln_19 hG) (lk_19 hG) (by rw [(ll_19 hG)]; exact g3) (by rw [c4]; exact lr_19_0 hG) dX11_keep_16 ?_
        refine am_aload_n hz1 dX11_keep_17 0 rfl rfl ?_
        refine am_getR hz1 fl_X11_21 (ln_0 hG) (lk_0 hG) (lr_0_2 hG) rfl dX11_keep_18 ?_
        refine am_getI hz1 fl_X11_129 (ln_3 hG) (lk_3 hG) rfl dX11_keep_21 ?_
        refine am_aload_n hz1 dX11_keep_24 0 rfl rfl ?_
        refine am_getR hz1 fl_X11_21 (ln_0 hG) (lk_0 hG) (lr_0_2 hG) rfl dX11_keep_25 ?_
        refine am_getR hz1 fl_X11_130 (ln_3 hG) (lk_3 hG) (lr_3_1 hG) rfl dX11_keep_28 ?_
        obtain ⟨g5, h⟩ := h
        obtain ⟨g6, h⟩ := h
        refine am_cVf hz cv_X11_134 [.int (I 3 0), .ref ((zB z).size + 4)] [] (c_X4_copy hG isO_20 (ln_4 hG) (lk_4 hG) (ll_4 hG) (I 3 0) g5 g6) (ln_20 hG) (lk_20 hG) rfl rfl rfl ⟨Nat.le_refl _, Nat.le_refl _⟩ (Nat.le_of_ble_eq_true rfl) dX11_keep_31 ?_
        refine am_aload_n hz1 dX11_keep_34 0 rfl rfl ?_
        refine am_getR hz1 fl_X11_37 (ln_0 hG) (lk_0 hG) (lr_0_4 hG) rfl dX11_keep_35 ?_
        refine am_iload_n hz1 dX11_keep_38 1 rfl rfl ?_
        obtain ⟨g7, h⟩ := h
        rcases in2 g7 with c8 | c8
        · replace h := h.1 c8
          refine am_aald hz1 (t := 3) (kd := 53) rfl (by decide) (ln_19 hG) (lk_19 hG) (by rw [(ll_19 hG)]; exact g7) (by rw [c8]; exact lr_19_0 hG) dX11_keep_39 ?_
          obtain ⟨dq9, postq9, hdq9, hMq9, h⟩ := h
          refine am_callV hz1 cv_X11_176 [] [] hMq9 (ln_20 hG) (lk_20 hG) rfl rfl (hz.fr hdq9) (hz.lo hdq9) (by rw [hz.2.1]; exact ⟨Nat.le_refl _, Nat.le_refl _⟩) (Nat.le_of_ble_eq_true rfl) dX11_keep_40 (fun roq9 Gq9 Iq9 Lq9 hpq9 => ?_)
          obtain ⟨rfl, hGq9, h⟩ := h roq9 Gq9 Iq9 Lq9 hpq9
          refine am_aload_n hz1 dX11_keep_43 0 rfl rfl ?_
          refine am_dup hz1 dX11_keep_44 rfl ?_
          refine am_getI hz1 fl_X11_179 (ln_0 hGq9) (lk_0 hGq9) rfl dX11_keep_45 ?_
          refine am_iconst (v := 1) hz1 dX11_keep_48 (by decide) ?_
          refine am_iload_n hz1 dX11_keep_49 1 rfl rfl ?_
          refine am_ishl hz1 dX11_keep_50 ?_
          refine am_ior hz1 dX11_keep_51 ?_
          refine am_putI hz1 fl_X11_179 (ln_0 hGq9) (lk_0 hGq9) rfl rfl (fun _ => rfl) dX11_keep_52 ?_
          refine am_iload_n hz1 dX11_keep_55 1 rfl rfl ?_
          refine am_if_ne (tgt := 76) hz1 dX11_keep_56 (by decide) (fun c10 => ?_) (fun c10 => ?_)
          · replace h := h.1 c10
            refine am_aload_n hz1 dX11_keep_76 0 rfl rfl ?_
            refine am_getR hz1 fl_X11_21 (ln_0 hGq9) (lk_0 hGq9) (lr_0_2 hGq9) rfl dX11_keep_77 ?_
            refine am_getI hz1 fl_X11_129 (ln_3 hGq9) (lk_3 hGq9) rfl dX11_keep_80 ?_
            exact am_ireturn hz dX11_keep_83 h
          · replace h := h.2 c10
            refine am_aload_n hz1 dX11_keep_59 0 rfl rfl ?_
            refine am_getR hz1 fl_X11_66 (ln_0 hGq9) (lk_0 hGq9) (lr_0_7 hGq9) rfl dX11_keep_60 ?_
            refine am_cVf hz cv_X11_182 [] [] (c_X3_clear hGq9  ) (ln_41 hGq9) (lk_41 hGq9) rfl rfl rfl ⟨Nat.le_refl _, Nat.le_refl _⟩ (Nat.le_of_ble_eq_true rfl) dX11_keep_63 ?_
            refine am_aload_n hz1 dX11_keep_66 0 rfl rfl ?_
            refine am_dup hz1 dX11_keep_67 rfl ?_
            refine am_getI hz1 fl_X11_185 (ln_0 hGq9) (lk_0 hGq9) rfl dX11_keep_68 ?_
            refine am_iconst (v := 1) hz1 dX11_keep_71 (by decide) ?_
            refine am_iadd hz1 dX11_keep_72 ?_
            refine am_putI hz1 fl_X11_185 (ln_0 hGq9) (lk_0 hGq9) rfl rfl (fun _ => rfl) dX11_keep_73 ?_
            refine am_aload_n hz1 dX11_keep_76 0 rfl rfl ?_
            refine am_getR hz1 fl_X11_21 (ln_0 hGq9) (lk_0 hGq9) (lr_0_2 hGq9) rfl dX11_keep_77 ?_
            refine am_getI hz1 fl_X11_129 (ln_3 hGq9) (lk_3 hGq9) rfl dX11_keep_80 ?_
            exact am_ireturn hz dX11_keep_83 h
        · replace h := h.2 c8
          refine am_aald hz1 (t := 3) (kd := 53) rfl (by decide) (ln_19 hG) (lk_19 hG) (by rw [(ll_19 hG)]; exact g7) (by rw [c8]; exact lr_19_1 hG) dX11_keep_39 ?_
          obtain ⟨dq11, postq11, hdq11, hMq11, h⟩ := h
          refine am_callV hz1 cv_X11_176 [] [] hMq11 (ln_27 hG) (lk_27 hG) rfl rfl (hz.fr hdq11) (hz.lo hdq11) (by rw [hz.2.1]; exact ⟨Nat.le_refl _, Nat.le_refl _⟩) (Nat.le_of_ble_eq_true rfl) dX11_keep_40 (fun roq11 Gq11 Iq11 Lq11 hpq11 => ?_)
          obtain ⟨rfl, hGq11, h⟩ := h roq11 Gq11 Iq11 Lq11 hpq11
          refine am_aload_n hz1 dX11_keep_43 0 rfl rfl ?_
          refine am_dup hz1 dX11_keep_44 rfl ?_
          refine am_getI hz1 fl_X11_179 (ln_0 hGq11) (lk_0 hGq11) rfl dX11_keep_45 ?_
          refine am_iconst (v := 1) hz1 dX11_keep_48 (by decide) ?_
          refine am_iload_n hz1 dX11_keep_49 1 rfl rfl ?_
          refine am_ishl hz1 dX11_keep_50 ?_
          refine am_ior hz1 dX11_keep_51 ?_
          refine am_putI hz1 fl_X11_179 (ln_0 hGq11) (lk_0 hGq11) rfl rfl (fun _ => rfl) dX11_keep_52 ?_
          refine am_iload_n hz1 dX11_keep_55 1 rfl rfl ?_
          refine am_if_ne (tgt := 76) hz1 dX11_keep_56 (by decide) (fun c12 => ?_) (fun c12 => ?_)
          · replace h := h.1 c12
            refine am_aload_n hz1 dX11_keep_76 0 rfl rfl ?_
            refine am_getR hz1 fl_X11_21 (ln_0 hGq11) (lk_0 hGq11) (lr_0_2 hGq11) rfl dX11_keep_77 ?_
            refine am_getI hz1 fl_X11_129 (ln_3 hGq11) (lk_3 hGq11) rfl dX11_keep_80 ?_
            exact am_ireturn hz dX11_keep_83 h
          · replace h := h.2 c12
            refine am_aload_n hz1 dX11_keep_59 0 rfl rfl ?_
            refine am_getR hz1 fl_X11_66 (ln_0 hGq11) (lk_0 hGq11) (lr_0_7 hGq11) rfl dX11_keep_60 ?_
            refine am_cVf hz cv_X11_182 [] [] (c_X3_clear hGq11  ) (ln_41 hGq11) (lk_41 hGq11) rfl rfl rfl ⟨Nat.le_refl _, Nat.le_refl _⟩ (Nat.le_of_ble_eq_true rfl) dX11_keep_63 ?_
            refine am_aload_n hz1 dX11_keep_66 0 rfl rfl ?_
            refine am_dup hz1 dX11_keep_67 rfl ?_
            refine am_getI hz1 fl_X11_185 (ln_0 hGq11) (lk_0 hGq11) rfl dX11_keep_68 ?_
            refine am_iconst (v := 1) hz1 dX11_keep_71 (by decide) ?_
            refine am_iadd hz1 dX11_keep_72 ?_
            refine am_putI hz1 fl_X11_185 (ln_0 hGq11) (lk_0 hGq11) rfl rfl (fun _ => rfl) dX11_keep_73 ?_
            refine am_aload_n hz1 dX11_keep_76 0 rfl rfl ?_
            refine am_getR hz1 fl_X11_21 (ln_0 hGq11) (lk_0 hGq11) (lr_0_2 hGq11) rfl dX11_keep_77 ?_
            refine am_getI hz1 fl_X11_129 (ln_3 hGq11) (lk_3 hGq11) rfl dX11_keep_80 ?_
            exact am_ireturn hz dX11_keep_83 h
      · replace h := h.2 c4
        refine am_aald hz1 (t := 3) (kd := 53) rfl (by decide) (ln_19 hG) (lk_19 hG) (by rw [(ll_19 hG)]; exact g3) (by rw [c4]; exact lr_19_1 hG) dX11_keep_16 ?_
        refine am_aload_n hz1 dX11_keep_17 0 rfl rfl ?_
        refine am_getR hz1 fl_X11_21 (ln_0 hG) (lk_0 hG) (lr_0_2 hG) rfl dX11_keep_18 ?_
        refine am_getI hz1 fl_X11_129 (ln_3 hG) (lk_3 hG) rfl dX11_keep_21 ?_
        refine am_aload_n hz1 dX11_keep_24 0 rfl rfl ?_
        refine am_getR hz1 fl_X11_21 (ln_0 hG) (lk_0 hG) (lr_0_2 hG) rfl dX11_keep_25 ?_
        refine am_getR hz1 fl_X11_130 (ln_3 hG) (lk_3 hG) (lr_3_1 hG) rfl dX11_keep_28 ?_
        obtain ⟨g13, h⟩ := h
        obtain ⟨g14, h⟩ := h
        refine am_cVf hz cv_X11_134 [.int (I 3 0), .ref ((zB z).size + 4)] [] (c_X4_copy hG isO_27 (ln_4 hG) (lk_4 hG) (ll_4 hG) (I 3 0) g13 g14) (ln_27 hG) (lk_27 hG) rfl rfl rfl ⟨Nat.le_refl _, Nat.le_refl _⟩ (Nat.le_of_ble_eq_true rfl) dX11_keep_31 ?_
        refine am_aload_n hz1 dX11_keep_34 0 rfl rfl ?_
        refine am_getR hz1 fl_X11_37 (ln_0 hG) (lk_0 hG) (lr_0_4 hG) rfl dX11_keep_35 ?_
        refine am_iload_n hz1 dX11_keep_38 1 rfl rfl ?_
        obtain ⟨g15, h⟩ := h
        rcases in2 g15 with c16 | c16
        · replace h := h.1 c16
          refine am_aald hz1 (t := 3) (kd := 53) rfl (by decide) (ln_19 hG) (lk_19 hG) (by rw [(ll_19 hG)]; exact g15) (by rw [c16]; exact lr_19_0 hG) dX11_keep_39 ?_
          obtain ⟨dq17, postq17, hdq17, hMq17, h⟩ := h
          refine am_callV hz1 cv_X11_176 [] [] hMq17 (ln_20 hG) (lk_20 hG) rfl rfl (hz.fr hdq17) (hz.lo hdq17) (by rw [hz.2.1]; exact ⟨Nat.le_refl _, Nat.le_refl _⟩) (Nat.le_of_ble_eq_true rfl) dX11_keep_40 (fun roq17 Gq17 Iq17 Lq17 hpq17 => ?_)
          obtain ⟨rfl, hGq17, h⟩ := h roq17 Gq17 Iq17 Lq17 hpq17
          refine am_aload_n hz1 dX11_keep_43 0 rfl rfl ?_
          refine am_dup hz1 dX11_keep_44 rfl ?_
          refine am_getI hz1 fl_X11_179 (ln_0 hGq17) (lk_0 hGq17) rfl dX11_keep_45 ?_
          refine am_iconst (v := 1) hz1 dX11_keep_48 (by decide) ?_
          refine am_iload_n hz1 dX11_keep_49 1 rfl rfl ?_
          refine am_ishl hz1 dX11_keep_50 ?_
          refine am_ior hz1 dX11_keep_51 ?_
          refine am_putI hz1 fl_X11_179 (ln_0 hGq17) (lk_0 hGq17) rfl rfl (fun _ => rfl) dX11_keep_52 ?_
          refine am_iload_n hz1 dX11_keep_55 1 rfl rfl ?_
          refine am_if_ne (tgt := 76) hz1 dX11_keep_56 (by decide) (fun c18 => ?_) (fun c18 => ?_)
          · replace h := h.1 c18
            refine am_aload_n hz1 dX11_keep_76 0 rfl rfl ?_
            refine am_getR hz1 fl_X11_21 (ln_0 hGq17) (lk_0 hGq17) (lr_0_2 hGq17) rfl dX11_keep_77 ?_
            refine am_getI hz1 fl_X11_129 (ln_3 hGq17) (lk_3 hGq17) rfl dX11_keep_80 ?_
            exact am_ireturn hz dX11_keep_83 h
          · replace h := h.2 c18
            refine am_aload_n hz1 dX11_keep_59 0 rfl rfl ?_
            refine am_getR hz1 fl_X11_66 (ln_0 hGq17) (lk_0 hGq17) (lr_0_7 hGq17) rfl dX11_keep_60 ?_
            refine am_cVf hz cv_X11_182 [] [] (c_X3_clear hGq17  ) (ln_41 hGq17) (lk_41 hGq17) rfl rfl rfl ⟨Nat.le_refl _, Nat.le_refl _⟩ (Nat.le_of_ble_eq_true rfl) dX11_keep_63 ?_
            refine am_aload_n hz1 dX11_keep_66 0 rfl rfl ?_
            refine am_dup hz1 dX11_keep_67 rfl ?_
            refine am_getI hz1 fl_X11_185 (ln_0 hGq17) (lk_0 hGq17) rfl dX11_keep_68 ?_
            refine am_iconst (v := 1) hz1 dX11_keep_71 (by decide) ?_
            refine am_iadd hz1 dX11_keep_72 ?_
            refine am_putI hz1 fl_X11_185 (ln_0 hGq17) (lk_0 hGq17) rfl rfl (fun _ => rfl) dX11_keep_73 ?_
            refine am_aload_n hz1 dX11_keep_76 0 rfl rfl ?_
            refine am_getR hz1 fl_X11_21 (ln_0 hGq17) (lk_0 hGq17) (lr_0_2 hGq17) rfl dX11_keep_77 ?_
            refine am_getI hz1 fl_X11_129 (ln_3 hGq17) (lk_3 hGq17) rfl dX11_keep_80 ?_
            exact am_ireturn hz dX11_keep_83 h
        · replace h := h.2 c16
          refine am_aald hz1 (t := 3) (kd := 53) rfl (by decide) (ln_19 hG) (lk_19 hG) (by rw [(ll_19 hG)]; exact g15) (by rw [c16]; exact lr_19_1 hG) dX11_keep_39 ?_
          obtain ⟨dq19, postq19, hdq19, hMq19, h⟩ := h
          refine am_callV hz1 cv_X11_176 [] [] hMq19 (ln_27 hG) (lk_27 hG) rfl rfl (hz.fr hdq19) (hz.lo hdq19) (by rw [hz.2.1]; exact ⟨Nat.le_refl _, Nat.le_refl _⟩) (Nat.le_of_ble_eq_true rfl) dX11_keep_40 (fun roq19 Gq19 Iq19 Lq19 hpq19 => ?_)
          obtain ⟨rfl, hGq19, h⟩ := h roq19 Gq19 Iq19 Lq19 hpq19
          refine am_aload_n hz1 dX11_keep_43 0 rfl rfl ?_
          refine am_dup hz1 dX11_keep_44 rfl ?_
          refine am_getI hz1 fl_X11_179 (ln_0 hGq19) (lk_0 hGq19) rfl dX11_keep_45 ?_
          refine am_iconst (v := 1) hz1 dX11_keep_48 (by decide) ?_
          refine am_iload_n hz1 dX11_keep_49 1 rfl rfl ?_
          refine am_ishl hz1 dX11_keep_50 ?_
          refine am_ior hz1 dX11_keep_51 ?_
          refine am_putI hz1 fl_X11_179 (ln_0 hGq19) (lk_0 hGq19) rfl rfl (fun _ => rfl) dX11_keep_52 ?_
          refine am_iload_n hz1 dX11_keep_55 1 rfl rfl ?_
          refine am_if_ne (tgt := 76) hz1 dX11_keep_56 (by decide) (fun c20 => ?_) (fun c20 => ?_)
          · replace h := h.1 c20
            refine am_aload_n hz1 dX11_keep_76 0 rfl rfl ?_
            refine am_getR hz1 fl_X11_21 (ln_0 hGq19) (lk_0 hGq19) (lr_0_2 hGq19) rfl dX11_keep_77 ?_
            refine am_getI hz1 fl_X11_129 (ln_3 hGq19) (lk_3 hGq19) rfl dX11_keep_80 ?_
            exact am_ireturn hz dX11_keep_83 h
          · replace h := h.2 c20
            refine am_aload_n hz1 dX11_keep_59 0 rfl rfl ?_
            refine am_getR hz1 fl_X11_66 (ln_0 hGq19) (lk_0 hGq19) (lr_0_7 hGq19) rfl dX11_keep_60 ?_
            refine am_cVf hz cv_X11_182 [] [] (c_X3_clear hGq19  ) (ln_41 hGq19) (lk_41 hGq19) rfl rfl rfl ⟨Nat.le_refl _, Nat.le_refl _⟩ (Nat.le_of_ble_eq_true rfl) dX11_keep_63 ?_
            refine am_aload_n hz1 dX11_keep_66 0 rfl rfl ?_
            refine am_dup hz1 dX11_keep_67 rfl ?_
            refine am_getI hz1 fl_X11_185 (ln_0 hGq19) (lk_0 hGq19) rfl dX11_keep_68 ?_
            refine am_iconst (v := 1) hz1 dX11_keep_71 (by decide) ?_
            refine am_iadd hz1 dX11_keep_72 ?_
            refine am_putI hz1 fl_X11_185 (ln_0 hGq19) (lk_0 hGq19) rfl rfl (fun _ => rfl) dX11_keep_73 ?_
            refine am_aload_n hz1 dX11_keep_76 0 rfl rfl ?_
            refine am_getR hz1 fl_X11_21 (ln_0 hGq19) (lk_0 hGq19) (lr_0_2 hGq19) rfl dX11_keep_77 ?_
            refine am_getI hz1 fl_X11_129 (ln_3 hGq19) (lk_3 hGq19) rfl dX11_keep_80 ?_
            exact am_ireturn hz dX11_keep_83 h
    · replace h := h.2 c2
      refine am_iconst (v := (-1)) hz1 dX11_keep_9 (by decide) ?_
      exact am_ireturn hz dX11_keep_10 h
set_option maxRecDepth 100000 in
set_option maxHeartbeats 4000000 in
theorem c_X11_keep {l : Launch} {D : va_G} {B : Heap} {G : amG} {I : amI} {L : amL}  (hG : Lay G)  (v1 : Int32) {s : St} (hs : CO s G I L) (hw : WF s) : Mx l D B yX11_keep cX11_keep 2 (some .int) 3 0 0 [.ref (B.size + 0), .int v1] G I L (CA (xKeep s v1).2 (xKeep s v1).1 G I L) := by
  refine Mx.of (by decide) rfl rfl (fun z e1 e2 e3 hz => ?_)
  subst e1; subst e2; subst e3
  refine b_X11_keep_0 hz hG ?_
  have hO := hs.2.1.1
  have h16 := hO.2.2.1
  have h1n := hO.2.1
  have hP := hO.2.2.2.2.2.1
  obtain ⟨_, _, _, pP, e0, a0, a1, b14, _, _⟩ := id hs.2.1
  have no : ¬ (v1 = 0) → ¬ (v1 = 1) → xKeep s v1 = (-1, s) := fun a b => by rw [xKeep, if_neg a, if_neg b]
  refine ⟨fun h => by rw [no (by rintro rfl; exact absurd h (by decide)) (by rintro rfl; exact absurd h (by decide))]; exact CA_no hs rfl, fun h => ⟨fun h2 => ?_, fun h2 => by rw [no (by rintro rfl; exact absurd (by decide) h2) (by rintro rfl; exact absurd (by decide) h2)]; exact CA_no hs rfl⟩⟩
  have hv := lt2 h h2
  have hin : vp_in v1 2 := by rcases hv with e | e <;> (rw [e]; exact in_nI (by decide) (by decide))
  refine ⟨hin, fun y0 => ⟨by decide, by decide, hin, fun _ => ?_, fun y1 => by rw [y0] at y1; exact absurd y1 (by decide)⟩, fun y1 => ⟨by decide, by decide, hin, fun y0 => by rw [y0] at y1; exact absurd y1 (by decide), fun _ => ?_⟩⟩
  · obtain ⟨c0, c4, co⟩ := copy_f (I := I) (o := 20) (p := 4) h1n h16 hO.1 (by decide) (by decide) (A := rA (sC s)) (fun x hx => hO.2.2.2.1 x hx)
    generalize q_copy I 20 (I 3 0) 4 = I2 at c0 c4 co ⊢
    refine ⟨2, _, rfl, c_X4_derive hG (Or.inr (Or.inr (Or.inl rfl))) c0 h1n h16 (PO_c (fun x hx => by rw [c4 x (by omega), if_pos hx]) hP), fun ro2 G2 I3 L2 ⟨r1, r2, r3, r4, r5⟩ => ⟨r1, by rw [r2]; exact hG, fun n0 => absurd y0 n0, fun _ => ?_⟩⟩
    have hO3 := OI_derive c0 h1n h16 c4 hP r4 r5
    have o3 : ∀ q, (q < 20 ∨ 26 < q) → I3 q = I q := fun q hq => by rw [r4 q (fun j a b => by omega), co q (by omega) (by omega)]
    rw [r2, r3]
    rw [y0, xKeep, if_pos rfl]
    have k0 : (setI (setI (setI I3 0 (upd (I3 0) 14 ((I3 0 14) ||| ((1 : Int32) <<< ((0 : Int32) &&& 31))))) 42 (q_fill ((setI I3 0 (upd (I3 0) 14 ((I3 0 14) ||| ((1 : Int32) <<< ((0 : Int32) &&& 31))))) 42) 16 (-1))) 0 (upd ((setI (setI I3 0 (upd (I3 0) 14 ((I3 0 14) ||| ((1 : Int32) <<< ((0 : Int32) &&& 31))))) 42 (q_fill ((setI I3 0 (upd (I3 0) 14 ((I3 0 14) ||| ((1 : Int32) <<< ((0 : Int32) &&& 31))))) 42) 16 (-1))) 0) 15 (((setI (setI I3 0 (upd (I3 0) 14 ((I3 0 14) ||| ((1 : Int32) <<< ((0 : Int32) &&& 31))))) 42 (q_fill ((setI I3 0 (upd (I3 0) 14 ((I3 0 14) ||| ((1 : Int32) <<< ((0 : Int32) &&& 31))))) 42) 16 (-1))) 0 15) + (1 : Int32)))) 0 14 = I 0 14 ||| ((1 : Int32) <<< (nI 0 &&& 31)) := by
      rw [setI_s, upd_n (by decide), setI_n (by decide), setI_s, upd_s, o3 0 (by omega)]; rfl
    have k15 : (setI (setI (setI I3 0 (upd (I3 0) 14 ((I3 0 14) ||| ((1 : Int32) <<< ((0 : Int32) &&& 31))))) 42 (q_fill ((setI I3 0 (upd (I3 0) 14 ((I3 0 14) ||| ((1 : Int32) <<< ((0 : Int32) &&& 31))))) 42) 16 (-1))) 0 (upd ((setI (setI I3 0 (upd (I3 0) 14 ((I3 0 14) ||| ((1 : Int32) <<< ((0 : Int32) &&& 31))))) 42 (q_fill ((setI I3 0 (upd (I3 0) 14 ((I3 0 14) ||| ((1 : Int32) <<< ((0 : Int32) &&& 31))))) 42) 16 (-1))) 0) 15 (((setI (setI I3 0 (upd (I3 0) 14 ((I3 0 14) ||| ((1 : Int32) <<< ((0 : Int32) &&& 31))))) 42 (q_fill ((setI I3 0 (upd (I3 0) 14 ((I3 0 14) ||| ((1 : Int32) <<< ((0 : Int32) &&& 31))))) 42) 16 (-1))) 0 15) + (1 : Int32)))) 0 15 = sE s + 1 := by
      rw [setI_s, upd_s, setI_n (by decide), setI_s, upd_n (by decide), o3 0 (by omega), e0]
    have k42 : ∀ x, x < 16 → (setI (setI (setI I3 0 (upd (I3 0) 14 ((I3 0 14) ||| ((1 : Int32) <<< ((0 : Int32) &&& 31))))) 42 (q_fill ((setI I3 0 (upd (I3 0) 14 ((I3 0 14) ||| ((1 : Int32) <<< ((0 : Int32) &&& 31))))) 42) 16 (-1))) 0 (upd ((setI (setI I3 0 (upd (I3 0) 14 ((I3 0 14) ||| ((1 : Int32) <<< ((0 : Int32) &&& 31))))) 42 (q_fill ((setI I3 0 (upd (I3 0) 14 ((I3 0 14) ||| ((1 : Int32) <<< ((0 : Int32) &&& 31))))) 42) 16 (-1))) 0) 15 (((setI (setI I3 0 (upd (I3 0) 14 ((I3 0 14) ||| ((1 : Int32) <<< ((0 : Int32) &&& 31))))) 42 (q_fill ((setI I3 0 (upd (I3 0) 14 ((I3 0 14) ||| ((1 : Int32) <<< ((0 : Int32) &&& 31))))) 42) 16 (-1))) 0 15) + (1 : Int32)))) 42 x = -1 := fun x hx => by
      rw [setI_n (by decide), setI_s, q_fill, if_pos hx]
    have ko : ∀ q, q ≠ 0 → q ≠ 42 → (setI (setI (setI I3 0 (upd (I3 0) 14 ((I3 0 14) ||| ((1 : Int32) <<< ((0 : Int32) &&& 31))))) 42 (q_fill ((setI I3 0 (upd (I3 0) 14 ((I3 0 14) ||| ((1 : Int32) <<< ((0 : Int32) &&& 31))))) 42) 16 (-1))) 0 (upd ((setI (setI I3 0 (upd (I3 0) 14 ((I3 0 14) ||| ((1 : Int32) <<< ((0 : Int32) &&& 31))))) 42 (q_fill ((setI I3 0 (upd (I3 0) 14 ((I3 0 14) ||| ((1 : Int32) <<< ((0 : Int32) &&& 31))))) 42) 16 (-1))) 0) 15 (((setI (setI I3 0 (upd (I3 0) 14 ((I3 0 14) ||| ((1 : Int32) <<< ((0 : Int32) &&& 31))))) 42 (q_fill ((setI I3 0 (upd (I3 0) 14 ((I3 0 14) ||| ((1 : Int32) <<< ((0 : Int32) &&& 31))))) 42) 16 (-1))) 0 15) + (1 : Int32)))) q = I3 q := fun q p1 p2 => by rw [setI_n p1, setI_n p2, setI_n p1]
    generalize (setI (setI (setI I3 0 (upd (I3 0) 14 ((I3 0 14) ||| ((1 : Int32) <<< ((0 : Int32) &&& 31))))) 42 (q_fill ((setI I3 0 (upd (I3 0) 14 ((I3 0 14) ||| ((1 : Int32) <<< ((0 : Int32) &&& 31))))) 42) 16 (-1))) 0 (upd ((setI (setI I3 0 (upd (I3 0) 14 ((I3 0 14) ||| ((1 : Int32) <<< ((0 : Int32) &&& 31))))) 42 (q_fill ((setI I3 0 (upd (I3 0) 14 ((I3 0 14) ||| ((1 : Int32) <<< ((0 : Int32) &&& 31))))) 42) 16 (-1))) 0) 15 (((setI (setI I3 0 (upd (I3 0) 14 ((I3 0 14) ||| ((1 : Int32) <<< ((0 : Int32) &&& 31))))) 42 (q_fill ((setI I3 0 (upd (I3 0) 14 ((I3 0 14) ||| ((1 : Int32) <<< ((0 : Int32) &&& 31))))) 42) 16 (-1))) 0 15) + (1 : Int32)))) = I4 at k0 k15 k42 ko ⊢
    have hb : ∀ i, i < 32 → bt (I4 0 14) i = (bt (I 0 14) i || decide (i = 0)) := fun i hi => by rw [k0, bit_on (by decide) hi]
    have := CO_kp (I3 := I4) (h0 := kpS s) (h1 := s1 s) (P := fun _ => -1) (e' := sE s + 1) hs rfl (fun q a p1 p2 => by rw [ko q p1 p2, o3 q (by omega)]) (Or.inr ⟨OI_20 hO3 (fun q a b => ko q (by omega) (by omega)), by rw [hb 0 (by decide)]; simp⟩) (by
      rcases a1 with ⟨p, q⟩ | ⟨p, q⟩
      · exact Or.inl ⟨p, by rw [hb 1 (by decide), q]; rfl⟩
      · exact Or.inr ⟨OI_20 p (fun q a b => by rw [ko q (by omega) (by omega), o3 q (by omega)]), by rw [hb 1 (by decide), q]; rfl⟩) (fun i p1 p2 => by rw [hb i p2, b14 i p1 p2, decide_eq_false (by omega)]; rfl) k15 k42
    exact ⟨by rw [ko 3 (by decide) (by decide), o3 3 (by omega), hO.1], this.1, this.2, rfl⟩
  · obtain ⟨c0, c4, co⟩ := copy_f (I := I) (o := 27) (p := 4) h1n h16 hO.1 (by decide) (by decide) (A := rA (sC s)) (fun x hx => hO.2.2.2.1 x hx)
    generalize q_copy I 27 (I 3 0) 4 = I2 at c0 c4 co ⊢
    refine ⟨2, _, rfl, c_X4_derive hG (Or.inr (Or.inr (Or.inr rfl))) c0 h1n h16 (PO_c (fun x hx => by rw [c4 x (by omega), if_pos hx]) hP), fun ro2 G2 I3 L2 ⟨r1, r2, r3, r4, r5⟩ => ⟨r1, by rw [r2]; exact hG, fun _ => ?_, fun y0 => by rw [y0] at y1; exact absurd y1 (by decide)⟩⟩
    have hO3 := OI_derive c0 h1n h16 c4 hP r4 r5
    have o3 : ∀ q, (q < 27 ∨ 33 < q) → I3 q = I q := fun q hq => by rw [r4 q (fun j a b => by omega), co q (by omega) (by omega)]
    rw [r2, r3]
    rw [y1, xKeep, if_neg (by decide), if_pos rfl]
    have hb : ∀ i, i < 32 → bt ((setI I3 0 (upd (I3 0) 14 ((I3 0 14) ||| ((1 : Int32) <<< ((1 : Int32) &&& 31))))) 0 14) i = (bt (I 0 14) i || decide (i = 1)) := fun i hi => by
      rw [setI_s, upd_s, o3 0 (by omega)]; exact bit_on (j := 1) (by decide) hi
    have ko : ∀ q, q ≠ 0 → (setI I3 0 (upd (I3 0) 14 ((I3 0 14) ||| ((1 : Int32) <<< ((1 : Int32) &&& 31))))) q = I3 q := fun q p1 => setI_n p1
    have k15 : (setI I3 0 (upd (I3 0) 14 ((I3 0 14) ||| ((1 : Int32) <<< ((1 : Int32) &&& 31))))) 0 15 = sE s := by rw [setI_s, upd_n (by decide), o3 0 (by omega), e0]
    generalize (setI I3 0 (upd (I3 0) 14 ((I3 0 14) ||| ((1 : Int32) <<< ((1 : Int32) &&& 31))))) = I4 at hb ko k15 ⊢
    have := CO_kp (s' := (sC s, s0 s, kpS s, sE s, sT s, sH s)) (I3 := I4) (h0 := s0 s) (h1 := kpS s) (P := rP (sC s)) (e' := sE s) hs (by rw [← hw.2.1]) (fun q a p1 p2 => by rw [ko q p1, o3 q (by omega)]) (by
      rcases a0 with ⟨p, q⟩ | ⟨p, q⟩
      · exact Or.inl ⟨p, by rw [hb 0 (by decide), q]; rfl⟩
      · exact Or.inr ⟨OI_20 p (fun q a b => by rw [ko q (by omega), o3 q (by omega)]), by rw [hb 0 (by decide), q]; rfl⟩) (Or.inr ⟨OI_20 hO3 (fun q a b => ko q (by omega)), by rw [hb 1 (by decide)]; simp⟩) (fun i p1 p2 => by rw [hb i p2, b14 i p1 p2, decide_eq_false (by omega)]; rfl) k15 (fun x hx => by rw [ko 42 (by decide), o3 42 (by omega)]; exact pP x hx)
    exact ⟨by rw [ko 3 (by decide), o3 3 (by omega), hO.1], this.1, this.2, rfl⟩
