/-! THE CLASS: acts, first part -/
def CA (s1 : St) (v : Int32) (G : amG) (I : amI) (L : amL) : amP := fun r G1 I1 L1 => r = some (.int v) ∧ CO s1 G1 I1 L1 ∧ frK I L I1 L1 ∧ wl G1 = wl G
theorem CA_no {s : St} {G : amG} {I : amI} {L : amL} {v w : Int32} (hs : CO s G I L) (h : v = w) : CA s w G I L (some (.int v)) G I L := ⟨by rw [h], hs, frK_r, rfl⟩
/-- the same order; functions, data, map as told -/
theorem CO_w {s : St} {r : Row} {G : amG} {I I1 : amI} {L L1 : amL} (h : CO s G I L) (hn : rN r = rN (sC s)) (hA : rA r = rA (sC s)) (eI : ∀ q, q ≠ 34 → q ≠ 42 → I1 q = I q) (eL : ∀ q, (q < 34 ∨ 40 < q) → q ≠ 44 → q ≠ 45 → q ≠ 63 → L1 q = L q) (h36 : ∀ k, k < 1024 → L1 36 k = rF r k) (h40 : ∀ a, a < 16 → L1 40 a = rD r a) (h42 : ∀ x, x < 16 → I1 42 x = rP r x) : CO (withC s r) G I1 L1 ∧ frK I L I1 L1 := by
  obtain ⟨h1, ⟨o, f, d, p, e, a0, a1, b, t1, t2⟩, h3, h4, h5⟩ := h
  refine ⟨⟨h1, ⟨?_, h36, h40, h42, ?_, ?_, ?_, ?_, ?_, ?_⟩, ?_, CR_c h4 (eI 61 (by decide) (by decide)) (fun q hq => eI q (by omega) (by omega)) (fun q hq => eL q (by omega) (by omega) (by omega) (by omega)), h5⟩, fun q p1 p2 => ⟨eI q (by omega) (by omega), eL q (by omega) (by omega) (by omega) (by omega)⟩⟩
  · show OI I1 3 (rN r) (rA r)
    rw [hn, hA]
    exact OI_20 o (fun q a b => eI q (by omega) (by omega))
  · rw [eI 0 (by decide) (by decide)]; exact e
  · exact shC_c a0 (by rw [eI 0 (by decide) (by decide)]) (fun q a b => eI q (by omega) (by omega))
  · exact shC_c a1 (by rw [eI 0 (by decide) (by decide)]) (fun q a b => eI q (by omega) (by omega))
  · rw [eI 0 (by decide) (by decide)]; exact b
  · rw [eI 1 (by decide) (by decide)]; exact t1
  · rw [eI 2 (by decide) (by decide)]; exact t2
  · have := CK_c h3 (I1 := I1) (L1 := L1) (fun q a b => eI q (by omega) (by omega)) (eL 56 (by omega) (by decide) (by decide) (by decide)) (eL 57 (by omega) (by decide) (by decide) (by decide))
    unfold CK at this ⊢
    show (_ ∨ LK I1 (rN r) (rA r)) ∧ (_ ∨ DK L1 (rN r) (rA r)) ∧ (_ ∨ L1 56 7 = eF (rN r) (rA r) (rN r) (fun _ => true))
    rw [hn, hA]; exact this
/-- rows that are worked in -/
theorem CO_v {s : St} {G : amG} {I I1 : amI} {L L1 : amL} (h : CO s G I L) (eI : ∀ q, q ≠ 34 → I1 q = I q) (eL : ∀ q, q ≠ 34 → q ≠ 37 → q ≠ 38 → q ≠ 39 → q ≠ 44 → q ≠ 45 → q ≠ 63 → L1 q = L q) : CO s G I1 L1 ∧ frK I L I1 L1 :=
  CO_w (r := sC s) h rfl rfl (fun q a _ => eI q a) (fun q a b c d => eL q (by omega) (by omega) (by omega) (by omega) b c d) (fun k hk => by rw [eL 36 (by decide) (by decide) (by decide) (by decide) (by decide) (by decide) (by decide)]; exact h.2.1.2.1 k hk) (fun a ha => by rw [eL 40 (by decide) (by decide) (by decide) (by decide) (by decide) (by decide) (by decide)]; exact h.2.1.2.2.1 a ha) (fun x hx => by rw [eI 42 (by decide)]; exact h.2.1.2.2.2.1 x hx)
/-- behind a row that is remembered, the same order -/
theorem act_w {s : St} {r : Row} {G G1 : amG} {I I1 I2 : amI} {L L1 L2 : amL} {ro : Option Value} {v : Int32} (hm : rmP s G I L ro G1 I1 L1) (hn : rN r = rN (sC s)) (hA : rA r = rA (sC s)) (eI : ∀ q, q ≠ 42 → I2 q = I1 q) (eL : ∀ q, q ≠ 36 → q ≠ 40 → L2 q = L1 q) (h36 : ∀ k, k < 1024 → L2 36 k = rF r k) (h40 : ∀ a, a < 16 → L2 40 a = rD r a) (h42 : ∀ x, x < 16 → I2 42 x = rP r x) : CA (withC (pushS s) r) v G I L (some (.int v)) G1 I2 L2 := by
  obtain ⟨m1, m2, m3, m4, m5⟩ := hm
  have := CO_w (s := pushS s) (r := r) (I1 := I2) (L1 := L2) m2 hn hA (fun q _ a => eI q a) (fun q a _ _ _ => eL q (by omega) (by omega)) h36 h40 h42
  exact ⟨rfl, this.1, fun q a b => ⟨by rw [eI q (by omega), m3 q b (by omega)], by rw [eL q (by omega) (by omega), m4 q b]⟩, m5⟩
theorem rm_36 {s : St} {G G1 : amG} {I I1 : amI} {L L1 : amL} {ro : Option Value} (hm : rmP s G I L ro G1 I1 L1) : ∀ k, k < 1024 → L1 36 k = rF (sC s) k := hm.2.1.2.1.2.1
theorem rm_40 {s : St} {G G1 : amG} {I I1 : amI} {L L1 : amL} {ro : Option Value} (hm : rmP s G I L ro G1 I1 L1) : ∀ k, k < 16 → L1 40 k = rD (sC s) k := hm.2.1.2.1.2.2.1
theorem rm_42 {s : St} {G G1 : amG} {I I1 : amI} {L L1 : amL} {ro : Option Value} (hm : rmP s G I L ro G1 I1 L1) : ∀ k, k < 16 → I1 42 k = rP (sC s) k := hm.2.1.2.1.2.2.2.1
set_option maxRecDepth 100000 in
set_option maxHeartbeats 4000000 in
theorem b_X11_data_0 {z : amZ} {ce sl mc ms : Nat} {post : amP} {G : amG} {I : amI} {L : amL} (hz : Go z cX11_data RX11 4 (some .int) 4 mc ms post) (hce : ce ≤ mc ∧ sl ≤ ms) (hG : Lay G) {v1 : Int32} {v2 : Int64} (h : ((q_has I 3 v1 = true) → vp_in v1 16 ∧ ((¬ (L 40 v1.toNatClampNeg) = v2) → ∃ (dq4 mcq4 msq4 : Nat) (postq4 : amP), Nat.ble (dq4 + 1) 4 = true ∧ (ce + mcq4 ≤ mc ∧ sl + msq4 ≤ ms) ∧ Mx (zL z) (zD z) (zB z) yX11_remember cX11_remember 2 none dq4 mcq4 msq4 [.ref ((zB z).size + 0)] G I L postq4 ∧ ∀ (roq4 : Option Value) (Gq4 : amG) (Iq4 : amI) (Lq4 : amL), postq4 roq4 Gq4 Iq4 Lq4 → roq4 = none ∧ Lay Gq4 ∧ vp_in v1 16 ∧ post (some (.int 1)) Gq4 Iq4 (setL Lq4 40 (vp_updL (Lq4 40) v1.toNatClampNeg v2))) ∧ (((L 40 v1.toNatClampNeg) = v2) → post (some (.int (-2))) G I L)) ∧ ((q_has I 3 v1 = false) → post (some (.int (-1))) G I L)) : Wx z ce sl 0 [(0, .ref ((zB z).size + 0)), (1, .int v1), (2, .long v2)] [] G I L := by
  have hz1 := hz.1
  refine am_aload_n hz1 dX11_data_0 0 rfl rfl ?_
  refine am_getR hz1 fl_X11_21 (ln_0 hG) (lk_0 hG) (lr_0_2 hG) rfl dX11_data_1 ?_
  refine am_iload_n hz1 dX11_data_4 1 rfl rfl ?_
  refine am_cVf hz cv_X11_118 [.int v1] [] (c_X4_has hG isO_3 v1 ) (ln_3 hG) (lk_3 hG) rfl rfl rfl hce (Nat.le_of_ble_eq_true rfl) dX11_data_5 ?_
  refine am_ifb_ne (tgt := 13) hz1 dX11_data_8 (by decide) (fun c1 => ?_) (fun c1 => ?_)
  · replace h := h.1 c1
    refine am_aload_n hz1 dX11_data_13 0 rfl rfl ?_
    refine am_getR hz1 fl_X11_57 (ln_0 hG) (lk_0 hG) (lr_0_6 hG) rfl dX11_data_14 ?_
    refine am_iload_n hz1 dX11_data_17 1 rfl rfl ?_
    obtain ⟨g2, h⟩ := h
    refine am_lald hz1 (ln_40 hG) (lk_40 hG) (by rw [(ll_40 hG)]; exact g2) dX11_data_18 ?_
    refine am_lload_n hz1 dX11_data_19 2 rfl rfl ?_
    refine am_lif_ne (tgt := 27) hz1 dX11_data_20 dX11_data_21 (by decide) (fun c3 => ?_) (fun c3 => ?_)
    · replace h := h.1 c3
      refine am_aload_n hz1 dX11_data_27 0 rfl rfl ?_
      obtain ⟨dq4, mcq4, msq4, postq4, hdq4, hcq4, hMq4, h⟩ := h
      refine am_callV hz1 cv_X11_188 [] [] hMq4 (ln_0 hG) (lk_0 hG) rfl rfl (hz.fr hdq4) (hz.lo hdq4) (by rw [hz.2.1]; exact hcq4) (Nat.le_of_ble_eq_true rfl) dX11_data_28 (fun roq4 Gq4 Iq4 Lq4 hpq4 => ?_)
      obtain ⟨rfl, hGq4, h⟩ := h roq4 Gq4 Iq4 Lq4 hpq4
      refine am_aload_n hz1 dX11_data_31 0 rfl rfl ?_
      refine am_getR hz1 fl_X11_57 (ln_0 hGq4) (lk_0 hGq4) (lr_0_6 hGq4) rfl dX11_data_32 ?_
      refine am_iload_n hz1 dX11_data_35 1 rfl rfl ?_
      refine am_lload_n hz1 dX11_data_36 2 rfl rfl ?_
      obtain ⟨g5, h⟩ := h
      refine am_last hz1 (ln_40 hGq4) (lk_40 hGq4) (by rw [(ll_40 hGq4)]; exact g5) dX11_data_37 ?_
      refine am_iconst (v := 1) hz1 dX11_data_38 (by decide) ?_
      exact am_widen hcq4.1 hcq4.2 (am_ireturn hz dX11_data_39 h)
    · replace h := h.2 c3
      refine am_bipush (v := (-2)) hz1 dX11_data_24 (by decide) ?_
      exact am_widen hce.1 hce.2 (am_ireturn hz dX11_data_26 h)
  · replace h := h.2 c1
    refine am_iconst (v := (-1)) hz1 dX11_data_11 (by decide) ?_
    exact am_widen hce.1 hce.2 (am_ireturn hz dX11_data_12 h)
set_option maxRecDepth 100000 in
set_option maxHeartbeats 4000000 in
theorem c_X11_data {l : Launch} {D : va_G} {B : Heap} {G : amG} {I : amI} {L : amL}  (hG : Lay G)  (v1 : Int32) (v2 : Int64) {s : St} (hs : CO s G I L) (hw : WF s) : Mx l D B yX11_data cX11_data 4 (some .int) 4 5 1078 [.ref (B.size + 0), .int v1, .long v2] G I L (CA (xData s v1 v2).2 (xData s v1 v2).1 G I L) := by
  refine Mx.of (by decide) rfl rfl (fun z e1 e2 e3 hz => ?_)
  subst e1; subst e2; subst e3
  refine b_X11_data_0 hz ⟨Nat.zero_le _, Nat.zero_le _⟩ hG ?_
  have hO := hs.2.1.1
  have h16 := hO.2.2.1
  rw [hO.hasB]
  refine ⟨fun h => ?_, fun h => by rw [xData, if_neg (by rw [h]; decide)]; exact CA_no hs rfl⟩
  have hc := h
  obtain ⟨x, hx, rfl⟩ := (el_t (by omega)).mp h
  rw [cl_nI (by omega), hs.2.1.2.2.1 x (by omega)]
  refine ⟨in16 h16 hx, fun h2 => ⟨3, 5, 1078, _, rfl, ⟨by omega, by omega⟩, c_X11_remember hG hs hw, fun ro G1 I1 L1 hm => ⟨hm.1, hm.2.1.1, in16 h16 hx, ?_⟩⟩, fun h2 => ?_⟩
  · rw [xData, if_pos hc, cl_nI (by omega), if_neg h2]
    refine act_w hm rfl rfl (fun q _ => rfl) (fun q _ h40 => setL_n h40) (fun k hk => by rw [setL_n (by decide)]; exact rm_36 hm k hk) (fun a ha => ?_) (rm_42 hm)
    rw [setL_s]
    show _ = vp_updL (rD (sC s)) x v2 a
    by_cases e : a = x
    · rw [e, updL_s, updL_s]
    · rw [updL_n e, updL_n e]; exact rm_40 hm a ha
  · rw [xData, if_pos hc, cl_nI (by omega), if_pos h2]; exact CA_no hs rfl
set_option maxRecDepth 100000 in
set_option maxHeartbeats 4000000 in
theorem b_X11_point_0 {z : amZ} {ce sl mc ms : Nat} {post : amP} {G : amG} {I : amI} {L : amL} (hz : Go z cX11_point RX11 3 (some .int) 4 mc ms post) (hce : ce ≤ mc ∧ sl ≤ ms) (hG : Lay G) {v1 : Int32} {v2 : Int32} (h : ((q_has I 3 v1 = false) → post (some (.int (-1))) G I L) ∧ ((q_has I 3 v1 = true) → (((kpB I 0 && q_has I 20 v2) = true) → vp_in v1 16 ∧ ((¬ (I 42 v1.toNatClampNeg) = v2) → ∃ (dq5 mcq5 msq5 : Nat) (postq5 : amP), Nat.ble (dq5 + 1) 4 = true ∧ (ce + mcq5 ≤ mc ∧ sl + msq5 ≤ ms) ∧ Mx (zL z) (zD z) (zB z) yX11_remember cX11_remember 2 none dq5 mcq5 msq5 [.ref ((zB z).size + 0)] G I L postq5 ∧ ∀ (roq5 : Option Value) (Gq5 : amG) (Iq5 : amI) (Lq5 : amL), postq5 roq5 Gq5 Iq5 Lq5 → roq5 = none ∧ Lay Gq5 ∧ vp_in v1 16 ∧ post (some (.int 1)) Gq5 (setI Iq5 42 (upd (Iq5 42) v1.toNatClampNeg v2)) Lq5) ∧ (((I 42 v1.toNatClampNeg) = v2) → post (some (.int (-2))) G I L)) ∧ (((kpB I 0 && q_has I 20 v2) = false) → post (some (.int (-1))) G I L))) : Wx z ce sl 0 [(0, .ref ((zB z).size + 0)), (1, .int v1), (2, .int v2)] [] G I L := by
  have hz1 := hz.1
  refine am_aload_n hz1 dX11_point_0 0 rfl rfl ?_
  refine am_getR hz1 fl_X11_21 (ln_0 hG) (lk_0 hG) (lr_0_2 hG) rfl dX11_point_1 ?_
  refine am_iload_n hz1 dX11_point_4 1 rfl rfl ?_
  refine am_cVf hz cv_X11_118 [.int v1] [] (c_X4_has hG isO_3 v1 ) (ln_3 hG) (lk_3 hG) rfl rfl rfl hce (Nat.le_of_ble_eq_true rfl) dX11_point_5 ?_
  refine am_ifb_eq (tgt := 19) hz1 dX11_point_8 (by decide) (fun c1 => ?_) (fun c1 => ?_)
  · replace h := h.1 c1
    refine am_iconst (v := (-1)) hz1 dX11_point_19 (by decide) ?_
    exact am_widen hce.1 hce.2 (am_ireturn hz dX11_point_20 h)
  · replace h := h.2 c1
    refine am_aload_n hz1 dX11_point_11 0 rfl rfl ?_
    refine am_iload_n hz1 dX11_point_12 2 rfl rfl ?_
    refine am_cVf hz cv_X11_397 [.int v2] [] (c_X11_isThere hG v2 ) (ln_0 hG) (lk_0 hG) rfl rfl rfl hce (Nat.le_of_ble_eq_true rfl) dX11_point_13 ?_
    refine am_ifb_ne (tgt := 21) hz1 dX11_point_16 (by decide) (fun c2 => ?_) (fun c2 => ?_)
    · replace h := h.1 c2
      refine am_aload_n hz1 dX11_point_21 0 rfl rfl ?_
      refine am_getR hz1 fl_X11_66 (ln_0 hG) (lk_0 hG) (lr_0_7 hG) rfl dX11_point_22 ?_
      refine am_getR hz1 fl_X11_225 (ln_41 hG) (lk_41 hG) (lr_41_0 hG) rfl dX11_point_25 ?_
      refine am_iload_n hz1 dX11_point_28 1 rfl rfl ?_
      obtain ⟨g3, h⟩ := h
      refine am_iald hz1 (ln_42 hG) (lk_42 hG) (by rw [(ll_42 hG)]; exact g3) dX11_point_29 ?_
      refine am_iload_n hz1 dX11_point_30 2 rfl rfl ?_
      refine am_icmp_ne (tgt := 37) hz1 dX11_point_31 (by decide) (fun c4 => ?_) (fun c4 => ?_)
      · replace h := h.1 c4
        refine am_aload_n hz1 dX11_point_37 0 rfl rfl ?_
        obtain ⟨dq5, mcq5, msq5, postq5, hdq5, hcq5, hMq5, h⟩ := h
        refine am_callV hz1 cv_X11_188 [] [] hMq5 (ln_0 hG) (lk_0 hG) rfl rfl (hz.fr hdq5) (hz.lo hdq5) (by rw [hz.2.1]; exact hcq5) (Nat.le_of_ble_eq_true rfl) dX11_point_38 (fun roq5 Gq5 Iq5 Lq5 hpq5 => ?_)
        obtain ⟨rfl, hGq5, h⟩ := h roq5 Gq5 Iq5 Lq5 hpq5
        refine am_aload_n hz1 dX11_point_41 0 rfl rfl ?_
        refine am_getR hz1 fl_X11_66 (ln_0 hGq5) (lk_0 hGq5) (lr_0_7 hGq5) rfl dX11_point_42 ?_
        refine am_getR hz1 fl_X11_225 (ln_41 hGq5) (lk_41 hGq5) (lr_41_0 hGq5) rfl dX11_point_45 ?_
        refine am_iload_n hz1 dX11_point_48 1 rfl rfl ?_
        refine am_iload_n hz1 dX11_point_49 2 rfl rfl ?_
        obtain ⟨g6, h⟩ := h
        refine am_iast hz1 (ln_42 hGq5) (lk_42 hGq5) (by rw [(ll_42 hGq5)]; exact g6) dX11_point_50 ?_
        refine am_iconst (v := 1) hz1 dX11_point_51 (by decide) ?_
        exact am_widen hcq5.1 hcq5.2 (am_ireturn hz dX11_point_52 h)
      · replace h := h.2 c4
        refine am_bipush (v := (-2)) hz1 dX11_point_34 (by decide) ?_
        exact am_widen hce.1 hce.2 (am_ireturn hz dX11_point_36 h)
    · replace h := h.2 c2
      refine am_iconst (v := (-1)) hz1 dX11_point_19 (by decide) ?_
      exact am_widen hce.1 hce.2 (am_ireturn hz dX11_point_20 h)
set_option maxRecDepth 100000 in
set_option maxHeartbeats 4000000 in
theorem c_X11_point {l : Launch} {D : va_G} {B : Heap} {G : amG} {I : amI} {L : amL}  (hG : Lay G)  (v1 : Int32) (v2 : Int32) {s : St} (hs : CO s G I L) (hw : WF s) : Mx l D B yX11_point cX11_point 3 (some .int) 4 5 1078 [.ref (B.size + 0), .int v1, .int v2] G I L (CA (xPoint s v1 v2).2 (xPoint s v1 v2).1 G I L) := by
  refine Mx.of (by decide) rfl rfl (fun z e1 e2 e3 hz => ?_)
  subst e1; subst e2; subst e3
  refine b_X11_point_0 hz ⟨Nat.zero_le _, Nat.zero_le _⟩ hG ?_
  have hO := hs.2.1.1
  have h16 := hO.2.2.1
  rw [hO.hasB, th_C hs hw]
  refine ⟨fun h => by rw [xPoint, if_neg (by rw [h]; simp)]; exact CA_no hs rfl, fun h => ⟨fun h2 => ?_, fun h2 => by rw [xPoint, if_neg (by rw [h2]; simp)]; exact CA_no hs rfl⟩⟩
  have hc : (elB (rN (sC s)) v1 && elB (s0 s).1 v2) = true := by rw [h, h2]; rfl
  obtain ⟨x, hx, rfl⟩ := (el_t (by omega)).mp h
  rw [cl_nI (by omega), hs.2.1.2.2.2.1 x (by omega)]
  refine ⟨in16 h16 hx, fun h3 => ⟨3, 5, 1078, _, rfl, ⟨by omega, by omega⟩, c_X11_remember hG hs hw, fun ro G1 I1 L1 hm => ⟨hm.1, hm.2.1.1, in16 h16 hx, ?_⟩⟩, fun h3 => ?_⟩
  · rw [xPoint, if_pos hc, cl_nI (by omega), if_neg h3]
    refine act_w hm rfl rfl (fun q h42 => setI_n h42) (fun q _ h40 => rfl) (rm_36 hm) (rm_40 hm) (fun a ha => ?_)
    rw [setI_s]
    show _ = upd (rP (sC s)) x v2 a
    by_cases e : a = x
    · rw [e, upd_s, upd_s]
    · rw [upd_n e, upd_n e]; exact rm_42 hm a ha
  · rw [xPoint, if_pos hc, cl_nI (by omega), if_pos h3]; exact CA_no hs rfl
set_option maxRecDepth 100000 in
set_option maxHeartbeats 4000000 in
theorem b_X11_put_0 {z : amZ} {ce sl mc ms : Nat} {post : amP} {G : amG} {I : amI} {L : amL} (hz : Go z cX11_put RX11 5 (some .int) 4 mc ms post) (hce : ce ≤ mc ∧ sl ≤ ms) (hG : Lay G) {v1 : Int32} {v2 : Int32} {v3 : Int32} {v4 : Int32} (h : ((inR 3 v1 = false) → post (some (.int (-1))) G I L) ∧ ((inR 3 v1 = true) → (szOk I 3) ∧ ((q_atMost I 3 v2 v3 = true) → (vp_in (q_cell v1 v2 v3) 1024) ∧ ((¬ (L 36 (q_cell v1 v2 v3).toNatClampNeg) = v4.toInt64) → ∃ (dq6 mcq6 msq6 : Nat) (postq6 : amP), Nat.ble (dq6 + 1) 4 = true ∧ (ce + mcq6 ≤ mc ∧ sl + msq6 ≤ ms) ∧ Mx (zL z) (zD z) (zB z) yX11_remember cX11_remember 2 none dq6 mcq6 msq6 [.ref ((zB z).size + 0)] G I L postq6 ∧ ∀ (roq6 : Option Value) (Gq6 : amG) (Iq6 : amI) (Lq6 : amL), postq6 roq6 Gq6 Iq6 Lq6 → roq6 = none ∧ Lay Gq6 ∧ vp_in (q_cell v1 v2 v3) 1024 ∧ post (some (.int 1)) Gq6 Iq6 (setL Lq6 36 (vp_updL (Lq6 36) (q_cell v1 v2 v3).toNatClampNeg v4.toInt64))) ∧ (((L 36 (q_cell v1 v2 v3).toNatClampNeg) = v4.toInt64) → post (some (.int (-2))) G I L)) ∧ ((q_atMost I 3 v2 v3 = false) → post (some (.int (-1))) G I L))) : Wx z ce sl 0 [(0, .ref ((zB z).size + 0)), (1, .int v1), (2, .int v2), (3, .int v3), (4, .int v4)] [] G I L := by
  have hz1 := hz.1
  refine am_iload_n hz1 dX11_put_0 1 rfl rfl ?_
  refine am_cSf hz ct_X11_237 [.int v1] [] (c_X11_isFunction hG v1 ) rfl rfl rfl hce (Nat.le_of_ble_eq_true rfl) dX11_put_1 ?_
  refine am_ifb_eq (tgt := 19) hz1 dX11_put_4 (by decide) (fun c1 => ?_) (fun c1 => ?_)
  · replace h := h.1 c1
    refine am_iconst (v := (-1)) hz1 dX11_put_19 (by decide) ?_
    exact am_widen hce.1 hce.2 (am_ireturn hz dX11_put_20 h)
  · replace h := h.2 c1
    refine am_aload_n hz1 dX11_put_7 0 rfl rfl ?_
    refine am_getR hz1 fl_X11_21 (ln_0 hG) (lk_0 hG) (lr_0_2 hG) rfl dX11_put_8 ?_
    refine am_iload_n hz1 dX11_put_11 2 rfl rfl ?_
    refine am_iload_n hz1 dX11_put_12 3 rfl rfl ?_
    obtain ⟨g2, h⟩ := h
    refine am_cVf hz cv_X11_126 [.int v2, .int v3] [] (c_X4_atMost hG isO_3 v2 v3 g2) (ln_3 hG) (lk_3 hG) rfl rfl rfl hce (Nat.le_of_ble_eq_true rfl) dX11_put_13 ?_
    refine am_ifb_ne (tgt := 21) hz1 dX11_put_16 (by decide) (fun c3 => ?_) (fun c3 => ?_)
    · replace h := h.1 c3
      refine am_aload_n hz1 dX11_put_21 0 rfl rfl ?_
      refine am_getR hz1 fl_X11_53 (ln_0 hG) (lk_0 hG) (lr_0_5 hG) rfl dX11_put_22 ?_
      refine am_iload_n hz1 dX11_put_25 1 rfl rfl ?_
      refine am_iload_n hz1 dX11_put_26 2 rfl rfl ?_
      refine am_iload_n hz1 dX11_put_27 3 rfl rfl ?_
      obtain ⟨g4, h⟩ := h
      refine am_cVf hz cv_X11_246 [.int v1, .int v2, .int v3] [] (c_X0_at hG v1 v2 v3 g4) (ln_35 hG) (lk_35 hG) rfl rfl rfl hce (Nat.le_of_ble_eq_true rfl) dX11_put_28 ?_
      refine am_iload hz1 dX11_put_31 4 rfl ?_
      refine am_i2l hz1 dX11_put_33 ?_
      refine am_lif_ne (tgt := 41) hz1 dX11_put_34 dX11_put_35 (by decide) (fun c5 => ?_) (fun c5 => ?_)
      · replace h := h.1 c5
        refine am_aload_n hz1 dX11_put_41 0 rfl rfl ?_
        obtain ⟨dq6, mcq6, msq6, postq6, hdq6, hcq6, hMq6, h⟩ := h
        refine am_callV hz1 cv_X11_188 [] [] hMq6 (ln_0 hG) (lk_0 hG) rfl rfl (hz.fr hdq6) (hz.lo hdq6) (by rw [hz.2.1]; exact hcq6) (Nat.le_of_ble_eq_true rfl) dX11_put_42 (fun roq6 Gq6 Iq6 Lq6 hpq6 => ?_)
        obtain ⟨rfl, hGq6, h⟩ := h roq6 Gq6 Iq6 Lq6 hpq6
        refine am_aload_n hz1 dX11_put_45 0 rfl rfl ?_
        refine am_getR hz1 fl_X11_53 (ln_0 hGq6) (lk_0 hGq6) (lr_0_5 hGq6) rfl dX11_put_46 ?_
        refine am_getR hz1 fl_X11_220 (ln_35 hGq6) (lk_35 hGq6) (lr_35_0 hGq6) rfl dX11_put_49 ?_
        refine am_iload_n hz1 dX11_put_52 1 rfl rfl ?_
        refine am_iload_n hz1 dX11_put_53 2 rfl rfl ?_
        refine am_iload_n hz1 dX11_put_54 3 rfl rfl ?_
        refine am_cSf hz ct_X11_250 [.int v1, .int v2, .int v3] [.ref ((zB z).size + 36)] (c_X0_cell hGq6 v1 v2 v3 ) rfl rfl rfl hcq6 (Nat.le_of_ble_eq_true rfl) dX11_put_55 ?_
        refine am_iload hz1 dX11_put_58 4 rfl ?_
        refine am_i2l hz1 dX11_put_60 ?_
        obtain ⟨g7, h⟩ := h
        refine am_last hz1 (ln_36 hGq6) (lk_36 hGq6) (by rw [(ll_36 hGq6)]; exact g7) dX11_put_61 ?_
        refine am_iconst (v := 1) hz1 dX11_put_62 (by decide) ?_
        exact am_widen hcq6.1 hcq6.2 (am_ireturn hz dX11_put_63 h)
      · replace h := h.2 c5
        refine am_bipush (v := (-2)) hz1 dX11_put_38 (by decide) ?_
        exact am_widen hce.1 hce.2 (am_ireturn hz dX11_put_40 h)
    · replace h := h.2 c3
      refine am_iconst (v := (-1)) hz1 dX11_put_19 (by decide) ?_
      exact am_widen hce.1 hce.2 (am_ireturn hz dX11_put_20 h)
set_option maxRecDepth 100000 in
set_option maxHeartbeats 4000000 in
theorem c_X11_put {l : Launch} {D : va_G} {B : Heap} {G : amG} {I : amI} {L : amL}  (hG : Lay G)  (v1 : Int32) (v2 : Int32) (v3 : Int32) (v4 : Int32) {s : St} (hs : CO s G I L) (hw : WF s) : Mx l D B yX11_put cX11_put 5 (some .int) 4 5 1078 [.ref (B.size + 0), .int v1, .int v2, .int v3, .int v4] G I L (CA (xPut s v1 v2 v3 v4).2 (xPut s v1 v2 v3 v4).1 G I L) := by
  refine Mx.of (by decide) rfl rfl (fun z e1 e2 e3 hz => ?_)
  subst e1; subst e2; subst e3
  refine b_X11_put_0 hz ⟨Nat.zero_le _, Nat.zero_le _⟩ hG ?_
  have hO := hs.2.1.1
  have h16 := hO.2.2.1
  rw [hO.amB]
  refine ⟨fun h => by rw [xPut, if_neg (by rw [h]; simp)]; exact CA_no hs rfl, fun h => ⟨hO.sz, fun h2 => ?_, fun h2 => by rw [xPut, if_neg (by rw [h2]; simp)]; exact CA_no hs rfl⟩⟩
  have hc : (inR 3 v1 && ivB (rN (sC s)) (rA (sC s)) v2 v3) = true := by rw [h, h2]; rfl
  obtain ⟨f, hf, rfl⟩ := fnR h
  obtain ⟨x, y, hx, hy, rfl, rfl, hl⟩ := (iv_t h16).mp h2
  rw [cell_n, cl_nI (n := 256 * f + 16 * x + y) (by omega), hs.2.1.2.1 _ (by omega)]
  refine ⟨in_nI (by omega) (by decide), fun h3 => ⟨3, 5, 1078, _, rfl, ⟨by omega, by omega⟩, c_X11_remember hG hs hw, fun ro G1 I1 L1 hm => ⟨hm.1, hm.2.1.1, in_nI (by omega) (by decide), ?_⟩⟩, fun h3 => ?_⟩
  · rw [xPut, if_pos hc, cl_nI (by omega), cl_nI (by omega), cl_nI (by omega), if_neg h3]
    refine act_w hm rfl rfl (fun q _ => rfl) (fun q h36 _ => setL_n h36) (fun k hk => ?_) (fun a ha => by rw [setL_n (by decide)]; exact rm_40 hm a ha) (rm_42 hm)
    rw [setL_s]
    show _ = vp_updL (rF (sC s)) (256 * f + 16 * x + y) v4.toInt64 k
    by_cases e : k = 256 * f + 16 * x + y
    · rw [e, updL_s, updL_s]
    · rw [updL_n e, updL_n e]; exact rm_36 hm k hk
  · rw [xPut, if_pos hc, cl_nI (by omega), cl_nI (by omega), cl_nI (by omega), if_pos h3]; exact CA_no hs rfl
theorem KV_c1 {V : Nat → Nat → Int64} {n : Nat} {f : Nat → Int64} (h : KV V n f) {c : Nat} (hc : c < 256) : f c = tabF n V c := by
  have := h (c / 16) (c % 16) (by omega) (by omega)
  rw [show 16 * (c / 16) + c % 16 = c by omega] at this
  exact this
set_option maxRecDepth 100000 in
set_option maxHeartbeats 4000000 in
theorem b_X11_storeReckoned_0 {z : amZ} {ce sl mc ms : Nat} {post : amP} {G : amG} {I : amI} {L : amL} (hz : Go z cX11_storeReckoned RX11 3 (some .int) 4 mc ms post) (hce : ce ≤ mc ∧ sl ≤ ms) (hG : Lay G) {v1 : Int32} {v2 : Int32} (h : ∃ (dq1 mcq1 msq1 : Nat) (postq1 : amP), Nat.ble (dq1 + 1) 4 = true ∧ (ce + mcq1 ≤ mc ∧ sl + msq1 ≤ ms) ∧ Mx (zL z) (zD z) (zB z) yX11_remember cX11_remember 2 none dq1 mcq1 msq1 [.ref ((zB z).size + 0)] G I L postq1 ∧ ∀ (roq1 : Option Value) (Gq1 : amG) (Iq1 : amI) (Lq1 : amL), postq1 roq1 Gq1 Iq1 Lq1 → roq1 = none ∧ Lay Gq1 ∧ (fnOk v1) ∧ post (some (.int v2)) Gq1 Iq1 (setL Lq1 36 (va_cpy (Lq1 37) (Lq1 36) (0 : Int32).toNatClampNeg (v1 * 256).toNatClampNeg (256 : Int32).toNatClampNeg))) : Wx z ce sl 0 [(0, .ref ((zB z).size + 0)), (1, .int v1), (2, .int v2)] [] G I L := by
  have hz1 := hz.1
  refine am_aload_n hz1 dX11_storeReckoned_0 0 rfl rfl ?_
  obtain ⟨dq1, mcq1, msq1, postq1, hdq1, hcq1, hMq1, h⟩ := h
  refine am_callV hz1 cv_X11_188 [] [] hMq1 (ln_0 hG) (lk_0 hG) rfl rfl (hz.fr hdq1) (hz.lo hdq1) (by rw [hz.2.1]; exact hcq1) (Nat.le_of_ble_eq_true rfl) dX11_storeReckoned_1 (fun roq1 Gq1 Iq1 Lq1 hpq1 => ?_)
  obtain ⟨rfl, hGq1, h⟩ := h roq1 Gq1 Iq1 Lq1 hpq1
  refine am_aload_n hz1 dX11_storeReckoned_4 0 rfl rfl ?_
  refine am_getR hz1 fl_X11_53 (ln_0 hGq1) (lk_0 hGq1) (lr_0_5 hGq1) rfl dX11_storeReckoned_5 ?_
  refine am_iload_n hz1 dX11_storeReckoned_8 1 rfl rfl ?_
  obtain ⟨g2, h⟩ := h
  refine am_cVf hz cv_X11_278 [.int v1] [] (c_X0_store hGq1 v1 g2) (ln_35 hGq1) (lk_35 hGq1) rfl rfl rfl hcq1 (Nat.le_of_ble_eq_true rfl) dX11_storeReckoned_9 ?_
  refine am_iload_n hz1 dX11_storeReckoned_12 2 rfl rfl ?_
  exact am_widen hcq1.1 hcq1.2 (am_ireturn hz dX11_storeReckoned_13 h)
set_option maxRecDepth 100000 in
set_option maxHeartbeats 4000000 in
theorem c_X11_storeReckoned {l : Launch} {D : va_G} {B : Heap} {G : amG} {I : amI} {L : amL}  (hG : Lay G)  (v1 : Int32) (v2 : Int32) {s : St} {f : Nat} {V : Nat → Nat → Int64} (hs : CO s G I L) (hw : WF s) (hf : f < 4) (hv : v1 = nI f) (hV : KV V (rN (sC s)) (L 37)) : Mx l D B yX11_storeReckoned cX11_storeReckoned 3 (some .int) 4 5 1078 [.ref (B.size + 0), .int v1, .int v2] G I L (CA (storeS s f V) v2 G I L) := by
  refine Mx.of (by decide) rfl rfl (fun z e1 e2 e3 hz => ?_)
  subst e1; subst e2; subst e3
  refine b_X11_storeReckoned_0 hz ⟨Nat.zero_le _, Nat.zero_le _⟩ hG ?_
  subst hv
  refine ⟨3, 5, 1078, _, rfl, ⟨by omega, by omega⟩, c_X11_remember hG hs hw, fun ro G1 I1 L1 hm => ⟨hm.1, hm.2.1.1, ⟨f, hf, rfl⟩, ?_⟩⟩
  have e1 : (nI f * 256).toNatClampNeg = 256 * f := by rw [show (256 : Int32) = nI 256 from rfl, nI_mul, Nat.mul_comm]; exact cl_nI (by omega)
  rw [storeS]
  refine act_w hm rfl rfl (fun q _ => rfl) (fun q h36 _ => setL_n h36) (fun k hk => ?_) (fun a ha => by rw [setL_n (by decide)]; exact rm_40 hm a ha) (rm_42 hm)
  rw [setL_s]
  show va_cpy (L1 37) (L1 36) (0 : Int32).toNatClampNeg (nI f * 256).toNatClampNeg (256 : Int32).toNatClampNeg k = wr (rF (sC s)) (256 * f) 256 (tabF (rN (sC s)) V) k
  rw [e1]
  by_cases e : 256 * f ≤ k ∧ k < 256 * f + 256
  · rw [pk_cpy_in e.1 (by show k < 256 * f + 256; exact e.2), wr_in e]
    show L1 37 (0 + (k - 256 * f)) = _
    rw [Nat.zero_add, hm.2.2.2.1 37 (by decide)]
    exact KV_c1 hV (by omega)
  · rw [pk_cpy_out (by show k < 256 * f ∨ 256 * f + 256 ≤ k; omega), wr_out (by omega)]
    exact rm_36 hm k hk
theorem kind_S {I : amI} {n a b : Nat} {A : Nat → Int32} {k : Int32} (hO : OI I 3 n A) (ha : a < n) (hb : b < n) (hl : le A a b = true) : q_kind I k (nI a) (nI b) = kvM n A k a b := by
  have h16 := hO.2.2.1
  have e : nI a = nI b ↔ a = b := nI_eq (by omega) (by omega)
  rw [q_kind, kvM]
  by_cases q1 : k = 1
  · rw [if_pos q1, if_pos q1]; simp only [e]
  rw [if_neg q1, if_neg q1]
  by_cases q2 : k = 2
  · rw [if_pos q2, if_pos q2]
  rw [if_neg q2, if_neg q2]
  by_cases q4 : k = 4
  · rw [if_pos q4, if_pos q4]; simp only [e]
  rw [if_neg q4, if_neg q4]
  by_cases q5 : k = 5
  · rw [if_pos q5, if_pos q5, cl_nI (by omega), show I 6 a = mkset (cv n A a) n from hO.2.2.2.2.2.2.2.1 a ha, b_bitv _ b (by omega), b_mk _ n (by omega) b (by omega), decide_eq_true hb, Bool.true_and]
    cases cv n A a b <;> rfl
  rw [if_neg q5, if_neg q5]
  by_cases q6 : k = 6
  · rw [if_pos q6, if_pos q6, hO.btw ha hb, mk_self (s := ivS n A a b) h16 (iv_lt (by omega) hb), bc_mk h16, rkS, ct_16 h16 (iv_lt (by omega) hb)]
    have := ct_le (bt (ivS n A a b)) n
    rw [← Int64.toInt_inj, Int32.toInt_toInt64, nI_toInt (by omega), lN_toInt (by omega)]
  rw [if_neg q6, if_neg q6]
set_option maxRecDepth 100000 in
set_option maxHeartbeats 4000000 in
theorem b_X11_make_0 {z : amZ} {ce sl mc ms : Nat} {post : amP} {G : amG} {I : amI} {L : amL} (hz : Go z cX11_make RX11 3 (some .int) 5 mc ms post) (hce : ce ≤ mc ∧ sl ≤ ms) (hG : Lay G) {v1 : Int32} {v2 : Int32} (h : ((inR 3 v1 = false) → post (some (.int (-1))) G I L) ∧ ((inR 3 v1 = true) → ((v2 < 0) → post (some (.int (-1))) G I L) ∧ ((¬ v2 < 0) → ((v2 ≤ (6 : Int32)) → ∃ (dq4 mcq4 msq4 : Nat) (postq4 : amP), Nat.ble (dq4 + 1) 5 = true ∧ (ce + mcq4 ≤ mc ∧ sl + msq4 ≤ ms) ∧ Mx (zL z) (zD z) (zB z) yX0_reckonKind cX0_reckonKind 4 none dq4 mcq4 msq4 [.ref ((zB z).size + 35), .int v2] G I L postq4 ∧ ∀ (roq4 : Option Value) (Gq4 : amG) (Iq4 : amI) (Lq4 : amL), postq4 roq4 Gq4 Iq4 Lq4 → roq4 = none ∧ Lay Gq4 ∧ ∃ (dq5 mcq5 msq5 : Nat) (postq5 : amP), Nat.ble (dq5 + 1) 5 = true ∧ (ce + mcq4 + mcq5 ≤ mc ∧ sl + msq4 + msq5 ≤ ms) ∧ Mx (zL z) (zD z) (zB z) yX11_storeReckoned cX11_storeReckoned 3 (some .int) dq5 mcq5 msq5 [.ref ((zB z).size + 0), .int v1, .int v2] Gq4 Iq4 Lq4 postq5 ∧ ∀ (roq5 : Option Value) (Gq5 : amG) (Iq5 : amI) (Lq5 : amL), postq5 roq5 Gq5 Iq5 Lq5 → ∃ (rq5 : Int32), roq5 = some (.int rq5) ∧ Lay Gq5 ∧ post (some (.int rq5)) Gq5 Iq5 Lq5) ∧ ((¬ v2 ≤ (6 : Int32)) → post (some (.int (-1))) G I L)))) : Wx z ce sl 0 [(0, .ref ((zB z).size + 0)), (1, .int v1), (2, .int v2)] [] G I L := by
  have hz1 := hz.1
  refine am_iload_n hz1 dX11_make_0 1 rfl rfl ?_
  refine am_cSf hz ct_X11_237 [.int v1] [] (c_X11_isFunction hG v1 ) rfl rfl rfl hce (Nat.le_of_ble_eq_true rfl) dX11_make_1 ?_
  refine am_ifb_eq (tgt := 17) hz1 dX11_make_4 (by decide) (fun c1 => ?_) (fun c1 => ?_)
  · replace h := h.1 c1
    refine am_iconst (v := (-1)) hz1 dX11_make_17 (by decide) ?_
    exact am_widen hce.1 hce.2 (am_ireturn hz dX11_make_18 h)
  · replace h := h.2 c1
    refine am_iload_n hz1 dX11_make_7 2 rfl rfl ?_
    refine am_if_lt (tgt := 17) hz1 dX11_make_8 (by decide) (fun c2 => ?_) (fun c2 => ?_)
    · replace h := h.1 c2
      refine am_iconst (v := (-1)) hz1 dX11_make_17 (by decide) ?_
      exact am_widen hce.1 hce.2 (am_ireturn hz dX11_make_18 h)
    · replace h := h.2 c2
      refine am_iload_n hz1 dX11_make_11 2 rfl rfl ?_
      refine am_bipush (v := 6) hz1 dX11_make_12 (by decide) ?_
      refine am_icmp_le (tgt := 19) hz1 dX11_make_14 (by decide) (fun c3 => ?_) (fun c3 => ?_)
      · replace h := h.1 c3
        refine am_aload_n hz1 dX11_make_19 0 rfl rfl ?_
        refine am_getR hz1 fl_X11_53 (ln_0 hG) (lk_0 hG) (lr_0_5 hG) rfl dX11_make_20 ?_
        refine am_iload_n hz1 dX11_make_23 2 rfl rfl ?_
        obtain ⟨dq4, mcq4, msq4, postq4, hdq4, hcq4, hMq4, h⟩ := h
        refine am_callV hz1 cv_X11_240 [.int v2] [] hMq4 (ln_35 hG) (lk_35 hG) rfl rfl (hz.fr hdq4) (hz.lo hdq4) (by rw [hz.2.1]; exact hcq4) (Nat.le_of_ble_eq_true rfl) dX11_make_24 (fun roq4 Gq4 Iq4 Lq4 hpq4 => ?_)
        obtain ⟨rfl, hGq4, h⟩ := h roq4 Gq4 Iq4 Lq4 hpq4
        refine am_aload_n hz1 dX11_make_27 0 rfl rfl ?_
        refine am_iload_n hz1 dX11_make_28 1 rfl rfl ?_
        refine am_iload_n hz1 dX11_make_29 2 rfl rfl ?_
        obtain ⟨dq5, mcq5, msq5, postq5, hdq5, hcq5, hMq5, h⟩ := h
        refine am_callV hz1 cv_X11_243 [.int v1, .int v2] [] hMq5 (ln_0 hGq4) (lk_0 hGq4) rfl rfl (hz.fr hdq5) (hz.lo hdq5) (by rw [hz.2.1]; exact hcq5) (Nat.le_of_ble_eq_true rfl) dX11_make_30 (fun roq5 Gq5 Iq5 Lq5 hpq5 => ?_)
        obtain ⟨rq5, rfl, hGq5, h⟩ := h roq5 Gq5 Iq5 Lq5 hpq5
        exact am_widen hcq5.1 hcq5.2 (am_ireturn hz dX11_make_33 h)
      · replace h := h.2 c3
        refine am_iconst (v := (-1)) hz1 dX11_make_17 (by decide) ?_
        exact am_widen hce.1 hce.2 (am_ireturn hz dX11_make_18 h)
set_option maxRecDepth 100000 in
set_option maxHeartbeats 4000000 in
theorem c_X11_make {l : Launch} {D : va_G} {B : Heap} {G : amG} {I : amI} {L : amL}  (hG : Lay G)  (v1 : Int32) (v2 : Int32) {s : St} (hs : CO s G I L) (hw : WF s) : Mx l D B yX11_make cX11_make 3 (some .int) 5 5 1078 [.ref (B.size + 0), .int v1, .int v2] G I L (CA (xMake s v1 v2).2 (xMake s v1 v2).1 G I L) := by
  refine Mx.of (by decide) rfl rfl (fun z e1 e2 e3 hz => ?_)
  subst e1; subst e2; subst e3
  refine b_X11_make_0 hz ⟨Nat.zero_le _, Nat.zero_le _⟩ hG ?_
  have hO := hs.2.1.1
  have h16 := hO.2.2.1
  refine ⟨fun h => by rw [xMake, if_neg (by rw [h]; simp)]; exact CA_no hs rfl, fun h => ⟨fun h2 => by rw [xMake, if_neg (by rw [inR_lo h2]; simp)]; exact CA_no hs rfl, fun h2 => ⟨fun h3 => ?_, fun h3 => by rw [xMake, if_neg (by rw [inR_hi h3]; simp)]; exact CA_no hs rfl⟩⟩⟩
  have h4 := inR_in (k := 6) h2 h3
  rw [xMake, if_pos (by rw [h, h4]; rfl)]
  obtain ⟨f, hf, rfl⟩ := fnR h
  refine ⟨4, 0, 0, _, rfl, ⟨by omega, by omega⟩, c_X0_reckonKind hG _ hO, fun ro G1 I1 L1 ⟨r1, r2, r3, g, g2, r4, r5⟩ => ⟨r1, by rw [r2]; exact hG, ?_⟩⟩
  rw [r2, r3, r4]
  have hs2 := CO_v (I1 := I) (L1 := setL (setL L 37 g) 39 g2) hs (fun _ _ => rfl) (fun q _ a _ b _ _ _ => by rw [setL_n b, setL_n a])
  refine ⟨4, 5, 1078, _, rfl, ⟨by omega, by omega⟩, c_X11_storeReckoned (V := kdS (rN (sC s)) (rA (sC s)) v2) hG _ _ hs2.1 hw hf rfl ?_, fun ro2 G2 I2 L2 ⟨u1, u2, u3, u4⟩ => ⟨_, u1, u2.1, ?_⟩⟩
  · rw [setL_n (by decide), setL_s]
    refine KV_c r5 (fun a b ha hb => ?_)
    rw [kdV, kdS, hO.am ha hb]
    by_cases q : le (rA (sC s)) a b = true
    · rw [if_pos q, if_pos q, kind_S hO ha hb q]
    · rw [if_neg q, if_neg q]
  · rw [cl_nI (by omega)]
    exact ⟨rfl, u2, frK_t hs2.2 u3, u4⟩
