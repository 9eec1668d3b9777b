/-! THE CLASS: sets -/
theorem c_X7_extU {n : Nat} {A : Nat → Int32} {len : Nat} (hl : wO len) (h16 : n ≤ 16) : ∃ len1, len ≤ len1 ∧ wO len1 ∧ ∀ (l : Launch) (D : va_G) (B : Heap) (G : amG) (I : amI) (L : amL) (wp : Nat), Lay G → OI I 3 n A → WY G wp len → wp ≠ 56 → I 56 6 = 0 →
    Mx l D B yX7_extensions cX7_extensions 1 (some .long) 41 (2 * (len1 - len)) (2 * (len1 - len)) [.ref (B.size + 56)] G I L (fun r G1 I1 L1 => r = some (.long (eF n A n (fun _ => true))) ∧ Lay G1 ∧ gX G G1 ∧ (∀ q, q < gN G → q ≠ 59 → q ≠ 56 → I1 q = I q) ∧ (∀ k, k ≠ 6 → I1 56 k = I 56 k) ∧ (∀ q, q < gN G → q ≠ 58 → q ≠ 56 → q ≠ wp → L1 q = L q) ∧ (L1 56 7 = eF n A n (fun _ => true)) ∧ ∃ wp1, WY G1 wp1 len1 ∧ (wp1 = wp ∨ gN G ≤ wp1)) := by
  have hca : ct (bt (allS n)) n = n := by rw [ct_cong (all_bt h16), ct_all (n := n)]
  obtain ⟨l1, l1a, l1b, l1c⟩ := c_X7_extensionsOf (n := n) (A := A) 16 (allS n) len (all_in h16) (by omega) hl h16
  refine ⟨l1, l1a, l1b, fun l D B G I L wp hG hO hw h56 hk => ?_⟩
  refine Mx.of (by decide) rfl rfl (fun z e1 e2 e3 hz => ?_)
  subst e1; subst e2; subst e3
  refine b_X7_extensions_0 hz ⟨Nat.zero_le _, Nat.zero_le _⟩ hG ⟨fun h => absurd hk h, fun h => ?_⟩
  rw [hO.all]
  refine ⟨40, _, _, _, rfl, ⟨by omega, by omega⟩, l1c _ _ _ G I L wp 0 40 hG hO hw (by omega) (by omega), fun ro G2 I2 L2 ⟨a1, a2⟩ => ⟨_, a1, a2.1, ?_⟩⟩
  have hv : eF n A (ct (bt (allS n)) n) (bt (allS n)) = eF n A n (fun _ => true) := by rw [hca]; exact eF_c n (fun x hx => all_bt h16 x hx)
  obtain ⟨b1, b2, b3, b4, w1, b5, b6⟩ := a2
  have h85 := hG.1
  rw [hv, setL_s, updL_s]
  refine ⟨rfl, b1, b2, fun q hq h1 h2 => by rw [setI_n h2]; exact b3 q hq h1, fun k hk => ?_, fun q hq h1 h2 h3 => by rw [setL_n h2]; exact b4 q hq h1 h3, rfl, w1, b5, b6⟩
  rw [setI_s]
  show upd (I2 56) 6 1 k = _
  rw [upd_n hk, b3 56 (by omega) (by decide)]
theorem c_X7_extK {l : Launch} {D : va_G} {B : Heap} {G : amG} {I : amI} {L : amL} (hG : Lay G) (hk : ¬ I 56 6 = 0) : Mx l D B yX7_extensions cX7_extensions 1 (some .long) 41 0 0 [.ref (B.size + 56)] G I L (fun r G1 I1 L1 => r = some (.long (L 56 7)) ∧ G1 = G ∧ I1 = I ∧ L1 = L) := by
  refine Mx.of (by decide) rfl rfl (fun z e1 e2 e3 hz => ?_)
  subst e1; subst e2; subst e3
  exact b_X7_extensions_0 hz ⟨Nat.zero_le _, Nat.zero_le _⟩ hG ⟨fun h => ⟨rfl, rfl, rfl, rfl⟩, fun h => absurd h hk⟩
theorem gX_HS {G G1 : amG} {h : Nat} (H : HS G h) (hx : gX G G1) : HS G1 h := by
  obtain ⟨c1, c2, c3, c4, c5, c6, c7, c8, c9, c10, c11, c12, c13, c14, c15⟩ := H
  have hx1 := hx.1
  have a6 := hx.2
  exact ⟨c1, by omega, by rw [(a6 h (by omega)).1]; exact c3, by rw [(a6 (h + 1) (by omega)).1]; exact c4, by rw [(a6 (h + 2) (by omega)).1]; exact c5, by rw [(a6 (h + 3) (by omega)).1]; exact c6, by rw [(a6 (h + 4) (by omega)).1]; exact c7, by rw [(a6 (h + 1) (by omega)).2.1]; exact c8, by rw [(a6 (h + 2) (by omega)).2.1]; exact c9, by rw [(a6 (h + 3) (by omega)).2.1]; exact c10, by rw [(a6 (h + 4) (by omega)).2.1]; exact c11, by rw [(a6 h (by omega)).2.2 _ (by omega)]; exact c12, by rw [(a6 h (by omega)).2.2 _ (by omega)]; exact c13, by rw [(a6 h (by omega)).2.2 _ (by omega)]; exact c14, by rw [(a6 h (by omega)).2.2 _ (by omega)]; exact c15⟩
theorem CO_x {s : St} {G G1 : amG} {I I1 : amI} {L L1 : amL} {wp len len1 wp1 : Nat} (hs : CO s G I L) (w1 : WY G wp len) (w3 : wp = 60 ∨ 85 ≤ wp) (w4 : ∀ i h, i < 8 → gR G 62 i = some h → wp < h ∨ h + 5 ≤ wp) (b1 : Lay G1) (b2 : gX G G1) (b3 : ∀ q, q < gN G → q ≠ 59 → q ≠ 56 → I1 q = I q) (b4 : ∀ k, k ≠ 6 → I1 56 k = I 56 k) (b5 : ∀ q, q < gN G → q ≠ 58 → q ≠ 56 → q ≠ wp → L1 q = L q) (b6 : L1 56 7 = eF (rN (sC s)) (rA (sC s)) (rN (sC s)) (fun _ => true)) (b7 : WY G1 wp1 len1) (b8 : wO len1) (b9 : wp1 = wp ∨ gN G ≤ wp1) : CO s G1 I1 L1 ∧ frK I L I1 L1 := by
  obtain ⟨k1, k2, k3, ⟨nx, n8, h1, h2, m8, hHS, hdis, hrow⟩, k5⟩ := hs
  have h85 := k1.1
  have e62 : ∀ i, gR G1 62 i = gR G 62 i := fun i => (b2.2 62 (by omega)).2.2 i (by omega)
  refine ⟨⟨b1, CQ_c k2 (fun q hq => b3 q (by omega) (by omega) (by omega)) (b5 36 (by omega) (by decide) (by decide) (by omega)) (b5 40 (by omega) (by decide) (by decide) (by omega)), ⟨?_, ?_, Or.inr b6⟩, ⟨nx, n8, by rw [b3 61 (by omega) (by decide) (by decide)]; exact h1, by rw [b3 61 (by omega) (by decide) (by decide)]; exact h2, m8, fun i h hi hh => ?_, fun i j h k hi hj hne hh hk => ?_, fun j hj => ?_⟩, wp1, len1, b7, b8, ?_, fun i h hi hh => ?_⟩, fun q p1 p2 => ⟨b3 q (by omega) (by omega) (by omega), b5 q (by omega) (by omega) (by omega) (by omega)⟩⟩
  · have q1 := k3.1
    unfold LK LkM at q1 ⊢
    rw [b3 46 (by omega) (by decide) (by decide), b3 50 (by omega) (by decide) (by decide), b3 47 (by omega) (by decide) (by decide), b3 48 (by omega) (by decide) (by decide), b3 49 (by omega) (by decide) (by decide)]; exact q1
  · have q2 := k3.2.1
    unfold DK at q2 ⊢
    rw [b4 5 (by decide), b5 57 (by omega) (by decide) (by decide) (by omega)]; exact q2
  · rw [e62] at hh; exact gX_HS (hHS i h hi hh) b2
  · rw [e62] at hh hk; exact hdis i j h k hi hj hne hh hk
  · obtain ⟨h, g1, g2⟩ := hrow j hj
    have hH := hHS _ h (Nat.mod_lt _ (by decide)) g1
    have q1 := hH.1
    have q2 := hH.2.1
    have q3 := w4 _ h (Nat.mod_lt _ (by decide)) g1
    exact ⟨h, by rw [e62]; exact g1, HR_c g2 (fun q p1 p2 => b3 q (by omega) (by omega) (by omega)) (fun q p1 p2 => b5 q (by omega) (by omega) (by omega) (by omega))⟩
  · rcases b9 with e | e
    · rw [e]; exact w3
    · right; omega
  · rw [e62] at hh
    rcases b9 with e | e
    · rw [e]; exact w4 i h hi hh
    · have := (hHS i h hi hh).2.1
      right; omega
theorem CO_ds {s : St} {G : amG} {I I1 : amI} {L L1 : amL} (hs : CO s G I L) (r3 : I1 = I ∨ I1 = setI I 56 (upd (I 56) 5 1)) (r5 : frS L L1) (r6 : DK L1 (rN (sC s)) (rA (sC s))) : CO s G I1 L1 ∧ frK I L I1 L1 := by
  have e : ∀ q, q ≠ 56 → I1 q = I q := fun q hq => by
    rcases r3 with r | r
    · rw [r]
    · rw [r, setI_n hq]
  have e6 : I1 56 6 = I 56 6 := by
    rcases r3 with r | r
    · rw [r]
    · rw [r, setI_s, upd_n (by decide)]
  have q1 : qI I I1 := fun q _ _ a _ => e q a
  have q2 : qL L L1 := fun q _ _ _ _ a b _ => r5 q a b
  refine ⟨CO_q hs q1 q2 ⟨?_, Or.inr r6, ?_⟩, q_fr q1 q2⟩
  · have k1 := hs.2.2.1.1
    unfold LK LkM at k1 ⊢
    rw [e 46 (by decide), e 50 (by decide), e 47 (by decide), e 48 (by decide), e 49 (by decide)]; exact k1
  · rw [e6, r5 56 (by decide) (by decide)]; exact hs.2.2.1.2.2
def CS (s : St) (v : Int64) (k : Nat) (G : amG) (I : amI) (L : amL) : amP := fun r G1 I1 L1 => r = some (.long v) ∧ CO s G1 I1 L1 ∧ frK I L I1 L1 ∧ wl G1 = wl G + k
theorem CS_no {s : St} {G : amG} {I : amI} {L : amL} {v w : Int64} (hs : CO s G I L) (h : v = w) : CS s w 0 G I L (some (.long v)) G I L := ⟨by rw [h], hs, frK_r, rfl⟩
set_option maxRecDepth 100000 in
set_option maxHeartbeats 4000000 in
theorem b_X11_sets_0 {z : amZ} {ce sl mc ms : Nat} {post : amP} {G : amG} {I : amI} {L : amL} (hz : Go z cX11_sets RX11 3 (some .long) 43 mc ms post) (hce : ce ≤ mc ∧ sl ≤ ms) (hG : Lay G) {v1 : Int32} {v2 : Int32} (h : (v1 = 0 → ∃ (dq2 mcq2 msq2 : Nat) (postq2 : amP), Nat.ble (dq2 + 1) 43 = true ∧ (ce + mcq2 ≤ mc ∧ sl + msq2 ≤ ms) ∧ Mx (zL z) (zD z) (zB z) yX7_downSets cX7_downSets 4 (some .long) dq2 mcq2 msq2 [.ref ((zB z).size + 56)] G I L postq2 ∧ ∀ (roq2 : Option Value) (Gq2 : amG) (Iq2 : amI) (Lq2 : amL), postq2 roq2 Gq2 Iq2 Lq2 → ∃ (rq2 : Int64), roq2 = some (.long rq2) ∧ Lay Gq2 ∧ post (some (.long rq2)) Gq2 Iq2 Lq2) ∧ (v1 = 1 → ∃ (dq3 mcq3 msq3 : Nat) (postq3 : amP), Nat.ble (dq3 + 1) 43 = true ∧ (ce + mcq3 ≤ mc ∧ sl + msq3 ≤ ms) ∧ Mx (zL z) (zD z) (zB z) yX7_extensions cX7_extensions 1 (some .long) dq3 mcq3 msq3 [.ref ((zB z).size + 56)] G I L postq3 ∧ ∀ (roq3 : Option Value) (Gq3 : amG) (Iq3 : amI) (Lq3 : amL), postq3 roq3 Gq3 Iq3 Lq3 → ∃ (rq3 : Int64), roq3 = some (.long rq3) ∧ Lay Gq3 ∧ post (some (.long rq3)) Gq3 Iq3 Lq3) ∧ (v1 = 2 → ((v2 < 0) → post (some (.long (-1 : Int64))) G I L) ∧ ((¬ v2 < 0) → (((I 3 0) < v2) → post (some (.long (-1 : Int64))) G I L) ∧ ((¬ (I 3 0) < v2) → ∃ (dq6 mcq6 msq6 : Nat) (postq6 : amP), Nat.ble (dq6 + 1) 43 = true ∧ (ce + mcq6 ≤ mc ∧ sl + msq6 ≤ ms) ∧ Mx (zL z) (zD z) (zB z) yX7_downSetsOf cX7_downSetsOf 2 (some .long) dq6 mcq6 msq6 [.ref ((zB z).size + 56), .int v2] G I L postq6 ∧ ∀ (roq6 : Option Value) (Gq6 : amG) (Iq6 : amI) (Lq6 : amL), postq6 roq6 Gq6 Iq6 Lq6 → ∃ (rq6 : Int64), roq6 = some (.long rq6) ∧ Lay Gq6 ∧ post (some (.long rq6)) Gq6 Iq6 Lq6))) ∧ ((v1 < 0 ∨ 2 < v1) → post (some (.long (-1 : Int64))) G I L)) : Wx z ce sl 0 [(0, .ref ((zB z).size + 0)), (1, .int v1), (2, .int v2)] [] G I L := by
  have hz1 := hz.1
  refine am_iload_n hz1 dX11_sets_0 1 rfl rfl ?_
  by_cases c1_0 : v1 = 0
  · replace h := h.1 c1_0
    refine am_tabI (off := 27) (tgt := 28) hz1 0 dX11_sets_1 c1_0 (by decide) (by decide) rfl (by decide) ?_
    refine am_aload_n hz1 dX11_sets_28 0 rfl rfl ?_
    refine am_getR hz1 fl_X11_89 (ln_0 hG) (lk_0 hG) (lr_0_10 hG) rfl dX11_sets_29 ?_
    obtain ⟨dq2, mcq2, msq2, postq2, hdq2, hcq2, hMq2, h⟩ := h
    refine am_callV hz1 cv_X11_353 [] [] hMq2 (ln_56 hG) (lk_56 hG) rfl rfl (hz.fr hdq2) (hz.lo hdq2) (by rw [hz.2.1]; exact hcq2) (Nat.le_of_ble_eq_true rfl) dX11_sets_32 (fun roq2 Gq2 Iq2 Lq2 hpq2 => ?_)
    obtain ⟨rq2, rfl, hGq2, h⟩ := h roq2 Gq2 Iq2 Lq2 hpq2
    exact am_widen hcq2.1 hcq2.2 (am_lreturn hz dX11_sets_35 h)
  by_cases c1_1 : v1 = 1
  · replace h := h.2.1 c1_1
    refine am_tabI (off := 35) (tgt := 36) hz1 1 dX11_sets_1 c1_1 (by decide) (by decide) rfl (by decide) ?_
    refine am_aload_n hz1 dX11_sets_36 0 rfl rfl ?_
    refine am_getR hz1 fl_X11_89 (ln_0 hG) (lk_0 hG) (lr_0_10 hG) rfl dX11_sets_37 ?_
    obtain ⟨dq3, mcq3, msq3, postq3, hdq3, hcq3, hMq3, h⟩ := h
    refine am_callV hz1 cv_X11_357 [] [] hMq3 (ln_56 hG) (lk_56 hG) rfl rfl (hz.fr hdq3) (hz.lo hdq3) (by rw [hz.2.1]; exact hcq3) (Nat.le_of_ble_eq_true rfl) dX11_sets_40 (fun roq3 Gq3 Iq3 Lq3 hpq3 => ?_)
    obtain ⟨rq3, rfl, hGq3, h⟩ := h roq3 Gq3 Iq3 Lq3 hpq3
    exact am_widen hcq3.1 hcq3.2 (am_lreturn hz dX11_sets_43 h)
  by_cases c1_2 : v1 = 2
  · replace h := h.2.2.1 c1_2
    refine am_tabI (off := 43) (tgt := 44) hz1 2 dX11_sets_1 c1_2 (by decide) (by decide) rfl (by decide) ?_
    refine am_iload_n hz1 dX11_sets_44 2 rfl rfl ?_
    refine am_if_lt (tgt := 70) hz1 dX11_sets_45 (by decide) (fun c4 => ?_) (fun c4 => ?_)
    · replace h := h.1 c4
      refine am_ldc2 hz1 kc_X11_327 dX11_sets_70 ?_
      exact am_widen hce.1 hce.2 (am_lreturn hz dX11_sets_73 h)
    · replace h := h.2 c4
      refine am_iload_n hz1 dX11_sets_48 2 rfl rfl ?_
      refine am_aload_n hz1 dX11_sets_49 0 rfl rfl ?_
      refine am_getR hz1 fl_X11_21 (ln_0 hG) (lk_0 hG) (lr_0_2 hG) rfl dX11_sets_50 ?_
      refine am_getI hz1 fl_X11_129 (ln_3 hG) (lk_3 hG) rfl dX11_sets_53 ?_
      refine am_icmp_gt (tgt := 70) hz1 dX11_sets_56 (by decide) (fun c5 => ?_) (fun c5 => ?_)
      · replace h := h.1 c5
        refine am_ldc2 hz1 kc_X11_327 dX11_sets_70 ?_
        exact am_widen hce.1 hce.2 (am_lreturn hz dX11_sets_73 h)
      · replace h := h.2 c5
        refine am_aload_n hz1 dX11_sets_59 0 rfl rfl ?_
        refine am_getR hz1 fl_X11_89 (ln_0 hG) (lk_0 hG) (lr_0_10 hG) rfl dX11_sets_60 ?_
        refine am_iload_n hz1 dX11_sets_63 2 rfl rfl ?_
        obtain ⟨dq6, mcq6, msq6, postq6, hdq6, hcq6, hMq6, h⟩ := h
        refine am_callV hz1 cv_X11_360 [.int v2] [] hMq6 (ln_56 hG) (lk_56 hG) rfl rfl (hz.fr hdq6) (hz.lo hdq6) (by rw [hz.2.1]; exact hcq6) (Nat.le_of_ble_eq_true rfl) dX11_sets_64 (fun roq6 Gq6 Iq6 Lq6 hpq6 => ?_)
        obtain ⟨rq6, rfl, hGq6, h⟩ := h roq6 Gq6 Iq6 Lq6 hpq6
        refine am_goto (tgt := 73) hz1 dX11_sets_67 (by decide) ?_
        exact am_widen hcq6.1 hcq6.2 (am_lreturn hz dX11_sets_73 h)
  have c1 : v1 < 0 ∨ 2 < v1 := tabx_3_0 c1_0 c1_1 c1_2
  replace h := h.2.2.2 c1
  refine am_tabO (tgt := 74) hz1 dX11_sets_1 (c1.elim (fun e => Or.inl (tab_lt 0 rfl e)) (fun e => Or.inr (tab_gt 2 rfl e))) (by decide) ?_
  refine am_ldc2 hz1 kc_X11_327 dX11_sets_74 ?_
  exact am_widen hce.1 hce.2 (am_lreturn hz dX11_sets_77 h)
set_option maxRecDepth 100000 in
set_option maxHeartbeats 4000000 in
theorem c_X11_sets {l : Launch} {D : va_G} {B : Heap} {G : amG} {I : amI} {L : amL} {s : St} (hG : Lay G) (v1 v2 : Int32) (hs : CO s G I L) (hw : WF s) : ∃ k, wl G + k ≤ 65536 ∧ Mx l D B yX11_sets cX11_sets 3 (some .long) 43 (2 * k) (2 * k) [.ref (B.size + 0), .int v1, .int v2] G I L (CS s (aSets s v1 v2) k G I L) := by
  have hO := hs.2.1.1
  have h16 := hO.2.2.1
  obtain ⟨wp, len, w1, w2, w3, w4⟩ := hs.2.2.2.2
  have hwl := wl_of w1
  by_cases hx : v1 = 1 ∧ I 56 6 = 0
  · obtain ⟨len1, l1, l2, l3⟩ := c_X7_extU (n := rN (sC s)) (A := rA (sC s)) w2 h16
    refine ⟨len1 - len, by have := wO_le l2; omega, ?_⟩
    refine Mx.of (by decide) rfl rfl (fun z e1 e2 e3 hz => ?_)
    subst e1; subst e2; subst e3
    refine b_X11_sets_0 hz ⟨Nat.zero_le _, Nat.zero_le _⟩ hG ⟨fun y => by rw [hx.1] at y; exact absurd y (by decide), fun _ => ?_, fun y => by rw [hx.1] at y; exact absurd y (by decide), fun y => by rw [hx.1] at y; exact absurd y (by decide)⟩
    refine ⟨41, _, _, _, rfl, ⟨by omega, by omega⟩, l3 _ _ _ G I L wp hG hO w1 (by omega) hx.2, fun ro G1 I1 L1 ⟨r1, r2, r3, r4, r5, r6, r7, wp1, r8, r9⟩ => ⟨_, r1, r2, ?_⟩⟩
    have := CO_x hs w1 w3 w4 r2 r3 r4 r5 r6 r7 r8 l2 r9
    exact ⟨by rw [hx.1, aSets, if_neg (by decide), if_pos rfl], this.1, this.2, by rw [wl_of r8, hwl]; omega⟩
  · refine ⟨0, by have := wO_le w2; omega, ?_⟩
    refine Mx.of (by decide) rfl rfl (fun z e1 e2 e3 hz => ?_)
    subst e1; subst e2; subst e3
    refine b_X11_sets_0 hz ⟨Nat.zero_le _, Nat.zero_le _⟩ hG ⟨fun y => ?_, fun y => ?_, fun y => ?_, fun y => ?_⟩
    · refine ⟨42, 0, 0, _, rfl, ⟨by omega, by omega⟩, c_X7_downSets hG hO hs.2.2.1.2.1, fun ro G1 I1 L1 ⟨r1, r2, r3, r4, r5, r6⟩ => ⟨_, r1, by rw [r2]; exact hG, ?_⟩⟩
      have := CO_ds hs r3 r5 r6
      exact ⟨by rw [y, aSets, if_pos rfl, dsC_m], by rw [r2]; exact this.1, this.2, by rw [r2]; rfl⟩
    · have hk : ¬ I 56 6 = 0 := fun e => hx ⟨y, e⟩
      refine ⟨41, 0, 0, _, rfl, ⟨by omega, by omega⟩, c_X7_extK hG hk, fun ro G1 I1 L1 ⟨r1, r2, r3, r4⟩ => ⟨_, r1, by rw [r2]; exact hG, ?_⟩⟩
      rw [r2, r3, r4]
      refine CS_no hs ?_
      rw [y, aSets, if_neg (by decide), if_pos rfl]
      exact hs.2.2.1.2.2.resolve_left hk
    · rw [hO.1]
      refine ⟨fun h => CS_no hs (by rw [y, aSets, if_neg (by decide), if_neg (by decide), if_pos rfl, if_neg (by rw [inR_lo h]; decide)]), fun h => ⟨fun h2 => CS_no hs (by rw [y, aSets, if_neg (by decide), if_neg (by decide), if_pos rfl, if_neg (by rw [inR_hi (by rw [Int32.not_le]; exact h2)]; decide)]), fun h2 => ?_⟩⟩
      have h3 := inR_in h (Int32.not_lt.mp h2)
      have h4 := h3
      obtain ⟨k, hk, rfl⟩ := (inR_t (by omega)).mp h3
      refine ⟨41, 0, 0, _, rfl, ⟨by omega, by omega⟩, c_X7_downSetsOf hG _ hO rfl (by omega) hs.2.2.1.2.1, fun ro G1 I1 L1 ⟨r1, r2, r3, r4, r5, r6⟩ => ⟨_, r1, by rw [r2]; exact hG, ?_⟩⟩
      have := CO_ds hs r3 r5 r6
      exact ⟨by rw [y, aSets, if_neg (by decide), if_neg (by decide), if_pos rfl, if_pos h4, dsC_k h16 hk], by rw [r2]; exact this.1, this.2, by rw [r2]; rfl⟩
    · have e : ∀ k : Int32, (k < 0 ∨ 2 < k → False) → v1 ≠ k := fun k hk h => hk (h ▸ y)
      exact CS_no hs (by rw [aSets, if_neg (e 0 (by decide)), if_neg (e 1 (by decide)), if_neg (e 2 (by decide))])
