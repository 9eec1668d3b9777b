/-! THE CLASS: the tape, relate, tell -/
theorem CO_t {s : St} {G : amG} {I I1 : amI} {L : amL} {m : Nat} {T : Nat → Int32} (h : CO s G I L) (e : ∀ q, q ≠ 1 → q ≠ 2 → I1 q = I q) (t1 : I1 1 1 = nI m) (t2 : ∀ i, i < m → I1 2 i &&& 255 = T i) : CO (sC s, s0 s, s1 s, sE s, (m, T), sH s) G I1 L ∧ frK I L I1 L := by
  obtain ⟨h1, ⟨o, f, d, p, e0, a0, a1, b, _, _⟩, h3, h4, h5⟩ := h
  exact ⟨⟨h1, ⟨OI_20 o (fun q a b => e q (by omega) (by omega)), f, d, by rw [e 42 (by decide) (by decide)]; exact p, by rw [e 0 (by decide) (by decide)]; exact e0, shC_c a0 (by rw [e 0 (by decide) (by decide)]) (fun q a b => e q (by omega) (by omega)), shC_c a1 (by rw [e 0 (by decide) (by decide)]) (fun q a b => e q (by omega) (by omega)), by rw [e 0 (by decide) (by decide)]; exact b, t1, t2⟩, CK_c h3 (fun q a b => e q (by omega) (by omega)) rfl rfl, CR_c h4 (e 61 (by decide) (by decide)) (fun q hq => e q (by omega) (by omega)) (fun _ _ => rfl), h5⟩, fun q a b => ⟨e q (by omega) (by omega), rfl⟩⟩
set_option maxRecDepth 100000 in
set_option maxHeartbeats 4000000 in
theorem b_X11_end_0 {z : amZ} {post : amP} {G : amG} {I : amI} {L : amL} (hz : Go z cX11_end RX11 2 (some .int) 0 0 0 post) (hG : Lay G) {v1 : Int32} (h : ((v1 < 0) → post (some (.int (-1))) G I L) ∧ ((¬ v1 < 0) → ((v1 ≤ (I 1 1)) → post (some (.int v1)) G (setI I 1 (upd (I 1) 1 v1)) L) ∧ ((¬ v1 ≤ (I 1 1)) → post (some (.int (-1))) G I L))) : Wx z 0 0 0 [(0, .ref ((zB z).size + 0)), (1, .int v1)] [] G I L := by
  have hz1 := hz.1
  refine am_iload_n hz1 dX11_end_0 1 rfl rfl ?_
  refine am_if_lt (tgt := 15) hz1 dX11_end_1 (by decide) (fun c1 => ?_) (fun c1 => ?_)
  · replace h := h.1 c1
    refine am_iconst (v := (-1)) hz1 dX11_end_15 (by decide) ?_
    exact am_ireturn hz dX11_end_16 h
  · replace h := h.2 c1
    refine am_iload_n hz1 dX11_end_4 1 rfl rfl ?_
    refine am_aload_n hz1 dX11_end_5 0 rfl rfl ?_
    refine am_getR hz1 fl_X11_14 (ln_0 hG) (lk_0 hG) (lr_0_0 hG) rfl dX11_end_6 ?_
    refine am_getI hz1 fl_X11_103 (ln_1 hG) (lk_1 hG) rfl dX11_end_9 ?_
    refine am_icmp_le (tgt := 17) hz1 dX11_end_12 (by decide) (fun c2 => ?_) (fun c2 => ?_)
    · replace h := h.1 c2
      refine am_aload_n hz1 dX11_end_17 0 rfl rfl ?_
      refine am_getR hz1 fl_X11_14 (ln_0 hG) (lk_0 hG) (lr_0_0 hG) rfl dX11_end_18 ?_
      refine am_iload_n hz1 dX11_end_21 1 rfl rfl ?_
      refine am_putI hz1 fl_X11_103 (ln_1 hG) (lk_1 hG) rfl rfl (fun _ => rfl) dX11_end_22 ?_
      refine am_iload_n hz1 dX11_end_25 1 rfl rfl ?_
      exact am_ireturn hz dX11_end_26 h
    · replace h := h.2 c2
      refine am_iconst (v := (-1)) hz1 dX11_end_15 (by decide) ?_
      exact am_ireturn hz dX11_end_16 h
set_option maxRecDepth 100000 in
set_option maxHeartbeats 4000000 in
theorem c_X11_end {l : Launch} {D : va_G} {B : Heap} {G : amG} {I : amI} {L : amL}  (hG : Lay G)  (v1 : Int32) {s : St} (hs : CO s G I L) (hw : WF s) : Mx l D B yX11_end cX11_end 2 (some .int) 0 0 0 [.ref (B.size + 0), .int v1] G I L (CA (xEnd s v1).2 (xEnd s v1).1 G I L) := by
  refine Mx.of (by decide) rfl rfl (fun z e1 e2 e3 hz => ?_)
  subst e1; subst e2; subst e3
  refine b_X11_end_0 hz hG ?_
  have hm := hw.2.2.2.2.2.2.1
  have ht1 := hs.2.1.2.2.2.2.2.2.2.2.1
  have ht2 := hs.2.1.2.2.2.2.2.2.2.2.2
  rw [ht1]
  refine ⟨fun h => by rw [xEnd, if_neg (by rw [inR_lo h]; decide)]; exact CA_no hs rfl, fun h => ⟨fun h2 => ?_, fun h2 => by rw [xEnd, if_neg (by rw [inR_hi h2]; decide)]; exact CA_no hs rfl⟩⟩
  have h3 := inR_in h h2
  rw [xEnd, if_pos h3]
  obtain ⟨k, hk, rfl⟩ := (inR_t (by omega)).mp h3
  rw [cl_nI (by omega)]
  have := CO_t (I1 := setI I 1 (upd (I 1) 1 (nI k))) (m := k) (T := (sT s).2) hs (fun q a b => setI_n a) (by rw [setI_s, upd_s]) (fun i hi => by rw [setI_n (by decide)]; exact ht2 i (by omega))
  exact ⟨rfl, this.1, this.2, rfl⟩
theorem app1_f {I : amI} {m : Nat} {v sh : Int32} (h : I 1 1 = nI m) (hm : m < 120) : q_app1 I v sh 1 1 = nI (m + 1) ∧ q_app1 I v sh 2 m = byV v sh ∧ (∀ i, i ≠ m → q_app1 I v sh 2 i = I 2 i) ∧ ∀ q, q ≠ 1 → q ≠ 2 → q_app1 I v sh q = I q := by
  rw [q_app1, h, cl_nI (by omega)]
  exact ⟨by rw [setI_s, upd_s, nI_1], by rw [setI_n (by decide), setI_s, upd_s], fun i hi => by rw [setI_n (by decide), setI_s, upd_n hi], fun q h1 h2 => by rw [setI_n h1, setI_n h2]⟩
theorem app_f {I : amI} {m : Nat} {v : Int32} (h : I 1 1 = nI m) (hm : m + 4 ≤ 120) : q_app I v 1 1 = nI (m + 4) ∧ (∀ j, j < 4 → q_app I v 2 (m + j) = byV v (nI (24 - 8 * j))) ∧ (∀ i, (i < m ∨ m + 4 ≤ i) → q_app I v 2 i = I 2 i) ∧ ∀ q, q ≠ 1 → q ≠ 2 → q_app I v q = I q := by
  obtain ⟨a1, a2, a3, a4⟩ := app1_f (v := v) (sh := 24) h (by omega)
  obtain ⟨b1, b2, b3, b4⟩ := app1_f (v := v) (sh := 16) a1 (by omega)
  obtain ⟨c1, c2, c3, c4⟩ := app1_f (v := v) (sh := 8) b1 (by omega)
  obtain ⟨d1, d2, d3, d4⟩ := app1_f (v := v) (sh := 0) c1 (by omega)
  rw [q_app]
  refine ⟨d1, fun j hj => ?_, fun i hi => by rw [d3 i (by omega), c3 i (by omega), b3 i (by omega), a3 i (by omega)], fun q h1 h2 => by rw [d4 q h1 h2, c4 q h1 h2, b4 q h1 h2, a4 q h1 h2]⟩
  rcases (show j = 0 ∨ j = 1 ∨ j = 2 ∨ j = 3 by omega) with e | e | e | e <;> subst e
  · rw [d3 _ (by omega), c3 _ (by omega), b3 _ (by omega)]; exact a2
  · rw [d3 _ (by omega), c3 _ (by omega)]; exact b2
  · rw [d3 _ (by omega)]; exact c2
  · exact d2
set_option maxRecDepth 100000 in
set_option maxHeartbeats 4000000 in
theorem b_X11_feed_0 {z : amZ} {post : amP} {G : amG} {I : amI} {L : amL} (hz : Go z cX11_feed RX11 6 (some .int) 1 0 0 post) (hG : Lay G) {v1 : Int32} {v2 : Int32} {v3 : Int32} {v4 : Int32} {v5 : Int32} (h : ((((I 1 1) + (20 : Int32)) ≤ (120 : Int32)) → (tp4 I) ∧ (tp4 (q_app I v1)) ∧ (tp4 (q_app (q_app I v1) v2)) ∧ (tp4 (q_app (q_app (q_app I v1) v2) v3)) ∧ (tp4 (q_app (q_app (q_app (q_app I v1) v2) v3) v4)) ∧ post (some (.int ((q_app (q_app (q_app (q_app (q_app I v1) v2) v3) v4) v5) 1 1))) G (q_app (q_app (q_app (q_app (q_app I v1) v2) v3) v4) v5) L) ∧ ((¬ ((I 1 1) + (20 : Int32)) ≤ (120 : Int32)) → post (some (.int (-1))) G I L)) : Wx z 0 0 0 [(0, .ref ((zB z).size + 0)), (1, .int v1), (2, .int v2), (3, .int v3), (4, .int v4), (5, .int v5)] [] G I L := by
  have hz1 := hz.1
  refine am_aload_n hz1 dX11_feed_0 0 rfl rfl ?_
  refine am_getR hz1 fl_X11_14 (ln_0 hG) (lk_0 hG) (lr_0_0 hG) rfl dX11_feed_1 ?_
  refine am_getI hz1 fl_X11_103 (ln_1 hG) (lk_1 hG) rfl dX11_feed_4 ?_
  refine am_bipush (v := 20) hz1 dX11_feed_7 (by decide) ?_
  refine am_iadd hz1 dX11_feed_9 ?_
  refine am_bipush (v := 120) hz1 dX11_feed_10 (by decide) ?_
  refine am_icmp_le (tgt := 17) hz1 dX11_feed_12 (by decide) (fun c1 => ?_) (fun c1 => ?_)
  · replace h := h.1 c1
    refine am_aload_n hz1 dX11_feed_17 0 rfl rfl ?_
    refine am_getR hz1 fl_X11_14 (ln_0 hG) (lk_0 hG) (lr_0_0 hG) rfl dX11_feed_18 ?_
    refine am_iload_n hz1 dX11_feed_21 1 rfl rfl ?_
    obtain ⟨g2, h⟩ := h
    refine am_cVf hz cv_X11_107 [.int v1] [] (c_X10_append hG v1 g2) (ln_1 hG) (lk_1 hG) rfl rfl rfl ⟨Nat.le_refl _, Nat.le_refl _⟩ (Nat.le_of_ble_eq_true rfl) dX11_feed_22 ?_
    refine am_aload_n hz1 dX11_feed_25 0 rfl rfl ?_
    refine am_getR hz1 fl_X11_14 (ln_0 hG) (lk_0 hG) (lr_0_0 hG) rfl dX11_feed_26 ?_
    refine am_iload_n hz1 dX11_feed_29 2 rfl rfl ?_
    obtain ⟨g3, h⟩ := h
    refine am_cVf hz cv_X11_107 [.int v2] [] (c_X10_append hG v2 g3) (ln_1 hG) (lk_1 hG) rfl rfl rfl ⟨Nat.le_refl _, Nat.le_refl _⟩ (Nat.le_of_ble_eq_true rfl) dX11_feed_30 ?_
    refine am_aload_n hz1 dX11_feed_33 0 rfl rfl ?_
    refine am_getR hz1 fl_X11_14 (ln_0 hG) (lk_0 hG) (lr_0_0 hG) rfl dX11_feed_34 ?_
    refine am_iload_n hz1 dX11_feed_37 3 rfl rfl ?_
    obtain ⟨g4, h⟩ := h
    refine am_cVf hz cv_X11_107 [.int v3] [] (c_X10_append hG v3 g4) (ln_1 hG) (lk_1 hG) rfl rfl rfl ⟨Nat.le_refl _, Nat.le_refl _⟩ (Nat.le_of_ble_eq_true rfl) dX11_feed_38 ?_
    refine am_aload_n hz1 dX11_feed_41 0 rfl rfl ?_
    refine am_getR hz1 fl_X11_14 (ln_0 hG) (lk_0 hG) (lr_0_0 hG) rfl dX11_feed_42 ?_
    refine am_iload hz1 dX11_feed_45 4 rfl ?_
    obtain ⟨g5, h⟩ := h
    refine am_cVf hz cv_X11_107 [.int v4] [] (c_X10_append hG v4 g5) (ln_1 hG) (lk_1 hG) rfl rfl rfl ⟨Nat.le_refl _, Nat.le_refl _⟩ (Nat.le_of_ble_eq_true rfl) dX11_feed_47 ?_
    refine am_aload_n hz1 dX11_feed_50 0 rfl rfl ?_
    refine am_getR hz1 fl_X11_14 (ln_0 hG) (lk_0 hG) (lr_0_0 hG) rfl dX11_feed_51 ?_
    refine am_iload hz1 dX11_feed_54 5 rfl ?_
    obtain ⟨g6, h⟩ := h
    refine am_cVf hz cv_X11_107 [.int v5] [] (c_X10_append hG v5 g6) (ln_1 hG) (lk_1 hG) rfl rfl rfl ⟨Nat.le_refl _, Nat.le_refl _⟩ (Nat.le_of_ble_eq_true rfl) dX11_feed_56 ?_
    refine am_aload_n hz1 dX11_feed_59 0 rfl rfl ?_
    refine am_getR hz1 fl_X11_14 (ln_0 hG) (lk_0 hG) (lr_0_0 hG) rfl dX11_feed_60 ?_
    refine am_getI hz1 fl_X11_103 (ln_1 hG) (lk_1 hG) rfl dX11_feed_63 ?_
    exact am_ireturn hz dX11_feed_66 h
  · replace h := h.2 c1
    refine am_iconst (v := (-1)) hz1 dX11_feed_15 (by decide) ?_
    exact am_ireturn hz dX11_feed_16 h
set_option maxRecDepth 100000 in
set_option maxHeartbeats 4000000 in
theorem c_X11_feed {l : Launch} {D : va_G} {B : Heap} {G : amG} {I : amI} {L : amL}  (hG : Lay G)  (v1 : Int32) (v2 : Int32) (v3 : Int32) (v4 : Int32) (v5 : Int32) {s : St} (hs : CO s G I L) (hw : WF s) : Mx l D B yX11_feed cX11_feed 6 (some .int) 1 0 0 [.ref (B.size + 0), .int v1, .int v2, .int v3, .int v4, .int v5] G I L (CA (xFeed s v1 v2 v3 v4 v5).2 (xFeed s v1 v2 v3 v4 v5).1 G I L) := by
  refine Mx.of (by decide) rfl rfl (fun z e1 e2 e3 hz => ?_)
  subst e1; subst e2; subst e3
  refine b_X11_feed_0 hz hG ?_
  have hm := hw.2.2.2.2.2.2.1
  have ht1 := hs.2.1.2.2.2.2.2.2.2.2.1
  have ht2 := hs.2.1.2.2.2.2.2.2.2.2.2
  have e20 : I 1 1 + 20 ≤ 120 ↔ (sT s).1 ≤ 100 := by
    rw [ht1, show (20 : Int32) = nI 20 from rfl, nI_add, show (120 : Int32) = nI 120 from rfl, nI_leI (by omega) (by decide)]
    omega
  rw [e20]
  refine ⟨fun h => ?_, fun h => by rw [xFeed, if_neg h]; exact CA_no hs rfl⟩
  obtain ⟨a1, a2, a3, a4⟩ := app_f (v := v1) ht1 (by omega)
  obtain ⟨b1, b2, b3, b4⟩ := app_f (v := v2) a1 (by omega)
  obtain ⟨c1, c2, c3, c4⟩ := app_f (v := v3) b1 (by omega)
  obtain ⟨d1, d2, d3, d4⟩ := app_f (v := v4) c1 (by omega)
  obtain ⟨f1, f2, f3, f4⟩ := app_f (v := v5) d1 (by omega)
  refine ⟨⟨_, by omega, ht1⟩, ⟨_, by omega, a1⟩, ⟨_, by omega, b1⟩, ⟨_, by omega, c1⟩, ⟨_, by omega, d1⟩, ?_⟩
  rw [xFeed, if_pos h, f1]
  have := CO_t (I1 := q_app (q_app (q_app (q_app (q_app I v1) v2) v3) v4) v5) (m := (sT s).1 + 20) (T := fun i => if i < (sT s).1 then (sT s).2 i else fdB v1 v2 v3 v4 v5 (i - (sT s).1) &&& 255) hs (fun q p1 p2 => by rw [f4 q p1 p2, d4 q p1 p2, c4 q p1 p2, b4 q p1 p2, a4 q p1 p2]) f1 (fun i hi => ?_)
  · exact ⟨rfl, this.1, this.2, rfl⟩
  · show _ = if i < (sT s).1 then (sT s).2 i else fdB v1 v2 v3 v4 v5 (i - (sT s).1) &&& 255
    by_cases h0 : i < (sT s).1
    · rw [if_pos h0, f3 i (by omega), d3 i (by omega), c3 i (by omega), b3 i (by omega), a3 i (by omega)]
      exact ht2 i h0
    · rw [if_neg h0]
      refine congrArg (· &&& 255) ?_
      obtain ⟨k, rfl⟩ : ∃ k, i = (sT s).1 + k := ⟨i - (sT s).1, by omega⟩
      rw [Nat.add_sub_cancel_left, fdB, fdV]
      by_cases h4 : k < 4
      · rw [if_pos h4, f3 _ (by omega), d3 _ (by omega), c3 _ (by omega), b3 _ (by omega), a2 k h4, Nat.mod_eq_of_lt h4]
      rw [if_neg h4]
      by_cases h8 : k < 8
      · rw [if_pos h8, f3 _ (by omega), d3 _ (by omega), c3 _ (by omega), show (sT s).1 + k = (sT s).1 + 4 + (k - 4) by omega, b2 (k - 4) (by omega), show k % 4 = k - 4 by omega]
      rw [if_neg h8]
      by_cases h12 : k < 12
      · rw [if_pos h12, f3 _ (by omega), d3 _ (by omega), show (sT s).1 + k = (sT s).1 + 4 + 4 + (k - 8) by omega, c2 (k - 8) (by omega), show k % 4 = k - 8 by omega]
      rw [if_neg h12]
      by_cases h16 : k < 16
      · rw [if_pos h16, f3 _ (by omega), show (sT s).1 + k = (sT s).1 + 4 + 4 + 4 + (k - 12) by omega, d2 (k - 12) (by omega), show k % 4 = k - 12 by omega]
      rw [if_neg h16, show (sT s).1 + k = (sT s).1 + 4 + 4 + 4 + 4 + (k - 16) by omega, f2 (k - 16) (by omega), show k % 4 = k - 16 by omega]
theorem OI_cv {I : amI} {n : Nat} {A : Nat → Int32} (hO : OI I 3 n A) : q_pairs I 3 6 = cvM n A := by
  have h16 := hO.2.2.1
  rw [q_pairs, sz_eq hO.1 h16, cvM]
  refine sumI_c (fun x hx => ?_)
  rw [show I 6 x = mkset (cv n A x) n from hO.2.2.2.2.2.2.2.1 x hx, bc_mk h16]
set_option maxRecDepth 100000 in
set_option maxHeartbeats 4000000 in
theorem b_X11_relate_0 {z : amZ} {ce sl mc ms : Nat} {post : amP} {G : amG} {I : amI} {L : amL} (hz : Go z cX11_relate RX11 3 (some .int) 5 mc ms post) (hce : ce ≤ mc ∧ sl ≤ ms) (hG : Lay G) {v1 : Int32} {v2 : Int32} (h : ((q_has I 3 v1 = false) → post (some (.int (-1))) G I L) ∧ ((q_has I 3 v1 = true) → ((q_has I 3 v2 = true) → (szOk I 3) ∧ ((q_isBelow I 3 v1 v2 = false) → (szOk I 3) ∧ ((q_atMost I 3 v2 v1 = false) → (4 ≠ 10) ∧ (4 ≠ 10 + 1) ∧ (szOk (q_copy I 10 (I 3 0) 4) 10) ∧ ∃ (dq10 mcq10 msq10 : Nat) (postq10 : amP), Nat.ble (dq10 + 1) 5 = true ∧ (ce + mcq10 ≤ mc ∧ sl + msq10 ≤ ms) ∧ Mx (zL z) (zD z) (zB z) yX11_adoptDraft cX11_adoptDraft 1 (some .int) dq10 mcq10 msq10 [.ref ((zB z).size + 0)] G (q_link (q_copy I 10 (I 3 0) 4) 10 v1 v2) L postq10 ∧ ∀ (roq10 : Option Value) (Gq10 : amG) (Iq10 : amI) (Lq10 : amL), postq10 roq10 Gq10 Iq10 Lq10 → ∃ (rq10 : Int32), roq10 = some (.int rq10) ∧ Lay Gq10 ∧ (szOk Iq10 3) ∧ post (some (.int (q_pairs Iq10 3 6))) Gq10 Iq10 Lq10) ∧ ((q_atMost I 3 v2 v1 = true) → post (some (.int (-3))) G I L)) ∧ ((q_isBelow I 3 v1 v2 = true) → post (some (.int (-2))) G I L)) ∧ ((q_has I 3 v2 = false) → post (some (.int (-1))) G I L))) : Wx z ce sl 0 [(0, .ref ((zB z).size + 0)), (1, .int v1), (2, .int v2)] [] G I L := by
  have hz1 := hz.1
  refine am_aload_n hz1 dX11_relate_0 0 rfl rfl ?_
  refine am_getR hz1 fl_X11_21 (ln_0 hG) (lk_0 hG) (lr_0_2 hG) rfl dX11_relate_1 ?_
  refine am_iload_n hz1 dX11_relate_4 1 rfl rfl ?_
  refine am_cVf hz cv_X11_118 [.int v1] [] (c_X4_has hG isO_3 v1 ) (ln_3 hG) (lk_3 hG) rfl rfl rfl hce (Nat.le_of_ble_eq_true rfl) dX11_relate_5 ?_
  refine am_ifb_eq (tgt := 22) hz1 dX11_relate_8 (by decide) (fun c1 => ?_) (fun c1 => ?_)
  · replace h := h.1 c1
    refine am_iconst (v := (-1)) hz1 dX11_relate_22 (by decide) ?_
    exact am_widen hce.1 hce.2 (am_ireturn hz dX11_relate_23 h)
  · replace h := h.2 c1
    refine am_aload_n hz1 dX11_relate_11 0 rfl rfl ?_
    refine am_getR hz1 fl_X11_21 (ln_0 hG) (lk_0 hG) (lr_0_2 hG) rfl dX11_relate_12 ?_
    refine am_iload_n hz1 dX11_relate_15 2 rfl rfl ?_
    refine am_cVf hz cv_X11_118 [.int v2] [] (c_X4_has hG isO_3 v2 ) (ln_3 hG) (lk_3 hG) rfl rfl rfl hce (Nat.le_of_ble_eq_true rfl) dX11_relate_16 ?_
    refine am_ifb_ne (tgt := 24) hz1 dX11_relate_19 (by decide) (fun c2 => ?_) (fun c2 => ?_)
    · replace h := h.1 c2
      refine am_aload_n hz1 dX11_relate_24 0 rfl rfl ?_
      refine am_getR hz1 fl_X11_21 (ln_0 hG) (lk_0 hG) (lr_0_2 hG) rfl dX11_relate_25 ?_
      refine am_iload_n hz1 dX11_relate_28 1 rfl rfl ?_
      refine am_iload_n hz1 dX11_relate_29 2 rfl rfl ?_
      obtain ⟨g3, h⟩ := h
      refine am_cVf hz cv_X11_122 [.int v1, .int v2] [] (c_X4_isBelow hG isO_3 v1 v2 g3) (ln_3 hG) (lk_3 hG) rfl rfl rfl hce (Nat.le_of_ble_eq_true rfl) dX11_relate_30 ?_
      refine am_ifb_eq (tgt := 39) hz1 dX11_relate_33 (by decide) (fun c4 => ?_) (fun c4 => ?_)
      · replace h := h.1 c4
        refine am_aload_n hz1 dX11_relate_39 0 rfl rfl ?_
        refine am_getR hz1 fl_X11_21 (ln_0 hG) (lk_0 hG) (lr_0_2 hG) rfl dX11_relate_40 ?_
        refine am_iload_n hz1 dX11_relate_43 2 rfl rfl ?_
        refine am_iload_n hz1 dX11_relate_44 1 rfl rfl ?_
        obtain ⟨g5, h⟩ := h
        refine am_cVf hz cv_X11_126 [.int v2, .int v1] [] (c_X4_atMost hG isO_3 v2 v1 g5) (ln_3 hG) (lk_3 hG) rfl rfl rfl hce (Nat.le_of_ble_eq_true rfl) dX11_relate_45 ?_
        refine am_ifb_eq (tgt := 54) hz1 dX11_relate_48 (by decide) (fun c6 => ?_) (fun c6 => ?_)
        · replace h := h.1 c6
          refine am_aload_n hz1 dX11_relate_54 0 rfl rfl ?_
          refine am_getR hz1 fl_X11_25 (ln_0 hG) (lk_0 hG) (lr_0_3 hG) rfl dX11_relate_55 ?_
          refine am_aload_n hz1 dX11_relate_58 0 rfl rfl ?_
          refine am_getR hz1 fl_X11_21 (ln_0 hG) (lk_0 hG) (lr_0_2 hG) rfl dX11_relate_59 ?_
          refine am_getI hz1 fl_X11_129 (ln_3 hG) (lk_3 hG) rfl dX11_relate_62 ?_
          refine am_aload_n hz1 dX11_relate_65 0 rfl rfl ?_
          refine am_getR hz1 fl_X11_21 (ln_0 hG) (lk_0 hG) (lr_0_2 hG) rfl dX11_relate_66 ?_
          refine am_getR hz1 fl_X11_130 (ln_3 hG) (lk_3 hG) (lr_3_1 hG) rfl dX11_relate_69 ?_
          obtain ⟨g7, h⟩ := h
          obtain ⟨g8, h⟩ := h
          refine am_cVf hz cv_X11_134 [.int (I 3 0), .ref ((zB z).size + 4)] [] (c_X4_copy hG isO_10 (ln_4 hG) (lk_4 hG) (ll_4 hG) (I 3 0) g7 g8) (ln_10 hG) (lk_10 hG) rfl rfl rfl hce (Nat.le_of_ble_eq_true rfl) dX11_relate_72 ?_
          refine am_aload_n hz1 dX11_relate_75 0 rfl rfl ?_
          refine am_getR hz1 fl_X11_25 (ln_0 hG) (lk_0 hG) (lr_0_3 hG) rfl dX11_relate_76 ?_
          refine am_iload_n hz1 dX11_relate_79 1 rfl rfl ?_
          refine am_iload_n hz1 dX11_relate_80 2 rfl rfl ?_
          obtain ⟨g9, h⟩ := h
          refine am_cVf hz cv_X11_138 [.int v1, .int v2] [] (c_X4_link hG isO_10 v1 v2 g9) (ln_10 hG) (lk_10 hG) rfl rfl rfl hce (Nat.le_of_ble_eq_true rfl) dX11_relate_81 ?_
          refine am_aload_n hz1 dX11_relate_84 0 rfl rfl ?_
          obtain ⟨dq10, mcq10, msq10, postq10, hdq10, hcq10, hMq10, h⟩ := h
          refine am_callV hz1 cv_X11_115 [] [] hMq10 (ln_0 hG) (lk_0 hG) rfl rfl (hz.fr hdq10) (hz.lo hdq10) (by rw [hz.2.1]; exact hcq10) (Nat.le_of_ble_eq_true rfl) dX11_relate_85 (fun roq10 Gq10 Iq10 Lq10 hpq10 => ?_)
          obtain ⟨rq10, rfl, hGq10, h⟩ := h roq10 Gq10 Iq10 Lq10 hpq10
          refine am_pop hz1 dX11_relate_88 rfl ?_
          refine am_aload_n hz1 dX11_relate_89 0 rfl rfl ?_
          refine am_getR hz1 fl_X11_21 (ln_0 hGq10) (lk_0 hGq10) (lr_0_2 hGq10) rfl dX11_relate_90 ?_
          refine am_aload_n hz1 dX11_relate_93 0 rfl rfl ?_
          refine am_getR hz1 fl_X11_21 (ln_0 hGq10) (lk_0 hGq10) (lr_0_2 hGq10) rfl dX11_relate_94 ?_
          refine am_getR hz1 fl_X11_142 (ln_3 hGq10) (lk_3 hGq10) (lr_3_3 hGq10) rfl dX11_relate_97 ?_
          obtain ⟨g11, h⟩ := h
          refine am_cVf hz cv_X11_145 [.ref ((zB z).size + 6)] [] (c_X4_pairs hGq10 isO_3 (ln_6 hGq10) (lk_6 hGq10) (ll_6 hGq10)  g11) (ln_3 hGq10) (lk_3 hGq10) rfl rfl rfl hcq10 (Nat.le_of_ble_eq_true rfl) dX11_relate_100 ?_
          exact am_widen hcq10.1 hcq10.2 (am_ireturn hz dX11_relate_103 h)
        · replace h := h.2 c6
          refine am_bipush (v := (-3)) hz1 dX11_relate_51 (by decide) ?_
          exact am_widen hce.1 hce.2 (am_ireturn hz dX11_relate_53 h)
      · replace h := h.2 c4
        refine am_bipush (v := (-2)) hz1 dX11_relate_36 (by decide) ?_
        exact am_widen hce.1 hce.2 (am_ireturn hz dX11_relate_38 h)
    · replace h := h.2 c2
      refine am_iconst (v := (-1)) hz1 dX11_relate_22 (by decide) ?_
      exact am_widen hce.1 hce.2 (am_ireturn hz dX11_relate_23 h)
set_option maxRecDepth 100000 in
set_option maxHeartbeats 4000000 in
theorem c_X11_relate {l : Launch} {D : va_G} {B : Heap} {G : amG} {I : amI} {L : amL}  (hG : Lay G)  (v1 : Int32) (v2 : Int32) {s : St} (hs : CO s G I L) (hw : WF s) : Mx l D B yX11_relate cX11_relate 3 (some .int) 5 5 1078 [.ref (B.size + 0), .int v1, .int v2] G I L (CA (xRelate s v1 v2).2 (xRelate s v1 v2).1 G I L) := by
  refine Mx.of (by decide) rfl rfl (fun z e1 e2 e3 hz => ?_)
  subst e1; subst e2; subst e3
  refine b_X11_relate_0 hz ⟨Nat.zero_le _, Nat.zero_le _⟩ hG ?_
  have hO := hs.2.1.1
  have h16 := hO.2.2.1
  have h1n := hO.2.1
  have hP := hO.2.2.2.2.2.1
  rw [hO.hasB, hO.hasB]
  refine ⟨fun h => by rw [xRelate, if_neg (by rw [h]; simp)]; exact CA_no hs rfl, fun h => ⟨fun h2 => ?_, fun h2 => by rw [xRelate, if_neg (by rw [h2]; simp)]; exact CA_no hs rfl⟩⟩
  rw [xRelate, if_pos (by rw [h, h2]; rfl)]
  obtain ⟨x, hx, rfl⟩ := (el_t (by omega)).mp h
  obtain ⟨y, hy, rfl⟩ := (el_t (by omega)).mp h2
  rw [cl_nI (n := x) (by omega), cl_nI (n := y) (by omega), hO.below hx hy, hO.am hy hx]
  obtain ⟨c0, c4, co⟩ := copy_f (I := I) (o := 10) (p := 4) h1n h16 hO.1 (by decide) (by decide) (A := rA (sC s)) (fun x hx => hO.2.2.2.1 x hx)
  generalize q_copy I 10 (I 3 0) 4 = I2 at c0 c4 co ⊢
  have hd : dO I2 (rN (sC s)) (rA (sC s)) := ⟨c0, h1n, h16, fun x hx => by rw [c4 x (by omega), if_pos hx], fun x a b => by rw [c4 x b, if_neg (by omega)], hP⟩
  refine ⟨hO.sz, fun h3 => ⟨hO.sz, fun h4 => ⟨by decide, by decide, ⟨_, h1n, h16, c0⟩, ?_⟩, fun h4 => ?_⟩, fun h3 => by rw [if_pos h3]; exact CA_no hs rfl⟩
  · rw [if_neg (by rw [h3]; decide), if_neg (by rw [h4]; decide)]
    have hd2 := hd.link hx hy h4
    have hs2 := CO_d (I1 := q_link I2 10 (nI x) (nI y)) hs (fun q hq => by rw [q_link, setI_n (by omega), co q (by omega) (by omega)])
    refine ⟨4, 5, 1078, _, rfl, ⟨by omega, by omega⟩, c_X11_adoptDraft hG hs2.1 hw hd2, fun ro G1 I1 L1 ⟨r1, r2, r3, r4⟩ => ⟨_, r1, r2.1, r2.2.1.1.sz, ?_⟩⟩
    have hO2 : OI I1 3 (rN (sC s)) (relA (rN (sC s)) (rA (sC s)) x y) := r2.2.1.1
    exact ⟨by rw [OI_cv hO2], r2, frK_t hs2.2 r3, r4⟩
  · rw [if_neg (by rw [h3]; decide), if_pos h4]; exact CA_no hs rfl
theorem rdN_b {m lo hi k : Nat} {T : Nat → Int32} (h : k ≤ m) : (rdN m T lo hi k).1 ≤ 8 * m + 2 ∧ (rdN m T lo hi k).2.2.1 ≤ m := by
  refine ⟨rd_f h, ?_⟩
  have hs := (sk_le (T := T) h).2
  rw [rdN]
  split
  · exact hs
  · exact hs
theorem txP_lt {m : Nat} {T : Nat → Int32} (hm : m ≤ 120) : (txP m T).1 < 2 ^ 31 := by
  have hs := (sk_le (m := m) (T := T) (Nat.zero_le m)).2
  by_cases e : kdI m T (sk m T 0) = 5
  · rw [txP, if_pos e]; show 8 * sk m T 0 + 1 < _; omega
  · obtain ⟨k1, k2⟩ := kdI_ok e
    have k3 := wd_le k1 k2
    by_cases q : (rdK m T (kdI m T (sk m T 0)) (sk m T 0)).1 = 0
    · obtain ⟨o1, o2, o3, o4, o5⟩ := rdK_ok k1 k3 q
      rw [txP, if_neg e, if_pos q]
      have := lsP_f (T := T) o1 o2 (m + 1) _ _ o4 o3
      show (lsP m T _ (m + 1) _ _).1 < _
      omega
    · rw [txP, if_neg e, if_neg q]
      show (rdK m T (kdI m T (sk m T 0)) (sk m T 0)).1 < _
      have hr := rdN_b (T := T) (lo := kLo (kdI m T (sk m T 0))) (hi := kHi (kdI m T (sk m T 0))) k3
      rw [rdK]
      split
      · show (if _ then 0 else 8 * _ + 2) < _
        split
        · decide
        · exact Nat.lt_of_le_of_lt (Nat.add_le_add_right (Nat.mul_le_mul_left 8 hr.2) 2) (by omega)
      · show (rdN m T _ _ _).1 < _
        omega
set_option maxRecDepth 100000 in
set_option maxHeartbeats 4000000 in
theorem b_X11_tell_0 {z : amZ} {ce sl mc ms : Nat} {post : amP} {G : amG} {I : amI} {L : amL} (hz : Go z cX11_tell RX11 2 (some .int) 8 mc ms post) (hce : ce ≤ mc ∧ sl ≤ ms) (hG : Lay G)  (h : ∃ (dq1 mcq1 msq1 : Nat) (postq1 : amP), Nat.ble (dq1 + 1) 8 = true ∧ (ce + mcq1 ≤ mc ∧ sl + msq1 ≤ ms) ∧ Mx (zL z) (zD z) (zB z) yX6_read cX6_read 3 (some .int) dq1 mcq1 msq1 [.ref ((zB z).size + 17)] G I L postq1 ∧ ∀ (roq1 : Option Value) (Gq1 : amG) (Iq1 : amI) (Lq1 : amL), postq1 roq1 Gq1 Iq1 Lq1 → ∃ (rq1 : Int32), roq1 = some (.int rq1) ∧ Lay Gq1 ∧ ((rq1 = 0) → ∃ (dq3 mcq3 msq3 : Nat) (postq3 : amP), Nat.ble (dq3 + 1) 8 = true ∧ (ce + mcq1 + mcq3 ≤ mc ∧ sl + msq1 + msq3 ≤ ms) ∧ Mx (zL z) (zD z) (zB z) yX11_adoptDraft cX11_adoptDraft 1 (some .int) dq3 mcq3 msq3 [.ref ((zB z).size + 0)] Gq1 (setI Iq1 1 (upd (Iq1 1) 1 (0 : Int32))) Lq1 postq3 ∧ ∀ (roq3 : Option Value) (Gq3 : amG) (Iq3 : amI) (Lq3 : amL), postq3 roq3 Gq3 Iq3 Lq3 → ∃ (rq3 : Int32), roq3 = some (.int rq3) ∧ Lay Gq3 ∧ post (some (.int rq3)) Gq3 Iq3 Lq3) ∧ ((¬ rq1 = 0) → post (some (.int ((-2 : Int32) - rq1))) Gq1 (setI Iq1 1 (upd (Iq1 1) 1 (0 : Int32))) Lq1)) : Wx z ce sl 0 [(0, .ref ((zB z).size + 0))] [] G I L := by
  have hz1 := hz.1
  refine am_aload_n hz1 dX11_tell_0 0 rfl rfl ?_
  refine am_getR hz1 fl_X11_33 (ln_0 hG) (lk_0 hG) (lr_0_1 hG) rfl dX11_tell_1 ?_
  obtain ⟨dq1, mcq1, msq1, postq1, hdq1, hcq1, hMq1, h⟩ := h
  refine am_callV hz1 cv_X11_111 [] [] hMq1 (ln_17 hG) (lk_17 hG) rfl rfl (hz.fr hdq1) (hz.lo hdq1) (by rw [hz.2.1]; exact hcq1) (Nat.le_of_ble_eq_true rfl) dX11_tell_4 (fun roq1 Gq1 Iq1 Lq1 hpq1 => ?_)
  obtain ⟨rq1, rfl, hGq1, h⟩ := h roq1 Gq1 Iq1 Lq1 hpq1
  refine am_istore_n (lv' := [(1, .int rq1), (0, .ref ((zB z).size + 0))]) hz1 dX11_tell_7 rfl rfl rfl ?_
  refine am_aload_n hz1 dX11_tell_8 1 rfl rfl ?_
  refine am_getR hz1 fl_X11_14 (ln_0 hGq1) (lk_0 hGq1) (lr_0_0 hGq1) rfl dX11_tell_9 ?_
  refine am_iconst (v := 0) hz1 dX11_tell_12 (by decide) ?_
  refine am_putI hz1 fl_X11_103 (ln_1 hGq1) (lk_1 hGq1) rfl rfl (fun _ => rfl) dX11_tell_13 ?_
  refine am_iload_n hz1 dX11_tell_16 0 rfl rfl ?_
  refine am_if_eq (tgt := 25) hz1 dX11_tell_17 (by decide) (fun c2 => ?_) (fun c2 => ?_)
  · replace h := h.1 c2
    refine am_aload_n hz1 dX11_tell_25 1 rfl rfl ?_
    obtain ⟨dq3, mcq3, msq3, postq3, hdq3, hcq3, hMq3, h⟩ := h
    refine am_callV hz1 cv_X11_115 [] [] hMq3 (ln_0 hGq1) (lk_0 hGq1) rfl rfl (hz.fr hdq3) (hz.lo hdq3) (by rw [hz.2.1]; exact hcq3) (Nat.le_of_ble_eq_true rfl) dX11_tell_26 (fun roq3 Gq3 Iq3 Lq3 hpq3 => ?_)
    obtain ⟨rq3, rfl, hGq3, h⟩ := h roq3 Gq3 Iq3 Lq3 hpq3
    exact am_widen hcq3.1 hcq3.2 (am_ireturn hz dX11_tell_29 h)
  · replace h := h.2 c2
    refine am_bipush (v := (-2)) hz1 dX11_tell_20 (by decide) ?_
    refine am_iload_n hz1 dX11_tell_22 0 rfl rfl ?_
    refine am_isub hz1 dX11_tell_23 ?_
    exact am_widen hcq1.1 hcq1.2 (am_ireturn hz dX11_tell_24 h)
set_option maxRecDepth 100000 in
set_option maxHeartbeats 4000000 in
theorem c_X11_tell {l : Launch} {D : va_G} {B : Heap} {G : amG} {I : amI} {L : amL}  (hG : Lay G)   {s : St} (hs : CO s G I L) (hw : WF s) : Mx l D B yX11_tell cX11_tell 2 (some .int) 8 5 1078 [.ref (B.size + 0)] G I L (CA (xTell s).2 (xTell s).1 G I L) := by
  refine Mx.of (by decide) rfl rfl (fun z e1 e2 e3 hz => ?_)
  subst e1; subst e2; subst e3
  refine b_X11_tell_0 hz ⟨Nat.zero_le _, Nat.zero_le _⟩ hG ?_
  have hm := hw.2.2.2.2.2.2.1
  have ht1 := hs.2.1.2.2.2.2.2.2.2.2.1
  have ht2 := hs.2.1.2.2.2.2.2.2.2.2.2
  have hT : rdV (setI I 17 (upd (I 17) 3 0)) (sT s).1 (sT s).2 0 := ⟨hm, by rw [setI_n (by decide)]; exact ht1, fun i hi => by rw [setI_n (by decide)]; exact ht2 i hi, by rw [setI_s, upd_s]; rfl, Nat.zero_le _, hw.2.2.2.2.2.2.2.1⟩
  refine ⟨7, 0, 0, _, rfl, ⟨by omega, by omega⟩, c_X6_read hG hT, fun ro G1 I1 L1 ⟨r1, r2, r3, r4, r5⟩ => ⟨_, r1, by rw [r2]; exact hG, ?_⟩⟩
  rw [r2, r3]
  have hs2 := CO_d (I1 := I1) hs (fun q hq => r4.1 q (by omega) (by omega) (by omega) (by omega))
  have hs3 := CO_t (I1 := setI I1 1 (upd (I1 1) 1 0)) (m := 0) (T := (sT s).2) hs2.1 (fun q a b => setI_n a) (by rw [setI_s, upd_s]; rfl) (fun i hi => absurd hi (Nat.not_lt_zero _))
  have hb : (txP (sT s).1 (sT s).2).1 < 2 ^ 31 := txP_lt hm
  rw [xTell]
  refine ⟨fun q => ?_, fun q => ?_⟩
  · have h0 : (txP (sT s).1 (sT s).2).1 = 0 := (nI_eq (b := 0) hb (by decide)).mp q
    rw [if_pos h0]
    obtain ⟨d1, d2, d3, d4, d5, d6⟩ := r5 h0
    refine ⟨4, 5, 1078, _, rfl, ⟨by omega, by omega⟩, c_X11_adoptDraft (s := tpS s) hG hs3.1 ⟨hw.1, hw.2.1, hw.2.2.1, hw.2.2.2.1, hw.2.2.2.2.1, hw.2.2.2.2.2.1, Nat.zero_le _, fun i hi => absurd hi (Nat.not_lt_zero _), hw.2.2.2.2.2.2.2.2⟩ ⟨by rw [setI_n (by decide)]; exact d1, d2, d3, by rw [setI_n (by decide)]; exact d4, by rw [setI_n (by decide)]; exact d5, d6⟩, fun ro2 G2 I2 L2 ⟨u1, u2, u3, u4⟩ => ⟨_, u1, u2.1, rfl, u2, frK_t (frK_t hs2.2 hs3.2) u3, u4⟩⟩
  · have h0 : ¬ (txP (sT s).1 (sT s).2).1 = 0 := fun e => q (by rw [e]; rfl)
    rw [if_neg h0]
    exact ⟨rfl, hs3.1, frK_t hs2.2 hs3.2, rfl⟩
