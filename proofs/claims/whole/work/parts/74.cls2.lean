/-! THE CLASS: what is asked, second part -/
theorem inR_lo {k : Nat} {v : Int32} (h : v < 0) : inR k v = false := by rw [inR, decide_eq_false (by rw [Int32.not_le]; exact h)]; rfl
theorem inR_hi {k : Nat} {v : Int32} (h : ¬ v ≤ nI k) : inR k v = false := by rw [inR, decide_eq_false h, Bool.and_false]
theorem inR_in {k : Nat} {v : Int32} (h : ¬ v < 0) (h2 : v ≤ nI k) : inR k v = true := by rw [inR, decide_eq_true (Int32.not_lt.mp h), decide_eq_true h2]; rfl
theorem ge_m2 {v : Int32} (h : ¬ v < -2) (h1 : ¬ v = -1) (h2 : ¬ v = -2) : ¬ v < 0 := by
  rw [Int32.lt_iff_toInt_lt] at h ⊢
  rw [← Int32.toInt_inj] at h1 h2
  have e0 : (0 : Int32).toInt = 0 := by decide
  have e1 : (-1 : Int32).toInt = -1 := by decide
  have e2 : (-2 : Int32).toInt = -2 := by decide
  rw [e2] at h h2; rw [e1] at h1; rw [e0]
  omega
theorem lt_m2 {v : Int32} (h : v < -2) : v < 0 := by
  rw [Int32.lt_iff_toInt_lt] at h ⊢
  have e0 : (0 : Int32).toInt = 0 := by decide
  have e2 : (-2 : Int32).toInt = -2 := by decide
  rw [e2] at h; rw [e0]
  omega
theorem CK_c {s : St} {I I1 : amI} {L L1 : amL} (h : CK s I L) (e : ∀ q, 46 ≤ q → q ≤ 59 → I1 q = I q) (e56 : L1 56 = L 56) (e57 : L1 57 = L 57) : CK s I1 L1 := by
  obtain ⟨k1, k2, k3⟩ := h
  refine ⟨?_, ?_, ?_⟩
  · unfold LK LkM at k1 ⊢
    rw [e 46 (by omega) (by omega), e 50 (by omega) (by omega), e 47 (by omega) (by omega), e 48 (by omega) (by omega), e 49 (by omega) (by omega)]; exact k1
  · unfold DK at k2 ⊢
    rw [e 56 (by omega) (by omega), e57]; exact k2
  · rw [e 56 (by omega) (by omega), e56]; exact k3
theorem CO_n {s : St} {G : amG} {I I1 : amI} {L L1 : amL} (h : CO s G I L) (e1 : ∀ q, q ≠ 34 → I1 q = I q) (e2 : ∀ q, q ≠ 34 → q ≠ 44 → q ≠ 45 → q ≠ 63 → L1 q = L q) : CO s G I1 L1 ∧ frK I L I1 L1 := by
  have q1 : qI I I1 := fun q a _ _ _ => e1 q a
  have q2 : qL L L1 := fun q a b c _ _ _ d => e2 q a b c d
  exact ⟨CO_q h q1 q2 (CK_c h.2.2.1 (fun q a b => e1 q (by omega)) (e2 56 (by decide) (by decide) (by decide) (by decide)) (e2 57 (by decide) (by decide) (by decide) (by decide))), q_fr q1 q2⟩
theorem CO_ch {s : St} {G : amG} {I : amI} {L : amL} {p k : Nat} {v a : Int32} (h : CO s G I L) : CO s G I (q_ch I L p v a k) ∧ frK I L I (q_ch I L p v a k) := CO_n h (fun _ _ => rfl) (fun _ _ a b _ => ch_o a b _)
theorem CO_cc {s : St} {G : amG} {I : amI} {L : amL} {k : Nat} {a b : Int32} (h : CO s G I L) : CO s G I (q_cc I L a b k) ∧ frK I L I (q_cc I L a b k) := CO_n h (fun _ _ => rfl) (fun _ _ a b _ => cc_o a b _)
theorem CO_63 {s : St} {G : amG} {I : amI} {L : amL} {f : Nat → Int64} (h : CO s G I L) : CO s G I (setL L 63 f) ∧ frK I L I (setL L 63 f) := CO_n h (fun _ _ => rfl) (fun _ _ _ _ e => setL_n e)
set_option maxRecDepth 100000 in
set_option maxHeartbeats 4000000 in
theorem b_X11_same_0 {z : amZ} {post : amP} {G : amG} {I : amI} {L : amL} (hz : Go z cX11_same RX11 4 (some .int) 1 0 0 post) (hG : Lay G) {v1 : Int32} {v2 : Int32} (h : ((inR 3 v1 = false) → post (some (.int (-1))) G I L) ∧ ((inR 3 v1 = true) → ((inR 3 v2 = true) → Wx z 0 0 18 [(0, .ref ((zB z).size + 0)), (1, .int v1), (2, .int v2), (3, .int 0)] [] G I L) ∧ ((inR 3 v2 = false) → post (some (.int (-1))) G I L))) : Wx z 0 0 0 [(0, .ref ((zB z).size + 0)), (1, .int v1), (2, .int v2)] [] G I L := by
  have hz1 := hz.1
  refine am_iload_n hz1 dX11_same_0 1 rfl rfl ?_
  refine am_cSf hz ct_X11_237 [.int v1] [] (c_X11_isFunction hG v1 ) rfl rfl rfl ⟨Nat.le_refl _, Nat.le_refl _⟩ (Nat.le_of_ble_eq_true rfl) dX11_same_1 ?_
  refine am_ifb_eq (tgt := 14) hz1 dX11_same_4 (by decide) (fun c1 => ?_) (fun c1 => ?_)
  · replace h := h.1 c1
    refine am_iconst (v := (-1)) hz1 dX11_same_14 (by decide) ?_
    exact am_ireturn hz dX11_same_15 h
  · replace h := h.2 c1
    refine am_iload_n hz1 dX11_same_7 2 rfl rfl ?_
    refine am_cSf hz ct_X11_237 [.int v2] [] (c_X11_isFunction hG v2 ) rfl rfl rfl ⟨Nat.le_refl _, Nat.le_refl _⟩ (Nat.le_of_ble_eq_true rfl) dX11_same_8 ?_
    refine am_ifb_ne (tgt := 16) hz1 dX11_same_11 (by decide) (fun c2 => ?_) (fun c2 => ?_)
    · replace h := h.1 c2
      refine am_iconst (v := 0) hz1 dX11_same_16 (by decide) ?_
      refine am_istore_n (lv' := [(3, .int 0), (0, .ref ((zB z).size + 0)), (1, .int v1), (2, .int v2)]) hz1 dX11_same_17 rfl rfl rfl ?_
      exact am_sub (lv' := [(0, .ref ((zB z).size + 0)), (1, .int v1), (2, .int v2), (3, .int 0)]) [1, 2, 3, 0] rfl h
    · replace h := h.2 c2
      refine am_iconst (v := (-1)) hz1 dX11_same_14 (by decide) ?_
      exact am_ireturn hz dX11_same_15 h
set_option maxRecDepth 100000 in
set_option maxHeartbeats 4000000 in
theorem b_X11_same_18 {z : amZ} {post : amP} {G : amG} {I : amI} {L : amL} (hz : Go z cX11_same RX11 4 (some .int) 1 0 0 post) (hG : Lay G) {v1 : Int32} {v2 : Int32} {v3 : Int32} (h : (((256 : Int32) ≤ v3) → post (some (.int 1)) G I L) ∧ ((¬ (256 : Int32) ≤ v3) → vp_in ((v1 * (256 : Int32)) + v3) 1024 ∧ vp_in ((v2 * (256 : Int32)) + v3) 1024 ∧ (((L 36 ((v1 * (256 : Int32)) + v3).toNatClampNeg) = (L 36 ((v2 * (256 : Int32)) + v3).toNatClampNeg)) → Wx z 0 0 18 [(0, .ref ((zB z).size + 0)), (1, .int v1), (2, .int v2), (3, .int (v3 + 1))] [] G I L) ∧ ((¬ (L 36 ((v1 * (256 : Int32)) + v3).toNatClampNeg) = (L 36 ((v2 * (256 : Int32)) + v3).toNatClampNeg)) → post (some (.int 0)) G I L))) : Wx z 0 0 18 [(0, .ref ((zB z).size + 0)), (1, .int v1), (2, .int v2), (3, .int v3)] [] G I L := by
  have hz1 := hz.1
  refine am_iload_n hz1 dX11_same_18 3 rfl rfl ?_
  refine am_sipush (v := 256) hz1 dX11_same_19 (by decide) ?_
  refine am_icmp_ge (tgt := 67) hz1 dX11_same_22 (by decide) (fun c1 => ?_) (fun c1 => ?_)
  · replace h := h.1 c1
    refine am_iconst (v := 1) hz1 dX11_same_67 (by decide) ?_
    exact am_ireturn hz dX11_same_68 h
  · replace h := h.2 c1
    refine am_aload_n hz1 dX11_same_25 0 rfl rfl ?_
    refine am_getR hz1 fl_X11_53 (ln_0 hG) (lk_0 hG) (lr_0_5 hG) rfl dX11_same_26 ?_
    refine am_getR hz1 fl_X11_220 (ln_35 hG) (lk_35 hG) (lr_35_0 hG) rfl dX11_same_29 ?_
    refine am_iload_n hz1 dX11_same_32 1 rfl rfl ?_
    refine am_sipush (v := 256) hz1 dX11_same_33 (by decide) ?_
    refine am_imul hz1 dX11_same_36 ?_
    refine am_iload_n hz1 dX11_same_37 3 rfl rfl ?_
    refine am_iadd hz1 dX11_same_38 ?_
    obtain ⟨g2, h⟩ := h
    refine am_lald hz1 (ln_36 hG) (lk_36 hG) (by rw [(ll_36 hG)]; exact g2) dX11_same_39 ?_
    refine am_aload_n hz1 dX11_same_40 0 rfl rfl ?_
    refine am_getR hz1 fl_X11_53 (ln_0 hG) (lk_0 hG) (lr_0_5 hG) rfl dX11_same_41 ?_
    refine am_getR hz1 fl_X11_220 (ln_35 hG) (lk_35 hG) (lr_35_0 hG) rfl dX11_same_44 ?_
    refine am_iload_n hz1 dX11_same_47 2 rfl rfl ?_
    refine am_sipush (v := 256) hz1 dX11_same_48 (by decide) ?_
    refine am_imul hz1 dX11_same_51 ?_
    refine am_iload_n hz1 dX11_same_52 3 rfl rfl ?_
    refine am_iadd hz1 dX11_same_53 ?_
    obtain ⟨g3, h⟩ := h
    refine am_lald hz1 (ln_36 hG) (lk_36 hG) (by rw [(ll_36 hG)]; exact g3) dX11_same_54 ?_
    refine am_lif_eq (tgt := 61) hz1 dX11_same_55 dX11_same_56 (by decide) (fun c4 => ?_) (fun c4 => ?_)
    · replace h := h.1 c4
      refine am_iinc (v := v3 + 1) (lv' := [(3, .int (v3 + 1)), (0, .ref ((zB z).size + 0)), (1, .int v1), (2, .int v2)]) hz1 dX11_same_61 3 rfl rfl rfl rfl ?_
      refine am_goto (tgt := 18) hz1 dX11_same_64 (by decide) ?_
      exact am_sub (lv' := [(0, .ref ((zB z).size + 0)), (1, .int v1), (2, .int v2), (3, .int (v3 + 1))]) [1, 2, 3, 0] rfl h
    · replace h := h.2 c4
      refine am_iconst (v := 0) hz1 dX11_same_59 (by decide) ?_
      exact am_ireturn hz dX11_same_60 h
set_option maxRecDepth 100000 in
set_option maxHeartbeats 4000000 in
theorem c_X11_same {l : Launch} {D : va_G} {B : Heap} {G : amG} {I : amI} {L : amL}  (hG : Lay G)  (v1 : Int32) (v2 : Int32) {s : St} (hs : CO s G I L) (hw : WF s) : Mx l D B yX11_same cX11_same 4 (some .int) 1 0 0 [.ref (B.size + 0), .int v1, .int v2] G I L (fun r G1 I1 L1 => r = some (.int (aSame s v1 v2)) ∧ G1 = G ∧ CO s G I1 L1 ∧ frK I L I1 L1) := by
  refine Mx.of (by decide) rfl rfl (fun z e1 e2 e3 hz => ?_)
  subst e1; subst e2; subst e3
  refine b_X11_same_0 hz hG ?_
  refine ⟨fun h => ⟨by rw [aSame, if_neg (by rw [h]; simp)], rfl, hs, frK_r⟩, fun h => ⟨fun h2 => ?_, fun h2 => ⟨by rw [aSame, if_neg (by rw [h2]; simp)], rfl, hs, frK_r⟩⟩⟩
  obtain ⟨f, hf, rfl⟩ := fnR h
  obtain ⟨g, hg, rfl⟩ := fnR h2
  have hc : aSame s (nI f) (nI g) = if sameM (rF (sC s)) f g = true then 1 else 0 := by rw [aSame, if_pos (by rw [h, h2]; rfl), cl_nI (by omega), cl_nI (by omega)]
  refine for_up (P := fun i => scan (fun k => decide (¬ rF (sC s) (256 * f + k) = rF (sC s) (256 * g + k))) (fun _ => false) true (256 - i) i = sameM (rF (sC s)) f g → Wx z 0 0 18 [(0, .ref ((zB z).size + 0)), (1, .int (nI f)), (2, .int (nI g)), (3, .int (nI i))] [] G I L) (n := 256) ?_ ?_ (Nat.zero_le _) rfl
  · intro e
    rw [scan_0] at e
    exact b_X11_same_18 hz hG ⟨fun _ => ⟨by rw [hc, ← e]; rfl, rfl, hs, frK_r⟩, fun q => absurd (nI_le (a := 256) (b := 256) (Nat.le_refl _) (by decide)) q⟩
  · intro i hi ih e
    rw [scan_s hi] at e
    have e1 : ∀ f, nI f * 256 + nI i = nI (256 * f + i) := fun f => by rw [show (256 : Int32) = nI 256 from rfl, nI_mul, nI_add, Nat.mul_comm]
    refine b_X11_same_18 hz hG ⟨fun q => absurd q (nI_ge (b := 256) hi (by decide)), fun _ => ?_⟩
    rw [e1, e1, cl_nI (n := 256 * f + i) (by omega), cl_nI (n := 256 * g + i) (by omega), hs.2.1.2.1 _ (by omega), hs.2.1.2.1 _ (by omega), nI_1]
    refine ⟨in_nI (by omega) (by decide), in_nI (by omega) (by decide), fun q => ih ?_, fun q => ⟨?_, rfl, hs, frK_r⟩⟩
    · rw [if_neg (by rw [decide_eq_true_eq]; exact fun g => g q)] at e; exact e
    · rw [if_pos (decide_eq_true q)] at e; rw [hc, ← e]; rfl
set_option maxRecDepth 100000 in
set_option maxHeartbeats 4000000 in
theorem b_X11_chains_0 {z : amZ} {post : amP} {G : amG} {I : amI} {L : amL} (hz : Go z cX11_chains RX11 4 (some .long) 3 0 0 post) (hG : Lay G) {v1 : Int32} {v2 : Int32} {v3 : Int32} (h : ((q_has I 3 v1 = false) → post (some (.long (-1 : Int64))) G I L) ∧ ((q_has I 3 v1 = true) → ((q_has I 3 v2 = false) → post (some (.long (-1 : Int64))) G I L) ∧ ((q_has I 3 v2 = true) → ((v3 < (-2 : Int32)) → post (some (.long (-1 : Int64))) G I L) ∧ ((¬ v3 < (-2 : Int32)) → ((v3 ≤ (15 : Int32)) → ((¬ v3 = (-1 : Int32)) → ((¬ v3 = (-2 : Int32)) → (szOk I 3) ∧ (vp_in v1 16) ∧ (vp_in v2 16) ∧ (vp_in v3 16) ∧ post (some (.long (q_ch I L 5 0 v1 v3.toNatClampNeg 44 v2.toNatClampNeg))) G I (q_ch I L 5 0 v1 v3.toNatClampNeg)) ∧ ((v3 = (-2 : Int32)) → (szOk I 3) ∧ (vp_in v1 16) ∧ (vp_in v2 16) ∧ post (some (.long (q_ca I L 7 v1 v2 (1 : Int32) (sz I 3 - 1)))) G I (q_ch I L 7 0 v1 (sz I 3 - 1)))) ∧ ((v3 = (-1 : Int32)) → (szOk I 3) ∧ (vp_in v1 16) ∧ (vp_in v2 16) ∧ post (some (.long (q_ca I L 5 v1 v2 (1 : Int32) (sz I 3 - 1)))) G I (q_ch I L 5 0 v1 (sz I 3 - 1)))) ∧ ((¬ v3 ≤ (15 : Int32)) → post (some (.long (-1 : Int64))) G I L))))) : Wx z 0 0 0 [(0, .ref ((zB z).size + 0)), (1, .int v1), (2, .int v2), (3, .int v3)] [] G I L := by
  have hz1 := hz.1
  refine am_aload_n hz1 dX11_chains_0 0 rfl rfl ?_
  refine am_getR hz1 fl_X11_21 (ln_0 hG) (lk_0 hG) (lr_0_2 hG) rfl dX11_chains_1 ?_
  refine am_iload_n hz1 dX11_chains_4 1 rfl rfl ?_
  refine am_cVf hz cv_X11_118 [.int v1] [] (c_X4_has hG isO_3 v1 ) (ln_3 hG) (lk_3 hG) rfl rfl rfl ⟨Nat.le_refl _, Nat.le_refl _⟩ (Nat.le_of_ble_eq_true rfl) dX11_chains_5 ?_
  refine am_ifb_eq (tgt := 34) hz1 dX11_chains_8 (by decide) (fun c1 => ?_) (fun c1 => ?_)
  · replace h := h.1 c1
    refine am_ldc2 hz1 kc_X11_327 dX11_chains_34 ?_
    exact am_lreturn hz dX11_chains_37 h
  · replace h := h.2 c1
    refine am_aload_n hz1 dX11_chains_11 0 rfl rfl ?_
    refine am_getR hz1 fl_X11_21 (ln_0 hG) (lk_0 hG) (lr_0_2 hG) rfl dX11_chains_12 ?_
    refine am_iload_n hz1 dX11_chains_15 2 rfl rfl ?_
    refine am_cVf hz cv_X11_118 [.int v2] [] (c_X4_has hG isO_3 v2 ) (ln_3 hG) (lk_3 hG) rfl rfl rfl ⟨Nat.le_refl _, Nat.le_refl _⟩ (Nat.le_of_ble_eq_true rfl) dX11_chains_16 ?_
    refine am_ifb_eq (tgt := 34) hz1 dX11_chains_19 (by decide) (fun c2 => ?_) (fun c2 => ?_)
    · replace h := h.1 c2
      refine am_ldc2 hz1 kc_X11_327 dX11_chains_34 ?_
      exact am_lreturn hz dX11_chains_37 h
    · replace h := h.2 c2
      refine am_iload_n hz1 dX11_chains_22 3 rfl rfl ?_
      refine am_bipush (v := (-2)) hz1 dX11_chains_23 (by decide) ?_
      refine am_icmp_lt (tgt := 34) hz1 dX11_chains_25 (by decide) (fun c3 => ?_) (fun c3 => ?_)
      · replace h := h.1 c3
        refine am_ldc2 hz1 kc_X11_327 dX11_chains_34 ?_
        exact am_lreturn hz dX11_chains_37 h
      · replace h := h.2 c3
        refine am_iload_n hz1 dX11_chains_28 3 rfl rfl ?_
        refine am_bipush (v := 15) hz1 dX11_chains_29 (by decide) ?_
        refine am_icmp_le (tgt := 38) hz1 dX11_chains_31 (by decide) (fun c4 => ?_) (fun c4 => ?_)
        · replace h := h.1 c4
          refine am_iload_n hz1 dX11_chains_38 3 rfl rfl ?_
          refine am_iconst (v := (-1)) hz1 dX11_chains_39 (by decide) ?_
          refine am_icmp_ne (tgt := 61) hz1 dX11_chains_40 (by decide) (fun c5 => ?_) (fun c5 => ?_)
          · replace h := h.1 c5
            refine am_iload_n hz1 dX11_chains_61 3 rfl rfl ?_
            refine am_bipush (v := (-2)) hz1 dX11_chains_62 (by decide) ?_
            refine am_icmp_ne (tgt := 85) hz1 dX11_chains_64 (by decide) (fun c6 => ?_) (fun c6 => ?_)
            · replace h := h.1 c6
              refine am_aload_n hz1 dX11_chains_85 0 rfl rfl ?_
              refine am_getR hz1 fl_X11_75 (ln_0 hG) (lk_0 hG) (lr_0_8 hG) rfl dX11_chains_86 ?_
              refine am_iload_n hz1 dX11_chains_89 1 rfl rfl ?_
              refine am_iload_n hz1 dX11_chains_90 2 rfl rfl ?_
              refine am_iload_n hz1 dX11_chains_91 3 rfl rfl ?_
              obtain ⟨g7, h⟩ := h
              obtain ⟨g8, h⟩ := h
              obtain ⟨g9, h⟩ := h
              obtain ⟨g10, h⟩ := h
              refine am_cVf hz cv_X11_333 [.int v1, .int v2, .int v3] [] (c_X5_chainsOf hG v1 v2 v3 g7 g8 g9 g10) (ln_43 hG) (lk_43 hG) rfl rfl rfl ⟨Nat.le_refl _, Nat.le_refl _⟩ (Nat.le_of_ble_eq_true rfl) dX11_chains_92 ?_
              exact am_lreturn hz dX11_chains_95 h
            · replace h := h.2 c6
              refine am_aload_n hz1 dX11_chains_67 0 rfl rfl ?_
              refine am_getR hz1 fl_X11_75 (ln_0 hG) (lk_0 hG) (lr_0_8 hG) rfl dX11_chains_68 ?_
              refine am_iload_n hz1 dX11_chains_71 1 rfl rfl ?_
              refine am_iload_n hz1 dX11_chains_72 2 rfl rfl ?_
              refine am_aload_n hz1 dX11_chains_73 0 rfl rfl ?_
              refine am_getR hz1 fl_X11_21 (ln_0 hG) (lk_0 hG) (lr_0_2 hG) rfl dX11_chains_74 ?_
              refine am_getR hz1 fl_X11_290 (ln_3 hG) (lk_3 hG) (lr_3_4 hG) rfl dX11_chains_77 ?_
              refine am_iconst (v := 1) hz1 dX11_chains_80 (by decide) ?_
              obtain ⟨g11, h⟩ := h
              obtain ⟨g12, h⟩ := h
              obtain ⟨g13, h⟩ := h
              refine am_cVf hz cv_X11_329 [.int v1, .int v2, .ref ((zB z).size + 7), .int 1] [] (c_X5_chainsOfAll hG (ln_7 hG) (lk_7 hG) (ll_7 hG) v1 v2 (1 : Int32) g11 g12 g13) (ln_43 hG) (lk_43 hG) rfl rfl rfl ⟨Nat.le_refl _, Nat.le_refl _⟩ (Nat.le_of_ble_eq_true rfl) dX11_chains_81 ?_
              exact am_lreturn hz dX11_chains_84 h
          · replace h := h.2 c5
            refine am_aload_n hz1 dX11_chains_43 0 rfl rfl ?_
            refine am_getR hz1 fl_X11_75 (ln_0 hG) (lk_0 hG) (lr_0_8 hG) rfl dX11_chains_44 ?_
            refine am_iload_n hz1 dX11_chains_47 1 rfl rfl ?_
            refine am_iload_n hz1 dX11_chains_48 2 rfl rfl ?_
            refine am_aload_n hz1 dX11_chains_49 0 rfl rfl ?_
            refine am_getR hz1 fl_X11_21 (ln_0 hG) (lk_0 hG) (lr_0_2 hG) rfl dX11_chains_50 ?_
            refine am_getR hz1 fl_X11_315 (ln_3 hG) (lk_3 hG) (lr_3_2 hG) rfl dX11_chains_53 ?_
            refine am_iconst (v := 1) hz1 dX11_chains_56 (by decide) ?_
            obtain ⟨g14, h⟩ := h
            obtain ⟨g15, h⟩ := h
            obtain ⟨g16, h⟩ := h
            refine am_cVf hz cv_X11_329 [.int v1, .int v2, .ref ((zB z).size + 5), .int 1] [] (c_X5_chainsOfAll hG (ln_5 hG) (lk_5 hG) (ll_5 hG) v1 v2 (1 : Int32) g14 g15 g16) (ln_43 hG) (lk_43 hG) rfl rfl rfl ⟨Nat.le_refl _, Nat.le_refl _⟩ (Nat.le_of_ble_eq_true rfl) dX11_chains_57 ?_
            exact am_lreturn hz dX11_chains_60 h
        · replace h := h.2 c4
          refine am_ldc2 hz1 kc_X11_327 dX11_chains_34 ?_
          exact am_lreturn hz dX11_chains_37 h
set_option maxRecDepth 100000 in
set_option maxHeartbeats 4000000 in
theorem c_X11_chains {l : Launch} {D : va_G} {B : Heap} {G : amG} {I : amI} {L : amL}  (hG : Lay G)  (v1 : Int32) (v2 : Int32) (v3 : Int32) {s : St} (hs : CO s G I L) (hw : WF s) : Mx l D B yX11_chains cX11_chains 4 (some .long) 3 0 0 [.ref (B.size + 0), .int v1, .int v2, .int v3] G I L (fun r G1 I1 L1 => r = some (.long (aChains s v1 v2 v3)) ∧ G1 = G ∧ CO s G I1 L1 ∧ frK I L I1 L1) := by
  refine Mx.of (by decide) rfl rfl (fun z e1 e2 e3 hz => ?_)
  subst e1; subst e2; subst e3
  refine b_X11_chains_0 hz hG ?_
  have hO := hs.2.1.1
  have h16 := hO.2.2.1
  have hP := hO.2.2.2.2.2.1
  rw [hO.hasB, hO.hasB]
  refine ⟨fun h => ⟨by rw [aChains, if_neg (by rw [h]; simp)], rfl, hs, frK_r⟩, fun h => ⟨fun h2 => ⟨by rw [aChains, if_neg (by rw [h2]; simp)], rfl, hs, frK_r⟩, fun h2 => ⟨fun h3 => ⟨?_, rfl, hs, frK_r⟩, fun h3 => ⟨fun h4 => ⟨fun h5 => ⟨fun h6 => ?_, fun h6 => ?_⟩, fun h5 => ?_⟩, fun h4 => ⟨?_, rfl, hs, frK_r⟩⟩⟩⟩⟩
  · rw [aChains, if_pos (by rw [h, h2]; rfl), if_neg (by rintro rfl; exact absurd h3 (by decide)), if_neg (by rintro rfl; exact absurd h3 (by decide)), if_neg (by rw [inR_lo (lt_m2 h3)]; decide)]
  · have h7 := inR_in (k := 15) (ge_m2 h3 h5 h6) h4
    rw [aChains, if_pos (by rw [h, h2]; rfl), if_neg h6, if_neg h5, if_pos h7]
    obtain ⟨x, hx, rfl⟩ := (el_t (by omega)).mp h
    obtain ⟨y, hy, rfl⟩ := (el_t (by omega)).mp h2
    obtain ⟨k, hk, rfl⟩ := (inR_t (by decide)).mp h7
    refine ⟨hO.sz, in16 h16 hx, in16 h16 hy, in_nI (by omega) (by decide), ?_, rfl, CO_ch hs⟩
    rw [cl_nI (n := k) (by omega), cl_nI (n := y) (by omega), cl_nI (n := x) (by omega), ch_way hO hx (fun x y hx hy => hO.b5 hx hy) k y hy]
  · rw [aChains, if_pos (by rw [h, h2]; rfl), if_pos h6]
    obtain ⟨x, hx, rfl⟩ := (el_t (by omega)).mp h
    obtain ⟨y, hy, rfl⟩ := (el_t (by omega)).mp h2
    refine ⟨hO.sz, in16 h16 hx, in16 h16 hy, ?_, rfl, CO_ch hs⟩
    rw [cl_nI (n := y) (by omega), cl_nI (n := x) (by omega), sz_eq hO.1 h16, ca_ac hO hx hy (fun x y hx hy => hO.b7 hx hy), ac_n (n := rN (sC s)) (fun k hk => way_z (A := rA (sC s)) (fun y x hy hx q => lt_key hP hy hx (cv_lt q)) k y hy (by have := key_lt hP hy; omega)) 15 (by omega)]
  · rw [aChains, if_pos (by rw [h, h2]; rfl), if_neg (by rintro rfl; exact absurd h5 (by decide)), if_pos h5]
    obtain ⟨x, hx, rfl⟩ := (el_t (by omega)).mp h
    obtain ⟨y, hy, rfl⟩ := (el_t (by omega)).mp h2
    refine ⟨hO.sz, in16 h16 hx, in16 h16 hy, ?_, rfl, CO_ch hs⟩
    rw [cl_nI (n := y) (by omega), cl_nI (n := x) (by omega), sz_eq hO.1 h16, ca_ac hO hx hy (fun x y hx hy => hO.b5 hx hy), ac_n (n := rN (sC s)) (fun k hk => way_z (A := rA (sC s)) (fun y x hy hx q => lt_key hP hy hx q) k y hy (by have := key_lt hP hy; omega)) 15 (by omega)]
  · rw [aChains, if_pos (by rw [h, h2]; rfl), if_neg (by rintro rfl; exact absurd (by decide) h4), if_neg (by rintro rfl; exact absurd (by decide) h4), if_neg (by rw [inR_hi h4]; decide)]
set_option maxRecDepth 100000 in
set_option maxHeartbeats 4000000 in
theorem b_X11_multichains_0 {z : amZ} {post : amP} {G : amG} {I : amI} {L : amL} (hz : Go z cX11_multichains RX11 4 (some .long) 3 0 0 post) (hG : Lay G) {v1 : Int32} {v2 : Int32} {v3 : Int32} (h : (szOk I 3) ∧ ((q_atMost I 3 v1 v2 = false) → post (some (.long (-1 : Int64))) G I L) ∧ ((q_atMost I 3 v1 v2 = true) → ((v3 < 0) → post (some (.long (-1 : Int64))) G I L) ∧ ((¬ v3 < 0) → ((v3 ≤ (30 : Int32)) → (szOk I 3) ∧ (vp_in v1 16) ∧ (vp_in v2 16) ∧ (vp_in v3 32) ∧ post (some (.long (q_ch I L 5 1 v1 v3.toNatClampNeg 44 v2.toNatClampNeg))) G I (q_ch I L 5 1 v1 v3.toNatClampNeg)) ∧ ((¬ v3 ≤ (30 : Int32)) → post (some (.long (-1 : Int64))) G I L)))) : Wx z 0 0 0 [(0, .ref ((zB z).size + 0)), (1, .int v1), (2, .int v2), (3, .int v3)] [] G I L := by
  have hz1 := hz.1
  refine am_aload_n hz1 dX11_multichains_0 0 rfl rfl ?_
  refine am_getR hz1 fl_X11_21 (ln_0 hG) (lk_0 hG) (lr_0_2 hG) rfl dX11_multichains_1 ?_
  refine am_iload_n hz1 dX11_multichains_4 1 rfl rfl ?_
  refine am_iload_n hz1 dX11_multichains_5 2 rfl rfl ?_
  obtain ⟨g1, h⟩ := h
  refine am_cVf hz cv_X11_126 [.int v1, .int v2] [] (c_X4_atMost hG isO_3 v1 v2 g1) (ln_3 hG) (lk_3 hG) rfl rfl rfl ⟨Nat.le_refl _, Nat.le_refl _⟩ (Nat.le_of_ble_eq_true rfl) dX11_multichains_6 ?_
  refine am_ifb_eq (tgt := 22) hz1 dX11_multichains_9 (by decide) (fun c2 => ?_) (fun c2 => ?_)
  · replace h := h.1 c2
    refine am_ldc2 hz1 kc_X11_327 dX11_multichains_22 ?_
    exact am_lreturn hz dX11_multichains_25 h
  · replace h := h.2 c2
    refine am_iload_n hz1 dX11_multichains_12 3 rfl rfl ?_
    refine am_if_lt (tgt := 22) hz1 dX11_multichains_13 (by decide) (fun c3 => ?_) (fun c3 => ?_)
    · replace h := h.1 c3
      refine am_ldc2 hz1 kc_X11_327 dX11_multichains_22 ?_
      exact am_lreturn hz dX11_multichains_25 h
    · replace h := h.2 c3
      refine am_iload_n hz1 dX11_multichains_16 3 rfl rfl ?_
      refine am_bipush (v := 30) hz1 dX11_multichains_17 (by decide) ?_
      refine am_icmp_le (tgt := 26) hz1 dX11_multichains_19 (by decide) (fun c4 => ?_) (fun c4 => ?_)
      · replace h := h.1 c4
        refine am_aload_n hz1 dX11_multichains_26 0 rfl rfl ?_
        refine am_getR hz1 fl_X11_75 (ln_0 hG) (lk_0 hG) (lr_0_8 hG) rfl dX11_multichains_27 ?_
        refine am_iload_n hz1 dX11_multichains_30 1 rfl rfl ?_
        refine am_iload_n hz1 dX11_multichains_31 2 rfl rfl ?_
        refine am_iload_n hz1 dX11_multichains_32 3 rfl rfl ?_
        obtain ⟨g5, h⟩ := h
        obtain ⟨g6, h⟩ := h
        obtain ⟨g7, h⟩ := h
        obtain ⟨g8, h⟩ := h
        refine am_cVf hz cv_X11_350 [.int v1, .int v2, .int v3] [] (c_X5_multichainsOf hG v1 v2 v3 g5 g6 g7 g8) (ln_43 hG) (lk_43 hG) rfl rfl rfl ⟨Nat.le_refl _, Nat.le_refl _⟩ (Nat.le_of_ble_eq_true rfl) dX11_multichains_33 ?_
        exact am_lreturn hz dX11_multichains_36 h
      · replace h := h.2 c4
        refine am_ldc2 hz1 kc_X11_327 dX11_multichains_22 ?_
        exact am_lreturn hz dX11_multichains_25 h
set_option maxRecDepth 100000 in
set_option maxHeartbeats 4000000 in
theorem c_X11_multichains {l : Launch} {D : va_G} {B : Heap} {G : amG} {I : amI} {L : amL}  (hG : Lay G)  (v1 : Int32) (v2 : Int32) (v3 : Int32) {s : St} (hs : CO s G I L) (hw : WF s) : Mx l D B yX11_multichains cX11_multichains 4 (some .long) 3 0 0 [.ref (B.size + 0), .int v1, .int v2, .int v3] G I L (fun r G1 I1 L1 => r = some (.long (aMulti s v1 v2 v3)) ∧ G1 = G ∧ CO s G I1 L1 ∧ frK I L I1 L1) := by
  refine Mx.of (by decide) rfl rfl (fun z e1 e2 e3 hz => ?_)
  subst e1; subst e2; subst e3
  refine b_X11_multichains_0 hz hG ?_
  have hO := hs.2.1.1
  have h16 := hO.2.2.1
  rw [hO.amB]
  refine ⟨hO.sz, fun h => ⟨by rw [aMulti, if_neg (by rw [h]; simp)], rfl, hs, frK_r⟩, fun h => ⟨fun h2 => ⟨by rw [aMulti, if_neg (by rw [inR_lo h2]; simp)], rfl, hs, frK_r⟩, fun h2 => ⟨fun h3 => ?_, fun h3 => ⟨by rw [aMulti, if_neg (by rw [inR_hi h3]; simp)], rfl, hs, frK_r⟩⟩⟩⟩
  have h4 := inR_in (k := 30) h2 h3
  rw [aMulti, if_pos (by rw [h, h4]; rfl)]
  obtain ⟨x, y, hx, hy, rfl, rfl, hl⟩ := (iv_t h16).mp h
  obtain ⟨k, hk, rfl⟩ := (inR_t (by decide)).mp h4
  refine ⟨hO.sz, in16 h16 hx, in16 h16 hy, in_nI (by omega) (by decide), ?_, rfl, CO_ch hs⟩
  rw [cl_nI (n := k) (by omega), cl_nI (n := y) (by omega), cl_nI (n := x) (by omega), mch_way hO hx k y hy]
theorem cases4 {w : Int32} (h : w < 0 ∨ 3 < w) : w ≠ 0 ∧ w ≠ 1 ∧ w ≠ 2 ∧ w ≠ 3 := by
  refine ⟨?_, ?_, ?_, ?_⟩ <;> (rintro rfl; exact absurd h (by decide))
set_option maxRecDepth 100000 in
set_option maxHeartbeats 4000000 in
theorem b_X11_moebius_0 {z : amZ} {post : amP} {G : amG} {I : amI} {L : amL} (hz : Go z cX11_moebius RX11 4 (some .long) 5 0 0 post) (hG : Lay G) {v1 : Int32} {v2 : Int32} {v3 : Int32} (h : (szOk I 3) ∧ ((q_atMost I 3 v1 v2 = true) → (v3 = 0 → (szOk I 3) ∧ (rowOk I 3) ∧ vp_in v2 16 ∧ post (some (.long ((setL L 63 (q_mf I 3 v1 (L 63) (sz I 3))) 63 v2.toNatClampNeg))) G I (setL L 63 (q_mf I 3 v1 (L 63) (sz I 3)))) ∧ (v3 = 1 → (szOk I 3) ∧ (rowOk I 3) ∧ vp_in v1 16 ∧ post (some (.long ((setL L 63 (q_mt I 3 v2 (L 63) (sz I 3))) 63 v1.toNatClampNeg))) G I (setL L 63 (q_mt I 3 v2 (L 63) (sz I 3)))) ∧ (v3 = 2 → (szOk I 3) ∧ (vp_in v1 16) ∧ (vp_in v2 16) ∧ post (some (.long (q_ca I L 5 v1 v2 (-1 : Int32) (sz I 3 - 1)))) G I (q_ch I L 5 0 v1 (sz I 3 - 1))) ∧ (v3 = 3 → (szOk I 3) ∧ (szOk I 3) ∧ ((q_hasJ I 3 (q_between I 3 v1 v2) = false) → post (some (.long (-9223372036854775808 : Int64))) G I L) ∧ ((q_hasJ I 3 (q_between I 3 v1 v2) = true) → (szOk I 3) ∧ (vp_in v1 16) ∧ (vp_in v2 16) ∧ post (some (.long (q_cc I L v1 v2 (sz I 3) 44 v2.toNatClampNeg))) G I (q_cc I L v1 v2 (sz I 3)))) ∧ ((v3 < 0 ∨ 3 < v3) → post (some (.long (-9223372036854775808 : Int64))) G I L)) ∧ ((q_atMost I 3 v1 v2 = false) → post (some (.long (-9223372036854775808 : Int64))) G I L)) : Wx z 0 0 0 [(0, .ref ((zB z).size + 0)), (1, .int v1), (2, .int v2), (3, .int v3)] [] G I L := by
  have hz1 := hz.1
  refine am_aload_n hz1 dX11_moebius_0 0 rfl rfl ?_
  refine am_getR hz1 fl_X11_21 (ln_0 hG) (lk_0 hG) (lr_0_2 hG) rfl dX11_moebius_1 ?_
  refine am_iload_n hz1 dX11_moebius_4 1 rfl rfl ?_
  refine am_iload_n hz1 dX11_moebius_5 2 rfl rfl ?_
  obtain ⟨g1, h⟩ := h
  refine am_cVf hz cv_X11_126 [.int v1, .int v2] [] (c_X4_atMost hG isO_3 v1 v2 g1) (ln_3 hG) (lk_3 hG) rfl rfl rfl ⟨Nat.le_refl _, Nat.le_refl _⟩ (Nat.le_of_ble_eq_true rfl) dX11_moebius_6 ?_
  refine am_ifb_ne (tgt := 16) hz1 dX11_moebius_9 (by decide) (fun c2 => ?_) (fun c2 => ?_)
  · replace h := h.1 c2
    refine am_iload_n hz1 dX11_moebius_16 3 rfl rfl ?_
    by_cases c3_0 : v3 = 0
    · replace h := h.1 c3_0
      refine am_tabI (off := 31) (tgt := 48) hz1 0 dX11_moebius_17 c3_0 (by decide) (by decide) rfl (by decide) ?_
      refine am_aload_n hz1 dX11_moebius_48 0 rfl rfl ?_
      refine am_getR hz1 fl_X11_21 (ln_0 hG) (lk_0 hG) (lr_0_2 hG) rfl dX11_moebius_49 ?_
      refine am_iload_n hz1 dX11_moebius_52 1 rfl rfl ?_
      refine am_aload_n hz1 dX11_moebius_53 0 rfl rfl ?_
      refine am_getR hz1 fl_X11_100 (ln_0 hG) (lk_0 hG) (lr_0_13 hG) rfl dX11_moebius_54 ?_
      obtain ⟨g4, h⟩ := h
      obtain ⟨g5, h⟩ := h
      refine am_cVf hz cv_X11_336 [.int v1, .ref ((zB z).size + 63)] [] (c_X4_moebiusFrom hG isO_3 (ln_63 hG) (lk_63 hG) (ll_63 hG) v1 g4 g5) (ln_3 hG) (lk_3 hG) rfl rfl rfl ⟨Nat.le_refl _, Nat.le_refl _⟩ (Nat.le_of_ble_eq_true rfl) dX11_moebius_57 ?_
      refine am_aload_n hz1 dX11_moebius_60 0 rfl rfl ?_
      refine am_getR hz1 fl_X11_100 (ln_0 hG) (lk_0 hG) (lr_0_13 hG) rfl dX11_moebius_61 ?_
      refine am_iload_n hz1 dX11_moebius_64 2 rfl rfl ?_
      obtain ⟨g6, h⟩ := h
      refine am_lald hz1 (ln_63 hG) (lk_63 hG) (by rw [(ll_63 hG)]; exact g6) dX11_moebius_65 ?_
      exact am_lreturn hz dX11_moebius_66 h
    by_cases c3_1 : v3 = 1
    · replace h := h.2.1 c3_1
      refine am_tabI (off := 50) (tgt := 67) hz1 1 dX11_moebius_17 c3_1 (by decide) (by decide) rfl (by decide) ?_
      refine am_aload_n hz1 dX11_moebius_67 0 rfl rfl ?_
      refine am_getR hz1 fl_X11_21 (ln_0 hG) (lk_0 hG) (lr_0_2 hG) rfl dX11_moebius_68 ?_
      refine am_iload_n hz1 dX11_moebius_71 2 rfl rfl ?_
      refine am_aload_n hz1 dX11_moebius_72 0 rfl rfl ?_
      refine am_getR hz1 fl_X11_100 (ln_0 hG) (lk_0 hG) (lr_0_13 hG) rfl dX11_moebius_73 ?_
      obtain ⟨g7, h⟩ := h
      obtain ⟨g8, h⟩ := h
      refine am_cVf hz cv_X11_340 [.int v2, .ref ((zB z).size + 63)] [] (c_X4_moebiusTo hG isO_3 (ln_63 hG) (lk_63 hG) (ll_63 hG) v2 g7 g8) (ln_3 hG) (lk_3 hG) rfl rfl rfl ⟨Nat.le_refl _, Nat.le_refl _⟩ (Nat.le_of_ble_eq_true rfl) dX11_moebius_76 ?_
      refine am_aload_n hz1 dX11_moebius_79 0 rfl rfl ?_
      refine am_getR hz1 fl_X11_100 (ln_0 hG) (lk_0 hG) (lr_0_13 hG) rfl dX11_moebius_80 ?_
      refine am_iload_n hz1 dX11_moebius_83 1 rfl rfl ?_
      obtain ⟨g9, h⟩ := h
      refine am_lald hz1 (ln_63 hG) (lk_63 hG) (by rw [(ll_63 hG)]; exact g9) dX11_moebius_84 ?_
      exact am_lreturn hz dX11_moebius_85 h
    by_cases c3_2 : v3 = 2
    · replace h := h.2.2.1 c3_2
      refine am_tabI (off := 69) (tgt := 86) hz1 2 dX11_moebius_17 c3_2 (by decide) (by decide) rfl (by decide) ?_
      refine am_aload_n hz1 dX11_moebius_86 0 rfl rfl ?_
      refine am_getR hz1 fl_X11_75 (ln_0 hG) (lk_0 hG) (lr_0_8 hG) rfl dX11_moebius_87 ?_
      refine am_iload_n hz1 dX11_moebius_90 1 rfl rfl ?_
      refine am_iload_n hz1 dX11_moebius_91 2 rfl rfl ?_
      refine am_aload_n hz1 dX11_moebius_92 0 rfl rfl ?_
      refine am_getR hz1 fl_X11_21 (ln_0 hG) (lk_0 hG) (lr_0_2 hG) rfl dX11_moebius_93 ?_
      refine am_getR hz1 fl_X11_315 (ln_3 hG) (lk_3 hG) (lr_3_2 hG) rfl dX11_moebius_96 ?_
      refine am_iconst (v := (-1)) hz1 dX11_moebius_99 (by decide) ?_
      obtain ⟨g10, h⟩ := h
      obtain ⟨g11, h⟩ := h
      obtain ⟨g12, h⟩ := h
      refine am_cVf hz cv_X11_329 [.int v1, .int v2, .ref ((zB z).size + 5), .int (-1)] [] (c_X5_chainsOfAll hG (ln_5 hG) (lk_5 hG) (ll_5 hG) v1 v2 (-1 : Int32) g10 g11 g12) (ln_43 hG) (lk_43 hG) rfl rfl rfl ⟨Nat.le_refl _, Nat.le_refl _⟩ (Nat.le_of_ble_eq_true rfl) dX11_moebius_100 ?_
      exact am_lreturn hz dX11_moebius_103 h
    by_cases c3_3 : v3 = 3
    · replace h := h.2.2.2.1 c3_3
      refine am_tabI (off := 87) (tgt := 104) hz1 3 dX11_moebius_17 c3_3 (by decide) (by decide) rfl (by decide) ?_
      refine am_aload_n hz1 dX11_moebius_104 0 rfl rfl ?_
      refine am_getR hz1 fl_X11_21 (ln_0 hG) (lk_0 hG) (lr_0_2 hG) rfl dX11_moebius_105 ?_
      refine am_aload_n hz1 dX11_moebius_108 0 rfl rfl ?_
      refine am_getR hz1 fl_X11_21 (ln_0 hG) (lk_0 hG) (lr_0_2 hG) rfl dX11_moebius_109 ?_
      refine am_iload_n hz1 dX11_moebius_112 1 rfl rfl ?_
      refine am_iload_n hz1 dX11_moebius_113 2 rfl rfl ?_
      obtain ⟨g13, h⟩ := h
      refine am_cVf hz cv_X11_156 [.int v1, .int v2] [.ref ((zB z).size + 3)] (c_X4_between hG isO_3 v1 v2 g13) (ln_3 hG) (lk_3 hG) rfl rfl rfl ⟨Nat.le_refl _, Nat.le_refl _⟩ (Nat.le_of_ble_eq_true rfl) dX11_moebius_114 ?_
      obtain ⟨g14, h⟩ := h
      refine am_cVf hz cv_X11_343 [.int (q_between I 3 v1 v2)] [] (c_X4_hasJoinsWithin hG isO_3 (q_between I 3 v1 v2) g14) (ln_3 hG) (lk_3 hG) rfl rfl rfl ⟨Nat.le_refl _, Nat.le_refl _⟩ (Nat.le_of_ble_eq_true rfl) dX11_moebius_117 ?_
      refine am_ifb_eq (tgt := 135) hz1 dX11_moebius_120 (by decide) (fun c15 => ?_) (fun c15 => ?_)
      · replace h := h.1 c15
        refine am_ldc2 hz1 kc_X11_281 dX11_moebius_135 ?_
        exact am_lreturn hz dX11_moebius_138 h
      · replace h := h.2 c15
        refine am_aload_n hz1 dX11_moebius_123 0 rfl rfl ?_
        refine am_getR hz1 fl_X11_75 (ln_0 hG) (lk_0 hG) (lr_0_8 hG) rfl dX11_moebius_124 ?_
        refine am_iload_n hz1 dX11_moebius_127 1 rfl rfl ?_
        refine am_iload_n hz1 dX11_moebius_128 2 rfl rfl ?_
        obtain ⟨g16, h⟩ := h
        obtain ⟨g17, h⟩ := h
        obtain ⟨g18, h⟩ := h
        refine am_cVf hz cv_X11_346 [.int v1, .int v2] [] (c_X5_crossCut hG v1 v2 g16 g17 g18) (ln_43 hG) (lk_43 hG) rfl rfl rfl ⟨Nat.le_refl _, Nat.le_refl _⟩ (Nat.le_of_ble_eq_true rfl) dX11_moebius_129 ?_
        refine am_goto (tgt := 138) hz1 dX11_moebius_132 (by decide) ?_
        exact am_lreturn hz dX11_moebius_138 h
    have c3 : v3 < 0 ∨ 3 < v3 := tabx_4_0 c3_0 c3_1 c3_2 c3_3
    replace h := h.2.2.2.2 c3
    refine am_tabO (tgt := 139) hz1 dX11_moebius_17 (c3.elim (fun e => Or.inl (tab_lt 0 rfl e)) (fun e => Or.inr (tab_gt 3 rfl e))) (by decide) ?_
    refine am_ldc2 hz1 kc_X11_281 dX11_moebius_139 ?_
    exact am_lreturn hz dX11_moebius_142 h
  · replace h := h.2 c2
    refine am_ldc2 hz1 kc_X11_281 dX11_moebius_12 ?_
    exact am_lreturn hz dX11_moebius_15 h
set_option maxRecDepth 100000 in
set_option maxHeartbeats 4000000 in
theorem c_X11_moebius {l : Launch} {D : va_G} {B : Heap} {G : amG} {I : amI} {L : amL}  (hG : Lay G)  (v1 : Int32) (v2 : Int32) (v3 : Int32) {s : St} (hs : CO s G I L) (hw : WF s) : Mx l D B yX11_moebius cX11_moebius 4 (some .long) 5 0 0 [.ref (B.size + 0), .int v1, .int v2, .int v3] G I L (fun r G1 I1 L1 => r = some (.long (aMoeb s v1 v2 v3)) ∧ G1 = G ∧ CO s G I1 L1 ∧ frK I L I1 L1) := by
  refine Mx.of (by decide) rfl rfl (fun z e1 e2 e3 hz => ?_)
  subst e1; subst e2; subst e3
  refine b_X11_moebius_0 hz hG ?_
  have hO := hs.2.1.1
  have h16 := hO.2.2.1
  have hP := hO.2.2.2.2.2.1
  rw [hO.amB]
  refine ⟨hO.sz, fun h => ?_, fun h => ⟨by rw [aMoeb, if_neg (by rw [h]; decide)], rfl, hs, frK_r⟩⟩
  have hc := h
  obtain ⟨x, y, hx, hy, rfl, rfl, hl⟩ := (iv_t h16).mp h
  have ex : (nI x).toNatClampNeg = x := cl_nI (by omega)
  have ey : (nI y).toNatClampNeg = y := cl_nI (by omega)
  rw [ex, ey, sz_eq hO.1 h16, hO.btw hx hy, hO.hasJ]
  refine ⟨fun q => ⟨hO.sz, hO.row, in16 h16 hy, ?_, rfl, CO_63 hs⟩, fun q => ⟨hO.sz, hO.row, in16 h16 hx, ?_, rfl, CO_63 hs⟩, fun q => ⟨hO.sz, in16 h16 hx, in16 h16 hy, ?_, rfl, CO_ch hs⟩, fun q => ⟨hO.sz, hO.sz, fun g => ⟨?_, rfl, hs, frK_r⟩, fun g => ⟨hO.sz, in16 h16 hx, in16 h16 hy, ?_, rfl, CO_cc hs⟩⟩, fun q => ⟨?_, rfl, hs, frK_r⟩⟩
  · subst q; rw [setL_s, mf_mu hO hx hy, aMoeb, if_pos hc, if_pos rfl, ex, ey]
  · subst q; rw [setL_s, mt_nu hO hy hx, aMoeb, if_pos hc, if_neg (by decide), if_pos rfl, ex, ey]
  · subst q
    rw [aMoeb, if_pos hc, if_neg (by decide), if_neg (by decide), if_pos rfl, ex, ey, ca_alt hO hx hy (fun x y hx hy => hO.b5 hx hy), show rN (sC s) - 1 + 1 = rN (sC s) by have := hO.2.1; omega, alt_n (n := rN (sC s)) (fun k hk => way_z (A := rA (sC s)) (fun y x hy hx q => lt_key hP hy hx q) k y hy (by have := key_lt hP hy; omega)) 16 h16]
  · subst q; rw [aMoeb, if_pos hc, if_neg (by decide), if_neg (by decide), if_neg (by decide), if_pos rfl, ex, ey, if_neg (by rw [g]; decide)]
  · subst q; rw [aMoeb, if_pos hc, if_neg (by decide), if_neg (by decide), if_neg (by decide), if_pos rfl, ex, ey, if_pos g, cc_X hO hx hy hl g]
  · obtain ⟨a, b, c, d⟩ := cases4 q
    rw [aMoeb, if_pos hc, if_neg a, if_neg b, if_neg c, if_neg d]
/-! sums -/
theorem CO_s {s : St} {G : amG} {I : amI} {L : amL} {v : Int32} {t : Int64} (h : CO s G I L) : CO s G (sI I v) (sL L t) ∧ frK I L (sI I v) (sL L t) := CO_n h (fun _ e => sI_o e) (fun _ e _ _ _ => sL_o e)
set_option maxRecDepth 100000 in
set_option maxHeartbeats 4000000 in
theorem b_X11_summed_0 {z : amZ} {post : amP} {G : amG} {I : amI} {L : amL} (hz : Go z cX11_summed RX11 5 (some .long) 2 0 0 post) (hG : Lay G) {v1 : Int32} {v2 : Int32} (h : ((q_has I 3 v1 = false) → post (some (.long (-9223372036854775808 : Int64))) G I L) ∧ ((q_has I 3 v1 = true) → ((v2 < 0) → post (some (.long (-9223372036854775808 : Int64))) G I L) ∧ ((¬ v2 < 0) → ((v2 ≤ (1 : Int32)) → ((¬ v2 = 0) → (szOk I 3) ∧ Wx z 0 0 58 [(0, .ref ((zB z).size + 0)), (3, .int (q_from I 3 v1)), (4, .int 0)] [] G (sI I 0) (sL L 0)) ∧ ((v2 = 0) → (szOk I 3) ∧ Wx z 0 0 58 [(0, .ref ((zB z).size + 0)), (3, .int (q_upTo I 3 v1)), (4, .int 0)] [] G (sI I 0) (sL L 0))) ∧ ((¬ v2 ≤ (1 : Int32)) → post (some (.long (-9223372036854775808 : Int64))) G I L)))) : Wx z 0 0 0 [(0, .ref ((zB z).size + 0)), (1, .int v1), (2, .int v2)] [] G I L := by
  have hz1 := hz.1
  refine am_aload_n hz1 dX11_summed_0 0 rfl rfl ?_
  refine am_getR hz1 fl_X11_21 (ln_0 hG) (lk_0 hG) (lr_0_2 hG) rfl dX11_summed_1 ?_
  refine am_iload_n hz1 dX11_summed_4 1 rfl rfl ?_
  refine am_cVf hz cv_X11_118 [.int v1] [] (c_X4_has hG isO_3 v1 ) (ln_3 hG) (lk_3 hG) rfl rfl rfl ⟨Nat.le_refl _, Nat.le_refl _⟩ (Nat.le_of_ble_eq_true rfl) dX11_summed_5 ?_
  refine am_ifb_eq (tgt := 20) hz1 dX11_summed_8 (by decide) (fun c1 => ?_) (fun c1 => ?_)
  · replace h := h.1 c1
    refine am_ldc2 hz1 kc_X11_281 dX11_summed_20 ?_
    exact am_lreturn hz dX11_summed_23 h
  · replace h := h.2 c1
    refine am_iload_n hz1 dX11_summed_11 2 rfl rfl ?_
    refine am_if_lt (tgt := 20) hz1 dX11_summed_12 (by decide) (fun c2 => ?_) (fun c2 => ?_)
    · replace h := h.1 c2
      refine am_ldc2 hz1 kc_X11_281 dX11_summed_20 ?_
      exact am_lreturn hz dX11_summed_23 h
    · replace h := h.2 c2
      refine am_iload_n hz1 dX11_summed_15 2 rfl rfl ?_
      refine am_iconst (v := 1) hz1 dX11_summed_16 (by decide) ?_
      refine am_icmp_le (tgt := 24) hz1 dX11_summed_17 (by decide) (fun c3 => ?_) (fun c3 => ?_)
      · replace h := h.1 c3
        refine am_iload_n hz1 dX11_summed_24 2 rfl rfl ?_
        refine am_if_ne (tgt := 39) hz1 dX11_summed_25 (by decide) (fun c4 => ?_) (fun c4 => ?_)
        · replace h := h.1 c4
          refine am_aload_n hz1 dX11_summed_39 0 rfl rfl ?_
          refine am_getR hz1 fl_X11_21 (ln_0 hG) (lk_0 hG) (lr_0_2 hG) rfl dX11_summed_40 ?_
          refine am_iload_n hz1 dX11_summed_43 1 rfl rfl ?_
          obtain ⟨g5, h⟩ := h
          refine am_cVf hz cv_X11_287 [.int v1] [] (c_X4_from hG isO_3 v1 g5) (ln_3 hG) (lk_3 hG) rfl rfl rfl ⟨Nat.le_refl _, Nat.le_refl _⟩ (Nat.le_of_ble_eq_true rfl) dX11_summed_44 ?_
          refine am_istore_n (lv' := [(3, .int (q_from I 3 v1)), (0, .ref ((zB z).size + 0)), (1, .int v1), (2, .int v2)]) hz1 dX11_summed_47 rfl rfl rfl ?_
          refine am_aload_n hz1 dX11_summed_48 1 rfl rfl ?_
          refine am_getR hz1 fl_X11_44 (ln_0 hG) (lk_0 hG) (lr_0_12 hG) rfl dX11_summed_49 ?_
          refine am_cVf hz cv_X11_254 [] [] (c_X9_begin hG  ) (ln_34 hG) (lk_34 hG) rfl rfl rfl ⟨Nat.le_refl _, Nat.le_refl _⟩ (Nat.le_of_ble_eq_true rfl) dX11_summed_52 ?_
          refine am_iconst (v := 0) hz1 dX11_summed_55 (by decide) ?_
          refine am_istore (lv' := [(4, .int 0), (3, .int (q_from I 3 v1)), (0, .ref ((zB z).size + 0)), (1, .int v1), (2, .int v2)]) hz1 dX11_summed_56 rfl rfl ?_
          exact am_sub (lv' := [(0, .ref ((zB z).size + 0)), (3, .int (q_from I 3 v1)), (4, .int 0)]) [2, 1, 0] rfl h
        · replace h := h.2 c4
          refine am_aload_n hz1 dX11_summed_28 0 rfl rfl ?_
          refine am_getR hz1 fl_X11_21 (ln_0 hG) (lk_0 hG) (lr_0_2 hG) rfl dX11_summed_29 ?_
          refine am_iload_n hz1 dX11_summed_32 1 rfl rfl ?_
          obtain ⟨g6, h⟩ := h
          refine am_cVf hz cv_X11_283 [.int v1] [] (c_X4_upTo hG isO_3 v1 g6) (ln_3 hG) (lk_3 hG) rfl rfl rfl ⟨Nat.le_refl _, Nat.le_refl _⟩ (Nat.le_of_ble_eq_true rfl) dX11_summed_33 ?_
          refine am_goto (tgt := 47) hz1 dX11_summed_36 (by decide) ?_
          refine am_istore_n (lv' := [(3, .int (q_upTo I 3 v1)), (0, .ref ((zB z).size + 0)), (1, .int v1), (2, .int v2)]) hz1 dX11_summed_47 rfl rfl rfl ?_
          refine am_aload_n hz1 dX11_summed_48 1 rfl rfl ?_
          refine am_getR hz1 fl_X11_44 (ln_0 hG) (lk_0 hG) (lr_0_12 hG) rfl dX11_summed_49 ?_
          refine am_cVf hz cv_X11_254 [] [] (c_X9_begin hG  ) (ln_34 hG) (lk_34 hG) rfl rfl rfl ⟨Nat.le_refl _, Nat.le_refl _⟩ (Nat.le_of_ble_eq_true rfl) dX11_summed_52 ?_
          refine am_iconst (v := 0) hz1 dX11_summed_55 (by decide) ?_
          refine am_istore (lv' := [(4, .int 0), (3, .int (q_upTo I 3 v1)), (0, .ref ((zB z).size + 0)), (1, .int v1), (2, .int v2)]) hz1 dX11_summed_56 rfl rfl ?_
          exact am_sub (lv' := [(0, .ref ((zB z).size + 0)), (3, .int (q_upTo I 3 v1)), (4, .int 0)]) [2, 1, 0] rfl h
      · replace h := h.2 c3
        refine am_ldc2 hz1 kc_X11_281 dX11_summed_20 ?_
        exact am_lreturn hz dX11_summed_23 h
set_option maxRecDepth 100000 in
set_option maxHeartbeats 4000000 in
theorem b_X11_summed_58 {z : amZ} {post : amP} {G : amG} {I : amI} {L : amL} (hz : Go z cX11_summed RX11 5 (some .long) 2 0 0 post) (hG : Lay G) {v3 : Int32} {v4 : Int32} (h : (((I 3 0) ≤ v4) → (((I 34 1) = 0) → post (some (.long (L 34 0))) G I L) ∧ ((¬ (I 34 1) = 0) → post (some (.long (-9223372036854775808 : Int64))) G I L)) ∧ ((¬ (I 3 0) ≤ v4) → ((¬ ((v3 >>> (v4 &&& 31)) &&& (1 : Int32)) = (1 : Int32)) → Wx z 0 0 58 [(0, .ref ((zB z).size + 0)), (3, .int v3), (4, .int (v4 + 1))] [] G I L) ∧ ((((v3 >>> (v4 &&& 31)) &&& (1 : Int32)) = (1 : Int32)) → vp_in v4 16 ∧ Wx z 0 0 58 [(0, .ref ((zB z).size + 0)), (3, .int v3), (4, .int (v4 + 1))] [] G (sI I (q_ovA (L 34 0) (L 40 v4.toNatClampNeg) (I 34 1))) (sL L (L 34 0 + (L 40 v4.toNatClampNeg)))))) : Wx z 0 0 58 [(0, .ref ((zB z).size + 0)), (3, .int v3), (4, .int v4)] [] G I L := by
  have hz1 := hz.1
  refine am_iload hz1 dX11_summed_58 2 rfl ?_
  refine am_aload_n hz1 dX11_summed_60 0 rfl rfl ?_
  refine am_getR hz1 fl_X11_21 (ln_0 hG) (lk_0 hG) (lr_0_2 hG) rfl dX11_summed_61 ?_
  refine am_getI hz1 fl_X11_129 (ln_3 hG) (lk_3 hG) rfl dX11_summed_64 ?_
  refine am_icmp_ge (tgt := 100) hz1 dX11_summed_67 (by decide) (fun c1 => ?_) (fun c1 => ?_)
  · replace h := h.1 c1
    refine am_aload_n hz1 dX11_summed_100 0 rfl rfl ?_
    refine am_getR hz1 fl_X11_44 (ln_0 hG) (lk_0 hG) (lr_0_12 hG) rfl dX11_summed_101 ?_
    refine am_getI hz1 fl_X11_265 (ln_34 hG) (lk_34 hG) rfl dX11_summed_104 ?_
    refine am_if_eq (tgt := 116) hz1 dX11_summed_107 (by decide) (fun c2 => ?_) (fun c2 => ?_)
    · replace h := h.1 c2
      refine am_aload_n hz1 dX11_summed_116 0 rfl rfl ?_
      refine am_getR hz1 fl_X11_44 (ln_0 hG) (lk_0 hG) (lr_0_12 hG) rfl dX11_summed_117 ?_
      refine am_getL hz1 fl_X11_389 (ln_34 hG) (lk_34 hG) rfl dX11_summed_120 ?_
      exact am_lreturn hz dX11_summed_123 h
    · replace h := h.2 c2
      refine am_ldc2 hz1 kc_X11_281 dX11_summed_110 ?_
      refine am_goto (tgt := 123) hz1 dX11_summed_113 (by decide) ?_
      exact am_lreturn hz dX11_summed_123 h
  · replace h := h.2 c1
    refine am_iload_n hz1 dX11_summed_70 1 rfl rfl ?_
    refine am_iload hz1 dX11_summed_71 2 rfl ?_
    refine am_ishr hz1 dX11_summed_73 ?_
    refine am_iconst (v := 1) hz1 dX11_summed_74 (by decide) ?_
    refine am_iand hz1 dX11_summed_75 ?_
    refine am_iconst (v := 1) hz1 dX11_summed_76 (by decide) ?_
    refine am_icmp_ne (tgt := 94) hz1 dX11_summed_77 (by decide) (fun c3 => ?_) (fun c3 => ?_)
    · replace h := h.1 c3
      refine am_iinc (v := v4 + 1) (lv' := [(4, .int (v4 + 1)), (0, .ref ((zB z).size + 0)), (3, .int v3)]) hz1 dX11_summed_94 2 rfl rfl rfl rfl ?_
      refine am_goto (tgt := 58) hz1 dX11_summed_97 (by decide) ?_
      exact am_sub (lv' := [(0, .ref ((zB z).size + 0)), (3, .int v3), (4, .int (v4 + 1))]) [1, 2, 0] rfl h
    · replace h := h.2 c3
      refine am_aload_n hz1 dX11_summed_80 0 rfl rfl ?_
      refine am_getR hz1 fl_X11_44 (ln_0 hG) (lk_0 hG) (lr_0_12 hG) rfl dX11_summed_81 ?_
      refine am_aload_n hz1 dX11_summed_84 0 rfl rfl ?_
      refine am_getR hz1 fl_X11_57 (ln_0 hG) (lk_0 hG) (lr_0_6 hG) rfl dX11_summed_85 ?_
      refine am_iload hz1 dX11_summed_88 2 rfl ?_
      obtain ⟨g4, h⟩ := h
      refine am_lald hz1 (ln_40 hG) (lk_40 hG) (by rw [(ll_40 hG)]; exact g4) dX11_summed_90 ?_
      refine am_cVf hz cv_X11_385 [.long (L 40 v4.toNatClampNeg)] [] (c_X9_add hG (L 40 v4.toNatClampNeg) ) (ln_34 hG) (lk_34 hG) rfl rfl rfl ⟨Nat.le_refl _, Nat.le_refl _⟩ (Nat.le_of_ble_eq_true rfl) dX11_summed_91 ?_
      refine am_iinc (v := v4 + 1) (lv' := [(4, .int (v4 + 1)), (0, .ref ((zB z).size + 0)), (3, .int v3)]) hz1 dX11_summed_94 2 rfl rfl rfl rfl ?_
      refine am_goto (tgt := 58) hz1 dX11_summed_97 (by decide) ?_
      exact am_sub (lv' := [(0, .ref ((zB z).size + 0)), (3, .int v3), (4, .int (v4 + 1))]) [1, 2, 0] rfl h
set_option maxRecDepth 100000 in
set_option maxHeartbeats 4000000 in
theorem c_X11_summed {l : Launch} {D : va_G} {B : Heap} {G : amG} {I : amI} {L : amL}  (hG : Lay G)  (v1 : Int32) (v2 : Int32) {s : St} (hs : CO s G I L) (hw : WF s) : Mx l D B yX11_summed cX11_summed 5 (some .long) 2 0 0 [.ref (B.size + 0), .int v1, .int v2] G I L (fun r G1 I1 L1 => r = some (.long (aSummed s v1 v2)) ∧ G1 = G ∧ CO s G I1 L1 ∧ frK I L I1 L1) := by
  refine Mx.of (by decide) rfl rfl (fun z e1 e2 e3 hz => ?_)
  subst e1; subst e2; subst e3
  refine b_X11_summed_0 hz hG ?_
  have hO := hs.2.1.1
  have h16 := hO.2.2.1
  rw [hO.hasB]
  refine ⟨fun h => ⟨by rw [aSummed, if_neg (by rw [h]; simp)], rfl, hs, frK_r⟩, fun h => ⟨fun h2 => ⟨by rw [aSummed, if_neg (by rw [inR_lo h2]; simp)], rfl, hs, frK_r⟩, fun h2 => ⟨fun h3 => ?_, fun h3 => ⟨by rw [aSummed, if_neg (by rw [inR_hi h3]; simp)], rfl, hs, frK_r⟩⟩⟩⟩
  have h4 := inR_in (k := 1) h2 h3
  obtain ⟨x, hx, rfl⟩ := (el_t (by omega)).mp h
  have ex : (nI x).toNatClampNeg = x := cl_nI (by omega)
  have main : Wx z 0 0 58 [(0, .ref ((zB z).size + 0)), (3, .int (sdS s (nI x) v2)), (4, .int (nI 0))] [] G (sI I (bI (oD (rD (sC s)) (sdS s (nI x) v2) 0))) (sL L (sumS (rD (sC s)) (sdS s (nI x) v2) 0)) := by
    refine for_up (P := fun i => Wx z 0 0 58 [(0, .ref ((zB z).size + 0)), (3, .int (sdS s (nI x) v2)), (4, .int (nI i))] [] G (sI I (bI (oD (rD (sC s)) (sdS s (nI x) v2) i))) (sL L (sumS (rD (sC s)) (sdS s (nI x) v2) i))) (n := rN (sC s)) ?_ ?_ (Nat.zero_le _)
    · refine b_X11_summed_58 hz hG ⟨fun _ => ?_, fun q => absurd (by rw [sI_o (by decide)]; exact sz_le hO.1 h16) q⟩
      rw [sI_v, sL_v, bI_z]
      refine ⟨fun q => ⟨?_, rfl, CO_s hs⟩, fun q => ⟨?_, rfl, CO_s hs⟩⟩
      · rw [aSummed, if_pos (by rw [h, h4]; rfl), if_neg (by rw [q]; decide)]
      · rw [Bool.not_eq_false] at q
        rw [aSummed, if_pos (by rw [h, h4]; rfl), if_pos q]
    · intro i hi ih
      refine b_X11_summed_58 hz hG ⟨fun q => absurd q (by rw [sI_o (by decide)]; exact sz_ge hO.1 h16 hi), fun _ => ⟨fun q => ?_, fun q => ⟨in16 h16 hi, ?_⟩⟩⟩
      · rw [b_bit _ i (by omega), Bool.not_eq_true] at q
        rw [oD, sumS, q, Bool.false_and, Bool.or_false, if_neg (by decide)] at ih
        rw [nI_1]; exact ih
      · rw [b_bit _ i (by omega)] at q
        rw [oD, sumS, q, Bool.true_and, if_pos rfl] at ih
        rw [nI_1, sI_v, sL_v, sI_s, sL_s, sL_o (by decide), cl_nI (by omega), hs.2.1.2.2.1 i (by omega), ovA_b]
        exact ih
  refine ⟨fun q => ⟨hO.sz, ?_⟩, fun q => ⟨hO.sz, ?_⟩⟩
  · rw [sdS, if_neg q, ex] at main
    rw [hO.from hx]; exact main
  · rw [sdS, if_pos q, ex] at main
    rw [hO.upTo hx]; exact main
set_option maxRecDepth 100000 in
set_option maxHeartbeats 4000000 in
theorem b_X11_gotBack_0 {z : amZ} {post : amP} {G : amG} {I : amI} {L : amL} (hz : Go z cX11_gotBack RX11 5 (some .long) 3 0 0 post) (hG : Lay G) {v1 : Int32} {v2 : Int32} (h : ((q_has I 3 v1 = false) → post (some (.long (-9223372036854775808 : Int64))) G I L) ∧ ((q_has I 3 v1 = true) → ((v2 < 0) → post (some (.long (-9223372036854775808 : Int64))) G I L) ∧ ((¬ v2 < 0) → ((v2 ≤ (1 : Int32)) → ((¬ v2 = 0) → (szOk I 3) ∧ (szOk I 3) ∧ (rowOk I 3) ∧ Wx z 0 0 83 [(0, .ref ((zB z).size + 0)), (3, .int (q_from I 3 v1)), (4, .int 0)] [] G (sI I 0) (sL (setL L 63 (q_mf I 3 v1 (L 63) (sz I 3))) 0)) ∧ ((v2 = 0) → (szOk I 3) ∧ (szOk I 3) ∧ (rowOk I 3) ∧ Wx z 0 0 83 [(0, .ref ((zB z).size + 0)), (3, .int (q_upTo I 3 v1)), (4, .int 0)] [] G (sI I 0) (sL (setL L 63 (q_mt I 3 v1 (L 63) (sz I 3))) 0))) ∧ ((¬ v2 ≤ (1 : Int32)) → post (some (.long (-9223372036854775808 : Int64))) G I L)))) : Wx z 0 0 0 [(0, .ref ((zB z).size + 0)), (1, .int v1), (2, .int v2)] [] G I L := by
  have hz1 := hz.1
  refine am_aload_n hz1 dX11_gotBack_0 0 rfl rfl ?_
  refine am_getR hz1 fl_X11_21 (ln_0 hG) (lk_0 hG) (lr_0_2 hG) rfl dX11_gotBack_1 ?_
  refine am_iload_n hz1 dX11_gotBack_4 1 rfl rfl ?_
  refine am_cVf hz cv_X11_118 [.int v1] [] (c_X4_has hG isO_3 v1 ) (ln_3 hG) (lk_3 hG) rfl rfl rfl ⟨Nat.le_refl _, Nat.le_refl _⟩ (Nat.le_of_ble_eq_true rfl) dX11_gotBack_5 ?_
  refine am_ifb_eq (tgt := 20) hz1 dX11_gotBack_8 (by decide) (fun c1 => ?_) (fun c1 => ?_)
  · replace h := h.1 c1
    refine am_ldc2 hz1 kc_X11_281 dX11_gotBack_20 ?_
    exact am_lreturn hz dX11_gotBack_23 h
  · replace h := h.2 c1
    refine am_iload_n hz1 dX11_gotBack_11 2 rfl rfl ?_
    refine am_if_lt (tgt := 20) hz1 dX11_gotBack_12 (by decide) (fun c2 => ?_) (fun c2 => ?_)
    · replace h := h.1 c2
      refine am_ldc2 hz1 kc_X11_281 dX11_gotBack_20 ?_
      exact am_lreturn hz dX11_gotBack_23 h
    · replace h := h.2 c2
      refine am_iload_n hz1 dX11_gotBack_15 2 rfl rfl ?_
      refine am_iconst (v := 1) hz1 dX11_gotBack_16 (by decide) ?_
      refine am_icmp_le (tgt := 24) hz1 dX11_gotBack_17 (by decide) (fun c3 => ?_) (fun c3 => ?_)
      · replace h := h.1 c3
        refine am_iload_n hz1 dX11_gotBack_24 2 rfl rfl ?_
        refine am_if_ne (tgt := 52) hz1 dX11_gotBack_25 (by decide) (fun c4 => ?_) (fun c4 => ?_)
        · replace h := h.1 c4
          refine am_aload_n hz1 dX11_gotBack_52 0 rfl rfl ?_
          refine am_getR hz1 fl_X11_21 (ln_0 hG) (lk_0 hG) (lr_0_2 hG) rfl dX11_gotBack_53 ?_
          refine am_iload_n hz1 dX11_gotBack_56 1 rfl rfl ?_
          obtain ⟨g5, h⟩ := h
          refine am_cVf hz cv_X11_287 [.int v1] [] (c_X4_from hG isO_3 v1 g5) (ln_3 hG) (lk_3 hG) rfl rfl rfl ⟨Nat.le_refl _, Nat.le_refl _⟩ (Nat.le_of_ble_eq_true rfl) dX11_gotBack_57 ?_
          refine am_istore_n (lv' := [(3, .int (q_from I 3 v1)), (0, .ref ((zB z).size + 0)), (1, .int v1), (2, .int v2)]) hz1 dX11_gotBack_60 rfl rfl rfl ?_
          refine am_aload_n hz1 dX11_gotBack_61 1 rfl rfl ?_
          refine am_getR hz1 fl_X11_21 (ln_0 hG) (lk_0 hG) (lr_0_2 hG) rfl dX11_gotBack_62 ?_
          refine am_iload_n hz1 dX11_gotBack_65 2 rfl rfl ?_
          refine am_aload_n hz1 dX11_gotBack_66 1 rfl rfl ?_
          refine am_getR hz1 fl_X11_100 (ln_0 hG) (lk_0 hG) (lr_0_13 hG) rfl dX11_gotBack_67 ?_
          obtain ⟨g6, h⟩ := h
          obtain ⟨g7, h⟩ := h
          refine am_cVf hz cv_X11_336 [.int v1, .ref ((zB z).size + 63)] [] (c_X4_moebiusFrom hG isO_3 (ln_63 hG) (lk_63 hG) (ll_63 hG) v1 g6 g7) (ln_3 hG) (lk_3 hG) rfl rfl rfl ⟨Nat.le_refl _, Nat.le_refl _⟩ (Nat.le_of_ble_eq_true rfl) dX11_gotBack_70 ?_
          refine am_aload_n hz1 dX11_gotBack_73 1 rfl rfl ?_
          refine am_getR hz1 fl_X11_44 (ln_0 hG) (lk_0 hG) (lr_0_12 hG) rfl dX11_gotBack_74 ?_
          refine am_cVf hz cv_X11_254 [] [] (c_X9_begin hG  ) (ln_34 hG) (lk_34 hG) rfl rfl rfl ⟨Nat.le_refl _, Nat.le_refl _⟩ (Nat.le_of_ble_eq_true rfl) dX11_gotBack_77 ?_
          refine am_iconst (v := 0) hz1 dX11_gotBack_80 (by decide) ?_
          refine am_istore (lv' := [(4, .int 0), (3, .int (q_from I 3 v1)), (0, .ref ((zB z).size + 0)), (1, .int v1), (2, .int v2)]) hz1 dX11_gotBack_81 rfl rfl ?_
          exact am_sub (lv' := [(0, .ref ((zB z).size + 0)), (3, .int (q_from I 3 v1)), (4, .int 0)]) [2, 1, 0] rfl h
        · replace h := h.2 c4
          refine am_aload_n hz1 dX11_gotBack_28 0 rfl rfl ?_
          refine am_getR hz1 fl_X11_21 (ln_0 hG) (lk_0 hG) (lr_0_2 hG) rfl dX11_gotBack_29 ?_
          refine am_iload_n hz1 dX11_gotBack_32 1 rfl rfl ?_
          obtain ⟨g8, h⟩ := h
          refine am_cVf hz cv_X11_283 [.int v1] [] (c_X4_upTo hG isO_3 v1 g8) (ln_3 hG) (lk_3 hG) rfl rfl rfl ⟨Nat.le_refl _, Nat.le_refl _⟩ (Nat.le_of_ble_eq_true rfl) dX11_gotBack_33 ?_
          refine am_istore_n (lv' := [(3, .int (q_upTo I 3 v1)), (0, .ref ((zB z).size + 0)), (1, .int v1), (2, .int v2)]) hz1 dX11_gotBack_36 rfl rfl rfl ?_
          refine am_aload_n hz1 dX11_gotBack_37 1 rfl rfl ?_
          refine am_getR hz1 fl_X11_21 (ln_0 hG) (lk_0 hG) (lr_0_2 hG) rfl dX11_gotBack_38 ?_
          refine am_iload_n hz1 dX11_gotBack_41 2 rfl rfl ?_
          refine am_aload_n hz1 dX11_gotBack_42 1 rfl rfl ?_
          refine am_getR hz1 fl_X11_100 (ln_0 hG) (lk_0 hG) (lr_0_13 hG) rfl dX11_gotBack_43 ?_
          obtain ⟨g9, h⟩ := h
          obtain ⟨g10, h⟩ := h
          refine am_cVf hz cv_X11_340 [.int v1, .ref ((zB z).size + 63)] [] (c_X4_moebiusTo hG isO_3 (ln_63 hG) (lk_63 hG) (ll_63 hG) v1 g9 g10) (ln_3 hG) (lk_3 hG) rfl rfl rfl ⟨Nat.le_refl _, Nat.le_refl _⟩ (Nat.le_of_ble_eq_true rfl) dX11_gotBack_46 ?_
          refine am_goto (tgt := 73) hz1 dX11_gotBack_49 (by decide) ?_
          refine am_aload_n hz1 dX11_gotBack_73 1 rfl rfl ?_
          refine am_getR hz1 fl_X11_44 (ln_0 hG) (lk_0 hG) (lr_0_12 hG) rfl dX11_gotBack_74 ?_
          refine am_cVf hz cv_X11_254 [] [] (c_X9_begin hG  ) (ln_34 hG) (lk_34 hG) rfl rfl rfl ⟨Nat.le_refl _, Nat.le_refl _⟩ (Nat.le_of_ble_eq_true rfl) dX11_gotBack_77 ?_
          refine am_iconst (v := 0) hz1 dX11_gotBack_80 (by decide) ?_
          refine am_istore (lv' := [(4, .int 0), (3, .int (q_upTo I 3 v1)), (0, .ref ((zB z).size + 0)), (1, .int v1), (2, .int v2)]) hz1 dX11_gotBack_81 rfl rfl ?_
          exact am_sub (lv' := [(0, .ref ((zB z).size + 0)), (3, .int (q_upTo I 3 v1)), (4, .int 0)]) [2, 1, 0] rfl h
      · replace h := h.2 c3
        refine am_ldc2 hz1 kc_X11_281 dX11_gotBack_20 ?_
        exact am_lreturn hz dX11_gotBack_23 h
set_option maxRecDepth 100000 in
set_option maxHeartbeats 4000000 in
theorem b_X11_gotBack_83 {z : amZ} {post : amP} {G : amG} {I : amI} {L : amL} (hz : Go z cX11_gotBack RX11 5 (some .long) 3 0 0 post) (hG : Lay G) {v3 : Int32} {v4 : Int32} (h : (((I 3 0) ≤ v4) → (((I 34 1) = 0) → post (some (.long (L 34 0))) G I L) ∧ ((¬ (I 34 1) = 0) → post (some (.long (-9223372036854775808 : Int64))) G I L)) ∧ ((¬ (I 3 0) ≤ v4) → ((¬ ((v3 >>> (v4 &&& 31)) &&& (1 : Int32)) = (1 : Int32)) → Wx z 0 0 83 [(0, .ref ((zB z).size + 0)), (3, .int v3), (4, .int (v4 + 1))] [] G I L) ∧ ((((v3 >>> (v4 &&& 31)) &&& (1 : Int32)) = (1 : Int32)) → vp_in v4 16 ∧ vp_in v4 16 ∧ Wx z 0 0 83 [(0, .ref ((zB z).size + 0)), (3, .int v3), (4, .int (v4 + 1))] [] G (sI I (q_ovA (L 34 0) ((L 40 v4.toNatClampNeg) * (L 63 v4.toNatClampNeg)) (if q_tl (L 40 v4.toNatClampNeg) (L 63 v4.toNatClampNeg) = true then 1 else I 34 1))) (sL L (L 34 0 + (L 40 v4.toNatClampNeg) * (L 63 v4.toNatClampNeg)))))) : Wx z 0 0 83 [(0, .ref ((zB z).size + 0)), (3, .int v3), (4, .int v4)] [] G I L := by
  have hz1 := hz.1
  refine am_iload hz1 dX11_gotBack_83 2 rfl ?_
  refine am_aload_n hz1 dX11_gotBack_85 0 rfl rfl ?_
  refine am_getR hz1 fl_X11_21 (ln_0 hG) (lk_0 hG) (lr_0_2 hG) rfl dX11_gotBack_86 ?_
  refine am_getI hz1 fl_X11_129 (ln_3 hG) (lk_3 hG) rfl dX11_gotBack_89 ?_
  refine am_icmp_ge (tgt := 132) hz1 dX11_gotBack_92 (by decide) (fun c1 => ?_) (fun c1 => ?_)
  · replace h := h.1 c1
    refine am_aload_n hz1 dX11_gotBack_132 0 rfl rfl ?_
    refine am_getR hz1 fl_X11_44 (ln_0 hG) (lk_0 hG) (lr_0_12 hG) rfl dX11_gotBack_133 ?_
    refine am_getI hz1 fl_X11_265 (ln_34 hG) (lk_34 hG) rfl dX11_gotBack_136 ?_
    refine am_if_eq (tgt := 148) hz1 dX11_gotBack_139 (by decide) (fun c2 => ?_) (fun c2 => ?_)
    · replace h := h.1 c2
      refine am_aload_n hz1 dX11_gotBack_148 0 rfl rfl ?_
      refine am_getR hz1 fl_X11_44 (ln_0 hG) (lk_0 hG) (lr_0_12 hG) rfl dX11_gotBack_149 ?_
      refine am_getL hz1 fl_X11_389 (ln_34 hG) (lk_34 hG) rfl dX11_gotBack_152 ?_
      exact am_lreturn hz dX11_gotBack_155 h
    · replace h := h.2 c2
      refine am_ldc2 hz1 kc_X11_281 dX11_gotBack_142 ?_
      refine am_goto (tgt := 155) hz1 dX11_gotBack_145 (by decide) ?_
      exact am_lreturn hz dX11_gotBack_155 h
  · replace h := h.2 c1
    refine am_iload_n hz1 dX11_gotBack_95 1 rfl rfl ?_
    refine am_iload hz1 dX11_gotBack_96 2 rfl ?_
    refine am_ishr hz1 dX11_gotBack_98 ?_
    refine am_iconst (v := 1) hz1 dX11_gotBack_99 (by decide) ?_
    refine am_iand hz1 dX11_gotBack_100 ?_
    refine am_iconst (v := 1) hz1 dX11_gotBack_101 (by decide) ?_
    refine am_icmp_ne (tgt := 126) hz1 dX11_gotBack_102 (by decide) (fun c3 => ?_) (fun c3 => ?_)
    · replace h := h.1 c3
      refine am_iinc (v := v4 + 1) (lv' := [(4, .int (v4 + 1)), (0, .ref ((zB z).size + 0)), (3, .int v3)]) hz1 dX11_gotBack_126 2 rfl rfl rfl rfl ?_
      refine am_goto (tgt := 83) hz1 dX11_gotBack_129 (by decide) ?_
      exact am_sub (lv' := [(0, .ref ((zB z).size + 0)), (3, .int v3), (4, .int (v4 + 1))]) [1, 2, 0] rfl h
    · replace h := h.2 c3
      refine am_aload_n hz1 dX11_gotBack_105 0 rfl rfl ?_
      refine am_getR hz1 fl_X11_44 (ln_0 hG) (lk_0 hG) (lr_0_12 hG) rfl dX11_gotBack_106 ?_
      refine am_aload_n hz1 dX11_gotBack_109 0 rfl rfl ?_
      refine am_getR hz1 fl_X11_57 (ln_0 hG) (lk_0 hG) (lr_0_6 hG) rfl dX11_gotBack_110 ?_
      refine am_iload hz1 dX11_gotBack_113 2 rfl ?_
      obtain ⟨g4, h⟩ := h
      refine am_lald hz1 (ln_40 hG) (lk_40 hG) (by rw [(ll_40 hG)]; exact g4) dX11_gotBack_115 ?_
      refine am_aload_n hz1 dX11_gotBack_116 0 rfl rfl ?_
      refine am_getR hz1 fl_X11_100 (ln_0 hG) (lk_0 hG) (lr_0_13 hG) rfl dX11_gotBack_117 ?_
      refine am_iload hz1 dX11_gotBack_120 2 rfl ?_
      obtain ⟨g5, h⟩ := h
      refine am_lald hz1 (ln_63 hG) (lk_63 hG) (by rw [(ll_63 hG)]; exact g5) dX11_gotBack_122 ?_
      refine am_cVf hz cv_X11_393 [.long (L 40 v4.toNatClampNeg), .long (L 63 v4.toNatClampNeg)] [] (c_X9_addProduct hG (L 40 v4.toNatClampNeg) (L 63 v4.toNatClampNeg) ) (ln_34 hG) (lk_34 hG) rfl rfl rfl ⟨Nat.le_refl _, Nat.le_refl _⟩ (Nat.le_of_ble_eq_true rfl) dX11_gotBack_123 ?_
      refine am_iinc (v := v4 + 1) (lv' := [(4, .int (v4 + 1)), (0, .ref ((zB z).size + 0)), (3, .int v3)]) hz1 dX11_gotBack_126 2 rfl rfl rfl rfl ?_
      refine am_goto (tgt := 83) hz1 dX11_gotBack_129 (by decide) ?_
      exact am_sub (lv' := [(0, .ref ((zB z).size + 0)), (3, .int v3), (4, .int (v4 + 1))]) [1, 2, 0] rfl h
set_option maxRecDepth 100000 in
set_option maxHeartbeats 4000000 in
theorem c_X11_gotBack {l : Launch} {D : va_G} {B : Heap} {G : amG} {I : amI} {L : amL}  (hG : Lay G)  (v1 : Int32) (v2 : Int32) {s : St} (hs : CO s G I L) (hw : WF s) : Mx l D B yX11_gotBack cX11_gotBack 5 (some .long) 3 0 0 [.ref (B.size + 0), .int v1, .int v2] G I L (fun r G1 I1 L1 => r = some (.long (aGot s v1 v2)) ∧ G1 = G ∧ CO s G I1 L1 ∧ frK I L I1 L1) := by
  refine Mx.of (by decide) rfl rfl (fun z e1 e2 e3 hz => ?_)
  subst e1; subst e2; subst e3
  refine b_X11_gotBack_0 hz hG ?_
  have hO := hs.2.1.1
  have h16 := hO.2.2.1
  have hP := hO.2.2.2.2.2.1
  rw [hO.hasB]
  refine ⟨fun h => ⟨by rw [aGot, if_neg (by rw [h]; simp)], rfl, hs, frK_r⟩, fun h => ⟨fun h2 => ⟨by rw [aGot, if_neg (by rw [inR_lo h2]; simp)], rfl, hs, frK_r⟩, fun h2 => ⟨fun h3 => ?_, fun h3 => ⟨by rw [aGot, if_neg (by rw [inR_hi h3]; simp)], rfl, hs, frK_r⟩⟩⟩⟩
  have h4 := inR_in (k := 1) h2 h3
  obtain ⟨x, hx, rfl⟩ := (el_t (by omega)).mp h
  have ex : (nI x).toNatClampNeg = x := cl_nI (by omega)
  have main : ∀ f : Nat → Int64, (∀ i, i < rN (sC s) → f i = gbG s (nI x) v2 i) → Wx z 0 0 83 [(0, .ref ((zB z).size + 0)), (3, .int (sdS s (nI x) v2)), (4, .int (nI 0))] [] G (sI I (bI (oS (rD (sC s)) (gbG s (nI x) v2) (sdS s (nI x) v2) 0))) (sL (setL L 63 f) (tS (rD (sC s)) (gbG s (nI x) v2) (sdS s (nI x) v2) 0)) := by
    intro f hf
    have hc : ∀ {v : Int32} {t : Int64}, CO s G (sI I v) (sL (setL L 63 f) t) ∧ frK I L (sI I v) (sL (setL L 63 f) t) := CO_n hs (fun _ e => sI_o e) (fun _ e _ _ e4 => by rw [sL_o e, setL_n e4])
    refine for_up (P := fun i => Wx z 0 0 83 [(0, .ref ((zB z).size + 0)), (3, .int (sdS s (nI x) v2)), (4, .int (nI i))] [] G (sI I (bI (oS (rD (sC s)) (gbG s (nI x) v2) (sdS s (nI x) v2) i))) (sL (setL L 63 f) (tS (rD (sC s)) (gbG s (nI x) v2) (sdS s (nI x) v2) i))) (n := rN (sC s)) ?_ ?_ (Nat.zero_le _)
    · refine b_X11_gotBack_83 hz hG ⟨fun _ => ?_, fun q => absurd (by rw [sI_o (by decide)]; exact sz_le hO.1 h16) q⟩
      rw [sI_v, sL_v, bI_z]
      refine ⟨fun q => ⟨?_, rfl, hc⟩, fun q => ⟨?_, rfl, hc⟩⟩
      · rw [aGot, if_pos (by rw [h, h4]; rfl), if_neg (by rw [q]; decide)]
      · rw [Bool.not_eq_false] at q
        rw [aGot, if_pos (by rw [h, h4]; rfl), if_pos q]
    · intro i hi ih
      refine b_X11_gotBack_83 hz hG ⟨fun q => absurd q (by rw [sI_o (by decide)]; exact sz_ge hO.1 h16 hi), fun _ => ⟨fun q => ?_, fun q => ⟨in16 h16 hi, in16 h16 hi, ?_⟩⟩⟩
      · rw [b_bit _ i (by omega), Bool.not_eq_true] at q
        rw [oS, tS, q, Bool.false_and, Bool.or_false, if_neg (by decide)] at ih
        rw [nI_1]; exact ih
      · rw [b_bit _ i (by omega)] at q
        rw [oS, tS, q, Bool.true_and, if_pos rfl] at ih
        rw [nI_1, sI_v, sL_v, sI_s, sL_s, sL_o (by decide), sL_o (by decide), setL_n (by decide), setL_s, cl_nI (by omega), hs.2.1.2.2.1 i (by omega), hf i hi, ov_b]
        exact ih
  refine ⟨fun q => ⟨hO.sz, hO.sz, hO.row, ?_⟩, fun q => ⟨hO.sz, hO.sz, hO.row, ?_⟩⟩
  · have := main _ (fun i hi => show q_mf I 3 (nI x) (L 63) (rN (sC s)) i = gbG s (nI x) v2 i by rw [mf_mu hO hx hi, gbG, if_neg q, ex])
    rw [sdS, if_neg q, ex] at this
    rw [hO.from hx, sz_eq hO.1 h16]; exact this
  · have := main _ (fun i hi => show q_mt I 3 (nI x) (L 63) (rN (sC s)) i = gbG s (nI x) v2 i by rw [mt_nu hO hx hi, gbG, if_pos q, ex, mu_nu hP h16 hi hx])
    rw [sdS, if_pos q, ex] at this
    rw [hO.upTo hx, sz_eq hO.1 h16]; exact this
