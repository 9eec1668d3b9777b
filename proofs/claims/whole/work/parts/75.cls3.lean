/-! THE CLASS: what is asked, third part -/
theorem maxI_c {f g : Nat → Int32} : ∀ {n : Nat}, (∀ i, i < n → f i = g i) → maxI f n = maxI g n
  | 0, _ => rfl
  | n + 1, h => by rw [maxI, maxI, maxI_c (fun i hi => h i (by omega)), h n (by omega)]
theorem OI_gh {I : amI} {n : Nat} {A : Nat → Int32} (h : OI I 3 n A) : q_gh I 3 = maxI (ht n A) n := by
  rw [q_gh, sz_eq h.1 h.2.2.1]
  exact maxI_c (fun x hx => h.ht hx)
theorem OI_gr {I : amI} {n : Nat} {A : Nat → Int32} (h : OI I 3 n A) : q_graded I 3 = grM n A := by
  have h16 := h.2.2.1
  rw [Bool.eq_iff_iff, q_graded, grM, scan_tf, scan_tf, sz_eq h.1 h16]
  have e : ∀ x y, x < n → y < n → p_gr I 3 x y = (cv n A y x && decide (¬ ht n A x = ht n A y + 1)) := fun x y hx hy => by
    rw [p_gr, h.ht hx, h.ht hy, show bt (I (3 + 4) x) y = cv n A y x from h.b7 hx hy, decide_eq_decide.mpr (show ¬ ht n A y + 1 = ht n A x ↔ ¬ ht n A x = ht n A y + 1 from ⟨fun g q => g q.symm, fun g q => g q.symm⟩)]
  constructor
  · intro g a ha
    rw [grM1, scan_ft]
    intro b hb
    have := g b hb
    rw [q_gr1, scan_ft, sz_eq h.1 h16] at this
    rw [← e b a hb ha]; exact this a ha
  · intro g x hx
    rw [q_gr1, scan_ft, sz_eq h.1 h16]
    intro y hy
    have := g y hy
    rw [grM1, scan_ft] at this
    rw [e x y hx hy]; exact this x hx
theorem isIn_i {i m : Int32} : m_isIn i.toInt64 0 m.toInt64 = (decide (¬ i < 0) && decide (¬ m < i)) := by
  rw [m_isIn]
  congr 1
  · apply decide_eq_decide.mpr
    rw [Int64.lt_iff_toInt_lt, Int32.toInt_toInt64, Int32.lt_iff_toInt_lt]; rfl
  · apply decide_eq_decide.mpr
    rw [Int64.lt_iff_toInt_lt, Int32.toInt_toInt64, Int32.toInt_toInt64, Int32.lt_iff_toInt_lt]
set_option maxRecDepth 100000 in
set_option maxHeartbeats 4000000 in
theorem b_X11_coefficient_0 {z : amZ} {post : amP} {G : amG} {I : amI} {L : amL} (hz : Go z cX11_coefficient RX11 8 (some .long) 3 0 0 post) (hG : Lay G) {v1 : Int32} (h : (szOk I 3) ∧ (szOk I 3) ∧ ((v1 < 0) → post (some (.long (-9223372036854775808 : Int64))) G I L) ∧ ((¬ v1 < 0) → (((q_gh I 3) < v1) → post (some (.long (-9223372036854775808 : Int64))) G I L) ∧ ((¬ (q_gh I 3) < v1) → (((q_least I 3 (q_all I 3)) < 0) → post (some (.long (-9223372036854775808 : Int64))) G I L) ∧ ((¬ (q_least I 3 (q_all I 3)) < 0) → (szOk I 3) ∧ ((q_graded I 3 = true) → (szOk I 3) ∧ (rowOk I 3) ∧ Wx z 0 0 73 [(0, .ref ((zB z).size + 0)), (4, .int ((q_gh I 3) - v1)), (5, .long (0 : Int64)), (7, .int 0)] [] G I (setL L 63 (q_mf I 3 (q_least I 3 (q_all I 3)) (L 63) (sz I 3)))) ∧ ((q_graded I 3 = false) → post (some (.long (-9223372036854775808 : Int64))) G I L))))) : Wx z 0 0 0 [(0, .ref ((zB z).size + 0)), (1, .int v1)] [] G I L := by
  have hz1 := hz.1
  refine am_aload_n hz1 dX11_coefficient_0 0 rfl rfl ?_
  refine am_getR hz1 fl_X11_21 (ln_0 hG) (lk_0 hG) (lr_0_2 hG) rfl dX11_coefficient_1 ?_
  refine am_aload_n hz1 dX11_coefficient_4 0 rfl rfl ?_
  refine am_getR hz1 fl_X11_21 (ln_0 hG) (lk_0 hG) (lr_0_2 hG) rfl dX11_coefficient_5 ?_
  refine am_cVf hz cv_X11_159 [] [.ref ((zB z).size + 3)] (c_X4_all hG isO_3  ) (ln_3 hG) (lk_3 hG) rfl rfl rfl ⟨Nat.le_refl _, Nat.le_refl _⟩ (Nat.le_of_ble_eq_true rfl) dX11_coefficient_8 ?_
  obtain ⟨g1, h⟩ := h
  refine am_cVf hz cv_X11_296 [.int (q_all I 3)] [] (c_X4_least hG isO_3 (q_all I 3) g1) (ln_3 hG) (lk_3 hG) rfl rfl rfl ⟨Nat.le_refl _, Nat.le_refl _⟩ (Nat.le_of_ble_eq_true rfl) dX11_coefficient_11 ?_
  refine am_istore_n (lv' := [(2, .int (q_least I 3 (q_all I 3))), (0, .ref ((zB z).size + 0)), (1, .int v1)]) hz1 dX11_coefficient_14 rfl rfl rfl ?_
  refine am_aload_n hz1 dX11_coefficient_15 1 rfl rfl ?_
  refine am_getR hz1 fl_X11_21 (ln_0 hG) (lk_0 hG) (lr_0_2 hG) rfl dX11_coefficient_16 ?_
  obtain ⟨g2, h⟩ := h
  refine am_cVf hz cv_X11_302 [] [] (c_X4_greatestHeight hG isO_3  g2) (ln_3 hG) (lk_3 hG) rfl rfl rfl ⟨Nat.le_refl _, Nat.le_refl _⟩ (Nat.le_of_ble_eq_true rfl) dX11_coefficient_19 ?_
  refine am_istore_n (lv' := [(3, .int (q_gh I 3)), (2, .int (q_least I 3 (q_all I 3))), (0, .ref ((zB z).size + 0)), (1, .int v1)]) hz1 dX11_coefficient_22 rfl rfl rfl ?_
  refine am_iload_n hz1 dX11_coefficient_23 3 rfl rfl ?_
  refine am_if_lt (tgt := 46) hz1 dX11_coefficient_24 (by decide) (fun c3 => ?_) (fun c3 => ?_)
  · replace h := h.1 c3
    refine am_ldc2 hz1 kc_X11_281 dX11_coefficient_46 ?_
    exact am_lreturn hz dX11_coefficient_49 h
  · replace h := h.2 c3
    refine am_iload_n hz1 dX11_coefficient_27 3 rfl rfl ?_
    refine am_iload_n hz1 dX11_coefficient_28 0 rfl rfl ?_
    refine am_icmp_gt (tgt := 46) hz1 dX11_coefficient_29 (by decide) (fun c4 => ?_) (fun c4 => ?_)
    · replace h := h.1 c4
      refine am_ldc2 hz1 kc_X11_281 dX11_coefficient_46 ?_
      exact am_lreturn hz dX11_coefficient_49 h
    · replace h := h.2 c4
      refine am_iload_n hz1 dX11_coefficient_32 1 rfl rfl ?_
      refine am_if_lt (tgt := 46) hz1 dX11_coefficient_33 (by decide) (fun c5 => ?_) (fun c5 => ?_)
      · replace h := h.1 c5
        refine am_ldc2 hz1 kc_X11_281 dX11_coefficient_46 ?_
        exact am_lreturn hz dX11_coefficient_49 h
      · replace h := h.2 c5
        refine am_aload_n hz1 dX11_coefficient_36 2 rfl rfl ?_
        refine am_getR hz1 fl_X11_21 (ln_0 hG) (lk_0 hG) (lr_0_2 hG) rfl dX11_coefficient_37 ?_
        obtain ⟨g6, h⟩ := h
        refine am_cVf hz cv_X11_305 [] [] (c_X4_isGraded hG isO_3  g6) (ln_3 hG) (lk_3 hG) rfl rfl rfl ⟨Nat.le_refl _, Nat.le_refl _⟩ (Nat.le_of_ble_eq_true rfl) dX11_coefficient_40 ?_
        refine am_ifb_ne (tgt := 50) hz1 dX11_coefficient_43 (by decide) (fun c7 => ?_) (fun c7 => ?_)
        · replace h := h.1 c7
          refine am_iload_n hz1 dX11_coefficient_50 0 rfl rfl ?_
          refine am_iload_n hz1 dX11_coefficient_51 3 rfl rfl ?_
          refine am_isub hz1 dX11_coefficient_52 ?_
          refine am_istore (lv' := [(4, .int ((q_gh I 3) - v1)), (3, .int (q_gh I 3)), (2, .int (q_least I 3 (q_all I 3))), (0, .ref ((zB z).size + 0)), (1, .int v1)]) hz1 dX11_coefficient_53 rfl rfl ?_
          refine am_aload_n hz1 dX11_coefficient_55 3 rfl rfl ?_
          refine am_getR hz1 fl_X11_21 (ln_0 hG) (lk_0 hG) (lr_0_2 hG) rfl dX11_coefficient_56 ?_
          refine am_iload_n hz1 dX11_coefficient_59 2 rfl rfl ?_
          refine am_aload_n hz1 dX11_coefficient_60 3 rfl rfl ?_
          refine am_getR hz1 fl_X11_100 (ln_0 hG) (lk_0 hG) (lr_0_13 hG) rfl dX11_coefficient_61 ?_
          obtain ⟨g8, h⟩ := h
          obtain ⟨g9, h⟩ := h
          refine am_cVf hz cv_X11_336 [.int (q_least I 3 (q_all I 3)), .ref ((zB z).size + 63)] [] (c_X4_moebiusFrom hG isO_3 (ln_63 hG) (lk_63 hG) (ll_63 hG) (q_least I 3 (q_all I 3)) g8 g9) (ln_3 hG) (lk_3 hG) rfl rfl rfl ⟨Nat.le_refl _, Nat.le_refl _⟩ (Nat.le_of_ble_eq_true rfl) dX11_coefficient_64 ?_
          refine am_lconst (v := 0) hz1 dX11_coefficient_67 (by decide) ?_
          refine am_lstore (lv' := [(5, .long (0 : Int64)), (4, .int ((q_gh I 3) - v1)), (3, .int (q_gh I 3)), (2, .int (q_least I 3 (q_all I 3))), (0, .ref ((zB z).size + 0)), (1, .int v1)]) hz1 dX11_coefficient_68 rfl rfl ?_
          refine am_iconst (v := 0) hz1 dX11_coefficient_70 (by decide) ?_
          refine am_istore (lv' := [(7, .int 0), (5, .long (0 : Int64)), (4, .int ((q_gh I 3) - v1)), (3, .int (q_gh I 3)), (2, .int (q_least I 3 (q_all I 3))), (0, .ref ((zB z).size + 0)), (1, .int v1)]) hz1 dX11_coefficient_71 rfl rfl ?_
          exact am_sub (lv' := [(0, .ref ((zB z).size + 0)), (4, .int ((q_gh I 3) - v1)), (5, .long (0 : Int64)), (7, .int 0)]) [5, 2, 1, 0] rfl h
        · replace h := h.2 c7
          refine am_ldc2 hz1 kc_X11_281 dX11_coefficient_46 ?_
          exact am_lreturn hz dX11_coefficient_49 h
set_option maxRecDepth 100000 in
set_option maxHeartbeats 4000000 in
theorem b_X11_coefficient_73 {z : amZ} {post : amP} {G : amG} {I : amI} {L : amL} (hz : Go z cX11_coefficient RX11 8 (some .long) 3 0 0 post) (hG : Lay G) {v4 : Int32} {v5 : Int64} {v7 : Int32} (h : (((I 3 0) ≤ v7) → post (some (.long v5)) G I L) ∧ ((¬ (I 3 0) ≤ v7) → vp_in v7 16 ∧ ((¬ (I 8 v7.toNatClampNeg) = v4) → Wx z 0 0 73 [(0, .ref ((zB z).size + 0)), (4, .int v4), (5, .long v5), (7, .int (v7 + 1))] [] G I L) ∧ (((I 8 v7.toNatClampNeg) = v4) → vp_in v7 16 ∧ Wx z 0 0 73 [(0, .ref ((zB z).size + 0)), (4, .int v4), (5, .long (v5 + (L 63 v7.toNatClampNeg))), (7, .int (v7 + 1))] [] G I L))) : Wx z 0 0 73 [(0, .ref ((zB z).size + 0)), (4, .int v4), (5, .long v5), (7, .int v7)] [] G I L := by
  have hz1 := hz.1
  refine am_iload hz1 dX11_coefficient_73 3 rfl ?_
  refine am_aload_n hz1 dX11_coefficient_75 0 rfl rfl ?_
  refine am_getR hz1 fl_X11_21 (ln_0 hG) (lk_0 hG) (lr_0_2 hG) rfl dX11_coefficient_76 ?_
  refine am_getI hz1 fl_X11_129 (ln_3 hG) (lk_3 hG) rfl dX11_coefficient_79 ?_
  refine am_icmp_ge (tgt := 118) hz1 dX11_coefficient_82 (by decide) (fun c1 => ?_) (fun c1 => ?_)
  · replace h := h.1 c1
    refine am_lload hz1 dX11_coefficient_118 2 rfl ?_
    exact am_lreturn hz dX11_coefficient_120 h
  · replace h := h.2 c1
    refine am_aload_n hz1 dX11_coefficient_85 0 rfl rfl ?_
    refine am_getR hz1 fl_X11_21 (ln_0 hG) (lk_0 hG) (lr_0_2 hG) rfl dX11_coefficient_86 ?_
    refine am_getR hz1 fl_X11_293 (ln_3 hG) (lk_3 hG) (lr_3_5 hG) rfl dX11_coefficient_89 ?_
    refine am_iload hz1 dX11_coefficient_92 3 rfl ?_
    obtain ⟨g2, h⟩ := h
    refine am_iald hz1 (ln_8 hG) (lk_8 hG) (by rw [(ll_8 hG)]; exact g2) dX11_coefficient_94 ?_
    refine am_iload hz1 dX11_coefficient_95 1 rfl ?_
    refine am_icmp_ne (tgt := 112) hz1 dX11_coefficient_97 (by decide) (fun c3 => ?_) (fun c3 => ?_)
    · replace h := h.1 c3
      refine am_iinc (v := v7 + 1) (lv' := [(7, .int (v7 + 1)), (0, .ref ((zB z).size + 0)), (4, .int v4), (5, .long v5)]) hz1 dX11_coefficient_112 3 rfl rfl rfl rfl ?_
      refine am_goto (tgt := 73) hz1 dX11_coefficient_115 (by decide) ?_
      exact am_sub (lv' := [(0, .ref ((zB z).size + 0)), (4, .int v4), (5, .long v5), (7, .int (v7 + 1))]) [1, 2, 3, 0] rfl h
    · replace h := h.2 c3
      refine am_lload hz1 dX11_coefficient_100 2 rfl ?_
      refine am_aload_n hz1 dX11_coefficient_102 0 rfl rfl ?_
      refine am_getR hz1 fl_X11_100 (ln_0 hG) (lk_0 hG) (lr_0_13 hG) rfl dX11_coefficient_103 ?_
      refine am_iload hz1 dX11_coefficient_106 3 rfl ?_
      obtain ⟨g4, h⟩ := h
      refine am_lald hz1 (ln_63 hG) (lk_63 hG) (by rw [(ll_63 hG)]; exact g4) dX11_coefficient_108 ?_
      refine am_ladd hz1 dX11_coefficient_109 ?_
      refine am_lstore (lv' := [(5, .long (v5 + (L 63 v7.toNatClampNeg))), (0, .ref ((zB z).size + 0)), (4, .int v4), (7, .int v7)]) hz1 dX11_coefficient_110 rfl rfl ?_
      refine am_iinc (v := v7 + 1) (lv' := [(7, .int (v7 + 1)), (5, .long (v5 + (L 63 v7.toNatClampNeg))), (0, .ref ((zB z).size + 0)), (4, .int v4)]) hz1 dX11_coefficient_112 3 rfl rfl rfl rfl ?_
      refine am_goto (tgt := 73) hz1 dX11_coefficient_115 (by decide) ?_
      exact am_sub (lv' := [(0, .ref ((zB z).size + 0)), (4, .int v4), (5, .long (v5 + (L 63 v7.toNatClampNeg))), (7, .int (v7 + 1))]) [2, 3, 1, 0] rfl h
set_option maxRecDepth 100000 in
set_option maxHeartbeats 4000000 in
theorem c_X11_coefficient {l : Launch} {D : va_G} {B : Heap} {G : amG} {I : amI} {L : amL}  (hG : Lay G)  (v1 : Int32) {s : St} (hs : CO s G I L) (hw : WF s) : Mx l D B yX11_coefficient cX11_coefficient 8 (some .long) 3 0 0 [.ref (B.size + 0), .int v1] G I L (fun r G1 I1 L1 => r = some (.long (aCoef s v1)) ∧ G1 = G ∧ CO s G I1 L1 ∧ frK I L I1 L1) := by
  refine Mx.of (by decide) rfl rfl (fun z e1 e2 e3 hz => ?_)
  subst e1; subst e2; subst e3
  refine b_X11_coefficient_0 hz hG ?_
  have hO := hs.2.1.1
  have h16 := hO.2.2.1
  have e1 : q_least I 3 (q_all I 3) = loS s := by rw [hO.least, hO.all]
  rw [OI_gh hO, OI_gr hO, e1]
  refine ⟨hO.sz, hO.sz, fun h => ⟨?_, rfl, hs, frK_r⟩, fun h => ⟨fun h2 => ⟨?_, rfl, hs, frK_r⟩, fun h2 => ⟨fun h3 => ⟨?_, rfl, hs, frK_r⟩, fun h3 => ⟨hO.sz, fun h4 => ⟨hO.sz, hO.row, ?_⟩, fun h4 => ⟨?_, rfl, hs, frK_r⟩⟩⟩⟩⟩
  · rw [aCoef, if_neg (by rw [isIn_i, decide_eq_false (not_not_intro h)]; simp)]
  · rw [aCoef, if_neg (by rw [isIn_i, decide_eq_false (not_not_intro h2)]; simp)]
  · have : loS s = -2 := by
      rcases least_or (rN (sC s)) (rA (sC s)) (allS (rN (sC s))) with ⟨w1, _⟩ | ⟨w, hww, _, _, hw4⟩
      · exact w1
      · rw [show loS s = nI w from hw4] at h3; exact absurd h3 (nI_pos (by omega))
    rw [aCoef, if_neg (by rw [decide_eq_false (not_not_intro this)]; simp)]
  · rcases least_or (rN (sC s)) (rA (sC s)) (allS (rN (sC s))) with ⟨w1, _⟩ | ⟨w, hww, _, hw3, hw4⟩
    · rw [show loS s = -2 from w1] at h3; exact absurd (by decide) h3
    · have hcond : (decide (¬ loS s = -2) && (grM (rN (sC s)) (rA (sC s)) && m_isIn v1.toInt64 0 (hiS s).toInt64)) = true := by
        rw [h4, isIn_i, decide_eq_true h, decide_eq_true (show ¬ hiS s < v1 from h2), decide_eq_true (show ¬ loS s = -2 by rw [show loS s = nI w from hw4]; exact nI_ne2 (by omega))]; rfl
      rw [show loS s = nI w from hw4, sz_eq hO.1 h16]
      refine for_up (P := fun i => Wx z 0 0 73 [(0, .ref ((zB z).size + 0)), (4, .int (maxI (ht (rN (sC s)) (rA (sC s))) (rN (sC s)) - v1)), (5, .long (sumC (fun x => decide (ht (rN (sC s)) (rA (sC s)) x = hiS s - v1)) (mu (rN (sC s)) (rA (sC s)) w) i)), (7, .int (nI i))] [] G I (setL L 63 (q_mf I 3 (nI w) (L 63) (rN (sC s))))) (n := rN (sC s)) ?_ ?_ (Nat.zero_le _)
      · refine b_X11_coefficient_73 hz hG ⟨fun _ => ⟨?_, rfl, CO_63 hs⟩, fun g => absurd (sz_le hO.1 h16) g⟩
        rw [aCoef, if_pos hcond, show loS s = nI w from hw4, cl_nI (by omega)]
      · intro i hi ih
        refine b_X11_coefficient_73 hz hG ⟨fun g => absurd g (sz_ge hO.1 h16 hi), fun _ => ?_⟩
        rw [cl_nI (n := i) (by omega), show I 8 i = ht (rN (sC s)) (rA (sC s)) i from hO.ht hi, setL_s, mf_mu hO hww hi, nI_1]
        refine ⟨in16 h16 hi, fun g => ?_, fun g => ⟨in16 h16 hi, ?_⟩⟩
        · rw [sumC, if_neg (by rw [decide_eq_true_eq]; exact g)] at ih
          exact ih
        · rw [sumC, if_pos (decide_eq_true g)] at ih
          exact ih
  · rw [aCoef, if_neg (by rw [h4]; simp)]
/-! the map -/
section MPC
variable {s : St} {G : amG} {I : amI} {L : amL}
theorem mp_of (hw : WF s) {x : Nat} (hx : x < 16) : rP (sC s) x = -1 ∨ ∃ y, y < (s0 s).1 ∧ rP (sC s) x = nI y := hw.1.2.2.1 hw.2.1 x hx
theorem wh_C (hs : CO s G I L) (hw : WF s) : q_whole I = wholeS s := by
  have hO := hs.2.1.1
  have h16 := hO.2.2.1
  have hk := hw.2.2.1
  rw [q_whole, wholeS, whM, sz_eq hO.1 h16]
  refine scan_cong _ _ (fun x _ hx => ⟨decide_eq_decide.mpr ?_, rfl⟩)
  rw [hs.2.1.2.2.2.1 x (by omega)]
  rcases mp_of hw (x := x) (by omega) with e | ⟨y, hy, e⟩
  · rw [e]; decide
  · rw [e]
    exact ⟨fun q => absurd (nI_pos' (by omega)) q, fun q => absurd (show (nI y : Int32) < 0 by rw [q]; decide) (nI_pos (by omega))⟩
theorem wh_x (hw : WF s) (h : wholeS s = true) {x : Nat} (hx : x < rN (sC s)) : ∃ y, y < (s0 s).1 ∧ rP (sC s) x = nI y := by
  have h16 := hw.1.1.2.1
  rw [wholeS, whM, scan_tf] at h
  rcases mp_of hw (x := x) (by omega) with e | q
  · have := h x hx
    rw [decide_eq_true e] at this; cases this
  · exact q
theorem wh_1 (hw : WF s) (h : wholeS s = true) : 1 ≤ (s0 s).1 := by
  obtain ⟨y, hy, _⟩ := wh_x hw h (x := 0) (by have := hw.1.1.1; omega)
  omega
theorem s0_O (hs : CO s G I L) (h : 1 ≤ (s0 s).1) : OI I 20 (s0 s).1 (s0 s).2 := by
  rcases hs.2.1.2.2.2.2.2.1 with ⟨a, _⟩ | ⟨a, _⟩
  · omega
  · exact a
theorem th_C (hs : CO s G I L) (hw : WF s) (y : Int32) : (kpB I 0 && q_has I 20 y) = elB (s0 s).1 y := by
  have e : kpB I 0 = bt (I 0 14) 0 := by
    have : elB 2 0 = true := (el_t (n := 2) (by decide)).mpr ⟨0, by decide, rfl⟩
    rw [kpB, this, Bool.true_and]; rfl
  rw [e]
  rcases hs.2.1.2.2.2.2.2.1 with ⟨a, b⟩ | ⟨a, b⟩
  · rw [b, a, Bool.false_and]
    symm
    rw [Bool.eq_false_iff]
    intro q
    obtain ⟨k, hk, _⟩ := (el_t (n := 0) (by decide)).mp q
    omega
  · rw [b, Bool.true_and, a.hasB]
theorem amT_C (hs : CO s G I L) (hw : WF s) (h : wholeS s = true) {a y : Nat} (ha : a < rN (sC s)) (hy : y < (s0 s).1) : q_atMost I 20 (I 42 a) (nI y) = le (s0 s).2 (rP (sC s) a).toNatClampNeg y := by
  have h16 := hw.1.1.2.1
  have hk := hw.2.2.1
  obtain ⟨w, hw1, e⟩ := wh_x hw h ha
  rw [hs.2.1.2.2.2.1 a (by omega), e, (s0_O hs (wh_1 hw h)).am hw1 hy, cl_nI (by omega)]
theorem mo_C (hs : CO s G I L) (hw : WF s) (h : wholeS s = true) : q_mono I = monoS s := by
  have hO := hs.2.1.1
  have h16 := hO.2.2.1
  have hk := hw.2.2.1
  rw [q_mono, monoS, moM, sz_eq hO.1 h16]
  refine scan_cong _ _ (fun a _ ha => ⟨?_, rfl⟩)
  rw [q_mono1, moM1, sz_eq hO.1 h16]
  refine scan_cong _ _ (fun b _ hb => ⟨?_, rfl⟩)
  obtain ⟨w, hw1, e⟩ := wh_x hw h (x := b) (by omega)
  rw [p_mono, hO.am (by omega) (by omega), hs.2.1.2.2.2.1 b (by omega), e, amT_C hs hw h (by omega) hw1, cl_nI (by omega)]
theorem ad_C (hs : CO s G I L) (hw : WF s) (h : wholeS s = true) {y : Nat} (hy : y < (s0 s).1) : q_adj I (nI y) = adjS s y := by
  have hO := hs.2.1.1
  have h16 := hO.2.2.1
  rw [q_adj, adjS, adM, hO.great, sz_eq hO.1 h16, mkset_cong (fun x hx => amT_C hs hw h hx hy)]
theorem jd_C (hs : CO s G I L) (hw : WF s) (h : wholeS s = true) : q_joined I = jndS s := by
  have hO2 := s0_O hs (wh_1 hw h)
  have h16 := hs.2.1.1.2.2.1
  rw [q_joined, jndS, jdM, wh_C hs hw, h, sz_eq hO2.1 hO2.2.2.1]
  refine scan_cong _ _ (fun y _ hy => ⟨decide_eq_decide.mpr ?_, rfl⟩)
  rw [ad_C hs hw h (by omega)]
  refine neg_2 ?_
  rcases great_or (rN (sC s)) (rA (sC s)) (mkset (fun x => le (s0 s).2 (rP (sC s) x).toNatClampNeg y) (rN (sC s))) with e | ⟨w, hw1, _, e⟩
  · exact Or.inl e
  · exact Or.inr ⟨w, by omega, e⟩
end MPC
set_option maxRecDepth 100000 in
set_option maxHeartbeats 4000000 in
theorem b_X11_mapped_0 {z : amZ} {post : amP} {G : amG} {I : amI} {L : amL} (hz : Go z cX11_mapped RX11 4 (some .int) 5 0 0 post) (hG : Lay G) {v1 : Int32} (h : ((v1 < 0) → post (some (.int (-1))) G I L) ∧ ((¬ v1 < 0) → ((v1 ≤ (2 : Int32)) → (szOk I 3) ∧ ((¬ v1 = 0) → ((q_whole I = true) → ((¬ v1 = (1 : Int32)) → (szOk I 3) ∧ (szOk I 20) ∧ ((q_joined I = false) → post (some (.int 0)) G I L) ∧ ((q_joined I = true) → post (some (.int 1)) G I L)) ∧ ((v1 = (1 : Int32)) → (szOk I 3) ∧ (szOk I 20) ∧ ((q_mono I = false) → post (some (.int 0)) G I L) ∧ ((q_mono I = true) → post (some (.int 1)) G I L))) ∧ ((q_whole I = false) → post (some (.int (-2))) G I L)) ∧ ((v1 = 0) → ((q_whole I = false) → post (some (.int 0)) G I L) ∧ ((q_whole I = true) → post (some (.int 1)) G I L))) ∧ ((¬ v1 ≤ (2 : Int32)) → post (some (.int (-1))) G I L))) : Wx z 0 0 0 [(0, .ref ((zB z).size + 0)), (1, .int v1)] [] G I L := by
  have hz1 := hz.1
  refine am_iload_n hz1 dX11_mapped_0 1 rfl rfl ?_
  refine am_if_lt (tgt := 9) hz1 dX11_mapped_1 (by decide) (fun c1 => ?_) (fun c1 => ?_)
  · replace h := h.1 c1
    refine am_iconst (v := (-1)) hz1 dX11_mapped_9 (by decide) ?_
    exact am_ireturn hz dX11_mapped_10 h
  · replace h := h.2 c1
    refine am_iload_n hz1 dX11_mapped_4 1 rfl rfl ?_
    refine am_iconst (v := 2) hz1 dX11_mapped_5 (by decide) ?_
    refine am_icmp_le (tgt := 11) hz1 dX11_mapped_6 (by decide) (fun c2 => ?_) (fun c2 => ?_)
    · replace h := h.1 c2
      refine am_aload_n hz1 dX11_mapped_11 0 rfl rfl ?_
      refine am_getR hz1 fl_X11_66 (ln_0 hG) (lk_0 hG) (lr_0_7 hG) rfl dX11_mapped_12 ?_
      obtain ⟨g3, h⟩ := h
      refine am_cVf hz cv_X11_400 [] [] (c_X3_isWhole hG  g3) (ln_41 hG) (lk_41 hG) rfl rfl rfl ⟨Nat.le_refl _, Nat.le_refl _⟩ (Nat.le_of_ble_eq_true rfl) dX11_mapped_15 ?_
      refine am_istore_n (lv' := [(2, .int (bI (q_whole I))), (0, .ref ((zB z).size + 0)), (1, .int v1)]) hz1 dX11_mapped_18 rfl rfl rfl ?_
      refine am_iload_n hz1 dX11_mapped_19 2 rfl rfl ?_
      refine am_if_ne (tgt := 33) hz1 dX11_mapped_20 (by decide) (fun c4 => ?_) (fun c4 => ?_)
      · replace h := h.1 c4
        refine am_iload_n hz1 dX11_mapped_33 0 rfl rfl ?_
        refine am_ifb_ne (tgt := 40) hz1 dX11_mapped_34 (by decide) (fun c5 => ?_) (fun c5 => ?_)
        · replace h := h.1 c5
          refine am_iload_n hz1 dX11_mapped_40 2 rfl rfl ?_
          refine am_iconst (v := 1) hz1 dX11_mapped_41 (by decide) ?_
          refine am_icmp_ne (tgt := 55) hz1 dX11_mapped_42 (by decide) (fun c6 => ?_) (fun c6 => ?_)
          · replace h := h.1 c6
            refine am_aload_n hz1 dX11_mapped_55 1 rfl rfl ?_
            refine am_getR hz1 fl_X11_66 (ln_0 hG) (lk_0 hG) (lr_0_7 hG) rfl dX11_mapped_56 ?_
            obtain ⟨g7, h⟩ := h
            obtain ⟨g8, h⟩ := h
            refine am_cVf hz cv_X11_406 [] [] (c_X3_isJoined hG  g7 g8) (ln_41 hG) (lk_41 hG) rfl rfl rfl ⟨Nat.le_refl _, Nat.le_refl _⟩ (Nat.le_of_ble_eq_true rfl) dX11_mapped_59 ?_
            refine am_istore_n (lv' := [(3, .int (bI (q_joined I))), (2, .int (bI (q_whole I))), (0, .ref ((zB z).size + 0)), (1, .int v1)]) hz1 dX11_mapped_62 rfl rfl rfl ?_
            refine am_iload_n hz1 dX11_mapped_63 0 rfl rfl ?_
            refine am_ifb_eq (tgt := 71) hz1 dX11_mapped_64 (by decide) (fun c9 => ?_) (fun c9 => ?_)
            · replace h := h.1 c9
              refine am_iconst (v := 0) hz1 dX11_mapped_71 (by decide) ?_
              exact am_ireturn hz dX11_mapped_72 h
            · replace h := h.2 c9
              refine am_iconst (v := 1) hz1 dX11_mapped_67 (by decide) ?_
              refine am_goto (tgt := 72) hz1 dX11_mapped_68 (by decide) ?_
              exact am_ireturn hz dX11_mapped_72 h
          · replace h := h.2 c6
            refine am_aload_n hz1 dX11_mapped_45 1 rfl rfl ?_
            refine am_getR hz1 fl_X11_66 (ln_0 hG) (lk_0 hG) (lr_0_7 hG) rfl dX11_mapped_46 ?_
            obtain ⟨g10, h⟩ := h
            obtain ⟨g11, h⟩ := h
            refine am_cVf hz cv_X11_403 [] [] (c_X3_isMonotone hG  g10 g11) (ln_41 hG) (lk_41 hG) rfl rfl rfl ⟨Nat.le_refl _, Nat.le_refl _⟩ (Nat.le_of_ble_eq_true rfl) dX11_mapped_49 ?_
            refine am_goto (tgt := 62) hz1 dX11_mapped_52 (by decide) ?_
            refine am_istore_n (lv' := [(3, .int (bI (q_mono I))), (2, .int (bI (q_whole I))), (0, .ref ((zB z).size + 0)), (1, .int v1)]) hz1 dX11_mapped_62 rfl rfl rfl ?_
            refine am_iload_n hz1 dX11_mapped_63 0 rfl rfl ?_
            refine am_ifb_eq (tgt := 71) hz1 dX11_mapped_64 (by decide) (fun c12 => ?_) (fun c12 => ?_)
            · replace h := h.1 c12
              refine am_iconst (v := 0) hz1 dX11_mapped_71 (by decide) ?_
              exact am_ireturn hz dX11_mapped_72 h
            · replace h := h.2 c12
              refine am_iconst (v := 1) hz1 dX11_mapped_67 (by decide) ?_
              refine am_goto (tgt := 72) hz1 dX11_mapped_68 (by decide) ?_
              exact am_ireturn hz dX11_mapped_72 h
        · replace h := h.2 c5
          refine am_bipush (v := (-2)) hz1 dX11_mapped_37 (by decide) ?_
          exact am_ireturn hz dX11_mapped_39 h
      · replace h := h.2 c4
        refine am_iload_n hz1 dX11_mapped_23 0 rfl rfl ?_
        refine am_ifb_eq (tgt := 31) hz1 dX11_mapped_24 (by decide) (fun c13 => ?_) (fun c13 => ?_)
        · replace h := h.1 c13
          refine am_iconst (v := 0) hz1 dX11_mapped_31 (by decide) ?_
          exact am_ireturn hz dX11_mapped_32 h
        · replace h := h.2 c13
          refine am_iconst (v := 1) hz1 dX11_mapped_27 (by decide) ?_
          refine am_goto (tgt := 32) hz1 dX11_mapped_28 (by decide) ?_
          exact am_ireturn hz dX11_mapped_32 h
    · replace h := h.2 c2
      refine am_iconst (v := (-1)) hz1 dX11_mapped_9 (by decide) ?_
      exact am_ireturn hz dX11_mapped_10 h
set_option maxRecDepth 100000 in
set_option maxHeartbeats 4000000 in
theorem c_X11_mapped {l : Launch} {D : va_G} {B : Heap} {G : amG} {I : amI} {L : amL}  (hG : Lay G)  (v1 : Int32) {s : St} (hs : CO s G I L) (hw : WF s) : Mx l D B yX11_mapped cX11_mapped 4 (some .int) 5 0 0 [.ref (B.size + 0), .int v1] G I L (fun r G1 I1 L1 => r = some (.int (aMapped s v1)) ∧ G1 = G ∧ CO s G I1 L1 ∧ frK I L I1 L1) := by
  refine Mx.of (by decide) rfl rfl (fun z e1 e2 e3 hz => ?_)
  subst e1; subst e2; subst e3
  refine b_X11_mapped_0 hz hG ?_
  have hO := hs.2.1.1
  rw [wh_C hs hw]
  refine ⟨fun h => ⟨by rw [aMapped, if_neg (by rw [inR_lo h]; decide)], rfl, hs, frK_r⟩, fun h => ⟨fun h2 => ?_, fun h2 => ⟨by rw [aMapped, if_neg (by rw [inR_hi h2]; decide)], rfl, hs, frK_r⟩⟩⟩
  have h3 := inR_in (k := 2) h h2
  refine ⟨hO.sz, fun h0 => ⟨fun hq => ?_, fun hq => ⟨?_, rfl, hs, frK_r⟩⟩, fun h0 => ⟨fun hq => ⟨?_, rfl, hs, frK_r⟩, fun hq => ⟨?_, rfl, hs, frK_r⟩⟩⟩
  · have hO2 := s0_O hs (wh_1 hw hq)
    rw [mo_C hs hw hq, jd_C hs hw hq]
    refine ⟨fun h1 => ⟨hO.sz, hO2.sz, fun g => ⟨?_, rfl, hs, frK_r⟩, fun g => ⟨?_, rfl, hs, frK_r⟩⟩, fun h1 => ⟨hO.sz, hO2.sz, fun g => ⟨?_, rfl, hs, frK_r⟩, fun g => ⟨?_, rfl, hs, frK_r⟩⟩⟩
    · rw [aMapped, if_pos h3, if_neg h0, if_pos hq, if_neg h1, g]; rfl
    · rw [aMapped, if_pos h3, if_neg h0, if_pos hq, if_neg h1, g]; rfl
    · rw [aMapped, if_pos h3, if_neg h0, if_pos hq, if_pos h1, g]; rfl
    · rw [aMapped, if_pos h3, if_neg h0, if_pos hq, if_pos h1, g]; rfl
  · rw [aMapped, if_pos h3, if_neg h0, if_neg (by rw [hq]; decide)]
  · rw [aMapped, if_pos h3, if_pos h0, hq]; rfl
  · rw [aMapped, if_pos h3, if_pos h0, hq]; rfl
set_option maxRecDepth 100000 in
set_option maxHeartbeats 4000000 in
theorem b_X11_adjoint_0 {z : amZ} {post : amP} {G : amG} {I : amI} {L : amL} (hz : Go z cX11_adjoint RX11 2 (some .int) 4 0 0 post) (hG : Lay G) {v1 : Int32} (h : (((kpB I 0 && q_has I 20 v1) = false) → post (some (.int (-1))) G I L) ∧ (((kpB I 0 && q_has I 20 v1) = true) → (szOk I 3) ∧ ((q_whole I = true) → (szOk I 3) ∧ (szOk I 20) ∧ post (some (.int (q_adj I v1))) G I L) ∧ ((q_whole I = false) → post (some (.int (-1))) G I L))) : Wx z 0 0 0 [(0, .ref ((zB z).size + 0)), (1, .int v1)] [] G I L := by
  have hz1 := hz.1
  refine am_aload_n hz1 dX11_adjoint_0 0 rfl rfl ?_
  refine am_iload_n hz1 dX11_adjoint_1 1 rfl rfl ?_
  refine am_cVf hz cv_X11_397 [.int v1] [] (c_X11_isThere hG v1 ) (ln_0 hG) (lk_0 hG) rfl rfl rfl ⟨Nat.le_refl _, Nat.le_refl _⟩ (Nat.le_of_ble_eq_true rfl) dX11_adjoint_2 ?_
  refine am_ifb_eq (tgt := 18) hz1 dX11_adjoint_5 (by decide) (fun c1 => ?_) (fun c1 => ?_)
  · replace h := h.1 c1
    refine am_iconst (v := (-1)) hz1 dX11_adjoint_18 (by decide) ?_
    exact am_ireturn hz dX11_adjoint_19 h
  · replace h := h.2 c1
    refine am_aload_n hz1 dX11_adjoint_8 0 rfl rfl ?_
    refine am_getR hz1 fl_X11_66 (ln_0 hG) (lk_0 hG) (lr_0_7 hG) rfl dX11_adjoint_9 ?_
    obtain ⟨g2, h⟩ := h
    refine am_cVf hz cv_X11_400 [] [] (c_X3_isWhole hG  g2) (ln_41 hG) (lk_41 hG) rfl rfl rfl ⟨Nat.le_refl _, Nat.le_refl _⟩ (Nat.le_of_ble_eq_true rfl) dX11_adjoint_12 ?_
    refine am_ifb_ne (tgt := 20) hz1 dX11_adjoint_15 (by decide) (fun c3 => ?_) (fun c3 => ?_)
    · replace h := h.1 c3
      refine am_aload_n hz1 dX11_adjoint_20 0 rfl rfl ?_
      refine am_getR hz1 fl_X11_66 (ln_0 hG) (lk_0 hG) (lr_0_7 hG) rfl dX11_adjoint_21 ?_
      refine am_iload_n hz1 dX11_adjoint_24 1 rfl rfl ?_
      obtain ⟨g4, h⟩ := h
      obtain ⟨g5, h⟩ := h
      refine am_cVf hz cv_X11_409 [.int v1] [] (c_X3_adjointOf hG v1 g4 g5) (ln_41 hG) (lk_41 hG) rfl rfl rfl ⟨Nat.le_refl _, Nat.le_refl _⟩ (Nat.le_of_ble_eq_true rfl) dX11_adjoint_25 ?_
      exact am_ireturn hz dX11_adjoint_28 h
    · replace h := h.2 c3
      refine am_iconst (v := (-1)) hz1 dX11_adjoint_18 (by decide) ?_
      exact am_ireturn hz dX11_adjoint_19 h
set_option maxRecDepth 100000 in
set_option maxHeartbeats 4000000 in
theorem c_X11_adjoint {l : Launch} {D : va_G} {B : Heap} {G : amG} {I : amI} {L : amL}  (hG : Lay G)  (v1 : Int32) {s : St} (hs : CO s G I L) (hw : WF s) : Mx l D B yX11_adjoint cX11_adjoint 2 (some .int) 4 0 0 [.ref (B.size + 0), .int v1] G I L (fun r G1 I1 L1 => r = some (.int (aAdj s v1)) ∧ G1 = G ∧ CO s G I1 L1 ∧ frK I L I1 L1) := by
  refine Mx.of (by decide) rfl rfl (fun z e1 e2 e3 hz => ?_)
  subst e1; subst e2; subst e3
  refine b_X11_adjoint_0 hz hG ?_
  have hO := hs.2.1.1
  have hk16 := hw.2.2.1
  rw [th_C hs hw, wh_C hs hw]
  refine ⟨fun h => ⟨by rw [aAdj, if_neg (by rw [h]; simp)], rfl, hs, frK_r⟩, fun h => ⟨hO.sz, fun hq => ⟨hO.sz, (s0_O hs (wh_1 hw hq)).sz, ?_, rfl, hs, frK_r⟩, fun hq => ⟨by rw [aAdj, if_neg (by rw [hq]; simp)], rfl, hs, frK_r⟩⟩⟩
  obtain ⟨y, hy, rfl⟩ := (el_t (by omega)).mp h
  rw [aAdj, if_pos (by rw [h, hq]; rfl), ad_C hs hw hq hy, cl_nI (by omega)]
set_option maxRecDepth 100000 in
set_option maxHeartbeats 4000000 in
theorem b_X11_side_0 {z : amZ} {post : amP} {G : amG} {I : amI} {L : amL} (hz : Go z cX11_side RX11 4 (some .long) 5 0 0 post) (hG : Lay G) {v1 : Int32} {v2 : Int32} {v3 : Int32} (h : ((q_has I 3 v1 = false) → post (some (.long (-9223372036854775808 : Int64))) G I L) ∧ ((q_has I 3 v1 = true) → (((kpB I 0 && q_has I 20 v2) = false) → post (some (.long (-9223372036854775808 : Int64))) G I L) ∧ (((kpB I 0 && q_has I 20 v2) = true) → ((v3 < 0) → post (some (.long (-9223372036854775808 : Int64))) G I L) ∧ ((¬ v3 < 0) → (((1 : Int32) < v3) → post (some (.long (-9223372036854775808 : Int64))) G I L) ∧ ((¬ (1 : Int32) < v3) → (szOk I 3) ∧ ((q_whole I = true) → ((¬ v3 = 0) → (szOk I 3) ∧ (szOk I 20) ∧ ((q_joined I = false) → post (some (.long (-9223372036854775808 : Int64))) G I L) ∧ ((q_joined I = true) → (szOk I 3) ∧ (szOk I 20) ∧ (rowOk I 20) ∧ post (some (.long (q_st I L v1 v2))) G I (setL L 63 (q_mt I 20 v2 (L 63) (sz I 20))))) ∧ ((v3 = 0) → (szOk I 3) ∧ (rowOk I 3) ∧ post (some (.long (q_sh I L v1 v2))) G I (setL L 63 (q_mf I 3 v1 (L 63) (sz I 3))))) ∧ ((q_whole I = false) → post (some (.long (-9223372036854775808 : Int64))) G I L)))))) : Wx z 0 0 0 [(0, .ref ((zB z).size + 0)), (1, .int v1), (2, .int v2), (3, .int v3)] [] G I L := by
  have hz1 := hz.1
  refine am_aload_n hz1 dX11_side_0 0 rfl rfl ?_
  refine am_getR hz1 fl_X11_21 (ln_0 hG) (lk_0 hG) (lr_0_2 hG) rfl dX11_side_1 ?_
  refine am_iload_n hz1 dX11_side_4 1 rfl rfl ?_
  refine am_cVf hz cv_X11_118 [.int v1] [] (c_X4_has hG isO_3 v1 ) (ln_3 hG) (lk_3 hG) rfl rfl rfl ⟨Nat.le_refl _, Nat.le_refl _⟩ (Nat.le_of_ble_eq_true rfl) dX11_side_5 ?_
  refine am_ifb_eq (tgt := 38) hz1 dX11_side_8 (by decide) (fun c1 => ?_) (fun c1 => ?_)
  · replace h := h.1 c1
    refine am_ldc2 hz1 kc_X11_281 dX11_side_38 ?_
    exact am_lreturn hz dX11_side_41 h
  · replace h := h.2 c1
    refine am_aload_n hz1 dX11_side_11 0 rfl rfl ?_
    refine am_iload_n hz1 dX11_side_12 2 rfl rfl ?_
    refine am_cVf hz cv_X11_397 [.int v2] [] (c_X11_isThere hG v2 ) (ln_0 hG) (lk_0 hG) rfl rfl rfl ⟨Nat.le_refl _, Nat.le_refl _⟩ (Nat.le_of_ble_eq_true rfl) dX11_side_13 ?_
    refine am_ifb_eq (tgt := 38) hz1 dX11_side_16 (by decide) (fun c2 => ?_) (fun c2 => ?_)
    · replace h := h.1 c2
      refine am_ldc2 hz1 kc_X11_281 dX11_side_38 ?_
      exact am_lreturn hz dX11_side_41 h
    · replace h := h.2 c2
      refine am_iload_n hz1 dX11_side_19 3 rfl rfl ?_
      refine am_if_lt (tgt := 38) hz1 dX11_side_20 (by decide) (fun c3 => ?_) (fun c3 => ?_)
      · replace h := h.1 c3
        refine am_ldc2 hz1 kc_X11_281 dX11_side_38 ?_
        exact am_lreturn hz dX11_side_41 h
      · replace h := h.2 c3
        refine am_iload_n hz1 dX11_side_23 3 rfl rfl ?_
        refine am_iconst (v := 1) hz1 dX11_side_24 (by decide) ?_
        refine am_icmp_gt (tgt := 38) hz1 dX11_side_25 (by decide) (fun c4 => ?_) (fun c4 => ?_)
        · replace h := h.1 c4
          refine am_ldc2 hz1 kc_X11_281 dX11_side_38 ?_
          exact am_lreturn hz dX11_side_41 h
        · replace h := h.2 c4
          refine am_aload_n hz1 dX11_side_28 0 rfl rfl ?_
          refine am_getR hz1 fl_X11_66 (ln_0 hG) (lk_0 hG) (lr_0_7 hG) rfl dX11_side_29 ?_
          obtain ⟨g5, h⟩ := h
          refine am_cVf hz cv_X11_400 [] [] (c_X3_isWhole hG  g5) (ln_41 hG) (lk_41 hG) rfl rfl rfl ⟨Nat.le_refl _, Nat.le_refl _⟩ (Nat.le_of_ble_eq_true rfl) dX11_side_32 ?_
          refine am_ifb_ne (tgt := 42) hz1 dX11_side_35 (by decide) (fun c6 => ?_) (fun c6 => ?_)
          · replace h := h.1 c6
            refine am_iload_n hz1 dX11_side_42 3 rfl rfl ?_
            refine am_if_ne (tgt := 60) hz1 dX11_side_43 (by decide) (fun c7 => ?_) (fun c7 => ?_)
            · replace h := h.1 c7
              refine am_aload_n hz1 dX11_side_60 0 rfl rfl ?_
              refine am_getR hz1 fl_X11_66 (ln_0 hG) (lk_0 hG) (lr_0_7 hG) rfl dX11_side_61 ?_
              obtain ⟨g8, h⟩ := h
              obtain ⟨g9, h⟩ := h
              refine am_cVf hz cv_X11_406 [] [] (c_X3_isJoined hG  g8 g9) (ln_41 hG) (lk_41 hG) rfl rfl rfl ⟨Nat.le_refl _, Nat.le_refl _⟩ (Nat.le_of_ble_eq_true rfl) dX11_side_64 ?_
              refine am_ifb_eq (tgt := 86) hz1 dX11_side_67 (by decide) (fun c10 => ?_) (fun c10 => ?_)
              · replace h := h.1 c10
                refine am_ldc2 hz1 kc_X11_281 dX11_side_86 ?_
                exact am_lreturn hz dX11_side_89 h
              · replace h := h.2 c10
                refine am_aload_n hz1 dX11_side_70 0 rfl rfl ?_
                refine am_getR hz1 fl_X11_66 (ln_0 hG) (lk_0 hG) (lr_0_7 hG) rfl dX11_side_71 ?_
                refine am_iload_n hz1 dX11_side_74 1 rfl rfl ?_
                refine am_iload_n hz1 dX11_side_75 2 rfl rfl ?_
                refine am_aload_n hz1 dX11_side_76 0 rfl rfl ?_
                refine am_getR hz1 fl_X11_100 (ln_0 hG) (lk_0 hG) (lr_0_13 hG) rfl dX11_side_77 ?_
                obtain ⟨g11, h⟩ := h
                obtain ⟨g12, h⟩ := h
                obtain ⟨g13, h⟩ := h
                refine am_cVf hz cv_X11_416 [.int v1, .int v2, .ref ((zB z).size + 63)] [] (c_X3_sideThere hG v1 v2 g11 g12 g13) (ln_41 hG) (lk_41 hG) rfl rfl rfl ⟨Nat.le_refl _, Nat.le_refl _⟩ (Nat.le_of_ble_eq_true rfl) dX11_side_80 ?_
                refine am_goto (tgt := 89) hz1 dX11_side_83 (by decide) ?_
                exact am_lreturn hz dX11_side_89 h
            · replace h := h.2 c7
              refine am_aload_n hz1 dX11_side_46 0 rfl rfl ?_
              refine am_getR hz1 fl_X11_66 (ln_0 hG) (lk_0 hG) (lr_0_7 hG) rfl dX11_side_47 ?_
              refine am_iload_n hz1 dX11_side_50 1 rfl rfl ?_
              refine am_iload_n hz1 dX11_side_51 2 rfl rfl ?_
              refine am_aload_n hz1 dX11_side_52 0 rfl rfl ?_
              refine am_getR hz1 fl_X11_100 (ln_0 hG) (lk_0 hG) (lr_0_13 hG) rfl dX11_side_53 ?_
              obtain ⟨g14, h⟩ := h
              obtain ⟨g15, h⟩ := h
              refine am_cVf hz cv_X11_412 [.int v1, .int v2, .ref ((zB z).size + 63)] [] (c_X3_sideHere hG v1 v2 g14 g15) (ln_41 hG) (lk_41 hG) rfl rfl rfl ⟨Nat.le_refl _, Nat.le_refl _⟩ (Nat.le_of_ble_eq_true rfl) dX11_side_56 ?_
              exact am_lreturn hz dX11_side_59 h
          · replace h := h.2 c6
            refine am_ldc2 hz1 kc_X11_281 dX11_side_38 ?_
            exact am_lreturn hz dX11_side_41 h
set_option maxRecDepth 100000 in
set_option maxHeartbeats 4000000 in
theorem c_X11_side {l : Launch} {D : va_G} {B : Heap} {G : amG} {I : amI} {L : amL}  (hG : Lay G)  (v1 : Int32) (v2 : Int32) (v3 : Int32) {s : St} (hs : CO s G I L) (hw : WF s) : Mx l D B yX11_side cX11_side 4 (some .long) 5 0 0 [.ref (B.size + 0), .int v1, .int v2, .int v3] G I L (fun r G1 I1 L1 => r = some (.long (aSide s v1 v2 v3)) ∧ G1 = G ∧ CO s G I1 L1 ∧ frK I L I1 L1) := by
  refine Mx.of (by decide) rfl rfl (fun z e1 e2 e3 hz => ?_)
  subst e1; subst e2; subst e3
  refine b_X11_side_0 hz hG ?_
  have hO := hs.2.1.1
  have h16 := hO.2.2.1
  have hk16 := hw.2.2.1
  rw [hO.hasB, th_C hs hw, wh_C hs hw]
  refine ⟨fun h => ⟨by rw [aSide, if_neg (by rw [h]; simp)], rfl, hs, frK_r⟩, fun h => ⟨fun h2 => ⟨by rw [aSide, if_neg (by rw [h2]; simp)], rfl, hs, frK_r⟩, fun h2 => ⟨fun h3 => ⟨by rw [aSide, if_neg (by rw [inR_lo h3]; simp)], rfl, hs, frK_r⟩, fun h3 => ⟨fun h4 => ⟨by rw [aSide, if_neg (by rw [inR_hi (k := 1) (by rw [Int32.not_le]; exact h4)]; simp)], rfl, hs, frK_r⟩, fun h4 => ⟨hO.sz, fun hq => ?_, fun hq => ⟨by rw [aSide, if_neg (by rw [hq]; simp)], rfl, hs, frK_r⟩⟩⟩⟩⟩⟩
  have h5 := inR_in (k := 1) h3 (Int32.not_lt.mp h4)
  have hO2 := s0_O hs (wh_1 hw hq)
  have hc : (elB (rN (sC s)) v1 && (elB (s0 s).1 v2 && (inR 1 v3 && wholeS s))) = true := by rw [h, h2, h5, hq]; rfl
  rw [jd_C hs hw hq]
  obtain ⟨p, hp, rfl⟩ := (el_t (by omega)).mp h
  obtain ⟨q, hqq, rfl⟩ := (el_t (by omega)).mp h2
  have ep : (nI p).toNatClampNeg = p := cl_nI (by omega)
  have eq : (nI q).toNatClampNeg = q := cl_nI (by omega)
  refine ⟨fun h0 => ⟨hO.sz, hO2.sz, fun g => ⟨?_, rfl, hs, frK_r⟩, fun g => ⟨hO.sz, hO2.sz, hO2.row, ?_, rfl, CO_63 hs⟩⟩, fun h0 => ⟨hO.sz, hO.row, ?_, rfl, CO_63 hs⟩⟩
  · rw [aSide, if_pos hc, if_neg h0, if_neg (by rw [g]; decide)]
  · rw [aSide, if_pos hc, if_neg h0, if_pos g, eq, q_st, sz_eq hO2.1 hO2.2.2.1]
    congr 2
    refine sumC_c (fun y hy => ⟨?_, fun _ => mt_nu hO2 hqq hy⟩)
    rw [hO2.am hy hqq, ad_C hs hw hq hy]
  · rw [aSide, if_pos hc, if_pos h0, ep, q_sh, sz_eq hO.1 h16]
    congr 2
    refine sumC_c (fun x hx => ⟨?_, fun _ => mf_mu hO hp hx⟩)
    rw [hO.am hp hx, hs.2.1.2.2.2.1 x (by omega), Bool.and_comm]
/-! types -/
theorem CO_L {s : St} {G : amG} {I I1 : amI} {L : amL} (h : CO s G I L) (hf : frL I I1) (hk : I1 46 12 = 0 ∨ LK I1 (rN (sC s)) (rA (sC s))) : CO s G I1 L ∧ frK I L I1 L := by
  have q1 : qI I I1 := fun q _ a _ _ => hf q a
  refine ⟨CO_q h q1 qL_r ⟨hk, ?_, ?_⟩, q_fr q1 qL_r⟩
  · rw [hf 56 (by omega)]; exact h.2.2.1.2.1
  · rw [hf 56 (by omega)]; exact h.2.2.1.2.2
theorem CO_LL {s : St} {G : amG} {I0 I I1 : amI} {L0 L : amL} (h : CO s G I L ∧ frK I0 L0 I L) (hf : frL I I1) (hk : LK I1 (rN (sC s)) (rA (sC s))) : CO s G I1 L ∧ frK I0 L0 I1 L := ⟨(CO_L h.1 hf (Or.inr hk)).1, frK_t h.2 (CO_L h.1 hf (Or.inr hk)).2⟩
set_option maxRecDepth 100000 in
set_option maxHeartbeats 4000000 in
theorem b_X11_type_0 {z : amZ} {post : amP} {G : amG} {I : amI} {L : amL} (hz : Go z cX11_type RX11 3 (some .int) 44 0 0 post) (hG : Lay G) {v1 : Int32} {v2 : Int32} (h : ∃ (dq1 : Nat) (postq1 : amP), Nat.ble (dq1 + 1) 44 = true ∧ Mx (zL z) (zD z) (zB z) yX2_learn cX2_learn 3 none dq1 0 0 [.ref ((zB z).size + 46)] G I L postq1 ∧ ∀ (roq1 : Option Value) (Gq1 : amG) (Iq1 : amI) (Lq1 : amL), postq1 roq1 Gq1 Iq1 Lq1 → roq1 = none ∧ Lay Gq1 ∧ (szOk Iq1 3) ∧ ((q_atMost Iq1 3 v1 v2 = false) → post (some (.int (-1))) Gq1 Iq1 Lq1) ∧ ((q_atMost Iq1 3 v1 v2 = true) → ∃ (dq4 : Nat) (postq4 : amP), Nat.ble (dq4 + 1) 44 = true ∧ Mx (zL z) (zD z) (zB z) yX2_typeOf cX2_typeOf 3 (some .int) dq4 0 0 [.ref ((zB z).size + 46), .int v1, .int v2] Gq1 Iq1 Lq1 postq4 ∧ ∀ (roq4 : Option Value) (Gq4 : amG) (Iq4 : amI) (Lq4 : amL), postq4 roq4 Gq4 Iq4 Lq4 → ∃ (rq4 : Int32), roq4 = some (.int rq4) ∧ Lay Gq4 ∧ post (some (.int rq4)) Gq4 Iq4 Lq4)) : Wx z 0 0 0 [(0, .ref ((zB z).size + 0)), (1, .int v1), (2, .int v2)] [] G I L := by
  have hz1 := hz.1
  refine am_aload_n hz1 dX11_type_0 0 rfl rfl ?_
  refine am_getR hz1 fl_X11_82 (ln_0 hG) (lk_0 hG) (lr_0_9 hG) rfl dX11_type_1 ?_
  obtain ⟨dq1, postq1, hdq1, hMq1, h⟩ := h
  refine am_callV hz1 cv_X11_364 [] [] hMq1 (ln_46 hG) (lk_46 hG) rfl rfl (hz.fr hdq1) (hz.lo hdq1) (by rw [hz.2.1]; exact ⟨Nat.le_refl _, Nat.le_refl _⟩) (Nat.le_of_ble_eq_true rfl) dX11_type_4 (fun roq1 Gq1 Iq1 Lq1 hpq1 => ?_)
  obtain ⟨rfl, hGq1, h⟩ := h roq1 Gq1 Iq1 Lq1 hpq1
  refine am_aload_n hz1 dX11_type_7 0 rfl rfl ?_
  refine am_getR hz1 fl_X11_21 (ln_0 hGq1) (lk_0 hGq1) (lr_0_2 hGq1) rfl dX11_type_8 ?_
  refine am_iload_n hz1 dX11_type_11 1 rfl rfl ?_
  refine am_iload_n hz1 dX11_type_12 2 rfl rfl ?_
  obtain ⟨g2, h⟩ := h
  refine am_cVf hz cv_X11_126 [.int v1, .int v2] [] (c_X4_atMost hGq1 isO_3 v1 v2 g2) (ln_3 hGq1) (lk_3 hGq1) rfl rfl rfl ⟨Nat.le_refl _, Nat.le_refl _⟩ (Nat.le_of_ble_eq_true rfl) dX11_type_13 ?_
  refine am_ifb_eq (tgt := 31) hz1 dX11_type_16 (by decide) (fun c3 => ?_) (fun c3 => ?_)
  · replace h := h.1 c3
    refine am_iconst (v := (-1)) hz1 dX11_type_31 (by decide) ?_
    exact am_ireturn hz dX11_type_32 h
  · replace h := h.2 c3
    refine am_aload_n hz1 dX11_type_19 0 rfl rfl ?_
    refine am_getR hz1 fl_X11_82 (ln_0 hGq1) (lk_0 hGq1) (lr_0_9 hGq1) rfl dX11_type_20 ?_
    refine am_iload_n hz1 dX11_type_23 1 rfl rfl ?_
    refine am_iload_n hz1 dX11_type_24 2 rfl rfl ?_
    obtain ⟨dq4, postq4, hdq4, hMq4, h⟩ := h
    refine am_callV hz1 cv_X11_367 [.int v1, .int v2] [] hMq4 (ln_46 hGq1) (lk_46 hGq1) rfl rfl (hz.fr hdq4) (hz.lo hdq4) (by rw [hz.2.1]; exact ⟨Nat.le_refl _, Nat.le_refl _⟩) (Nat.le_of_ble_eq_true rfl) dX11_type_25 (fun roq4 Gq4 Iq4 Lq4 hpq4 => ?_)
    obtain ⟨rq4, rfl, hGq4, h⟩ := h roq4 Gq4 Iq4 Lq4 hpq4
    refine am_goto (tgt := 32) hz1 dX11_type_28 (by decide) ?_
    exact am_ireturn hz dX11_type_32 h
set_option maxRecDepth 100000 in
set_option maxHeartbeats 4000000 in
theorem c_X11_type {l : Launch} {D : va_G} {B : Heap} {G : amG} {I : amI} {L : amL}  (hG : Lay G)  (v1 : Int32) (v2 : Int32) {s : St} (hs : CO s G I L) (hw : WF s) : Mx l D B yX11_type cX11_type 3 (some .int) 44 0 0 [.ref (B.size + 0), .int v1, .int v2] G I L (fun r G1 I1 L1 => r = some (.int (aType s v1 v2)) ∧ G1 = G ∧ CO s G I1 L1 ∧ frK I L I1 L1) := by
  refine Mx.of (by decide) rfl rfl (fun z e1 e2 e3 hz => ?_)
  subst e1; subst e2; subst e3
  refine b_X11_type_0 hz hG ?_
  have hO := hs.2.1.1
  have h16 := hO.2.2.1
  refine ⟨43, _, rfl, c_X2_learn hG hs.2.1.1 hs.2.2.1.1, fun ro G1 I1 L1 ⟨d1, d2, d3, d4, d5⟩ => ⟨d1, by rw [d2]; exact hG, ?_⟩⟩
  rw [d2, d3]
  have hs1 := CO_L hs d4 (Or.inr d5)
  have hO1 := hs1.1.2.1.1
  rw [hO1.amB]
  refine ⟨hO1.sz, fun h => ⟨by rw [aType, if_neg (by rw [h]; decide)], rfl, hs1⟩, fun h => ?_⟩
  have hc := h
  obtain ⟨x, y, hx, hy, rfl, rfl, hl⟩ := (iv_t h16).mp h
  refine ⟨0, _, rfl, c_X2_typeOf hG _ _ hO1 d5 rfl rfl hx hy hl, fun ro G2 I2 L2 ⟨r1, r2, r3, r4, r5⟩ => ⟨_, r1, by rw [r2]; exact hG, ?_, r2, by rw [r3]; exact CO_LL hs1 r4 r5⟩⟩
  rw [aType, if_pos hc, cl_nI (by omega), cl_nI (by omega)]
set_option maxRecDepth 100000 in
set_option maxHeartbeats 4000000 in
theorem b_X11_split_0 {z : amZ} {post : amP} {G : amG} {I : amI} {L : amL} (hz : Go z cX11_split RX11 4 (some .int) 44 0 0 post) (hG : Lay G) {v1 : Int32} {v2 : Int32} {v3 : Int32} (h : ∃ (dq1 : Nat) (postq1 : amP), Nat.ble (dq1 + 1) 44 = true ∧ Mx (zL z) (zD z) (zB z) yX2_learn cX2_learn 3 none dq1 0 0 [.ref ((zB z).size + 46)] G I L postq1 ∧ ∀ (roq1 : Option Value) (Gq1 : amG) (Iq1 : amI) (Lq1 : amL), postq1 roq1 Gq1 Iq1 Lq1 → roq1 = none ∧ Lay Gq1 ∧ ∃ (dq2 : Nat) (postq2 : amP), Nat.ble (dq2 + 1) 44 = true ∧ Mx (zL z) (zD z) (zB z) yX2_hasType cX2_hasType 2 (some .boolean) dq2 0 0 [.ref ((zB z).size + 46), .int v1] Gq1 Iq1 Lq1 postq2 ∧ ∀ (roq2 : Option Value) (Gq2 : amG) (Iq2 : amI) (Lq2 : amL), postq2 roq2 Gq2 Iq2 Lq2 → ∃ (rq2 : Int32), roq2 = some (.int rq2) ∧ Lay Gq2 ∧ ((rq2 = 0) → post (some (.int (-1))) Gq2 Iq2 Lq2) ∧ ((¬ rq2 = 0) → ∃ (dq4 : Nat) (postq4 : amP), Nat.ble (dq4 + 1) 44 = true ∧ Mx (zL z) (zD z) (zB z) yX2_hasType cX2_hasType 2 (some .boolean) dq4 0 0 [.ref ((zB z).size + 46), .int v2] Gq2 Iq2 Lq2 postq4 ∧ ∀ (roq4 : Option Value) (Gq4 : amG) (Iq4 : amI) (Lq4 : amL), postq4 roq4 Gq4 Iq4 Lq4 → ∃ (rq4 : Int32), roq4 = some (.int rq4) ∧ Lay Gq4 ∧ ((rq4 = 0) → post (some (.int (-1))) Gq4 Iq4 Lq4) ∧ ((¬ rq4 = 0) → ∃ (dq6 : Nat) (postq6 : amP), Nat.ble (dq6 + 1) 44 = true ∧ Mx (zL z) (zD z) (zB z) yX2_hasType cX2_hasType 2 (some .boolean) dq6 0 0 [.ref ((zB z).size + 46), .int v3] Gq4 Iq4 Lq4 postq6 ∧ ∀ (roq6 : Option Value) (Gq6 : amG) (Iq6 : amI) (Lq6 : amL), postq6 roq6 Gq6 Iq6 Lq6 → ∃ (rq6 : Int32), roq6 = some (.int rq6) ∧ Lay Gq6 ∧ ((¬ rq6 = 0) → ∃ (dq8 : Nat) (postq8 : amP), Nat.ble (dq8 + 1) 44 = true ∧ Mx (zL z) (zD z) (zB z) yX2_splits cX2_splits 9 (some .int) dq8 0 0 [.ref ((zB z).size + 46), .int v1, .int v2, .int v3] Gq6 Iq6 Lq6 postq8 ∧ ∀ (roq8 : Option Value) (Gq8 : amG) (Iq8 : amI) (Lq8 : amL), postq8 roq8 Gq8 Iq8 Lq8 → ∃ (rq8 : Int32), roq8 = some (.int rq8) ∧ Lay Gq8 ∧ post (some (.int rq8)) Gq8 Iq8 Lq8) ∧ ((rq6 = 0) → post (some (.int (-1))) Gq6 Iq6 Lq6)))) : Wx z 0 0 0 [(0, .ref ((zB z).size + 0)), (1, .int v1), (2, .int v2), (3, .int v3)] [] G I L := by
  have hz1 := hz.1
  refine am_aload_n hz1 dX11_split_0 0 rfl rfl ?_
  refine am_getR hz1 fl_X11_82 (ln_0 hG) (lk_0 hG) (lr_0_9 hG) rfl dX11_split_1 ?_
  obtain ⟨dq1, postq1, hdq1, hMq1, h⟩ := h
  refine am_callV hz1 cv_X11_364 [] [] hMq1 (ln_46 hG) (lk_46 hG) rfl rfl (hz.fr hdq1) (hz.lo hdq1) (by rw [hz.2.1]; exact ⟨Nat.le_refl _, Nat.le_refl _⟩) (Nat.le_of_ble_eq_true rfl) dX11_split_4 (fun roq1 Gq1 Iq1 Lq1 hpq1 => ?_)
  obtain ⟨rfl, hGq1, h⟩ := h roq1 Gq1 Iq1 Lq1 hpq1
  refine am_aload_n hz1 dX11_split_7 0 rfl rfl ?_
  refine am_getR hz1 fl_X11_82 (ln_0 hGq1) (lk_0 hGq1) (lr_0_9 hGq1) rfl dX11_split_8 ?_
  refine am_iload_n hz1 dX11_split_11 1 rfl rfl ?_
  obtain ⟨dq2, postq2, hdq2, hMq2, h⟩ := h
  refine am_callV hz1 cv_X11_370 [.int v1] [] hMq2 (ln_46 hGq1) (lk_46 hGq1) rfl rfl (hz.fr hdq2) (hz.lo hdq2) (by rw [hz.2.1]; exact ⟨Nat.le_refl _, Nat.le_refl _⟩) (Nat.le_of_ble_eq_true rfl) dX11_split_12 (fun roq2 Gq2 Iq2 Lq2 hpq2 => ?_)
  obtain ⟨rq2, rfl, hGq2, h⟩ := h roq2 Gq2 Iq2 Lq2 hpq2
  refine am_if_eq (tgt := 40) hz1 dX11_split_15 (by decide) (fun c3 => ?_) (fun c3 => ?_)
  · replace h := h.1 c3
    refine am_iconst (v := (-1)) hz1 dX11_split_40 (by decide) ?_
    exact am_ireturn hz dX11_split_41 h
  · replace h := h.2 c3
    refine am_aload_n hz1 dX11_split_18 0 rfl rfl ?_
    refine am_getR hz1 fl_X11_82 (ln_0 hGq2) (lk_0 hGq2) (lr_0_9 hGq2) rfl dX11_split_19 ?_
    refine am_iload_n hz1 dX11_split_22 2 rfl rfl ?_
    obtain ⟨dq4, postq4, hdq4, hMq4, h⟩ := h
    refine am_callV hz1 cv_X11_370 [.int v2] [] hMq4 (ln_46 hGq2) (lk_46 hGq2) rfl rfl (hz.fr hdq4) (hz.lo hdq4) (by rw [hz.2.1]; exact ⟨Nat.le_refl _, Nat.le_refl _⟩) (Nat.le_of_ble_eq_true rfl) dX11_split_23 (fun roq4 Gq4 Iq4 Lq4 hpq4 => ?_)
    obtain ⟨rq4, rfl, hGq4, h⟩ := h roq4 Gq4 Iq4 Lq4 hpq4
    refine am_if_eq (tgt := 40) hz1 dX11_split_26 (by decide) (fun c5 => ?_) (fun c5 => ?_)
    · replace h := h.1 c5
      refine am_iconst (v := (-1)) hz1 dX11_split_40 (by decide) ?_
      exact am_ireturn hz dX11_split_41 h
    · replace h := h.2 c5
      refine am_aload_n hz1 dX11_split_29 0 rfl rfl ?_
      refine am_getR hz1 fl_X11_82 (ln_0 hGq4) (lk_0 hGq4) (lr_0_9 hGq4) rfl dX11_split_30 ?_
      refine am_iload_n hz1 dX11_split_33 3 rfl rfl ?_
      obtain ⟨dq6, postq6, hdq6, hMq6, h⟩ := h
      refine am_callV hz1 cv_X11_370 [.int v3] [] hMq6 (ln_46 hGq4) (lk_46 hGq4) rfl rfl (hz.fr hdq6) (hz.lo hdq6) (by rw [hz.2.1]; exact ⟨Nat.le_refl _, Nat.le_refl _⟩) (Nat.le_of_ble_eq_true rfl) dX11_split_34 (fun roq6 Gq6 Iq6 Lq6 hpq6 => ?_)
      obtain ⟨rq6, rfl, hGq6, h⟩ := h roq6 Gq6 Iq6 Lq6 hpq6
      refine am_if_ne (tgt := 42) hz1 dX11_split_37 (by decide) (fun c7 => ?_) (fun c7 => ?_)
      · replace h := h.1 c7
        refine am_aload_n hz1 dX11_split_42 0 rfl rfl ?_
        refine am_getR hz1 fl_X11_82 (ln_0 hGq6) (lk_0 hGq6) (lr_0_9 hGq6) rfl dX11_split_43 ?_
        refine am_iload_n hz1 dX11_split_46 1 rfl rfl ?_
        refine am_iload_n hz1 dX11_split_47 2 rfl rfl ?_
        refine am_iload_n hz1 dX11_split_48 3 rfl rfl ?_
        obtain ⟨dq8, postq8, hdq8, hMq8, h⟩ := h
        refine am_callV hz1 cv_X11_373 [.int v1, .int v2, .int v3] [] hMq8 (ln_46 hGq6) (lk_46 hGq6) rfl rfl (hz.fr hdq8) (hz.lo hdq8) (by rw [hz.2.1]; exact ⟨Nat.le_refl _, Nat.le_refl _⟩) (Nat.le_of_ble_eq_true rfl) dX11_split_49 (fun roq8 Gq8 Iq8 Lq8 hpq8 => ?_)
        obtain ⟨rq8, rfl, hGq8, h⟩ := h roq8 Gq8 Iq8 Lq8 hpq8
        exact am_ireturn hz dX11_split_52 h
      · replace h := h.2 c7
        refine am_iconst (v := (-1)) hz1 dX11_split_40 (by decide) ?_
        exact am_ireturn hz dX11_split_41 h
set_option maxRecDepth 100000 in
set_option maxHeartbeats 4000000 in
theorem c_X11_split {l : Launch} {D : va_G} {B : Heap} {G : amG} {I : amI} {L : amL}  (hG : Lay G)  (v1 : Int32) (v2 : Int32) (v3 : Int32) {s : St} (hs : CO s G I L) (hw : WF s) : Mx l D B yX11_split cX11_split 4 (some .int) 44 0 0 [.ref (B.size + 0), .int v1, .int v2, .int v3] G I L (fun r G1 I1 L1 => r = some (.int (aSplit s v1 v2 v3)) ∧ G1 = G ∧ CO s G I1 L1 ∧ frK I L I1 L1) := by
  refine Mx.of (by decide) rfl rfl (fun z e1 e2 e3 hz => ?_)
  subst e1; subst e2; subst e3
  refine b_X11_split_0 hz hG ?_
  have hO := hs.2.1.1
  have h16 := hO.2.2.1
  have hP := hO.2.2.2.2.2.1
  have h136 := (tyO_I hP h16).1
  refine ⟨43, _, rfl, c_X2_learn hG hs.2.1.1 hs.2.2.1.1, fun ro G1 I1 L1 ⟨d1, d2, d3, d4, d5⟩ => ⟨d1, by rw [d2]; exact hG, ?_⟩⟩
  rw [d2, d3]
  have hs1 := CO_L hs d4 (Or.inr d5)
  refine ⟨0, _, rfl, c_X2_hasType hG _ d5, fun ro G2 I2 L2 ⟨r1, r2, r3, r4, r5⟩ => ⟨_, r1, by rw [r2]; exact hG, fun q => ⟨?_, r2, by rw [r3]; exact CO_LL hs1 r4 r5⟩, fun q => ?_⟩⟩
  · rw [bI_z] at q
    rw [aSplit, if_neg (by rw [q]; simp)]
  rw [r2, r3]
  have hs2 := CO_LL hs1 r4 r5
  refine ⟨0, _, rfl, c_X2_hasType hG _ r5, fun ro2 G3 I3 L3 ⟨t1, t2, t3, t4, t5⟩ => ⟨_, t1, by rw [t2]; exact hG, fun q2 => ⟨?_, t2, by rw [t3]; exact ⟨(CO_L hs2.1 t4 (Or.inr t5)).1, frK_t hs2.2 (CO_L hs2.1 t4 (Or.inr t5)).2⟩⟩, fun q2 => ?_⟩⟩
  · rw [bI_z] at q2
    rw [aSplit, if_neg (by rw [q2]; simp)]
  rw [t2, t3]
  have hs3 : CO s G I3 L ∧ frK I L I3 L := ⟨(CO_L hs2.1 t4 (Or.inr t5)).1, frK_t hs2.2 (CO_L hs2.1 t4 (Or.inr t5)).2⟩
  refine ⟨0, _, rfl, c_X2_hasType hG _ t5, fun ro3 G4 I4 L4 ⟨u1, u2, u3, u4, u5⟩ => ⟨_, u1, by rw [u2]; exact hG, fun q3 => ?_, fun q3 => ⟨?_, u2, by rw [u3]; exact ⟨(CO_L hs3.1 u4 (Or.inr u5)).1, frK_t hs3.2 (CO_L hs3.1 u4 (Or.inr u5)).2⟩⟩⟩⟩
  · rw [u2, u3]
    have hs4 : CO s G I4 L ∧ frK I L I4 L := ⟨(CO_L hs3.1 u4 (Or.inr u5)).1, frK_t hs3.2 (CO_L hs3.1 u4 (Or.inr u5)).2⟩
    rw [bI_nz] at q q2 q3
    have hcond : (elB (tyO (rN (sC s)) (rA (sC s))).tm v1 && (elB (tyO (rN (sC s)) (rA (sC s))).tm v2 && elB (tyO (rN (sC s)) (rA (sC s))).tm v3)) = true := by rw [q, q2, q3]; rfl
    obtain ⟨t, ht, rfl⟩ := (el_t (by omega)).mp q
    obtain ⟨r, hr, rfl⟩ := (el_t (by omega)).mp q2
    obtain ⟨w, hww, rfl⟩ := (el_t (by omega)).mp q3
    refine ⟨3, _, rfl, c_X2_splits hG _ _ _ hs4.1.2.1.1 u5 rfl rfl rfl ht hr hww, fun ro5 G5 I5 L5 ⟨w1, w2, w3, w4, w5⟩ => ⟨_, w1, by rw [w2]; exact hG, ?_, w2, by rw [w3]; exact ⟨(CO_L hs4.1 w4 (Or.inr w5)).1, frK_t hs4.2 (CO_L hs4.1 w4 (Or.inr w5)).2⟩⟩⟩
    rw [aSplit, if_pos hcond, cnt_ct, cl_nI (by omega)]
    congr 3
    refine ct_cong (fun x hx => ?_)
    rw [spP, spC]
    obtain ⟨a, b, ha, hb, hl, hfs⟩ := (tyO_I hP h16).2 t ht
    rw [hfs, show (16 * a + b) / 16 = a by omega, show (16 * a + b) % 16 = b by omega]
    cases e : bt (ivS (rN (sC s)) (rA (sC s)) a b) x
    · rfl
    · rw [iv_b (by omega) hb (by omega), Bool.and_eq_true, Bool.and_eq_true] at e
      have l1 := tyO_lt h16 ha hx e.2.1
      have l2 := tyO_lt h16 hx hb e.2.2
      rw [Bool.true_and, Bool.true_and, decide_eq_decide.mpr (nI_eq (a := (tyO (rN (sC s)) (rA (sC s))).ty (16 * a + x)) (b := r) (by omega) (by omega)), decide_eq_decide.mpr (nI_eq (a := (tyO (rN (sC s)) (rA (sC s))).ty (16 * x + b)) (b := w) (by omega) (by omega))]
  · rw [bI_z] at q3
    rw [aSplit, if_neg (by rw [q3]; simp)]
theorem LK_fs {I : amI} {n t : Nat} {A : Nat → Int32} (hP : PO n A) (h16 : n ≤ 16) (h : LK I n A) (ht : t < (tyO n A).tm) (f : Nat) : q_cell (nI f) (I 47 t) (I 48 t) = nI (256 * f + (tyO n A).fs t) := by
  have := h.2.2.2 t ht
  rw [this.1, this.2.1, cell_n]
  congr 1
  omega
set_option maxRecDepth 100000 in
set_option maxHeartbeats 4000000 in
theorem b_X11_isReduced_0 {z : amZ} {post : amP} {G : amG} {I : amI} {L : amL} (hz : Go z cX11_isReduced RX11 7 (some .boolean) 3 0 0 post) (hG : Lay G) {v1 : Int32} (h : Wx z 0 0 2 [(0, .ref ((zB z).size + 0)), (1, .int v1), (2, .int 0)] [] G I L) : Wx z 0 0 0 [(0, .ref ((zB z).size + 0)), (1, .int v1)] [] G I L := by
  have hz1 := hz.1
  refine am_iconst (v := 0) hz1 dX11_isReduced_0 (by decide) ?_
  refine am_istore_n (lv' := [(2, .int 0), (0, .ref ((zB z).size + 0)), (1, .int v1)]) hz1 dX11_isReduced_1 rfl rfl rfl ?_
  exact am_sub (lv' := [(0, .ref ((zB z).size + 0)), (1, .int v1), (2, .int 0)]) [1, 2, 0] rfl h
set_option maxRecDepth 100000 in
set_option maxHeartbeats 4000000 in
theorem b_X11_isReduced_2 {z : amZ} {post : amP} {G : amG} {I : amI} {L : amL} (hz : Go z cX11_isReduced RX11 7 (some .boolean) 3 0 0 post) (hG : Lay G) {v1 : Int32} {v2 : Int32} (h : (((I 3 0) ≤ v2) → post (some (.int 1)) G I L) ∧ ((¬ (I 3 0) ≤ v2) → Wx z 0 0 15 [(0, .ref ((zB z).size + 0)), (1, .int v1), (2, .int v2), (3, .int 0)] [] G I L)) : Wx z 0 0 2 [(0, .ref ((zB z).size + 0)), (1, .int v1), (2, .int v2)] [] G I L := by
  have hz1 := hz.1
  refine am_iload_n hz1 dX11_isReduced_2 2 rfl rfl ?_
  refine am_aload_n hz1 dX11_isReduced_3 0 rfl rfl ?_
  refine am_getR hz1 fl_X11_21 (ln_0 hG) (lk_0 hG) (lr_0_2 hG) rfl dX11_isReduced_4 ?_
  refine am_getI hz1 fl_X11_129 (ln_3 hG) (lk_3 hG) rfl dX11_isReduced_7 ?_
  refine am_icmp_ge (tgt := 109) hz1 dX11_isReduced_10 (by decide) (fun c1 => ?_) (fun c1 => ?_)
  · replace h := h.1 c1
    refine am_iconst (v := 1) hz1 dX11_isReduced_109 (by decide) ?_
    exact am_zreturn hz (by decide) dX11_isReduced_110 h
  · replace h := h.2 c1
    refine am_iconst (v := 0) hz1 dX11_isReduced_13 (by decide) ?_
    refine am_istore_n (lv' := [(3, .int 0), (0, .ref ((zB z).size + 0)), (1, .int v1), (2, .int v2)]) hz1 dX11_isReduced_14 rfl rfl rfl ?_
    exact am_sub (lv' := [(0, .ref ((zB z).size + 0)), (1, .int v1), (2, .int v2), (3, .int 0)]) [1, 2, 3, 0] rfl h
set_option maxRecDepth 100000 in
set_option maxHeartbeats 4000000 in
theorem b_X11_isReduced_15 {z : amZ} {post : amP} {G : amG} {I : amI} {L : amL} (hz : Go z cX11_isReduced RX11 7 (some .boolean) 3 0 0 post) (hG : Lay G) {v1 : Int32} {v2 : Int32} {v3 : Int32} (h : (((I 3 0) ≤ v3) → Wx z 0 0 2 [(0, .ref ((zB z).size + 0)), (1, .int v1), (2, .int (v2 + 1))] [] G I L) ∧ ((¬ (I 3 0) ≤ v3) → (szOk I 3) ∧ ((q_atMost I 3 v2 v3 = false) → Wx z 0 0 15 [(0, .ref ((zB z).size + 0)), (1, .int v1), (2, .int v2), (3, .int (v3 + 1))] [] G I L) ∧ ((q_atMost I 3 v2 v3 = true) → ∃ (dq4 : Nat) (postq4 : amP), Nat.ble (dq4 + 1) 3 = true ∧ Mx (zL z) (zD z) (zB z) yX2_typeOf cX2_typeOf 3 (some .int) dq4 0 0 [.ref ((zB z).size + 46), .int v2, .int v3] G I L postq4 ∧ ∀ (roq4 : Option Value) (Gq4 : amG) (Iq4 : amI) (Lq4 : amL), postq4 roq4 Gq4 Iq4 Lq4 → ∃ (rq4 : Int32), roq4 = some (.int rq4) ∧ Lay Gq4 ∧ vp_in rq4 136 ∧ vp_in rq4 136 ∧ (vp_in (q_cell v1 (Iq4 47 rq4.toNatClampNeg) (Iq4 48 rq4.toNatClampNeg)) 1024) ∧ (vp_in (q_cell v1 v2 v3) 1024) ∧ (((Lq4 36 (q_cell v1 v2 v3).toNatClampNeg) = (Lq4 36 (q_cell v1 (Iq4 47 rq4.toNatClampNeg) (Iq4 48 rq4.toNatClampNeg)).toNatClampNeg)) → Wx z 0 0 15 [(0, .ref ((zB z).size + 0)), (1, .int v1), (2, .int v2), (3, .int (v3 + 1))] [] Gq4 Iq4 Lq4) ∧ ((¬ (Lq4 36 (q_cell v1 v2 v3).toNatClampNeg) = (Lq4 36 (q_cell v1 (Iq4 47 rq4.toNatClampNeg) (Iq4 48 rq4.toNatClampNeg)).toNatClampNeg)) → post (some (.int 0)) Gq4 Iq4 Lq4)))) : Wx z 0 0 15 [(0, .ref ((zB z).size + 0)), (1, .int v1), (2, .int v2), (3, .int v3)] [] G I L := by
  have hz1 := hz.1
  refine am_iload_n hz1 dX11_isReduced_15 3 rfl rfl ?_
  refine am_aload_n hz1 dX11_isReduced_16 0 rfl rfl ?_
  refine am_getR hz1 fl_X11_21 (ln_0 hG) (lk_0 hG) (lr_0_2 hG) rfl dX11_isReduced_17 ?_
  refine am_getI hz1 fl_X11_129 (ln_3 hG) (lk_3 hG) rfl dX11_isReduced_20 ?_
  refine am_icmp_ge (tgt := 103) hz1 dX11_isReduced_23 (by decide) (fun c1 => ?_) (fun c1 => ?_)
  · replace h := h.1 c1
    refine am_iinc (v := v2 + 1) (lv' := [(2, .int (v2 + 1)), (0, .ref ((zB z).size + 0)), (1, .int v1), (3, .int v3)]) hz1 dX11_isReduced_103 2 rfl rfl rfl rfl ?_
    refine am_goto (tgt := 2) hz1 dX11_isReduced_106 (by decide) ?_
    exact am_sub (lv' := [(0, .ref ((zB z).size + 0)), (1, .int v1), (2, .int (v2 + 1))]) [1, 2, 0] rfl h
  · replace h := h.2 c1
    refine am_aload_n hz1 dX11_isReduced_26 0 rfl rfl ?_
    refine am_getR hz1 fl_X11_21 (ln_0 hG) (lk_0 hG) (lr_0_2 hG) rfl dX11_isReduced_27 ?_
    refine am_iload_n hz1 dX11_isReduced_30 2 rfl rfl ?_
    refine am_iload_n hz1 dX11_isReduced_31 3 rfl rfl ?_
    obtain ⟨g2, h⟩ := h
    refine am_cVf hz cv_X11_126 [.int v2, .int v3] [] (c_X4_atMost hG isO_3 v2 v3 g2) (ln_3 hG) (lk_3 hG) rfl rfl rfl ⟨Nat.le_refl _, Nat.le_refl _⟩ (Nat.le_of_ble_eq_true rfl) dX11_isReduced_32 ?_
    refine am_ifb_eq (tgt := 97) hz1 dX11_isReduced_35 (by decide) (fun c3 => ?_) (fun c3 => ?_)
    · replace h := h.1 c3
      refine am_iinc (v := v3 + 1) (lv' := [(3, .int (v3 + 1)), (0, .ref ((zB z).size + 0)), (1, .int v1), (2, .int v2)]) hz1 dX11_isReduced_97 3 rfl rfl rfl rfl ?_
      refine am_goto (tgt := 15) hz1 dX11_isReduced_100 (by decide) ?_
      exact am_sub (lv' := [(0, .ref ((zB z).size + 0)), (1, .int v1), (2, .int v2), (3, .int (v3 + 1))]) [1, 2, 3, 0] rfl h
    · replace h := h.2 c3
      refine am_aload_n hz1 dX11_isReduced_38 0 rfl rfl ?_
      refine am_getR hz1 fl_X11_82 (ln_0 hG) (lk_0 hG) (lr_0_9 hG) rfl dX11_isReduced_39 ?_
      refine am_iload_n hz1 dX11_isReduced_42 2 rfl rfl ?_
      refine am_iload_n hz1 dX11_isReduced_43 3 rfl rfl ?_
      obtain ⟨dq4, postq4, hdq4, hMq4, h⟩ := h
      refine am_callV hz1 cv_X11_367 [.int v2, .int v3] [] hMq4 (ln_46 hG) (lk_46 hG) rfl rfl (hz.fr hdq4) (hz.lo hdq4) (by rw [hz.2.1]; exact ⟨Nat.le_refl _, Nat.le_refl _⟩) (Nat.le_of_ble_eq_true rfl) dX11_isReduced_44 (fun roq4 Gq4 Iq4 Lq4 hpq4 => ?_)
      obtain ⟨rq4, rfl, hGq4, h⟩ := h roq4 Gq4 Iq4 Lq4 hpq4
      refine am_istore (lv' := [(4, .int rq4), (0, .ref ((zB z).size + 0)), (1, .int v1), (2, .int v2), (3, .int v3)]) hz1 dX11_isReduced_47 rfl rfl ?_
      refine am_aload_n hz1 dX11_isReduced_49 1 rfl rfl ?_
      refine am_getR hz1 fl_X11_53 (ln_0 hGq4) (lk_0 hGq4) (lr_0_5 hGq4) rfl dX11_isReduced_50 ?_
      refine am_iload_n hz1 dX11_isReduced_53 2 rfl rfl ?_
      refine am_aload_n hz1 dX11_isReduced_54 1 rfl rfl ?_
      refine am_getR hz1 fl_X11_82 (ln_0 hGq4) (lk_0 hGq4) (lr_0_9 hGq4) rfl dX11_isReduced_55 ?_
      refine am_getR hz1 fl_X11_379 (ln_46 hGq4) (lk_46 hGq4) (lr_46_0 hGq4) rfl dX11_isReduced_58 ?_
      refine am_iload hz1 dX11_isReduced_61 0 rfl ?_
      obtain ⟨g5, h⟩ := h
      refine am_iald hz1 (ln_47 hGq4) (lk_47 hGq4) (by rw [(ll_47 hGq4)]; exact g5) dX11_isReduced_63 ?_
      refine am_aload_n hz1 dX11_isReduced_64 1 rfl rfl ?_
      refine am_getR hz1 fl_X11_82 (ln_0 hGq4) (lk_0 hGq4) (lr_0_9 hGq4) rfl dX11_isReduced_65 ?_
      refine am_getR hz1 fl_X11_382 (ln_46 hGq4) (lk_46 hGq4) (lr_46_1 hGq4) rfl dX11_isReduced_68 ?_
      refine am_iload hz1 dX11_isReduced_71 0 rfl ?_
      obtain ⟨g6, h⟩ := h
      refine am_iald hz1 (ln_48 hGq4) (lk_48 hGq4) (by rw [(ll_48 hGq4)]; exact g6) dX11_isReduced_73 ?_
      obtain ⟨g7, h⟩ := h
      refine am_cVf hz cv_X11_246 [.int v1, .int (Iq4 47 rq4.toNatClampNeg), .int (Iq4 48 rq4.toNatClampNeg)] [] (c_X0_at hGq4 v1 (Iq4 47 rq4.toNatClampNeg) (Iq4 48 rq4.toNatClampNeg) g7) (ln_35 hGq4) (lk_35 hGq4) rfl rfl rfl ⟨Nat.le_refl _, Nat.le_refl _⟩ (Nat.le_of_ble_eq_true rfl) dX11_isReduced_74 ?_
      refine am_lstore (lv' := [(5, .long (Lq4 36 (q_cell v1 (Iq4 47 rq4.toNatClampNeg) (Iq4 48 rq4.toNatClampNeg)).toNatClampNeg)), (4, .int rq4), (0, .ref ((zB z).size + 0)), (1, .int v1), (2, .int v2), (3, .int v3)]) hz1 dX11_isReduced_77 rfl rfl ?_
      refine am_aload_n hz1 dX11_isReduced_79 2 rfl rfl ?_
      refine am_getR hz1 fl_X11_53 (ln_0 hGq4) (lk_0 hGq4) (lr_0_5 hGq4) rfl dX11_isReduced_80 ?_
      refine am_iload_n hz1 dX11_isReduced_83 3 rfl rfl ?_
      refine am_iload_n hz1 dX11_isReduced_84 4 rfl rfl ?_
      refine am_iload_n hz1 dX11_isReduced_85 5 rfl rfl ?_
      obtain ⟨g8, h⟩ := h
      refine am_cVf hz cv_X11_246 [.int v1, .int v2, .int v3] [] (c_X0_at hGq4 v1 v2 v3 g8) (ln_35 hGq4) (lk_35 hGq4) rfl rfl rfl ⟨Nat.le_refl _, Nat.le_refl _⟩ (Nat.le_of_ble_eq_true rfl) dX11_isReduced_86 ?_
      refine am_lload hz1 dX11_isReduced_89 0 rfl ?_
      refine am_lif_eq (tgt := 97) hz1 dX11_isReduced_91 dX11_isReduced_92 (by decide) (fun c9 => ?_) (fun c9 => ?_)
      · replace h := h.1 c9
        refine am_iinc (v := v3 + 1) (lv' := [(3, .int (v3 + 1)), (5, .long (Lq4 36 (q_cell v1 (Iq4 47 rq4.toNatClampNeg) (Iq4 48 rq4.toNatClampNeg)).toNatClampNeg)), (4, .int rq4), (0, .ref ((zB z).size + 0)), (1, .int v1), (2, .int v2)]) hz1 dX11_isReduced_97 5 rfl rfl rfl rfl ?_
        refine am_goto (tgt := 15) hz1 dX11_isReduced_100 (by decide) ?_
        exact am_sub (lv' := [(0, .ref ((zB z).size + 0)), (1, .int v1), (2, .int v2), (3, .int (v3 + 1))]) [3, 4, 5, 0] rfl h
      · replace h := h.2 c9
        refine am_iconst (v := 0) hz1 dX11_isReduced_95 (by decide) ?_
        exact am_zreturn hz (by decide) dX11_isReduced_96 h
set_option maxRecDepth 100000 in
set_option maxHeartbeats 4000000 in
theorem c_X11_isReduced {l : Launch} {D : va_G} {B : Heap} {G : amG} {I : amI} {L : amL}  (hG : Lay G)  (v1 : Int32) {s : St} {f : Nat} (hs : CO s G I L) (hK : LK I (rN (sC s)) (rA (sC s))) (hf : f < 4) (hv : v1 = nI f) : Mx l D B yX11_isReduced cX11_isReduced 7 (some .boolean) 3 0 0 [.ref (B.size + 0), .int v1] G I L (fun r G1 I1 L1 => r = some (.int (bI (rdM (rN (sC s)) (rA (sC s)) (fun k => rF (sC s) (256 * f + k))))) ∧ G1 = G ∧ CO s G I1 L1 ∧ frK I L I1 L1 ∧ LK I1 (rN (sC s)) (rA (sC s))) := by
  refine Mx.of (by decide) rfl rfl (fun z e1 e2 e3 hz => ?_)
  subst e1; subst e2; subst e3
  refine b_X11_isReduced_0 hz hG ?_
  subst hv
  have hO := hs.2.1.1
  have h16 := hO.2.2.1
  have hP := hO.2.2.2.2.2.1
  have h136 := (tyO_I hP h16).1
  refine for_up (P := fun a => ∀ I1 L1, CO s G I1 L1 → frK I L I1 L1 → LK I1 (rN (sC s)) (rA (sC s)) → scan (rdM1 (rN (sC s)) (rA (sC s)) (fun k => rF (sC s) (256 * f + k))) (fun _ => false) true (rN (sC s) - a) a = rdM (rN (sC s)) (rA (sC s)) (fun k => rF (sC s) (256 * f + k)) → Wx z 0 0 2 [(0, .ref ((zB z).size + 0)), (1, .int (nI f)), (2, .int (nI a))] [] G I1 L1) (n := rN (sC s)) ?_ ?_ (Nat.zero_le _) I L hs frK_r hK (by rw [Nat.sub_zero, rdM])
  · intro I1 L1 h1 h2 k1 e
    rw [scan_0] at e
    exact b_X11_isReduced_2 hz hG ⟨fun _ => ⟨by rw [← e]; rfl, rfl, h1, h2, k1⟩, fun g => absurd (sz_le h1.2.1.1.1 h16) g⟩
  · intro a ha ih I1 L1 h1 h2 k1 e
    rw [scan_s ha] at e
    refine b_X11_isReduced_2 hz hG ⟨fun g => absurd g (sz_ge h1.2.1.1.1 h16 ha), fun _ => ?_⟩
    refine for_up (P := fun b => ∀ I1 L1, CO s G I1 L1 → frK I L I1 L1 → LK I1 (rN (sC s)) (rA (sC s)) → (if scan (rdP (rN (sC s)) (rA (sC s)) (fun k => rF (sC s) (256 * f + k)) a) (fun _ => true) false (rN (sC s) - b) b = true then false else scan (rdM1 (rN (sC s)) (rA (sC s)) (fun k => rF (sC s) (256 * f + k))) (fun _ => false) true (rN (sC s) - (a + 1)) (a + 1)) = rdM (rN (sC s)) (rA (sC s)) (fun k => rF (sC s) (256 * f + k)) → Wx z 0 0 15 [(0, .ref ((zB z).size + 0)), (1, .int (nI f)), (2, .int (nI a)), (3, .int (nI b))] [] G I1 L1) (n := rN (sC s)) ?_ ?_ (Nat.zero_le _) I1 L1 h1 h2 k1 (by rw [Nat.sub_zero]; exact e)
    · intro I2 L2 g1 g2 k2 e2
      rw [scan_0, if_neg (by decide)] at e2
      refine b_X11_isReduced_15 hz hG ⟨fun _ => ?_, fun g => absurd (sz_le g1.2.1.1.1 h16) g⟩
      rw [nI_1]
      exact ih I2 L2 g1 g2 k2 e2
    · intro b hb jh I2 L2 g1 g2 k2 e2
      have hO2 := g1.2.1.1
      rw [scan_s hb] at e2
      refine b_X11_isReduced_15 hz hG ⟨fun g => absurd g (sz_ge hO2.1 h16 hb), fun _ => ⟨hO2.sz, ?_⟩⟩
      rw [hO2.am ha hb, nI_1]
      refine ⟨fun q => jh I2 L2 g1 g2 k2 ?_, fun q => ⟨0, _, rfl, c_X2_typeOf hG _ _ hO2 k2 rfl rfl ha hb q, fun ro G3 I3 L3 ⟨r1, r2, r3, r4, r5⟩ => ⟨_, r1, by rw [r2]; exact hG, ?_⟩⟩⟩
      · rw [rdP, q, Bool.false_and, if_neg (show ¬ false = true by decide)] at e2; exact e2
      · have g3 := CO_L g1 r4 (Or.inr r5)
        have hlt := tyO_lt h16 ha hb q
        have hfs := fs_256 hP h16 hlt
        rw [r2, r3, cl_nI (n := (tyO (rN (sC s)) (rA (sC s))).ty (16 * a + b)) (by omega), LK_fs hP h16 r5 hlt f, cell_n, cl_nI (n := 256 * f + (tyO (rN (sC s)) (rA (sC s))).fs ((tyO (rN (sC s)) (rA (sC s))).ty (16 * a + b))) (by omega), cl_nI (n := 256 * f + 16 * a + b) (by omega), g1.2.1.2.1 _ (by omega), g1.2.1.2.1 _ (by omega)]
        refine ⟨in_nI (by omega) (by decide), in_nI (by omega) (by decide), in_nI (by omega) (by decide), in_nI (by omega) (by decide), fun q2 => jh I3 L2 g3.1 (frK_t g2 g3.2) r5 ?_, fun q2 => ⟨?_, rfl, g3.1, frK_t g2 g3.2, r5⟩⟩
        · rw [rdP, q, decide_eq_false (show ¬ ¬ rF (sC s) (256 * f + (16 * a + b)) = _ by rw [← Nat.add_assoc]; exact not_not_intro q2), Bool.and_false, if_neg (show ¬ false = true by decide)] at e2; exact e2
        · rw [rdP, q, decide_eq_true (show ¬ rF (sC s) (256 * f + (16 * a + b)) = _ by rw [← Nat.add_assoc]; exact q2), Bool.and_true, if_pos rfl, if_pos rfl] at e2
          rw [← e2]; rfl
set_option maxRecDepth 100000 in
set_option maxHeartbeats 4000000 in
theorem b_X11_reducedFunctions_0 {z : amZ} {post : amP} {G : amG} {I : amI} {L : amL} (hz : Go z cX11_reducedFunctions RX11 3 (some .int) 44 0 0 post) (hG : Lay G)  (h : ∃ (dq1 : Nat) (postq1 : amP), Nat.ble (dq1 + 1) 44 = true ∧ Mx (zL z) (zD z) (zB z) yX2_learn cX2_learn 3 none dq1 0 0 [.ref ((zB z).size + 46)] G I L postq1 ∧ ∀ (roq1 : Option Value) (Gq1 : amG) (Iq1 : amI) (Lq1 : amL), postq1 roq1 Gq1 Iq1 Lq1 → roq1 = none ∧ Lay Gq1 ∧ Wx z 0 0 11 [(0, .ref ((zB z).size + 0)), (1, .int 0), (2, .int 0)] [] Gq1 Iq1 Lq1) : Wx z 0 0 0 [(0, .ref ((zB z).size + 0))] [] G I L := by
  have hz1 := hz.1
  refine am_aload_n hz1 dX11_reducedFunctions_0 0 rfl rfl ?_
  refine am_getR hz1 fl_X11_82 (ln_0 hG) (lk_0 hG) (lr_0_9 hG) rfl dX11_reducedFunctions_1 ?_
  obtain ⟨dq1, postq1, hdq1, hMq1, h⟩ := h
  refine am_callV hz1 cv_X11_364 [] [] hMq1 (ln_46 hG) (lk_46 hG) rfl rfl (hz.fr hdq1) (hz.lo hdq1) (by rw [hz.2.1]; exact ⟨Nat.le_refl _, Nat.le_refl _⟩) (Nat.le_of_ble_eq_true rfl) dX11_reducedFunctions_4 (fun roq1 Gq1 Iq1 Lq1 hpq1 => ?_)
  obtain ⟨rfl, hGq1, h⟩ := h roq1 Gq1 Iq1 Lq1 hpq1
  refine am_iconst (v := 0) hz1 dX11_reducedFunctions_7 (by decide) ?_
  refine am_istore_n (lv' := [(1, .int 0), (0, .ref ((zB z).size + 0))]) hz1 dX11_reducedFunctions_8 rfl rfl rfl ?_
  refine am_iconst (v := 0) hz1 dX11_reducedFunctions_9 (by decide) ?_
  refine am_istore_n (lv' := [(2, .int 0), (1, .int 0), (0, .ref ((zB z).size + 0))]) hz1 dX11_reducedFunctions_10 rfl rfl rfl ?_
  exact am_sub (lv' := [(0, .ref ((zB z).size + 0)), (1, .int 0), (2, .int 0)]) [2, 1, 0] rfl h
set_option maxRecDepth 100000 in
set_option maxHeartbeats 4000000 in
theorem b_X11_reducedFunctions_11 {z : amZ} {post : amP} {G : amG} {I : amI} {L : amL} (hz : Go z cX11_reducedFunctions RX11 3 (some .int) 44 0 0 post) (hG : Lay G) {v1 : Int32} {v2 : Int32} (h : (((4 : Int32) ≤ v2) → post (some (.int v1)) G I L) ∧ ((¬ (4 : Int32) ≤ v2) → ∃ (dq2 : Nat) (postq2 : amP), Nat.ble (dq2 + 1) 44 = true ∧ Mx (zL z) (zD z) (zB z) yX11_isReduced cX11_isReduced 7 (some .boolean) dq2 0 0 [.ref ((zB z).size + 0), .int v2] G I L postq2 ∧ ∀ (roq2 : Option Value) (Gq2 : amG) (Iq2 : amI) (Lq2 : amL), postq2 roq2 Gq2 Iq2 Lq2 → ∃ (rq2 : Int32), roq2 = some (.int rq2) ∧ Lay Gq2 ∧ ((rq2 = 0) → Wx z 0 0 11 [(0, .ref ((zB z).size + 0)), (1, .int v1), (2, .int (v2 + 1))] [] Gq2 Iq2 Lq2) ∧ ((¬ rq2 = 0) → Wx z 0 0 11 [(0, .ref ((zB z).size + 0)), (1, .int (v1 ||| ((1 : Int32) <<< (v2 &&& 31)))), (2, .int (v2 + 1))] [] Gq2 Iq2 Lq2))) : Wx z 0 0 11 [(0, .ref ((zB z).size + 0)), (1, .int v1), (2, .int v2)] [] G I L := by
  have hz1 := hz.1
  refine am_iload_n hz1 dX11_reducedFunctions_11 2 rfl rfl ?_
  refine am_iconst (v := 4) hz1 dX11_reducedFunctions_12 (by decide) ?_
  refine am_icmp_ge (tgt := 36) hz1 dX11_reducedFunctions_13 (by decide) (fun c1 => ?_) (fun c1 => ?_)
  · replace h := h.1 c1
    refine am_iload_n hz1 dX11_reducedFunctions_36 1 rfl rfl ?_
    exact am_ireturn hz dX11_reducedFunctions_37 h
  · replace h := h.2 c1
    refine am_aload_n hz1 dX11_reducedFunctions_16 0 rfl rfl ?_
    refine am_iload_n hz1 dX11_reducedFunctions_17 2 rfl rfl ?_
    obtain ⟨dq2, postq2, hdq2, hMq2, h⟩ := h
    refine am_callV hz1 cv_X11_376 [.int v2] [] hMq2 (ln_0 hG) (lk_0 hG) rfl rfl (hz.fr hdq2) (hz.lo hdq2) (by rw [hz.2.1]; exact ⟨Nat.le_refl _, Nat.le_refl _⟩) (Nat.le_of_ble_eq_true rfl) dX11_reducedFunctions_18 (fun roq2 Gq2 Iq2 Lq2 hpq2 => ?_)
    obtain ⟨rq2, rfl, hGq2, h⟩ := h roq2 Gq2 Iq2 Lq2 hpq2
    refine am_if_eq (tgt := 30) hz1 dX11_reducedFunctions_21 (by decide) (fun c3 => ?_) (fun c3 => ?_)
    · replace h := h.1 c3
      refine am_iinc (v := v2 + 1) (lv' := [(2, .int (v2 + 1)), (0, .ref ((zB z).size + 0)), (1, .int v1)]) hz1 dX11_reducedFunctions_30 2 rfl rfl rfl rfl ?_
      refine am_goto (tgt := 11) hz1 dX11_reducedFunctions_33 (by decide) ?_
      exact am_sub (lv' := [(0, .ref ((zB z).size + 0)), (1, .int v1), (2, .int (v2 + 1))]) [1, 2, 0] rfl h
    · replace h := h.2 c3
      refine am_iload_n hz1 dX11_reducedFunctions_24 1 rfl rfl ?_
      refine am_iconst (v := 1) hz1 dX11_reducedFunctions_25 (by decide) ?_
      refine am_iload_n hz1 dX11_reducedFunctions_26 2 rfl rfl ?_
      refine am_ishl hz1 dX11_reducedFunctions_27 ?_
      refine am_ior hz1 dX11_reducedFunctions_28 ?_
      refine am_istore_n (lv' := [(1, .int (v1 ||| ((1 : Int32) <<< (v2 &&& 31)))), (0, .ref ((zB z).size + 0)), (2, .int v2)]) hz1 dX11_reducedFunctions_29 rfl rfl rfl ?_
      refine am_iinc (v := v2 + 1) (lv' := [(2, .int (v2 + 1)), (1, .int (v1 ||| ((1 : Int32) <<< (v2 &&& 31)))), (0, .ref ((zB z).size + 0))]) hz1 dX11_reducedFunctions_30 2 rfl rfl rfl rfl ?_
      refine am_goto (tgt := 11) hz1 dX11_reducedFunctions_33 (by decide) ?_
      exact am_sub (lv' := [(0, .ref ((zB z).size + 0)), (1, .int (v1 ||| ((1 : Int32) <<< (v2 &&& 31)))), (2, .int (v2 + 1))]) [2, 1, 0] rfl h
set_option maxRecDepth 100000 in
set_option maxHeartbeats 4000000 in
theorem c_X11_reducedFunctions {l : Launch} {D : va_G} {B : Heap} {G : amG} {I : amI} {L : amL}  (hG : Lay G)   {s : St} (hs : CO s G I L) : Mx l D B yX11_reducedFunctions cX11_reducedFunctions 3 (some .int) 44 0 0 [.ref (B.size + 0)] G I L (fun r G1 I1 L1 => r = some (.int (mkset (fun f => rdM (rN (sC s)) (rA (sC s)) (fun k => rF (sC s) (256 * f + k))) 4)) ∧ G1 = G ∧ CO s G I1 L1 ∧ frK I L I1 L1) := by
  refine Mx.of (by decide) rfl rfl (fun z e1 e2 e3 hz => ?_)
  subst e1; subst e2; subst e3
  refine b_X11_reducedFunctions_0 hz hG ?_
  refine ⟨43, _, rfl, c_X2_learn hG hs.2.1.1 hs.2.2.1.1, fun ro G1 I1 L1 ⟨d1, d2, d3, d4, d5⟩ => ⟨d1, by rw [d2]; exact hG, ?_⟩⟩
  rw [d2, d3]
  have hs1 := CO_L hs d4 (Or.inr d5)
  refine for_up (P := fun f => ∀ I1 L1, CO s G I1 L1 → frK I L I1 L1 → LK I1 (rN (sC s)) (rA (sC s)) → Wx z 0 0 11 [(0, .ref ((zB z).size + 0)), (1, .int (mkset (fun f => rdM (rN (sC s)) (rA (sC s)) (fun k => rF (sC s) (256 * f + k))) f)), (2, .int (nI f))] [] G I1 L1) (n := 4) ?_ ?_ (Nat.zero_le _) I1 L hs1.1 hs1.2 d5
  · intro I1 L1 h1 h2 h3
    exact b_X11_reducedFunctions_11 hz hG ⟨fun _ => ⟨rfl, rfl, h1, h2⟩, fun g => absurd (nI_le (a := 4) (b := 4) (Nat.le_refl _) (by decide)) g⟩
  · intro f hf ih I1 L1 h1 h2 h3
    refine b_X11_reducedFunctions_11 hz hG ⟨fun g => absurd g (nI_ge (b := 4) hf (by decide)), fun _ => ⟨3, _, rfl, c_X11_isReduced hG _ h1 h3 hf rfl, fun ro G2 I2 L2 ⟨r1, r2, r3, r4, r5⟩ => ⟨_, r1, by rw [r2]; exact hG, fun q => ?_, fun q => ?_⟩⟩⟩
    · rw [bI_z] at q
      have := ih I2 L2 r3 (frK_t h2 r4) r5
      rw [mkset, if_neg (by rw [q]; decide), Int32.or_zero] at this
      rw [r2, nI_1]; exact this
    · rw [bI_nz] at q
      have := ih I2 L2 r3 (frK_t h2 r4) r5
      rw [mkset, if_pos q] at this
      rw [r2, nI_1]; exact this
set_option maxRecDepth 100000 in
set_option maxHeartbeats 4000000 in
theorem b_X11_reduced_0 {z : amZ} {post : amP} {G : amG} {I : amI} {L : amL} (hz : Go z cX11_reduced RX11 3 (some .long) 44 0 0 post) (hG : Lay G) {v1 : Int32} {v2 : Int32} (h : ∃ (dq1 : Nat) (postq1 : amP), Nat.ble (dq1 + 1) 44 = true ∧ Mx (zL z) (zD z) (zB z) yX2_learn cX2_learn 3 none dq1 0 0 [.ref ((zB z).size + 46)] G I L postq1 ∧ ∀ (roq1 : Option Value) (Gq1 : amG) (Iq1 : amI) (Lq1 : amL), postq1 roq1 Gq1 Iq1 Lq1 → roq1 = none ∧ Lay Gq1 ∧ ((inR 3 v1 = false) → post (some (.long (-9223372036854775808 : Int64))) Gq1 Iq1 Lq1) ∧ ((inR 3 v1 = true) → ∃ (dq3 : Nat) (postq3 : amP), Nat.ble (dq3 + 1) 44 = true ∧ Mx (zL z) (zD z) (zB z) yX2_hasType cX2_hasType 2 (some .boolean) dq3 0 0 [.ref ((zB z).size + 46), .int v2] Gq1 Iq1 Lq1 postq3 ∧ ∀ (roq3 : Option Value) (Gq3 : amG) (Iq3 : amI) (Lq3 : amL), postq3 roq3 Gq3 Iq3 Lq3 → ∃ (rq3 : Int32), roq3 = some (.int rq3) ∧ Lay Gq3 ∧ ((rq3 = 0) → post (some (.long (-9223372036854775808 : Int64))) Gq3 Iq3 Lq3) ∧ ((¬ rq3 = 0) → ∃ (dq5 : Nat) (postq5 : amP), Nat.ble (dq5 + 1) 44 = true ∧ Mx (zL z) (zD z) (zB z) yX11_isReduced cX11_isReduced 7 (some .boolean) dq5 0 0 [.ref ((zB z).size + 0), .int v1] Gq3 Iq3 Lq3 postq5 ∧ ∀ (roq5 : Option Value) (Gq5 : amG) (Iq5 : amI) (Lq5 : amL), postq5 roq5 Gq5 Iq5 Lq5 → ∃ (rq5 : Int32), roq5 = some (.int rq5) ∧ Lay Gq5 ∧ ((¬ rq5 = 0) → vp_in v2 136 ∧ vp_in v2 136 ∧ (vp_in (q_cell v1 (Iq5 47 v2.toNatClampNeg) (Iq5 48 v2.toNatClampNeg)) 1024) ∧ post (some (.long (Lq5 36 (q_cell v1 (Iq5 47 v2.toNatClampNeg) (Iq5 48 v2.toNatClampNeg)).toNatClampNeg))) Gq5 Iq5 Lq5) ∧ ((rq5 = 0) → post (some (.long (-9223372036854775808 : Int64))) Gq5 Iq5 Lq5)))) : Wx z 0 0 0 [(0, .ref ((zB z).size + 0)), (1, .int v1), (2, .int v2)] [] G I L := by
  have hz1 := hz.1
  refine am_aload_n hz1 dX11_reduced_0 0 rfl rfl ?_
  refine am_getR hz1 fl_X11_82 (ln_0 hG) (lk_0 hG) (lr_0_9 hG) rfl dX11_reduced_1 ?_
  obtain ⟨dq1, postq1, hdq1, hMq1, h⟩ := h
  refine am_callV hz1 cv_X11_364 [] [] hMq1 (ln_46 hG) (lk_46 hG) rfl rfl (hz.fr hdq1) (hz.lo hdq1) (by rw [hz.2.1]; exact ⟨Nat.le_refl _, Nat.le_refl _⟩) (Nat.le_of_ble_eq_true rfl) dX11_reduced_4 (fun roq1 Gq1 Iq1 Lq1 hpq1 => ?_)
  obtain ⟨rfl, hGq1, h⟩ := h roq1 Gq1 Iq1 Lq1 hpq1
  refine am_iload_n hz1 dX11_reduced_7 1 rfl rfl ?_
  refine am_cSf hz ct_X11_237 [.int v1] [] (c_X11_isFunction hGq1 v1 ) rfl rfl rfl ⟨Nat.le_refl _, Nat.le_refl _⟩ (Nat.le_of_ble_eq_true rfl) dX11_reduced_8 ?_
  refine am_ifb_eq (tgt := 33) hz1 dX11_reduced_11 (by decide) (fun c2 => ?_) (fun c2 => ?_)
  · replace h := h.1 c2
    refine am_ldc2 hz1 kc_X11_281 dX11_reduced_33 ?_
    exact am_lreturn hz dX11_reduced_36 h
  · replace h := h.2 c2
    refine am_aload_n hz1 dX11_reduced_14 0 rfl rfl ?_
    refine am_getR hz1 fl_X11_82 (ln_0 hGq1) (lk_0 hGq1) (lr_0_9 hGq1) rfl dX11_reduced_15 ?_
    refine am_iload_n hz1 dX11_reduced_18 2 rfl rfl ?_
    obtain ⟨dq3, postq3, hdq3, hMq3, h⟩ := h
    refine am_callV hz1 cv_X11_370 [.int v2] [] hMq3 (ln_46 hGq1) (lk_46 hGq1) rfl rfl (hz.fr hdq3) (hz.lo hdq3) (by rw [hz.2.1]; exact ⟨Nat.le_refl _, Nat.le_refl _⟩) (Nat.le_of_ble_eq_true rfl) dX11_reduced_19 (fun roq3 Gq3 Iq3 Lq3 hpq3 => ?_)
    obtain ⟨rq3, rfl, hGq3, h⟩ := h roq3 Gq3 Iq3 Lq3 hpq3
    refine am_if_eq (tgt := 33) hz1 dX11_reduced_22 (by decide) (fun c4 => ?_) (fun c4 => ?_)
    · replace h := h.1 c4
      refine am_ldc2 hz1 kc_X11_281 dX11_reduced_33 ?_
      exact am_lreturn hz dX11_reduced_36 h
    · replace h := h.2 c4
      refine am_aload_n hz1 dX11_reduced_25 0 rfl rfl ?_
      refine am_iload_n hz1 dX11_reduced_26 1 rfl rfl ?_
      obtain ⟨dq5, postq5, hdq5, hMq5, h⟩ := h
      refine am_callV hz1 cv_X11_376 [.int v1] [] hMq5 (ln_0 hGq3) (lk_0 hGq3) rfl rfl (hz.fr hdq5) (hz.lo hdq5) (by rw [hz.2.1]; exact ⟨Nat.le_refl _, Nat.le_refl _⟩) (Nat.le_of_ble_eq_true rfl) dX11_reduced_27 (fun roq5 Gq5 Iq5 Lq5 hpq5 => ?_)
      obtain ⟨rq5, rfl, hGq5, h⟩ := h roq5 Gq5 Iq5 Lq5 hpq5
      refine am_if_ne (tgt := 37) hz1 dX11_reduced_30 (by decide) (fun c6 => ?_) (fun c6 => ?_)
      · replace h := h.1 c6
        refine am_aload_n hz1 dX11_reduced_37 0 rfl rfl ?_
        refine am_getR hz1 fl_X11_53 (ln_0 hGq5) (lk_0 hGq5) (lr_0_5 hGq5) rfl dX11_reduced_38 ?_
        refine am_iload_n hz1 dX11_reduced_41 1 rfl rfl ?_
        refine am_aload_n hz1 dX11_reduced_42 0 rfl rfl ?_
        refine am_getR hz1 fl_X11_82 (ln_0 hGq5) (lk_0 hGq5) (lr_0_9 hGq5) rfl dX11_reduced_43 ?_
        refine am_getR hz1 fl_X11_379 (ln_46 hGq5) (lk_46 hGq5) (lr_46_0 hGq5) rfl dX11_reduced_46 ?_
        refine am_iload_n hz1 dX11_reduced_49 2 rfl rfl ?_
        obtain ⟨g7, h⟩ := h
        refine am_iald hz1 (ln_47 hGq5) (lk_47 hGq5) (by rw [(ll_47 hGq5)]; exact g7) dX11_reduced_50 ?_
        refine am_aload_n hz1 dX11_reduced_51 0 rfl rfl ?_
        refine am_getR hz1 fl_X11_82 (ln_0 hGq5) (lk_0 hGq5) (lr_0_9 hGq5) rfl dX11_reduced_52 ?_
        refine am_getR hz1 fl_X11_382 (ln_46 hGq5) (lk_46 hGq5) (lr_46_1 hGq5) rfl dX11_reduced_55 ?_
        refine am_iload_n hz1 dX11_reduced_58 2 rfl rfl ?_
        obtain ⟨g8, h⟩ := h
        refine am_iald hz1 (ln_48 hGq5) (lk_48 hGq5) (by rw [(ll_48 hGq5)]; exact g8) dX11_reduced_59 ?_
        obtain ⟨g9, h⟩ := h
        refine am_cVf hz cv_X11_246 [.int v1, .int (Iq5 47 v2.toNatClampNeg), .int (Iq5 48 v2.toNatClampNeg)] [] (c_X0_at hGq5 v1 (Iq5 47 v2.toNatClampNeg) (Iq5 48 v2.toNatClampNeg) g9) (ln_35 hGq5) (lk_35 hGq5) rfl rfl rfl ⟨Nat.le_refl _, Nat.le_refl _⟩ (Nat.le_of_ble_eq_true rfl) dX11_reduced_60 ?_
        exact am_lreturn hz dX11_reduced_63 h
      · replace h := h.2 c6
        refine am_ldc2 hz1 kc_X11_281 dX11_reduced_33 ?_
        exact am_lreturn hz dX11_reduced_36 h
set_option maxRecDepth 100000 in
set_option maxHeartbeats 4000000 in
theorem c_X11_reduced {l : Launch} {D : va_G} {B : Heap} {G : amG} {I : amI} {L : amL}  (hG : Lay G)  (v1 : Int32) (v2 : Int32) {s : St} (hs : CO s G I L) (hw : WF s) : Mx l D B yX11_reduced cX11_reduced 3 (some .long) 44 0 0 [.ref (B.size + 0), .int v1, .int v2] G I L (fun r G1 I1 L1 => r = some (.long (aReduced s v1 v2)) ∧ G1 = G ∧ CO s G I1 L1 ∧ frK I L I1 L1) := by
  refine Mx.of (by decide) rfl rfl (fun z e1 e2 e3 hz => ?_)
  subst e1; subst e2; subst e3
  refine b_X11_reduced_0 hz hG ?_
  have hO := hs.2.1.1
  have h16 := hO.2.2.1
  have hP := hO.2.2.2.2.2.1
  have h136 := (tyO_I hP h16).1
  refine ⟨43, _, rfl, c_X2_learn hG hs.2.1.1 hs.2.2.1.1, fun ro G1 I1 L1 ⟨d1, d2, d3, d4, d5⟩ => ⟨d1, by rw [d2]; exact hG, ?_⟩⟩
  rw [d2, d3]
  have hs1 := CO_L hs d4 (Or.inr d5)
  refine ⟨fun h => ⟨by rw [aReduced, if_neg (by rw [h]; simp)], rfl, hs1⟩, fun h => ?_⟩
  refine ⟨0, _, rfl, c_X2_hasType hG _ d5, fun ro G2 I2 L2 ⟨r1, r2, r3, r4, r5⟩ => ⟨_, r1, by rw [r2]; exact hG, fun q => ⟨?_, r2, by rw [r3]; exact CO_LL hs1 r4 r5⟩, fun q => ?_⟩⟩
  · rw [bI_z] at q
    rw [aReduced, if_neg (by rw [q]; simp)]
  rw [r2, r3]
  have hs2 := CO_LL hs1 r4 r5
  obtain ⟨f, hf, rfl⟩ := fnR h
  have ef : (nI f).toNatClampNeg = f := cl_nI (by omega)
  refine ⟨3, _, rfl, c_X11_isReduced hG _ hs2.1 r5 hf rfl, fun ro2 G3 I3 L3 ⟨t1, t2, t3, t4, t5⟩ => ⟨_, t1, by rw [t2]; exact hG, fun q2 => ?_, fun q2 => ⟨?_, t2, t3, frK_t hs2.2 t4⟩⟩⟩
  · rw [bI_nz] at q q2
    obtain ⟨t, ht, rfl⟩ := (el_t (by omega)).mp q
    have hfs := fs_256 hP h16 ht
    have et : (nI t).toNatClampNeg = t := cl_nI (by omega)
    rw [t2, et, LK_fs hP h16 t5 ht f, cl_nI (n := 256 * f + (tyO (rN (sC s)) (rA (sC s))).fs t) (by omega), t3.2.1.2.1 _ (by omega)]
    refine ⟨in_nI (by omega) (by decide), in_nI (by omega) (by decide), in_nI (by omega) (by decide), ?_, rfl, t3, frK_t hs2.2 t4⟩
    rw [aReduced, if_pos (by rw [h, q, ef, q2]; rfl), ef, et]
  · rw [bI_z] at q2
    rw [aReduced, if_neg (by rw [ef, q2]; simp)]
theorem up_all {n x : Nat} {A : Nat → Int32} (hP : PO n A) (h16 : n ≤ 16) (hx : x < n) : allS n &&& upS A x = upS A x := b_ext fun i hi => by
  rw [b_and, up_b]
  cases e : le A x i
  · rw [Bool.and_false]
  · rw [Bool.and_true]
    exact all_bt h16 i (le_n hP hx (by omega) hi e)
theorem OI_la {I : amI} {n : Nat} {A : Nat → Int32} (h : OI I 3 n A) : q_isLat I 3 = laM n A := by
  have h16 := h.2.2.1
  have hP := h.2.2.2.2.2.1
  have eg : ∀ x y, x < n → y < n → (¬ 0 ≤ q_greatest I 3 (q_upTo I 3 (nI x) &&& q_upTo I 3 (nI y)) ↔ greatM n A (dnS n A x &&& dnS n A y) = -2) := fun x y hx hy => by
    rw [h.great, h.upTo hx, h.upTo hy]
    refine neg_2 ?_
    rcases great_or n A (dnS n A x &&& dnS n A y) with e | ⟨w, hw1, _, e⟩
    · exact Or.inl e
    · exact Or.inr ⟨w, by omega, e⟩
  rw [Bool.eq_iff_iff, q_isLat, laM, scan_tf, h.all, h.hasJ, sz_eq h.1 h16]
  have el : ∀ x y, x < n → y < n → jnM n A (allS n) x y = leastM n A (upS A x &&& upS A y) := fun x y hx hy => by rw [jnM, up_all hP h16 hx]
  constructor
  · intro g x hx
    rcases scan_or (p := q_isLat1 I 3) (r := fun _ => false) (d := arM n A (allS n)) n 0 with ⟨g1, g2⟩ | ⟨j, _, _, _, g4, _⟩
    · rw [g1, arM, scan_tf] at g
      have a1 := g x hx
      rw [arM1, scan_ft] at a1
      have a2 := g2 x (Nat.zero_le _) (by omega)
      rw [q_isLat1, scan_ft] at a2
      rw [laM1, scan_ft]
      intro y hy
      have b1 := a1 y hy
      have b2 := a2 y hy
      rw [all_bt h16 x hx, all_bt h16 y (by omega), Bool.true_and, Bool.true_and, el x y hx (by omega)] at b1
      rw [p_isLat, decide_eq_decide.mpr (eg x y hx (by omega))] at b2
      rw [b1, b2]; rfl
    · rw [g4] at g; cases g
  · intro g
    have hl : ∀ x, x < n → q_isLat1 I 3 x = false := fun x hx => by
      rw [q_isLat1, scan_ft]
      intro y hy
      have := g x hx
      rw [laM1, scan_ft] at this
      have := this y hy
      rw [Bool.or_eq_false_iff] at this
      rw [p_isLat, decide_eq_decide.mpr (eg x y hx (by omega))]; exact this.2
    rcases scan_or (p := q_isLat1 I 3) (r := fun _ => false) (d := arM n A (allS n)) n 0 with ⟨g1, g2⟩ | ⟨j, _, hj, hj2, _⟩
    · rw [g1, arM, scan_tf]
      intro x hx
      rw [arM1, scan_ft]
      intro y hy
      have := g x hx
      rw [laM1, scan_ft] at this
      have := this y hy
      rw [Bool.or_eq_false_iff] at this
      rw [el x y hx (by omega), this.1, Bool.and_false, Bool.and_false]
    · rw [hl j (by omega)] at hj2; cases hj2
set_option maxRecDepth 100000 in
set_option maxHeartbeats 4000000 in
theorem b_X11_count_0 {z : amZ} {post : amP} {G : amG} {I : amI} {L : amL} (hz : Go z cX11_count RX11 2 (some .int) 45 0 0 post) (hG : Lay G) {v1 : Int32} (h : (v1 = 0 → post (some (.int (I 3 0))) G I L) ∧ (v1 = 1 → (szOk I 3) ∧ post (some (.int (q_pairs I 3 4))) G I L) ∧ (v1 = 2 → (szOk I 3) ∧ post (some (.int (q_pairs I 3 6))) G I L) ∧ (v1 = 3 → (szOk I 3) ∧ post (some (.int (q_gh I 3))) G I L) ∧ (v1 = 4 → (szOk I 3) ∧ ((q_graded I 3 = false) → post (some (.int 0)) G I L) ∧ ((q_graded I 3 = true) → post (some (.int 1)) G I L)) ∧ (v1 = 5 → (szOk I 3) ∧ ((q_isLat I 3 = false) → post (some (.int 0)) G I L) ∧ ((q_isLat I 3 = true) → post (some (.int 1)) G I L)) ∧ (v1 = 6 → ∃ (dq9 : Nat) (postq9 : amP), Nat.ble (dq9 + 1) 45 = true ∧ Mx (zL z) (zD z) (zB z) yX2_countTypes cX2_countTypes 1 (some .int) dq9 0 0 [.ref ((zB z).size + 46)] G I L postq9 ∧ ∀ (roq9 : Option Value) (Gq9 : amG) (Iq9 : amI) (Lq9 : amL), postq9 roq9 Gq9 Iq9 Lq9 → ∃ (rq9 : Int32), roq9 = some (.int rq9) ∧ Lay Gq9 ∧ post (some (.int rq9)) Gq9 Iq9 Lq9) ∧ (v1 = 7 → (szOk I 3) ∧ post (some (.int ((I 3 0) + (q_pairs I 3 4)))) G I L) ∧ (v1 = 8 → post (some (.int (I 61 2))) G I L) ∧ (v1 = 9 → post (some (.int (I 1 1))) G I L) ∧ (v1 = 10 → post (some (.int (I 0 14))) G I L) ∧ (v1 = 11 → (szOk I 3) ∧ post (some (.int (q_without I 3 5))) G I L) ∧ (v1 = 12 → (szOk I 3) ∧ post (some (.int (q_without I 3 4))) G I L) ∧ (v1 = 13 → ∃ (dq13 : Nat) (postq13 : amP), Nat.ble (dq13 + 1) 45 = true ∧ Mx (zL z) (zD z) (zB z) yX11_reducedFunctions cX11_reducedFunctions 3 (some .int) dq13 0 0 [.ref ((zB z).size + 0)] G I L postq13 ∧ ∀ (roq13 : Option Value) (Gq13 : amG) (Iq13 : amI) (Lq13 : amL), postq13 roq13 Gq13 Iq13 Lq13 → ∃ (rq13 : Int32), roq13 = some (.int rq13) ∧ Lay Gq13 ∧ post (some (.int rq13)) Gq13 Iq13 Lq13) ∧ (v1 = 14 → ∃ (dq14 : Nat) (postq14 : amP), Nat.ble (dq14 + 1) 45 = true ∧ Mx (zL z) (zD z) (zB z) yX7_widest cX7_widest 1 (some .int) dq14 0 0 [.ref ((zB z).size + 56)] G I L postq14 ∧ ∀ (roq14 : Option Value) (Gq14 : amG) (Iq14 : amI) (Lq14 : amL), postq14 roq14 Gq14 Iq14 Lq14 → ∃ (rq14 : Int32), roq14 = some (.int rq14) ∧ Lay Gq14 ∧ post (some (.int rq14)) Gq14 Iq14 Lq14) ∧ ((v1 < 0 ∨ 14 < v1) → post (some (.int (-1))) G I L)) : Wx z 0 0 0 [(0, .ref ((zB z).size + 0)), (1, .int v1)] [] G I L := by
  have hz1 := hz.1
  refine am_iload_n hz1 dX11_count_0 1 rfl rfl ?_
  by_cases c1_0 : v1 = 0
  · replace h := h.1 c1_0
    refine am_tabI (off := 75) (tgt := 76) hz1 0 dX11_count_1 c1_0 (by decide) (by decide) rfl (by decide) ?_
    refine am_aload_n hz1 dX11_count_76 0 rfl rfl ?_
    refine am_getR hz1 fl_X11_21 (ln_0 hG) (lk_0 hG) (lr_0_2 hG) rfl dX11_count_77 ?_
    refine am_getI hz1 fl_X11_129 (ln_3 hG) (lk_3 hG) rfl dX11_count_80 ?_
    exact am_ireturn hz dX11_count_83 h
  by_cases c1_1 : v1 = 1
  · replace h := h.2.1 c1_1
    refine am_tabI (off := 83) (tgt := 84) hz1 1 dX11_count_1 c1_1 (by decide) (by decide) rfl (by decide) ?_
    refine am_aload_n hz1 dX11_count_84 0 rfl rfl ?_
    refine am_getR hz1 fl_X11_21 (ln_0 hG) (lk_0 hG) (lr_0_2 hG) rfl dX11_count_85 ?_
    refine am_aload_n hz1 dX11_count_88 0 rfl rfl ?_
    refine am_getR hz1 fl_X11_21 (ln_0 hG) (lk_0 hG) (lr_0_2 hG) rfl dX11_count_89 ?_
    refine am_getR hz1 fl_X11_130 (ln_3 hG) (lk_3 hG) (lr_3_1 hG) rfl dX11_count_92 ?_
    obtain ⟨g2, h⟩ := h
    refine am_cVf hz cv_X11_145 [.ref ((zB z).size + 4)] [] (c_X4_pairs hG isO_3 (ln_4 hG) (lk_4 hG) (ll_4 hG)  g2) (ln_3 hG) (lk_3 hG) rfl rfl rfl ⟨Nat.le_refl _, Nat.le_refl _⟩ (Nat.le_of_ble_eq_true rfl) dX11_count_95 ?_
    exact am_ireturn hz dX11_count_98 h
  by_cases c1_2 : v1 = 2
  · replace h := h.2.2.1 c1_2
    refine am_tabI (off := 98) (tgt := 99) hz1 2 dX11_count_1 c1_2 (by decide) (by decide) rfl (by decide) ?_
    refine am_aload_n hz1 dX11_count_99 0 rfl rfl ?_
    refine am_getR hz1 fl_X11_21 (ln_0 hG) (lk_0 hG) (lr_0_2 hG) rfl dX11_count_100 ?_
    refine am_aload_n hz1 dX11_count_103 0 rfl rfl ?_
    refine am_getR hz1 fl_X11_21 (ln_0 hG) (lk_0 hG) (lr_0_2 hG) rfl dX11_count_104 ?_
    refine am_getR hz1 fl_X11_142 (ln_3 hG) (lk_3 hG) (lr_3_3 hG) rfl dX11_count_107 ?_
    obtain ⟨g3, h⟩ := h
    refine am_cVf hz cv_X11_145 [.ref ((zB z).size + 6)] [] (c_X4_pairs hG isO_3 (ln_6 hG) (lk_6 hG) (ll_6 hG)  g3) (ln_3 hG) (lk_3 hG) rfl rfl rfl ⟨Nat.le_refl _, Nat.le_refl _⟩ (Nat.le_of_ble_eq_true rfl) dX11_count_110 ?_
    exact am_ireturn hz dX11_count_113 h
  by_cases c1_3 : v1 = 3
  · replace h := h.2.2.2.1 c1_3
    refine am_tabI (off := 113) (tgt := 114) hz1 3 dX11_count_1 c1_3 (by decide) (by decide) rfl (by decide) ?_
    refine am_aload_n hz1 dX11_count_114 0 rfl rfl ?_
    refine am_getR hz1 fl_X11_21 (ln_0 hG) (lk_0 hG) (lr_0_2 hG) rfl dX11_count_115 ?_
    obtain ⟨g4, h⟩ := h
    refine am_cVf hz cv_X11_302 [] [] (c_X4_greatestHeight hG isO_3  g4) (ln_3 hG) (lk_3 hG) rfl rfl rfl ⟨Nat.le_refl _, Nat.le_refl _⟩ (Nat.le_of_ble_eq_true rfl) dX11_count_118 ?_
    exact am_ireturn hz dX11_count_121 h
  by_cases c1_4 : v1 = 4
  · replace h := h.2.2.2.2.1 c1_4
    refine am_tabI (off := 121) (tgt := 122) hz1 4 dX11_count_1 c1_4 (by decide) (by decide) rfl (by decide) ?_
    refine am_aload_n hz1 dX11_count_122 0 rfl rfl ?_
    refine am_getR hz1 fl_X11_21 (ln_0 hG) (lk_0 hG) (lr_0_2 hG) rfl dX11_count_123 ?_
    obtain ⟨g5, h⟩ := h
    refine am_cVf hz cv_X11_305 [] [] (c_X4_isGraded hG isO_3  g5) (ln_3 hG) (lk_3 hG) rfl rfl rfl ⟨Nat.le_refl _, Nat.le_refl _⟩ (Nat.le_of_ble_eq_true rfl) dX11_count_126 ?_
    refine am_ifb_eq (tgt := 136) hz1 dX11_count_129 (by decide) (fun c6 => ?_) (fun c6 => ?_)
    · replace h := h.1 c6
      refine am_iconst (v := 0) hz1 dX11_count_136 (by decide) ?_
      exact am_ireturn hz dX11_count_137 h
    · replace h := h.2 c6
      refine am_iconst (v := 1) hz1 dX11_count_132 (by decide) ?_
      refine am_goto (tgt := 137) hz1 dX11_count_133 (by decide) ?_
      exact am_ireturn hz dX11_count_137 h
  by_cases c1_5 : v1 = 5
  · replace h := h.2.2.2.2.2.1 c1_5
    refine am_tabI (off := 137) (tgt := 138) hz1 5 dX11_count_1 c1_5 (by decide) (by decide) rfl (by decide) ?_
    refine am_aload_n hz1 dX11_count_138 0 rfl rfl ?_
    refine am_getR hz1 fl_X11_21 (ln_0 hG) (lk_0 hG) (lr_0_2 hG) rfl dX11_count_139 ?_
    obtain ⟨g7, h⟩ := h
    refine am_cVf hz cv_X11_309 [] [] (c_X4_isLattice hG isO_3  g7) (ln_3 hG) (lk_3 hG) rfl rfl rfl ⟨Nat.le_refl _, Nat.le_refl _⟩ (Nat.le_of_ble_eq_true rfl) dX11_count_142 ?_
    refine am_ifb_eq (tgt := 152) hz1 dX11_count_145 (by decide) (fun c8 => ?_) (fun c8 => ?_)
    · replace h := h.1 c8
      refine am_iconst (v := 0) hz1 dX11_count_152 (by decide) ?_
      exact am_ireturn hz dX11_count_153 h
    · replace h := h.2 c8
      refine am_iconst (v := 1) hz1 dX11_count_148 (by decide) ?_
      refine am_goto (tgt := 153) hz1 dX11_count_149 (by decide) ?_
      exact am_ireturn hz dX11_count_153 h
  by_cases c1_6 : v1 = 6
  · replace h := h.2.2.2.2.2.2.1 c1_6
    refine am_tabI (off := 153) (tgt := 154) hz1 6 dX11_count_1 c1_6 (by decide) (by decide) rfl (by decide) ?_
    refine am_aload_n hz1 dX11_count_154 0 rfl rfl ?_
    refine am_getR hz1 fl_X11_82 (ln_0 hG) (lk_0 hG) (lr_0_9 hG) rfl dX11_count_155 ?_
    obtain ⟨dq9, postq9, hdq9, hMq9, h⟩ := h
    refine am_callV hz1 cv_X11_312 [] [] hMq9 (ln_46 hG) (lk_46 hG) rfl rfl (hz.fr hdq9) (hz.lo hdq9) (by rw [hz.2.1]; exact ⟨Nat.le_refl _, Nat.le_refl _⟩) (Nat.le_of_ble_eq_true rfl) dX11_count_158 (fun roq9 Gq9 Iq9 Lq9 hpq9 => ?_)
    obtain ⟨rq9, rfl, hGq9, h⟩ := h roq9 Gq9 Iq9 Lq9 hpq9
    exact am_ireturn hz dX11_count_161 h
  by_cases c1_7 : v1 = 7
  · replace h := h.2.2.2.2.2.2.2.1 c1_7
    refine am_tabI (off := 161) (tgt := 162) hz1 7 dX11_count_1 c1_7 (by decide) (by decide) rfl (by decide) ?_
    refine am_aload_n hz1 dX11_count_162 0 rfl rfl ?_
    refine am_getR hz1 fl_X11_21 (ln_0 hG) (lk_0 hG) (lr_0_2 hG) rfl dX11_count_163 ?_
    refine am_getI hz1 fl_X11_129 (ln_3 hG) (lk_3 hG) rfl dX11_count_166 ?_
    refine am_aload_n hz1 dX11_count_169 0 rfl rfl ?_
    refine am_getR hz1 fl_X11_21 (ln_0 hG) (lk_0 hG) (lr_0_2 hG) rfl dX11_count_170 ?_
    refine am_aload_n hz1 dX11_count_173 0 rfl rfl ?_
    refine am_getR hz1 fl_X11_21 (ln_0 hG) (lk_0 hG) (lr_0_2 hG) rfl dX11_count_174 ?_
    refine am_getR hz1 fl_X11_130 (ln_3 hG) (lk_3 hG) (lr_3_1 hG) rfl dX11_count_177 ?_
    obtain ⟨g10, h⟩ := h
    refine am_cVf hz cv_X11_145 [.ref ((zB z).size + 4)] [.int (I 3 0)] (c_X4_pairs hG isO_3 (ln_4 hG) (lk_4 hG) (ll_4 hG)  g10) (ln_3 hG) (lk_3 hG) rfl rfl rfl ⟨Nat.le_refl _, Nat.le_refl _⟩ (Nat.le_of_ble_eq_true rfl) dX11_count_180 ?_
    refine am_iadd hz1 dX11_count_183 ?_
    exact am_ireturn hz dX11_count_184 h
  by_cases c1_8 : v1 = 8
  · replace h := h.2.2.2.2.2.2.2.2.1 c1_8
    refine am_tabI (off := 184) (tgt := 185) hz1 8 dX11_count_1 c1_8 (by decide) (by decide) rfl (by decide) ?_
    refine am_aload_n hz1 dX11_count_185 0 rfl rfl ?_
    refine am_getR hz1 fl_X11_96 (ln_0 hG) (lk_0 hG) (lr_0_11 hG) rfl dX11_count_186 ?_
    refine am_getI hz1 fl_X11_236 (ln_61 hG) (lk_61 hG) rfl dX11_count_189 ?_
    exact am_ireturn hz dX11_count_192 h
  by_cases c1_9 : v1 = 9
  · replace h := h.2.2.2.2.2.2.2.2.2.1 c1_9
    refine am_tabI (off := 192) (tgt := 193) hz1 9 dX11_count_1 c1_9 (by decide) (by decide) rfl (by decide) ?_
    refine am_aload_n hz1 dX11_count_193 0 rfl rfl ?_
    refine am_getR hz1 fl_X11_14 (ln_0 hG) (lk_0 hG) (lr_0_0 hG) rfl dX11_count_194 ?_
    refine am_getI hz1 fl_X11_103 (ln_1 hG) (lk_1 hG) rfl dX11_count_197 ?_
    exact am_ireturn hz dX11_count_200 h
  by_cases c1_10 : v1 = 10
  · replace h := h.2.2.2.2.2.2.2.2.2.2.1 c1_10
    refine am_tabI (off := 200) (tgt := 201) hz1 10 dX11_count_1 c1_10 (by decide) (by decide) rfl (by decide) ?_
    refine am_aload_n hz1 dX11_count_201 0 rfl rfl ?_
    refine am_getI hz1 fl_X11_179 (ln_0 hG) (lk_0 hG) rfl dX11_count_202 ?_
    exact am_ireturn hz dX11_count_205 h
  by_cases c1_11 : v1 = 11
  · replace h := h.2.2.2.2.2.2.2.2.2.2.2.1 c1_11
    refine am_tabI (off := 205) (tgt := 206) hz1 11 dX11_count_1 c1_11 (by decide) (by decide) rfl (by decide) ?_
    refine am_aload_n hz1 dX11_count_206 0 rfl rfl ?_
    refine am_getR hz1 fl_X11_21 (ln_0 hG) (lk_0 hG) (lr_0_2 hG) rfl dX11_count_207 ?_
    refine am_aload_n hz1 dX11_count_210 0 rfl rfl ?_
    refine am_getR hz1 fl_X11_21 (ln_0 hG) (lk_0 hG) (lr_0_2 hG) rfl dX11_count_211 ?_
    refine am_getR hz1 fl_X11_315 (ln_3 hG) (lk_3 hG) (lr_3_2 hG) rfl dX11_count_214 ?_
    obtain ⟨g11, h⟩ := h
    refine am_cVf hz cv_X11_318 [.ref ((zB z).size + 5)] [] (c_X4_without hG isO_3 (ln_5 hG) (lk_5 hG) (ll_5 hG)  g11) (ln_3 hG) (lk_3 hG) rfl rfl rfl ⟨Nat.le_refl _, Nat.le_refl _⟩ (Nat.le_of_ble_eq_true rfl) dX11_count_217 ?_
    exact am_ireturn hz dX11_count_220 h
  by_cases c1_12 : v1 = 12
  · replace h := h.2.2.2.2.2.2.2.2.2.2.2.2.1 c1_12
    refine am_tabI (off := 220) (tgt := 221) hz1 12 dX11_count_1 c1_12 (by decide) (by decide) rfl (by decide) ?_
    refine am_aload_n hz1 dX11_count_221 0 rfl rfl ?_
    refine am_getR hz1 fl_X11_21 (ln_0 hG) (lk_0 hG) (lr_0_2 hG) rfl dX11_count_222 ?_
    refine am_aload_n hz1 dX11_count_225 0 rfl rfl ?_
    refine am_getR hz1 fl_X11_21 (ln_0 hG) (lk_0 hG) (lr_0_2 hG) rfl dX11_count_226 ?_
    refine am_getR hz1 fl_X11_130 (ln_3 hG) (lk_3 hG) (lr_3_1 hG) rfl dX11_count_229 ?_
    obtain ⟨g12, h⟩ := h
    refine am_cVf hz cv_X11_318 [.ref ((zB z).size + 4)] [] (c_X4_without hG isO_3 (ln_4 hG) (lk_4 hG) (ll_4 hG)  g12) (ln_3 hG) (lk_3 hG) rfl rfl rfl ⟨Nat.le_refl _, Nat.le_refl _⟩ (Nat.le_of_ble_eq_true rfl) dX11_count_232 ?_
    exact am_ireturn hz dX11_count_235 h
  by_cases c1_13 : v1 = 13
  · replace h := h.2.2.2.2.2.2.2.2.2.2.2.2.2.1 c1_13
    refine am_tabI (off := 235) (tgt := 236) hz1 13 dX11_count_1 c1_13 (by decide) (by decide) rfl (by decide) ?_
    refine am_aload_n hz1 dX11_count_236 0 rfl rfl ?_
    obtain ⟨dq13, postq13, hdq13, hMq13, h⟩ := h
    refine am_callV hz1 cv_X11_321 [] [] hMq13 (ln_0 hG) (lk_0 hG) rfl rfl (hz.fr hdq13) (hz.lo hdq13) (by rw [hz.2.1]; exact ⟨Nat.le_refl _, Nat.le_refl _⟩) (Nat.le_of_ble_eq_true rfl) dX11_count_237 (fun roq13 Gq13 Iq13 Lq13 hpq13 => ?_)
    obtain ⟨rq13, rfl, hGq13, h⟩ := h roq13 Gq13 Iq13 Lq13 hpq13
    exact am_ireturn hz dX11_count_240 h
  by_cases c1_14 : v1 = 14
  · replace h := h.2.2.2.2.2.2.2.2.2.2.2.2.2.2.1 c1_14
    refine am_tabI (off := 240) (tgt := 241) hz1 14 dX11_count_1 c1_14 (by decide) (by decide) rfl (by decide) ?_
    refine am_aload_n hz1 dX11_count_241 0 rfl rfl ?_
    refine am_getR hz1 fl_X11_89 (ln_0 hG) (lk_0 hG) (lr_0_10 hG) rfl dX11_count_242 ?_
    obtain ⟨dq14, postq14, hdq14, hMq14, h⟩ := h
    refine am_callV hz1 cv_X11_324 [] [] hMq14 (ln_56 hG) (lk_56 hG) rfl rfl (hz.fr hdq14) (hz.lo hdq14) (by rw [hz.2.1]; exact ⟨Nat.le_refl _, Nat.le_refl _⟩) (Nat.le_of_ble_eq_true rfl) dX11_count_245 (fun roq14 Gq14 Iq14 Lq14 hpq14 => ?_)
    obtain ⟨rq14, rfl, hGq14, h⟩ := h roq14 Gq14 Iq14 Lq14 hpq14
    exact am_ireturn hz dX11_count_248 h
  have c1 : v1 < 0 ∨ 14 < v1 := tabx_15_0 c1_0 c1_1 c1_2 c1_3 c1_4 c1_5 c1_6 c1_7 c1_8 c1_9 c1_10 c1_11 c1_12 c1_13 c1_14
  replace h := h.2.2.2.2.2.2.2.2.2.2.2.2.2.2.2 c1
  refine am_tabO (tgt := 249) hz1 dX11_count_1 (c1.elim (fun e => Or.inl (tab_lt 0 rfl e)) (fun e => Or.inr (tab_gt 14 rfl e))) (by decide) ?_
  refine am_iconst (v := (-1)) hz1 dX11_count_249 (by decide) ?_
  exact am_ireturn hz dX11_count_250 h
set_option maxRecDepth 100000 in
set_option maxHeartbeats 4000000 in
theorem c_X11_count {l : Launch} {D : va_G} {B : Heap} {G : amG} {I : amI} {L : amL}  (hG : Lay G)  (v1 : Int32) {s : St} (hs : CO s G I L) (hw : WF s) : Mx l D B yX11_count cX11_count 2 (some .int) 45 0 0 [.ref (B.size + 0), .int v1] G I L (fun r G1 I1 L1 => r = some (.int (aCount s v1)) ∧ G1 = G ∧ CO s G I1 L1 ∧ frK I L I1 L1) := by
  refine Mx.of (by decide) rfl rfl (fun z e1 e2 e3 hz => ?_)
  subst e1; subst e2; subst e3
  refine b_X11_count_0 hz hG ?_
  have hO := hs.2.1.1
  have h16 := hO.2.2.1
  have hP := hO.2.2.2.2.2.1
  have hpb : q_pairs I 3 4 = pbM (rN (sC s)) (rA (sC s)) := by
    rw [q_pairs, sz_eq hO.1 h16, pbM]
    refine sumI_c (fun x hx => ?_)
    rw [show I 4 x = rA (sC s) x from hO.2.2.2.1 x hx, mk_self (s := rA (sC s) x) h16 (hP.1 x hx), bc_mk h16, ← mk_self (s := rA (sC s) x) h16 (hP.1 x hx)]
  have hcv : q_pairs I 3 6 = cvM (rN (sC s)) (rA (sC s)) := by
    rw [q_pairs, sz_eq hO.1 h16, cvM]
    refine sumI_c (fun x hx => ?_)
    rw [show I 6 x = mkset (cv (rN (sC s)) (rA (sC s)) x) (rN (sC s)) from hO.2.2.2.2.2.2.2.1 x hx, bc_mk h16]
  rw [hpb, hcv, OI_gh hO, OI_gr hO, OI_la hO]
  refine ⟨fun q => ?_, fun q => ?_, fun q => ?_, fun q => ?_, fun q => ?_, fun q => ?_, fun q => ?_, fun q => ?_, fun q => ?_, fun q => ?_, fun q => ?_, fun q => ?_, fun q => ?_, fun q => ?_, fun q => ?_, fun q => ⟨?_, rfl, hs, frK_r⟩⟩
  · subst q; exact ⟨by rw [hO.1]; rfl, rfl, hs, frK_r⟩
  · subst q; exact ⟨hO.sz, rfl, rfl, hs, frK_r⟩
  · subst q; exact ⟨hO.sz, rfl, rfl, hs, frK_r⟩
  · subst q; exact ⟨hO.sz, rfl, rfl, hs, frK_r⟩
  · subst q
    refine ⟨hO.sz, fun g => ⟨?_, rfl, hs, frK_r⟩, fun g => ⟨?_, rfl, hs, frK_r⟩⟩
    · show _ = some (Value.int (bI (grM (rN (sC s)) (rA (sC s)))))
      rw [g]; rfl
    · show _ = some (Value.int (bI (grM (rN (sC s)) (rA (sC s)))))
      rw [g]; rfl
  · subst q
    refine ⟨hO.sz, fun g => ⟨?_, rfl, hs, frK_r⟩, fun g => ⟨?_, rfl, hs, frK_r⟩⟩
    · show _ = some (Value.int (bI (laM (rN (sC s)) (rA (sC s)))))
      rw [g]; rfl
    · show _ = some (Value.int (bI (laM (rN (sC s)) (rA (sC s)))))
      rw [g]; rfl
  · subst q
    exact ⟨44, _, rfl, c_X2_countTypes hG hO hs.2.2.1.1, fun ro G2 I2 L2 ⟨r1, r2, r3, r4, r5⟩ => ⟨_, r1, by rw [r2]; exact hG, rfl, r2, by rw [r3]; exact CO_L hs r4 (Or.inr r5)⟩⟩
  · subst q; exact ⟨hO.sz, by rw [hO.1, Int32.add_comm]; rfl, rfl, hs, frK_r⟩
  · subst q
    obtain ⟨nx, _, _, e, _⟩ := hs.2.2.2.1
    exact ⟨by rw [e]; rfl, rfl, hs, frK_r⟩
  · subst q; exact ⟨by rw [hs.2.1.2.2.2.2.2.2.2.2.1]; rfl, rfl, hs, frK_r⟩
  · subst q
    refine ⟨?_, rfl, hs, frK_r⟩
    have e : I 0 14 = mkset (fun j => decide (¬ (if j = 0 then (s0 s).1 else (s1 s).1) = 0)) 2 := b_ext fun i hi => by
      rw [b_mk _ 2 (by decide) i hi]
      by_cases h2 : i < 2
      · rw [decide_eq_true h2, Bool.true_and]
        rcases Nat.lt_or_ge i 1 with h1 | h1
        · obtain rfl : i = 0 := by omega
          rw [if_pos rfl]
          rcases hs.2.1.2.2.2.2.2.1 with ⟨a, b⟩ | ⟨a, b⟩
          · rw [b, decide_eq_false (not_not_intro a)]
          · rw [b, decide_eq_true (by have := a.2.1; omega)]
        · obtain rfl : i = 1 := by omega
          rw [if_neg (by decide)]
          rcases hs.2.1.2.2.2.2.2.2.1 with ⟨a, b⟩ | ⟨a, b⟩
          · rw [b, decide_eq_false (not_not_intro a)]
          · rw [b, decide_eq_true (by have := a.2.1; omega)]
      · rw [decide_eq_false h2, Bool.false_and]
        exact hs.2.1.2.2.2.2.2.2.2.1 i (by omega) hi
    rw [e]; rfl
  · subst q
    refine ⟨hO.sz, ?_, rfl, hs, frK_r⟩
    rw [q_without, sz_eq hO.1 h16, mkset_cong (g := fun a => decide (bn (rN (sC s)) (rA (sC s)) a = 0)) (fun a ha => by rw [show I 5 a = bn (rN (sC s)) (rA (sC s)) a from hO.2.2.2.2.2.2.1 a ha])]
    rfl
  · subst q
    refine ⟨hO.sz, ?_, rfl, hs, frK_r⟩
    rw [q_without, sz_eq hO.1 h16, mkset_cong (g := fun a => decide (rA (sC s) a = 0)) (fun a ha => by rw [show I 4 a = rA (sC s) a from hO.2.2.2.1 a ha])]
    rfl
  · subst q
    exact ⟨44, _, rfl, c_X11_reducedFunctions hG hs, fun ro G2 I2 L2 ⟨r1, r2, r3, r4⟩ => ⟨_, r1, by rw [r2]; exact hG, rfl, r2, r3, r4⟩⟩
  · subst q
    exact ⟨41, _, rfl, c_X7_widest hG hO, fun ro G2 I2 L2 ⟨r1, r2, r3, r4⟩ => ⟨_, r1, by rw [r2]; exact hG, rfl, r2, by rw [r3, r4]; exact ⟨hs, frK_r⟩⟩⟩
  · have e : ∀ k : Int32, (k < 0 ∨ 14 < k → False) → v1 ≠ k := fun k hk h => hk (h ▸ q)
    rw [aCount, if_neg (e 0 (by decide)), if_neg (e 1 (by decide)), if_neg (e 2 (by decide)), if_neg (e 3 (by decide)), if_neg (e 4 (by decide)), if_neg (e 5 (by decide)), if_neg (e 6 (by decide)), if_neg (e 7 (by decide)), if_neg (e 8 (by decide)), if_neg (e 9 (by decide)), if_neg (e 10 (by decide)), if_neg (e 11 (by decide)), if_neg (e 12 (by decide)), if_neg (e 13 (by decide)), if_neg (e 14 (by decide))]
