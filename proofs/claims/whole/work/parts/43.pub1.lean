/-! THE REFERENCE: what is asked, by what it stands for -/
def aVal (s : St) (f a b : Int32) : Int64 := if (inR 3 f && ivB (rN (sC s)) (rA (sC s)) a b) = true then rF (sC s) (256 * f.toNatClampNeg + 16 * a.toNatClampNeg + b.toNatClampNeg) else -9223372036854775808
theorem fnR {f : Int32} (h : inR 3 f = true) : ∃ k, k < 4 ∧ f = nI k := by
  obtain ⟨x, hx, e⟩ := (inR_t (by decide)).mp h
  exact ⟨x, by omega, e⟩
theorem isIn3 (f : Int32) : m_isIn f.toInt64 0 3 = inR 3 f := isIn_R (by decide) (by decide)
theorem m_at_n (f a b : Nat) : m_at (nI f) (nI a) (nI b) = nI (17 + (256 * f + 16 * a + b)) := by
  rw [m_at, show (16 : Int32) = nI 16 from rfl, show (17 : Int32) = nI 17 from rfl, show (256 : Int32) = nI 256 from rfl, nI_mul, nI_mul, nI_add, nI_add, nI_add]
  congr 1
  omega
set_option maxRecDepth 100000 in
set_option maxHeartbeats 4000000 in
theorem b_X12_value_0 {z : amZ} {post : amP} {G : amG} {I : amI} {L : amL} (hz : Go z cX12_value RX12 4 (some .long) 3 0 0 post) (hG : Lay G) {v1 : Int32} {v2 : Int32} {v3 : Int32} (h : ((m_isIn v1.toInt64 0 3 = false) → post (some (.long (-9223372036854775808 : Int64))) G I L) ∧ ((m_isIn v1.toInt64 0 3 = true) → (mOk L) ∧ ((m_isiv L v2 v3 = false) → post (some (.long (-9223372036854775808 : Int64))) G I L) ∧ ((m_isiv L v2 v3 = true) → vp_in (m_at v1 v2 v3) 1074 ∧ post (some (.long (L 65 (m_at v1 v2 v3).toNatClampNeg))) G I L))) : Wx z 0 0 0 [(0, .ref ((zB z).size + 64)), (1, .int v1), (2, .int v2), (3, .int v3)] [] G I L := by
  have hz1 := hz.1
  refine am_iload_n hz1 dX12_value_0 1 rfl rfl ?_
  refine am_cSf hz ct_X12_290 [.int v1] [] (c_X12_isFunction hG v1 ) rfl rfl rfl ⟨Nat.le_refl _, Nat.le_refl _⟩ (Nat.le_of_ble_eq_true rfl) dX12_value_1 ?_
  refine am_ifb_eq (tgt := 30) hz1 dX12_value_4 (by decide) (fun c1 => ?_) (fun c1 => ?_)
  · replace h := h.1 c1
    refine am_ldc2 hz1 kc_X12_269 dX12_value_30 ?_
    exact am_lreturn hz dX12_value_33 h
  · replace h := h.2 c1
    refine am_aload_n hz1 dX12_value_7 0 rfl rfl ?_
    refine am_iload_n hz1 dX12_value_8 2 rfl rfl ?_
    refine am_iload_n hz1 dX12_value_9 3 rfl rfl ?_
    obtain ⟨g2, h⟩ := h
    refine am_cVf hz cv_X12_247 [.int v2, .int v3] [] (c_X12_isInterval hG v2 v3 g2) (ln_64 hG) (lk_64 hG) rfl rfl rfl ⟨Nat.le_refl _, Nat.le_refl _⟩ (Nat.le_of_ble_eq_true rfl) dX12_value_10 ?_
    refine am_ifb_eq (tgt := 30) hz1 dX12_value_13 (by decide) (fun c3 => ?_) (fun c3 => ?_)
    · replace h := h.1 c3
      refine am_ldc2 hz1 kc_X12_269 dX12_value_30 ?_
      exact am_lreturn hz dX12_value_33 h
    · replace h := h.2 c3
      refine am_aload_n hz1 dX12_value_16 0 rfl rfl ?_
      refine am_getR hz1 fl_X12_9 (ln_64 hG) (lk_64 hG) (lr_64_0 hG) rfl dX12_value_17 ?_
      refine am_iload_n hz1 dX12_value_20 1 rfl rfl ?_
      refine am_iload_n hz1 dX12_value_21 2 rfl rfl ?_
      refine am_iload_n hz1 dX12_value_22 3 rfl rfl ?_
      refine am_cSf hz ct_X12_301 [.int v1, .int v2, .int v3] [.ref ((zB z).size + 65)] (c_X12_at hG v1 v2 v3 ) rfl rfl rfl ⟨Nat.le_refl _, Nat.le_refl _⟩ (Nat.le_of_ble_eq_true rfl) dX12_value_23 ?_
      obtain ⟨g4, h⟩ := h
      refine am_lald hz1 (ln_65 hG) (lk_65 hG) (by rw [(ll_65 hG)]; exact g4) dX12_value_26 ?_
      refine am_goto (tgt := 33) hz1 dX12_value_27 (by decide) ?_
      exact am_lreturn hz dX12_value_33 h
set_option maxRecDepth 100000 in
set_option maxHeartbeats 4000000 in
theorem c_X12_value {l : Launch} {D : va_G} {B : Heap} {G : amG} {I : amI} {L : amL}  (hG : Lay G)  (v1 : Int32) (v2 : Int32) (v3 : Int32) {s : St} (hs : RI s I L) (hw : WF s) : Mx l D B yX12_value cX12_value 4 (some .long) 3 0 0 [.ref (B.size + 64), .int v1, .int v2, .int v3] G I L (fun r G1 I1 L1 => r = some (.long (aVal s v1 v2 v3)) ∧ G1 = G ∧ RI s I1 L1 ∧ frM I L I1 L1) := by
  refine Mx.of (by decide) rfl rfl (fun z e1 e2 e3 hz => ?_)
  subst e1; subst e2; subst e3
  refine b_X12_value_0 hz hG ?_
  have hM := hs.1.mo
  have h16 := hM.2.1
  rw [isIn3, hM.isiv]
  refine ⟨fun h => ⟨?_, rfl, hs, frM_r⟩, fun h => ⟨⟨_, _, hM⟩, fun h2 => ⟨?_, rfl, hs, frM_r⟩, fun h2 => ?_⟩⟩
  · rw [aVal, if_neg (by rw [h]; simp)]
  · rw [aVal, if_neg (by rw [h2]; simp)]
  · obtain ⟨f, hf, rfl⟩ := fnR h
    obtain ⟨x, y, hx, hy, rfl, rfl, hl⟩ := (iv_t h16).mp h2
    rw [m_at_n, cl_nI (by omega)]
    refine ⟨in_nI (by omega) (by decide), ?_, rfl, hs, frM_r⟩
    rw [aVal, if_pos (by rw [h, h2]; rfl), hs.1.2.1 _ (by omega), cl_nI (by omega), cl_nI (by omega), cl_nI (by omega)]
def sameM (F : Nat → Int64) (f g : Nat) : Bool := scan (fun k => decide (¬ F (256 * f + k) = F (256 * g + k))) (fun _ => false) true 256 0
def aSame (s : St) (f g : Int32) : Int32 := if (inR 3 f && inR 3 g) = true then (if sameM (rF (sC s)) f.toNatClampNeg g.toNatClampNeg = true then 1 else 0) else -1
set_option maxRecDepth 100000 in
set_option maxHeartbeats 4000000 in
theorem b_X12_same_0 {z : amZ} {post : amP} {G : amG} {I : amI} {L : amL} (hz : Go z cX12_same RX12 3 (some .int) 2 0 0 post) (hG : Lay G) {v1 : Int32} {v2 : Int32} (h : ((m_isIn v1.toInt64 0 3 = false) → post (some (.int (-1))) G I L) ∧ ((m_isIn v1.toInt64 0 3 = true) → ((m_isIn v2.toInt64 0 3 = true) → (fnOk v1) ∧ (fnOk v2) ∧ ((m_same L v1 v2 = false) → post (some (.int 0)) G I L) ∧ ((m_same L v1 v2 = true) → post (some (.int 1)) G I L)) ∧ ((m_isIn v2.toInt64 0 3 = false) → post (some (.int (-1))) G I L))) : Wx z 0 0 0 [(0, .ref ((zB z).size + 64)), (1, .int v1), (2, .int v2)] [] G I L := by
  have hz1 := hz.1
  refine am_iload_n hz1 dX12_same_0 1 rfl rfl ?_
  refine am_cSf hz ct_X12_290 [.int v1] [] (c_X12_isFunction hG v1 ) rfl rfl rfl ⟨Nat.le_refl _, Nat.le_refl _⟩ (Nat.le_of_ble_eq_true rfl) dX12_same_1 ?_
  refine am_ifb_eq (tgt := 14) hz1 dX12_same_4 (by decide) (fun c1 => ?_) (fun c1 => ?_)
  · replace h := h.1 c1
    refine am_iconst (v := (-1)) hz1 dX12_same_14 (by decide) ?_
    refine am_goto (tgt := 32) hz1 dX12_same_15 (by decide) ?_
    exact am_ireturn hz dX12_same_32 h
  · replace h := h.2 c1
    refine am_iload_n hz1 dX12_same_7 2 rfl rfl ?_
    refine am_cSf hz ct_X12_290 [.int v2] [] (c_X12_isFunction hG v2 ) rfl rfl rfl ⟨Nat.le_refl _, Nat.le_refl _⟩ (Nat.le_of_ble_eq_true rfl) dX12_same_8 ?_
    refine am_ifb_ne (tgt := 18) hz1 dX12_same_11 (by decide) (fun c2 => ?_) (fun c2 => ?_)
    · replace h := h.1 c2
      refine am_aload_n hz1 dX12_same_18 0 rfl rfl ?_
      refine am_iload_n hz1 dX12_same_19 1 rfl rfl ?_
      refine am_iload_n hz1 dX12_same_20 2 rfl rfl ?_
      obtain ⟨g3, h⟩ := h
      obtain ⟨g4, h⟩ := h
      refine am_cVf hz cv_X12_335 [.int v1, .int v2] [] (c_X12_areSame hG v1 v2 g3 g4) (ln_64 hG) (lk_64 hG) rfl rfl rfl ⟨Nat.le_refl _, Nat.le_refl _⟩ (Nat.le_of_ble_eq_true rfl) dX12_same_21 ?_
      refine am_ifb_eq (tgt := 31) hz1 dX12_same_24 (by decide) (fun c5 => ?_) (fun c5 => ?_)
      · replace h := h.1 c5
        refine am_iconst (v := 0) hz1 dX12_same_31 (by decide) ?_
        exact am_ireturn hz dX12_same_32 h
      · replace h := h.2 c5
        refine am_iconst (v := 1) hz1 dX12_same_27 (by decide) ?_
        refine am_goto (tgt := 32) hz1 dX12_same_28 (by decide) ?_
        exact am_ireturn hz dX12_same_32 h
    · replace h := h.2 c2
      refine am_iconst (v := (-1)) hz1 dX12_same_14 (by decide) ?_
      refine am_goto (tgt := 32) hz1 dX12_same_15 (by decide) ?_
      exact am_ireturn hz dX12_same_32 h
set_option maxRecDepth 100000 in
set_option maxHeartbeats 4000000 in
theorem c_X12_same {l : Launch} {D : va_G} {B : Heap} {G : amG} {I : amI} {L : amL}  (hG : Lay G)  (v1 : Int32) (v2 : Int32) {s : St} (hs : RI s I L) (hw : WF s) : Mx l D B yX12_same cX12_same 3 (some .int) 2 0 0 [.ref (B.size + 64), .int v1, .int v2] G I L (fun r G1 I1 L1 => r = some (.int (aSame s v1 v2)) ∧ G1 = G ∧ RI s I1 L1 ∧ frM I L I1 L1) := by
  refine Mx.of (by decide) rfl rfl (fun z e1 e2 e3 hz => ?_)
  subst e1; subst e2; subst e3
  refine b_X12_same_0 hz hG ?_
  rw [isIn3, isIn3]
  have key : ∀ f g, f < 4 → g < 4 → m_same L (nI f) (nI g) = sameM (rF (sC s)) (nI f).toNatClampNeg (nI g).toNatClampNeg := by
    intro f g hf hg
    rw [m_same, sameM, cl_nI (by omega), cl_nI (by omega)]
    refine scan_cong _ _ (fun k _ hk => ⟨?_, rfl⟩)
    rw [Nat.add_assoc, Nat.add_assoc, hs.1.2.1 _ (by omega), hs.1.2.1 _ (by omega)]
  refine ⟨fun h => ⟨?_, rfl, hs, frM_r⟩, fun h => ⟨fun h2 => ⟨?_, ?_, fun h3 => ⟨?_, rfl, hs, frM_r⟩, fun h3 => ⟨?_, rfl, hs, frM_r⟩⟩, fun h2 => ⟨?_, rfl, hs, frM_r⟩⟩⟩
  · rw [aSame, if_neg (by rw [h]; simp)]
  · exact fnR h
  · exact fnR h2
  · obtain ⟨f, hf, rfl⟩ := fnR h
    obtain ⟨g, hg, rfl⟩ := fnR h2
    rw [key f g hf hg] at h3
    rw [aSame, if_pos (by rw [h, h2]; rfl), if_neg (by rw [h3]; decide)]
  · obtain ⟨f, hf, rfl⟩ := fnR h
    obtain ⟨g, hg, rfl⟩ := fnR h2
    rw [key f g hf hg] at h3
    rw [aSame, if_pos (by rw [h, h2]; rfl), if_pos h3]
  · rw [aSame, if_neg (by rw [h2]; simp)]
/-- one of six, by number -/
theorem cases6 {w : Int32} (h : w < 0 ∨ 5 < w) : w ≠ 0 ∧ w ≠ 1 ∧ w ≠ 2 ∧ w ≠ 3 ∧ w ≠ 4 ∧ w ≠ 5 := by
  refine ⟨?_, ?_, ?_, ?_, ?_, ?_⟩ <;> (rintro rfl; exact absurd h (by decide))
def aAbout (s : St) (e w : Int32) : Int32 :=
  if elB (rN (sC s)) e = true then
    (if w = 0 then dnS (rN (sC s)) (rA (sC s)) e.toNatClampNeg else if w = 1 then upS (rA (sC s)) e.toNatClampNeg else if w = 2 then mkset (cv (rN (sC s)) (rA (sC s)) e.toNatClampNeg) (rN (sC s)) else if w = 3 then mkset (fun x => cv (rN (sC s)) (rA (sC s)) x e.toNatClampNeg) (rN (sC s)) else if w = 4 then ht (rN (sC s)) (rA (sC s)) e.toNatClampNeg else if w = 5 then (if rP (sC s) e.toNatClampNeg = -1 then -2 else rP (sC s) e.toNatClampNeg) else -1)
  else -1
theorem i64_m1 {x : Int32} : x.toInt64 = -1 ↔ x = -1 := by
  rw [← Int64.toInt_inj, ← Int32.toInt_inj, Int32.toInt_toInt64]
  exact Iff.rfl
theorem i64_32 (x : Int32) : x.toInt64.toInt32 = x := by
  simp
set_option maxRecDepth 100000 in
set_option maxHeartbeats 4000000 in
theorem b_X12_about_0 {z : amZ} {post : amP} {G : amG} {I : amI} {L : amL} (hz : Go z cX12_about RX12 3 (some .int) 6 0 0 post) (hG : Lay G) {v1 : Int32} {v2 : Int32} (h : ((m_el L v1 = true) → (v2 = 0 → (mOk L) ∧ post (some (.int (m_dn L v1))) G I L) ∧ (v2 = 1 → (vp_in v1 16) ∧ post (some (.int (m_up L v1))) G I L) ∧ (v2 = 2 → (mOk L) ∧ (vp_in v1 16) ∧ post (some (.int (m_cset L v1))) G I L) ∧ (v2 = 3 → (mOk L) ∧ post (some (.int (m_dset L v1))) G I L) ∧ (v2 = 4 → ∃ (dq8 : Nat) (postq8 : amP), Nat.ble (dq8 + 1) 6 = true ∧ Mx (zL z) (zD z) (zB z) yX12_laysHeights cX12_laysHeights 4 none dq8 0 0 [.ref ((zB z).size + 64)] G I L postq8 ∧ ∀ (roq8 : Option Value) (Gq8 : amG) (Iq8 : amI) (Lq8 : amL), postq8 roq8 Gq8 Iq8 Lq8 → roq8 = none ∧ Lay Gq8 ∧ vp_in v1 16 ∧ post (some (.int (Iq8 75 v1.toNatClampNeg))) Gq8 Iq8 Lq8) ∧ (v2 = 5 → vp_in ((1057 : Int32) + v1) 1074 ∧ ((¬ (L 65 ((1057 : Int32) + v1).toNatClampNeg) = (-1 : Int64)) → vp_in ((1057 : Int32) + v1) 1074 ∧ post (some (.int ((L 65 ((1057 : Int32) + v1).toNatClampNeg).toInt32))) G I L) ∧ (((L 65 ((1057 : Int32) + v1).toNatClampNeg) = (-1 : Int64)) → post (some (.int (-2))) G I L)) ∧ ((v2 < 0 ∨ 5 < v2) → post (some (.int (-1))) G I L)) ∧ ((m_el L v1 = false) → post (some (.int (-1))) G I L)) : Wx z 0 0 0 [(0, .ref ((zB z).size + 64)), (1, .int v1), (2, .int v2)] [] G I L := by
  have hz1 := hz.1
  refine am_aload_n hz1 dX12_about_0 0 rfl rfl ?_
  refine am_iload_n hz1 dX12_about_1 1 rfl rfl ?_
  refine am_cVf hz cv_X12_100 [.int v1] [] (c_X12_isElement hG v1 ) (ln_64 hG) (lk_64 hG) rfl rfl rfl ⟨Nat.le_refl _, Nat.le_refl _⟩ (Nat.le_of_ble_eq_true rfl) dX12_about_2 ?_
  refine am_ifb_ne (tgt := 10) hz1 dX12_about_5 (by decide) (fun c1 => ?_) (fun c1 => ?_)
  · replace h := h.1 c1
    refine am_iload_n hz1 dX12_about_10 2 rfl rfl ?_
    by_cases c2_0 : v2 = 0
    · replace h := h.1 c2_0
      refine am_tabI (off := 37) (tgt := 48) hz1 0 dX12_about_11 c2_0 (by decide) (by decide) rfl (by decide) ?_
      refine am_aload_n hz1 dX12_about_48 0 rfl rfl ?_
      refine am_iload_n hz1 dX12_about_49 1 rfl rfl ?_
      obtain ⟨g3, h⟩ := h
      refine am_cVf hz cv_X12_97 [.int v1] [] (c_X12_down hG v1 g3) (ln_64 hG) (lk_64 hG) rfl rfl rfl ⟨Nat.le_refl _, Nat.le_refl _⟩ (Nat.le_of_ble_eq_true rfl) dX12_about_50 ?_
      exact am_ireturn hz dX12_about_53 h
    by_cases c2_1 : v2 = 1
    · replace h := h.2.1 c2_1
      refine am_tabI (off := 43) (tgt := 54) hz1 1 dX12_about_11 c2_1 (by decide) (by decide) rfl (by decide) ?_
      refine am_aload_n hz1 dX12_about_54 0 rfl rfl ?_
      refine am_iload_n hz1 dX12_about_55 1 rfl rfl ?_
      obtain ⟨g4, h⟩ := h
      refine am_cVf hz cv_X12_86 [.int v1] [] (c_X12_up hG v1 g4) (ln_64 hG) (lk_64 hG) rfl rfl rfl ⟨Nat.le_refl _, Nat.le_refl _⟩ (Nat.le_of_ble_eq_true rfl) dX12_about_56 ?_
      exact am_ireturn hz dX12_about_59 h
    by_cases c2_2 : v2 = 2
    · replace h := h.2.2.1 c2_2
      refine am_tabI (off := 49) (tgt := 60) hz1 2 dX12_about_11 c2_2 (by decide) (by decide) rfl (by decide) ?_
      refine am_aload_n hz1 dX12_about_60 0 rfl rfl ?_
      refine am_iload_n hz1 dX12_about_61 1 rfl rfl ?_
      obtain ⟨g5, h⟩ := h
      obtain ⟨g6, h⟩ := h
      refine am_cVf hz cv_X12_341 [.int v1] [] (c_X12_coverSet hG v1 g5 g6) (ln_64 hG) (lk_64 hG) rfl rfl rfl ⟨Nat.le_refl _, Nat.le_refl _⟩ (Nat.le_of_ble_eq_true rfl) dX12_about_62 ?_
      exact am_ireturn hz dX12_about_65 h
    by_cases c2_3 : v2 = 3
    · replace h := h.2.2.2.1 c2_3
      refine am_tabI (off := 55) (tgt := 66) hz1 3 dX12_about_11 c2_3 (by decide) (by decide) rfl (by decide) ?_
      refine am_aload_n hz1 dX12_about_66 0 rfl rfl ?_
      refine am_iload_n hz1 dX12_about_67 1 rfl rfl ?_
      obtain ⟨g7, h⟩ := h
      refine am_cVf hz cv_X12_344 [.int v1] [] (c_X12_coveredSet hG v1 g7) (ln_64 hG) (lk_64 hG) rfl rfl rfl ⟨Nat.le_refl _, Nat.le_refl _⟩ (Nat.le_of_ble_eq_true rfl) dX12_about_68 ?_
      exact am_ireturn hz dX12_about_71 h
    by_cases c2_4 : v2 = 4
    · replace h := h.2.2.2.2.1 c2_4
      refine am_tabI (off := 61) (tgt := 72) hz1 4 dX12_about_11 c2_4 (by decide) (by decide) rfl (by decide) ?_
      refine am_aload_n hz1 dX12_about_72 0 rfl rfl ?_
      obtain ⟨dq8, postq8, hdq8, hMq8, h⟩ := h
      refine am_callV hz1 cv_X12_338 [] [] hMq8 (ln_64 hG) (lk_64 hG) rfl rfl (hz.fr hdq8) (hz.lo hdq8) (by rw [hz.2.1]; exact ⟨Nat.le_refl _, Nat.le_refl _⟩) (Nat.le_of_ble_eq_true rfl) dX12_about_73 (fun roq8 Gq8 Iq8 Lq8 hpq8 => ?_)
      obtain ⟨rfl, hGq8, h⟩ := h roq8 Gq8 Iq8 Lq8 hpq8
      refine am_aload_n hz1 dX12_about_76 0 rfl rfl ?_
      refine am_getR hz1 fl_X12_44 (ln_64 hGq8) (lk_64 hGq8) (lr_64_19 hGq8) rfl dX12_about_77 ?_
      refine am_iload_n hz1 dX12_about_80 1 rfl rfl ?_
      obtain ⟨g9, h⟩ := h
      refine am_iald hz1 (ln_75 hGq8) (lk_75 hGq8) (by rw [(ll_75 hGq8)]; exact g9) dX12_about_81 ?_
      exact am_ireturn hz dX12_about_82 h
    by_cases c2_5 : v2 = 5
    · replace h := h.2.2.2.2.2.1 c2_5
      refine am_tabI (off := 72) (tgt := 83) hz1 5 dX12_about_11 c2_5 (by decide) (by decide) rfl (by decide) ?_
      refine am_aload_n hz1 dX12_about_83 0 rfl rfl ?_
      refine am_getR hz1 fl_X12_9 (ln_64 hG) (lk_64 hG) (lr_64_0 hG) rfl dX12_about_84 ?_
      refine am_sipush (v := 1057) hz1 dX12_about_87 (by decide) ?_
      refine am_iload_n hz1 dX12_about_90 1 rfl rfl ?_
      refine am_iadd hz1 dX12_about_91 ?_
      obtain ⟨g10, h⟩ := h
      refine am_lald hz1 (ln_65 hG) (lk_65 hG) (by rw [(ll_65 hG)]; exact g10) dX12_about_92 ?_
      refine am_ldc2 hz1 kc_X12_118 dX12_about_93 ?_
      refine am_lif_ne (tgt := 105) hz1 dX12_about_96 dX12_about_97 (by decide) (fun c11 => ?_) (fun c11 => ?_)
      · replace h := h.1 c11
        refine am_aload_n hz1 dX12_about_105 0 rfl rfl ?_
        refine am_getR hz1 fl_X12_9 (ln_64 hG) (lk_64 hG) (lr_64_0 hG) rfl dX12_about_106 ?_
        refine am_sipush (v := 1057) hz1 dX12_about_109 (by decide) ?_
        refine am_iload_n hz1 dX12_about_112 1 rfl rfl ?_
        refine am_iadd hz1 dX12_about_113 ?_
        obtain ⟨g12, h⟩ := h
        refine am_lald hz1 (ln_65 hG) (lk_65 hG) (by rw [(ll_65 hG)]; exact g12) dX12_about_114 ?_
        refine am_l2i hz1 dX12_about_115 ?_
        exact am_ireturn hz dX12_about_116 h
      · replace h := h.2 c11
        refine am_bipush (v := (-2)) hz1 dX12_about_100 (by decide) ?_
        refine am_goto (tgt := 116) hz1 dX12_about_102 (by decide) ?_
        exact am_ireturn hz dX12_about_116 h
    have c2 : v2 < 0 ∨ 5 < v2 := tabx_6_0 c2_0 c2_1 c2_2 c2_3 c2_4 c2_5
    replace h := h.2.2.2.2.2.2 c2
    refine am_tabO (tgt := 117) hz1 dX12_about_11 (c2.elim (fun e => Or.inl (tab_lt 0 rfl e)) (fun e => Or.inr (tab_gt 5 rfl e))) (by decide) ?_
    refine am_iconst (v := (-1)) hz1 dX12_about_117 (by decide) ?_
    exact am_ireturn hz dX12_about_118 h
  · replace h := h.2 c1
    refine am_iconst (v := (-1)) hz1 dX12_about_8 (by decide) ?_
    exact am_ireturn hz dX12_about_9 h
set_option maxRecDepth 100000 in
set_option maxHeartbeats 4000000 in
theorem c_X12_about {l : Launch} {D : va_G} {B : Heap} {G : amG} {I : amI} {L : amL}  (hG : Lay G)  (v1 : Int32) (v2 : Int32) {s : St} (hs : RI s I L) (hw : WF s) : Mx l D B yX12_about cX12_about 3 (some .int) 6 0 0 [.ref (B.size + 64), .int v1, .int v2] G I L (fun r G1 I1 L1 => r = some (.int (aAbout s v1 v2)) ∧ G1 = G ∧ RI s I1 L1 ∧ frM I L I1 L1) := by
  refine Mx.of (by decide) rfl rfl (fun z e1 e2 e3 hz => ?_)
  subst e1; subst e2; subst e3
  refine b_X12_about_0 hz hG ?_
  have hM := hs.1.mo
  have h16 := hM.2.1
  rw [hM.el]
  refine ⟨fun h => ?_, fun h => ⟨by rw [aAbout, if_neg (by rw [h]; decide)], rfl, hs, frM_r⟩⟩
  obtain ⟨x, hx, rfl⟩ := (el_t (by omega)).mp h
  have ex : (nI x).toNatClampNeg = x := cl_nI (by omega)
  have hmO : mOk L := ⟨_, _, hM⟩
  refine ⟨fun h0 => ⟨hmO, ?_, rfl, hs, frM_r⟩, fun h1 => ⟨in16 h16 hx, ?_, rfl, hs, frM_r⟩, fun h2 => ⟨hmO, in16 h16 hx, ?_, rfl, hs, frM_r⟩, fun h3 => ⟨hmO, ?_, rfl, hs, frM_r⟩, fun h4 => ?_, fun h5 => ?_, fun h6 => ⟨?_, rfl, hs, frM_r⟩⟩
  · subst h0; rw [aAbout, if_pos h, if_pos rfl, ex, hM.dn hx]
  · subst h1; rw [aAbout, if_pos h, if_neg (by decide), if_pos rfl, ex, hM.up hx]
  · subst h2; rw [aAbout, if_pos h, if_neg (by decide), if_neg (by decide), if_pos rfl, ex, m_cset, hM.N, mkset_cong (fun i hi => hM.cov hx hi)]
  · subst h3; rw [aAbout, if_pos h, if_neg (by decide), if_neg (by decide), if_neg (by decide), if_pos rfl, ex, m_dset, hM.N, mkset_cong (fun i hi => hM.cov hi hx)]
  · subst h4
    refine ⟨3, _, rfl, c_X12_laysHeights hG hM, fun ro G2 I2 L2 ⟨e1, e2, e3, f, e4, e5⟩ => ⟨e1, by rw [e2]; exact hG, in16 h16 hx, ?_, e2, ?_, ?_⟩⟩
    · rw [aAbout, if_pos h, if_neg (by decide), if_neg (by decide), if_neg (by decide), if_neg (by decide), if_pos rfl, ex, e4, setI_s, e5 x hx]
    · rw [e3, e4]; exact RI_I hs (by decide) (by decide) (by decide)
    · rw [e3, e4]; exact frM_I (by decide) (by decide)
  · subst h5
    have e1 : ((1057 : Int32) + nI x).toNatClampNeg = 1057 + x := clA (a := 1057) (by omega)
    have hin : vp_in ((1057 : Int32) + nI x) 1074 := inA (a := 1057) (by omega) (by decide)
    rw [e1, hs.1.2.2.2.1 x (by omega), i64_32]
    refine ⟨hin, fun q => ⟨hin, ?_, rfl, hs, frM_r⟩, fun q => ⟨?_, rfl, hs, frM_r⟩⟩
    · rw [aAbout, if_pos h, if_neg (by decide), if_neg (by decide), if_neg (by decide), if_neg (by decide), if_neg (by decide), if_pos rfl, ex, if_neg (fun e => q (i64_m1.mpr e))]
    · rw [aAbout, if_pos h, if_neg (by decide), if_neg (by decide), if_neg (by decide), if_neg (by decide), if_neg (by decide), if_pos rfl, ex, if_pos (i64_m1.mp q)]
  · obtain ⟨a, b, c, d, e, f⟩ := cases6 h6
    rw [aAbout, if_pos h, if_neg a, if_neg b, if_neg c, if_neg d, if_neg e, if_neg f]
def aBound (s : St) (a b w : Int32) : Int32 :=
  if (elB (rN (sC s)) a && elB (rN (sC s)) b) = true then
    (if w = 0 then leastM (rN (sC s)) (rA (sC s)) (upS (rA (sC s)) a.toNatClampNeg &&& upS (rA (sC s)) b.toNatClampNeg) else if w = 1 then greatM (rN (sC s)) (rA (sC s)) (dnS (rN (sC s)) (rA (sC s)) a.toNatClampNeg &&& dnS (rN (sC s)) (rA (sC s)) b.toNatClampNeg) else if w = 2 then ivS (rN (sC s)) (rA (sC s)) a.toNatClampNeg b.toNatClampNeg else -1)
  else -1
set_option maxRecDepth 100000 in
set_option maxHeartbeats 4000000 in
theorem b_X12_bound_0 {z : amZ} {post : amP} {G : amG} {I : amI} {L : amL} (hz : Go z cX12_bound RX12 4 (some .int) 5 0 0 post) (hG : Lay G) {v1 : Int32} {v2 : Int32} {v3 : Int32} (h : ((m_el L v1 = false) → post (some (.int (-1))) G I L) ∧ ((m_el L v1 = true) → ((m_el L v2 = false) → post (some (.int (-1))) G I L) ∧ ((m_el L v2 = true) → ((m_isIn v3.toInt64 (0 : Int64) (2 : Int64) = true) → ((¬ v3 = 0) → ((¬ v3 = (1 : Int32)) → (mOk L) ∧ (vp_in v1 16) ∧ post (some (.int (m_iv L v1 v2))) G I L) ∧ ((v3 = (1 : Int32)) → (mOk L) ∧ post (some (.int (m_great L (m_dn L v1 &&& m_dn L v2)))) G I L)) ∧ ((v3 = 0) → (mOk L) ∧ (vp_in v1 16) ∧ (vp_in v2 16) ∧ post (some (.int (m_least L (m_up L v1 &&& m_up L v2)))) G I L)) ∧ ((m_isIn v3.toInt64 (0 : Int64) (2 : Int64) = false) → post (some (.int (-1))) G I L)))) : Wx z 0 0 0 [(0, .ref ((zB z).size + 64)), (1, .int v1), (2, .int v2), (3, .int v3)] [] G I L := by
  have hz1 := hz.1
  refine am_aload_n hz1 dX12_bound_0 0 rfl rfl ?_
  refine am_iload_n hz1 dX12_bound_1 1 rfl rfl ?_
  refine am_cVf hz cv_X12_100 [.int v1] [] (c_X12_isElement hG v1 ) (ln_64 hG) (lk_64 hG) rfl rfl rfl ⟨Nat.le_refl _, Nat.le_refl _⟩ (Nat.le_of_ble_eq_true rfl) dX12_bound_2 ?_
  refine am_ifb_eq (tgt := 28) hz1 dX12_bound_5 (by decide) (fun c1 => ?_) (fun c1 => ?_)
  · replace h := h.1 c1
    refine am_iconst (v := (-1)) hz1 dX12_bound_28 (by decide) ?_
    exact am_ireturn hz dX12_bound_29 h
  · replace h := h.2 c1
    refine am_aload_n hz1 dX12_bound_8 0 rfl rfl ?_
    refine am_iload_n hz1 dX12_bound_9 2 rfl rfl ?_
    refine am_cVf hz cv_X12_100 [.int v2] [] (c_X12_isElement hG v2 ) (ln_64 hG) (lk_64 hG) rfl rfl rfl ⟨Nat.le_refl _, Nat.le_refl _⟩ (Nat.le_of_ble_eq_true rfl) dX12_bound_10 ?_
    refine am_ifb_eq (tgt := 28) hz1 dX12_bound_13 (by decide) (fun c2 => ?_) (fun c2 => ?_)
    · replace h := h.1 c2
      refine am_iconst (v := (-1)) hz1 dX12_bound_28 (by decide) ?_
      exact am_ireturn hz dX12_bound_29 h
    · replace h := h.2 c2
      refine am_iload_n hz1 dX12_bound_16 3 rfl rfl ?_
      refine am_i2l hz1 dX12_bound_17 ?_
      refine am_lconst (v := 0) hz1 dX12_bound_18 (by decide) ?_
      refine am_ldc2 hz1 kc_X12_353 dX12_bound_19 ?_
      refine am_cSf hz ct_X12_82 [.long v3.toInt64, .long (0 : Int64), .long (2 : Int64)] [] (c_X12_isIn hG v3.toInt64 (0 : Int64) (2 : Int64) ) rfl rfl rfl ⟨Nat.le_refl _, Nat.le_refl _⟩ (Nat.le_of_ble_eq_true rfl) dX12_bound_22 ?_
      refine am_ifb_ne (tgt := 30) hz1 dX12_bound_25 (by decide) (fun c3 => ?_) (fun c3 => ?_)
      · replace h := h.1 c3
        refine am_iload_n hz1 dX12_bound_30 3 rfl rfl ?_
        refine am_if_ne (tgt := 43) hz1 dX12_bound_31 (by decide) (fun c4 => ?_) (fun c4 => ?_)
        · replace h := h.1 c4
          refine am_iload_n hz1 dX12_bound_43 3 rfl rfl ?_
          refine am_iconst (v := 1) hz1 dX12_bound_44 (by decide) ?_
          refine am_icmp_ne (tgt := 57) hz1 dX12_bound_45 (by decide) (fun c5 => ?_) (fun c5 => ?_)
          · replace h := h.1 c5
            refine am_aload_n hz1 dX12_bound_57 0 rfl rfl ?_
            refine am_iload_n hz1 dX12_bound_58 1 rfl rfl ?_
            refine am_iload_n hz1 dX12_bound_59 2 rfl rfl ?_
            obtain ⟨g6, h⟩ := h
            obtain ⟨g7, h⟩ := h
            refine am_cVf hz cv_X12_107 [.int v1, .int v2] [] (c_X12_interval hG v1 v2 g6 g7) (ln_64 hG) (lk_64 hG) rfl rfl rfl ⟨Nat.le_refl _, Nat.le_refl _⟩ (Nat.le_of_ble_eq_true rfl) dX12_bound_60 ?_
            exact am_ireturn hz dX12_bound_63 h
          · replace h := h.2 c5
            refine am_aload_n hz1 dX12_bound_48 0 rfl rfl ?_
            refine am_iload_n hz1 dX12_bound_49 1 rfl rfl ?_
            refine am_iload_n hz1 dX12_bound_50 2 rfl rfl ?_
            obtain ⟨g8, h⟩ := h
            refine am_cVf hz cv_X12_358 [.int v1, .int v2] [] (c_X12_meet hG v1 v2 g8) (ln_64 hG) (lk_64 hG) rfl rfl rfl ⟨Nat.le_refl _, Nat.le_refl _⟩ (Nat.le_of_ble_eq_true rfl) dX12_bound_51 ?_
            refine am_goto (tgt := 63) hz1 dX12_bound_54 (by decide) ?_
            exact am_ireturn hz dX12_bound_63 h
        · replace h := h.2 c4
          refine am_aload_n hz1 dX12_bound_34 0 rfl rfl ?_
          refine am_iload_n hz1 dX12_bound_35 1 rfl rfl ?_
          refine am_iload_n hz1 dX12_bound_36 2 rfl rfl ?_
          obtain ⟨g9, h⟩ := h
          obtain ⟨g10, h⟩ := h
          obtain ⟨g11, h⟩ := h
          refine am_cVf hz cv_X12_355 [.int v1, .int v2] [] (c_X12_join hG v1 v2 g9 g10 g11) (ln_64 hG) (lk_64 hG) rfl rfl rfl ⟨Nat.le_refl _, Nat.le_refl _⟩ (Nat.le_of_ble_eq_true rfl) dX12_bound_37 ?_
          refine am_goto (tgt := 63) hz1 dX12_bound_40 (by decide) ?_
          exact am_ireturn hz dX12_bound_63 h
      · replace h := h.2 c3
        refine am_iconst (v := (-1)) hz1 dX12_bound_28 (by decide) ?_
        exact am_ireturn hz dX12_bound_29 h
set_option maxRecDepth 100000 in
set_option maxHeartbeats 4000000 in
theorem c_X12_bound {l : Launch} {D : va_G} {B : Heap} {G : amG} {I : amI} {L : amL}  (hG : Lay G)  (v1 : Int32) (v2 : Int32) (v3 : Int32) {s : St} (hs : RI s I L) (hw : WF s) : Mx l D B yX12_bound cX12_bound 4 (some .int) 5 0 0 [.ref (B.size + 64), .int v1, .int v2, .int v3] G I L (fun r G1 I1 L1 => r = some (.int (aBound s v1 v2 v3)) ∧ G1 = G ∧ RI s I1 L1 ∧ frM I L I1 L1) := by
  refine Mx.of (by decide) rfl rfl (fun z e1 e2 e3 hz => ?_)
  subst e1; subst e2; subst e3
  refine b_X12_bound_0 hz hG ?_
  have hM := hs.1.mo
  have h16 := hM.2.1
  have hmO : mOk L := ⟨_, _, hM⟩
  rw [hM.el, hM.el, isIn_R (k := 2) (by decide) (by decide)]
  refine ⟨fun h => ⟨by rw [aBound, if_neg (by rw [h]; simp)], rfl, hs, frM_r⟩, fun h => ⟨fun h2 => ⟨by rw [aBound, if_neg (by rw [h2]; simp)], rfl, hs, frM_r⟩, fun h2 => ?_⟩⟩
  obtain ⟨x, hx, rfl⟩ := (el_t (by omega)).mp h
  obtain ⟨y, hy, rfl⟩ := (el_t (by omega)).mp h2
  have ex : (nI x).toNatClampNeg = x := cl_nI (by omega)
  have ey : (nI y).toNatClampNeg = y := cl_nI (by omega)
  refine ⟨fun h3 => ⟨fun g => ⟨fun g2 => ⟨hmO, in16 h16 hx, ?_, rfl, hs, frM_r⟩, fun g2 => ⟨hmO, ?_, rfl, hs, frM_r⟩⟩, fun g => ⟨hmO, in16 h16 hx, in16 h16 hy, ?_, rfl, hs, frM_r⟩⟩, fun h3 => ⟨?_, rfl, hs, frM_r⟩⟩
  · obtain ⟨k, hk, rfl⟩ := (inR_t (by decide)).mp h3
    have hk2 : k = 2 := by
      have a : k ≠ 0 := fun e => g (by rw [e]; rfl)
      have b : k ≠ 1 := fun e => g2 (by rw [e]; rfl)
      omega
    rw [aBound, if_pos (by rw [h, h2]; rfl), if_neg g, if_neg g2, if_pos (by rw [hk2]; rfl), ex, ey, hM.iv hx hy]
  · rw [aBound, if_pos (by rw [h, h2]; rfl), if_neg g, if_pos g2, ex, ey, hM.dn hx, hM.dn hy, hM.great]
  · rw [aBound, if_pos (by rw [h, h2]; rfl), if_pos g, ex, ey, hM.up hx, hM.up hy, hM.least]
  · have e : ∀ k : Nat, k ≤ 2 → v3 ≠ nI k := fun k hk e => by rw [(inR_t (by decide)).mpr ⟨k, hk, e⟩] at h3; cases h3
    rw [aBound, if_pos (by rw [h, h2]; rfl), if_neg (show ¬ v3 = 0 from e 0 (by omega)), if_neg (show ¬ v3 = 1 from e 1 (by omega)), if_neg (show ¬ v3 = 2 from e 2 (by omega))]
/-- all chains of up to k steps -/
def acM (n : Nat) (p : Nat → Nat → Bool) (a b : Nat) : Nat → Int64
  | 0 => wayM n p a 0 b
  | k + 1 => acM n p a b k + wayM n p a (k + 1) b
theorem ac_M {L : amL} {n a b : Nat} {A : Nat → Int32} {v : Int32} (hM : MO L n A) (ha : a < n) (hb : b < n) : ∀ k, m_ac L (nI a) (nI b) v k = acM n (fun y x => if v = 0 then bt (A y) x else cv n A y x) a b k
  | 0 => by
    have h16 := hM.2.1
    rw [m_ac, acM, cl_nI (by omega)]
    exact chn_way hM ha 0 b hb
  | k + 1 => by
    have h16 := hM.2.1
    rw [m_ac, acM, ac_M hM ha hb k, cl_nI (by omega), chn_way hM ha (k + 1) b hb]
def aChains (s : St) (a b k : Int32) : Int64 :=
  if (elB (rN (sC s)) a && elB (rN (sC s)) b) = true then
    (if k = -2 then acM (rN (sC s)) (cv (rN (sC s)) (rA (sC s))) a.toNatClampNeg b.toNatClampNeg 15 else if k = -1 then acM (rN (sC s)) (fun y x => bt (rA (sC s) y) x) a.toNatClampNeg b.toNatClampNeg 15 else if inR 15 k = true then wayM (rN (sC s)) (fun y x => bt (rA (sC s) y) x) a.toNatClampNeg k.toNatClampNeg b.toNatClampNeg else -1)
  else -1
theorem in_m2 {k : Int32} : m_isIn k.toInt64 (-2) 15 = true ↔ k = -2 ∨ k = -1 ∨ inR 15 k = true := by
  rw [m_isIn, Bool.and_eq_true, decide_eq_true_eq, decide_eq_true_eq, inR, Bool.and_eq_true, decide_eq_true_eq, decide_eq_true_eq, Int64.lt_iff_toInt_lt, Int64.lt_iff_toInt_lt, Int32.toInt_toInt64, Int32.le_iff_toInt_le, Int32.le_iff_toInt_le, ← Int32.toInt_inj, ← Int32.toInt_inj]
  have e1 : (-2 : Int64).toInt = -2 := by decide
  have e2 : (15 : Int64).toInt = 15 := by decide
  have e3 : (-2 : Int32).toInt = -2 := by decide
  have e4 : (-1 : Int32).toInt = -1 := by decide
  have e5 : (0 : Int32).toInt = 0 := by decide
  have e6 : (nI 15).toInt = 15 := by decide
  rw [e1, e2, e3, e4, e5, e6]
  omega
set_option maxRecDepth 100000 in
set_option maxHeartbeats 4000000 in
theorem b_X12_chains_0 {z : amZ} {post : amP} {G : amG} {I : amI} {L : amL} (hz : Go z cX12_chains RX12 4 (some .long) 7 0 0 post) (hG : Lay G) {v1 : Int32} {v2 : Int32} {v3 : Int32} (h : ((m_el L v1 = false) → post (some (.long (-1 : Int64))) G I L) ∧ ((m_el L v1 = true) → ((m_el L v2 = false) → post (some (.long (-1 : Int64))) G I L) ∧ ((m_el L v2 = true) → ((m_isIn v3.toInt64 (-2 : Int64) (15 : Int64) = true) → ((v3 < 0) → ((¬ v3 = (-2 : Int32)) → (mOk L) ∧ (vp_in v2 16) ∧ post (some (.long (m_ac L v1 v2 (0 : Int32) 15))) G I (m_chn L v1 (0 : Int32) 15)) ∧ ((v3 = (-2 : Int32)) → (mOk L) ∧ (vp_in v2 16) ∧ post (some (.long (m_ac L v1 v2 (1 : Int32) 15))) G I (m_chn L v1 (1 : Int32) 15))) ∧ ((¬ v3 < 0) → (mOk L) ∧ (vp_in v2 16) ∧ (w16 v3) ∧ post (some (.long (m_chn L v1 0 v3.toNatClampNeg 76 v2.toNatClampNeg))) G I (m_chn L v1 0 v3.toNatClampNeg))) ∧ ((m_isIn v3.toInt64 (-2 : Int64) (15 : Int64) = false) → post (some (.long (-1 : Int64))) G I L)))) : Wx z 0 0 0 [(0, .ref ((zB z).size + 64)), (1, .int v1), (2, .int v2), (3, .int v3)] [] G I L := by
  have hz1 := hz.1
  refine am_aload_n hz1 dX12_chains_0 0 rfl rfl ?_
  refine am_iload_n hz1 dX12_chains_1 1 rfl rfl ?_
  refine am_cVf hz cv_X12_100 [.int v1] [] (c_X12_isElement hG v1 ) (ln_64 hG) (lk_64 hG) rfl rfl rfl ⟨Nat.le_refl _, Nat.le_refl _⟩ (Nat.le_of_ble_eq_true rfl) dX12_chains_2 ?_
  refine am_ifb_eq (tgt := 30) hz1 dX12_chains_5 (by decide) (fun c1 => ?_) (fun c1 => ?_)
  · replace h := h.1 c1
    refine am_ldc2 hz1 kc_X12_118 dX12_chains_30 ?_
    exact am_lreturn hz dX12_chains_33 h
  · replace h := h.2 c1
    refine am_aload_n hz1 dX12_chains_8 0 rfl rfl ?_
    refine am_iload_n hz1 dX12_chains_9 2 rfl rfl ?_
    refine am_cVf hz cv_X12_100 [.int v2] [] (c_X12_isElement hG v2 ) (ln_64 hG) (lk_64 hG) rfl rfl rfl ⟨Nat.le_refl _, Nat.le_refl _⟩ (Nat.le_of_ble_eq_true rfl) dX12_chains_10 ?_
    refine am_ifb_eq (tgt := 30) hz1 dX12_chains_13 (by decide) (fun c2 => ?_) (fun c2 => ?_)
    · replace h := h.1 c2
      refine am_ldc2 hz1 kc_X12_118 dX12_chains_30 ?_
      exact am_lreturn hz dX12_chains_33 h
    · replace h := h.2 c2
      refine am_iload_n hz1 dX12_chains_16 3 rfl rfl ?_
      refine am_i2l hz1 dX12_chains_17 ?_
      refine am_ldc2 hz1 kc_X12_368 dX12_chains_18 ?_
      refine am_ldc2 hz1 kc_X12_370 dX12_chains_21 ?_
      refine am_cSf hz ct_X12_82 [.long v3.toInt64, .long (-2 : Int64), .long (15 : Int64)] [] (c_X12_isIn hG v3.toInt64 (-2 : Int64) (15 : Int64) ) rfl rfl rfl ⟨Nat.le_refl _, Nat.le_refl _⟩ (Nat.le_of_ble_eq_true rfl) dX12_chains_24 ?_
      refine am_ifb_ne (tgt := 34) hz1 dX12_chains_27 (by decide) (fun c3 => ?_) (fun c3 => ?_)
      · replace h := h.1 c3
        refine am_iload_n hz1 dX12_chains_34 3 rfl rfl ?_
        refine am_if_lt (tgt := 48) hz1 dX12_chains_35 (by decide) (fun c4 => ?_) (fun c4 => ?_)
        · replace h := h.1 c4
          refine am_aload_n hz1 dX12_chains_48 0 rfl rfl ?_
          refine am_iload_n hz1 dX12_chains_49 1 rfl rfl ?_
          refine am_iload_n hz1 dX12_chains_50 2 rfl rfl ?_
          refine am_iload_n hz1 dX12_chains_51 3 rfl rfl ?_
          refine am_bipush (v := (-2)) hz1 dX12_chains_52 (by decide) ?_
          refine am_icmp_ne (tgt := 61) hz1 dX12_chains_54 (by decide) (fun c5 => ?_) (fun c5 => ?_)
          · replace h := h.1 c5
            refine am_iconst (v := 0) hz1 dX12_chains_61 (by decide) ?_
            obtain ⟨g6, h⟩ := h
            obtain ⟨g7, h⟩ := h
            refine am_cVf hz cv_X12_375 [.int v1, .int v2, .int 0] [] (c_X12_allChains hG v1 v2 (0 : Int32) g6 g7) (ln_64 hG) (lk_64 hG) rfl rfl rfl ⟨Nat.le_refl _, Nat.le_refl _⟩ (Nat.le_of_ble_eq_true rfl) dX12_chains_62 ?_
            exact am_lreturn hz dX12_chains_65 h
          · replace h := h.2 c5
            refine am_iconst (v := 1) hz1 dX12_chains_57 (by decide) ?_
            refine am_goto (tgt := 62) hz1 dX12_chains_58 (by decide) ?_
            obtain ⟨g8, h⟩ := h
            obtain ⟨g9, h⟩ := h
            refine am_cVf hz cv_X12_375 [.int v1, .int v2, .int 1] [] (c_X12_allChains hG v1 v2 (1 : Int32) g8 g9) (ln_64 hG) (lk_64 hG) rfl rfl rfl ⟨Nat.le_refl _, Nat.le_refl _⟩ (Nat.le_of_ble_eq_true rfl) dX12_chains_62 ?_
            exact am_lreturn hz dX12_chains_65 h
        · replace h := h.2 c4
          refine am_aload_n hz1 dX12_chains_38 0 rfl rfl ?_
          refine am_iload_n hz1 dX12_chains_39 1 rfl rfl ?_
          refine am_iload_n hz1 dX12_chains_40 2 rfl rfl ?_
          refine am_iload_n hz1 dX12_chains_41 3 rfl rfl ?_
          obtain ⟨g10, h⟩ := h
          obtain ⟨g11, h⟩ := h
          obtain ⟨g12, h⟩ := h
          refine am_cVf hz cv_X12_372 [.int v1, .int v2, .int v3] [] (c_X12_chainsOf hG v1 v2 v3 g10 g11 g12) (ln_64 hG) (lk_64 hG) rfl rfl rfl ⟨Nat.le_refl _, Nat.le_refl _⟩ (Nat.le_of_ble_eq_true rfl) dX12_chains_42 ?_
          refine am_goto (tgt := 65) hz1 dX12_chains_45 (by decide) ?_
          exact am_lreturn hz dX12_chains_65 h
      · replace h := h.2 c3
        refine am_ldc2 hz1 kc_X12_118 dX12_chains_30 ?_
        exact am_lreturn hz dX12_chains_33 h
set_option maxRecDepth 100000 in
set_option maxHeartbeats 4000000 in
theorem c_X12_chains {l : Launch} {D : va_G} {B : Heap} {G : amG} {I : amI} {L : amL}  (hG : Lay G)  (v1 : Int32) (v2 : Int32) (v3 : Int32) {s : St} (hs : RI s I L) (hw : WF s) : Mx l D B yX12_chains cX12_chains 4 (some .long) 7 0 0 [.ref (B.size + 64), .int v1, .int v2, .int v3] G I L (fun r G1 I1 L1 => r = some (.long (aChains s v1 v2 v3)) ∧ G1 = G ∧ RI s I1 L1 ∧ frM I L I1 L1) := by
  refine Mx.of (by decide) rfl rfl (fun z e1 e2 e3 hz => ?_)
  subst e1; subst e2; subst e3
  refine b_X12_chains_0 hz hG ?_
  have hM := hs.1.mo
  have h16 := hM.2.1
  have hmO : mOk L := ⟨_, _, hM⟩
  have hch : ∀ a v k, chnF L (m_chn L a v k) := fun a v k q h1 h2 => chn_o h1 h2 k
  rw [hM.el, hM.el]
  refine ⟨fun h => ⟨by rw [aChains, if_neg (by rw [h]; simp)], rfl, hs, frM_r⟩, fun h => ⟨fun h2 => ⟨by rw [aChains, if_neg (by rw [h2]; simp)], rfl, hs, frM_r⟩, fun h2 => ?_⟩⟩
  obtain ⟨x, hx, rfl⟩ := (el_t (by omega)).mp h
  obtain ⟨y, hy, rfl⟩ := (el_t (by omega)).mp h2
  have ex : (nI x).toNatClampNeg = x := cl_nI (by omega)
  have ey : (nI y).toNatClampNeg = y := cl_nI (by omega)
  refine ⟨fun h3 => ⟨fun g => ⟨fun g2 => ⟨hmO, in16 h16 hy, ?_, rfl, chn_RI hs (hch _ _ _), chn_fr (hch _ _ _)⟩, fun g2 => ⟨hmO, in16 h16 hy, ?_, rfl, chn_RI hs (hch _ _ _), chn_fr (hch _ _ _)⟩⟩, fun g => ⟨hmO, in16 h16 hy, ?_, ?_, rfl, chn_RI hs (hch _ _ _), chn_fr (hch _ _ _)⟩⟩, fun h3 => ⟨?_, rfl, hs, frM_r⟩⟩
  · have hk : v3 = -1 := by
      rcases in_m2.mp h3 with q | q | q
      · exact absurd q g2
      · exact q
      · obtain ⟨j, hj, e⟩ := (inR_t (by decide)).mp q
        rw [e] at g; exact absurd g (nI_pos (by omega))
    rw [aChains, if_pos (by rw [h, h2]; rfl), if_neg g2, if_pos hk, ex, ey, ac_M hM hx hy 15]
    rfl
  · rw [aChains, if_pos (by rw [h, h2]; rfl), if_pos g2, ex, ey, ac_M hM hx hy 15]
    rfl
  · rcases in_m2.mp h3 with q | q | q
    · rw [q] at g; exact absurd (by decide) g
    · rw [q] at g; exact absurd (by decide) g
    · obtain ⟨j, hj, e⟩ := (inR_t (by decide)).mp q
      exact ⟨j, by omega, e⟩
  · have n2 : v3 ≠ -2 := fun e => g (by rw [e]; decide)
    have n1 : v3 ≠ -1 := fun e => g (by rw [e]; decide)
    rcases in_m2.mp h3 with q | q | q
    · exact absurd q n2
    · exact absurd q n1
    · rw [aChains, if_pos (by rw [h, h2]; rfl), if_neg n2, if_neg n1, if_pos q, ex, ey, chn_way hM hx _ y hy]
      rfl
  · have : ¬ (v3 = -2 ∨ v3 = -1 ∨ inR 15 v3 = true) := fun q => by rw [in_m2.mpr q] at h3; cases h3
    rw [aChains, if_pos (by rw [h, h2]; rfl), if_neg (fun q => this (Or.inl q)), if_neg (fun q => this (Or.inr (Or.inl q))), if_neg (fun q => this (Or.inr (Or.inr q)))]
def aMulti (s : St) (a b k : Int32) : Int64 := if (ivB (rN (sC s)) (rA (sC s)) a b && inR 30 k) = true then wayM (rN (sC s)) (le (rA (sC s))) a.toNatClampNeg k.toNatClampNeg b.toNatClampNeg else -1
set_option maxRecDepth 100000 in
set_option maxHeartbeats 4000000 in
theorem b_X12_multichains_0 {z : amZ} {post : amP} {G : amG} {I : amI} {L : amL} (hz : Go z cX12_multichains RX12 7 (some .long) 3 0 0 post) (hG : Lay G) {v1 : Int32} {v2 : Int32} {v3 : Int32} (h : (mOk L) ∧ ((m_isiv L v1 v2 = false) → post (some (.long (-1 : Int64))) G I L) ∧ ((m_isiv L v1 v2 = true) → ((m_isIn v3.toInt64 (0 : Int64) (30 : Int64) = true) → Wx z 0 0 33 [(0, .ref ((zB z).size + 64)), (2, .int v2), (3, .int v3), (4, .int 0)] [] G I (setL L 76 (wr (L 76) 0 16 (fun b => if nI b = v1 then 1 else 0)))) ∧ ((m_isIn v3.toInt64 (0 : Int64) (30 : Int64) = false) → post (some (.long (-1 : Int64))) G I L))) : Wx z 0 0 0 [(0, .ref ((zB z).size + 64)), (1, .int v1), (2, .int v2), (3, .int v3)] [] G I L := by
  have hz1 := hz.1
  refine am_aload_n hz1 dX12_multichains_0 0 rfl rfl ?_
  refine am_iload_n hz1 dX12_multichains_1 1 rfl rfl ?_
  refine am_iload_n hz1 dX12_multichains_2 2 rfl rfl ?_
  obtain ⟨g1, h⟩ := h
  refine am_cVf hz cv_X12_247 [.int v1, .int v2] [] (c_X12_isInterval hG v1 v2 g1) (ln_64 hG) (lk_64 hG) rfl rfl rfl ⟨Nat.le_refl _, Nat.le_refl _⟩ (Nat.le_of_ble_eq_true rfl) dX12_multichains_3 ?_
  refine am_ifb_eq (tgt := 21) hz1 dX12_multichains_6 (by decide) (fun c2 => ?_) (fun c2 => ?_)
  · replace h := h.1 c2
    refine am_ldc2 hz1 kc_X12_118 dX12_multichains_21 ?_
    exact am_lreturn hz dX12_multichains_24 h
  · replace h := h.2 c2
    refine am_iload_n hz1 dX12_multichains_9 3 rfl rfl ?_
    refine am_i2l hz1 dX12_multichains_10 ?_
    refine am_lconst (v := 0) hz1 dX12_multichains_11 (by decide) ?_
    refine am_ldc2 hz1 kc_X12_400 dX12_multichains_12 ?_
    refine am_cSf hz ct_X12_82 [.long v3.toInt64, .long (0 : Int64), .long (30 : Int64)] [] (c_X12_isIn hG v3.toInt64 (0 : Int64) (30 : Int64) ) rfl rfl rfl ⟨Nat.le_refl _, Nat.le_refl _⟩ (Nat.le_of_ble_eq_true rfl) dX12_multichains_15 ?_
    refine am_ifb_ne (tgt := 25) hz1 dX12_multichains_18 (by decide) (fun c3 => ?_) (fun c3 => ?_)
    · replace h := h.1 c3
      refine am_aload_n hz1 dX12_multichains_25 0 rfl rfl ?_
      refine am_iload_n hz1 dX12_multichains_26 1 rfl rfl ?_
      refine am_cVf hz cv_X12_361 [.int v1] [] (c_X12_startsFrom hG v1 ) (ln_64 hG) (lk_64 hG) rfl rfl rfl ⟨Nat.le_refl _, Nat.le_refl _⟩ (Nat.le_of_ble_eq_true rfl) dX12_multichains_27 ?_
      refine am_iconst (v := 0) hz1 dX12_multichains_30 (by decide) ?_
      refine am_istore (lv' := [(4, .int 0), (0, .ref ((zB z).size + 64)), (1, .int v1), (2, .int v2), (3, .int v3)]) hz1 dX12_multichains_31 rfl rfl ?_
      exact am_sub (lv' := [(0, .ref ((zB z).size + 64)), (2, .int v2), (3, .int v3), (4, .int 0)]) [1, 3, 4, 0] rfl h
    · replace h := h.2 c3
      refine am_ldc2 hz1 kc_X12_118 dX12_multichains_21 ?_
      exact am_lreturn hz dX12_multichains_24 h
set_option maxRecDepth 100000 in
set_option maxHeartbeats 4000000 in
theorem b_X12_multichains_33 {z : amZ} {post : amP} {G : amG} {I : amI} {L : amL} (hz : Go z cX12_multichains RX12 7 (some .long) 3 0 0 post) (hG : Lay G) {v2 : Int32} {v3 : Int32} {v4 : Int32} (h : ((v3 ≤ v4) → vp_in v2 16 ∧ post (some (.long (L 76 v2.toNatClampNeg))) G I L) ∧ ((¬ v3 ≤ v4) → Wx z 0 0 42 [(0, .ref ((zB z).size + 64)), (2, .int v2), (3, .int v3), (4, .int v4), (5, .int 0)] [] G I L)) : Wx z 0 0 33 [(0, .ref ((zB z).size + 64)), (2, .int v2), (3, .int v3), (4, .int v4)] [] G I L := by
  have hz1 := hz.1
  refine am_iload hz1 dX12_multichains_33 3 rfl ?_
  refine am_iload_n hz1 dX12_multichains_35 2 rfl rfl ?_
  refine am_icmp_ge (tgt := 153) hz1 dX12_multichains_36 (by decide) (fun c1 => ?_) (fun c1 => ?_)
  · replace h := h.1 c1
    refine am_aload_n hz1 dX12_multichains_153 0 rfl rfl ?_
    refine am_getR hz1 fl_X12_47 (ln_64 hG) (lk_64 hG) (lr_64_20 hG) rfl dX12_multichains_154 ?_
    refine am_iload_n hz1 dX12_multichains_157 1 rfl rfl ?_
    obtain ⟨g2, h⟩ := h
    refine am_lald hz1 (ln_76 hG) (lk_76 hG) (by rw [(ll_76 hG)]; exact g2) dX12_multichains_158 ?_
    exact am_lreturn hz dX12_multichains_159 h
  · replace h := h.2 c1
    refine am_iconst (v := 0) hz1 dX12_multichains_39 (by decide) ?_
    refine am_istore (lv' := [(5, .int 0), (0, .ref ((zB z).size + 64)), (2, .int v2), (3, .int v3), (4, .int v4)]) hz1 dX12_multichains_40 rfl rfl ?_
    exact am_sub (lv' := [(0, .ref ((zB z).size + 64)), (2, .int v2), (3, .int v3), (4, .int v4), (5, .int 0)]) [1, 2, 3, 4, 0] rfl h
set_option maxRecDepth 100000 in
set_option maxHeartbeats 4000000 in
theorem b_X12_multichains_42 {z : amZ} {post : amP} {G : amG} {I : amI} {L : amL} (hz : Go z cX12_multichains RX12 7 (some .long) 3 0 0 post) (hG : Lay G) {v2 : Int32} {v3 : Int32} {v4 : Int32} {v5 : Int32} (h : (((m_many L) ≤ v5) → Wx z 0 0 118 [(0, .ref ((zB z).size + 64)), (2, .int v2), (3, .int v3), (4, .int v4), (5, .int 0)] [] G I L) ∧ ((¬ (m_many L) ≤ v5) → vp_in v5 16 ∧ Wx z 0 0 62 [(0, .ref ((zB z).size + 64)), (2, .int v2), (3, .int v3), (4, .int v4), (5, .int v5), (6, .int 0)] [] G I (setL L 77 (vp_updL (L 77) v5.toNatClampNeg (0 : Int64))))) : Wx z 0 0 42 [(0, .ref ((zB z).size + 64)), (2, .int v2), (3, .int v3), (4, .int v4), (5, .int v5)] [] G I L := by
  have hz1 := hz.1
  refine am_iload hz1 dX12_multichains_42 4 rfl ?_
  refine am_aload_n hz1 dX12_multichains_44 0 rfl rfl ?_
  refine am_cVf hz cv_X12_78 [] [.int v5] (c_X12_many hG  ) (ln_64 hG) (lk_64 hG) rfl rfl rfl ⟨Nat.le_refl _, Nat.le_refl _⟩ (Nat.le_of_ble_eq_true rfl) dX12_multichains_45 ?_
  refine am_icmp_ge (tgt := 115) hz1 dX12_multichains_48 (by decide) (fun c1 => ?_) (fun c1 => ?_)
  · replace h := h.1 c1
    refine am_iconst (v := 0) hz1 dX12_multichains_115 (by decide) ?_
    refine am_istore (lv' := [(5, .int 0), (0, .ref ((zB z).size + 64)), (2, .int v2), (3, .int v3), (4, .int v4)]) hz1 dX12_multichains_116 rfl rfl ?_
    exact am_sub (lv' := [(0, .ref ((zB z).size + 64)), (2, .int v2), (3, .int v3), (4, .int v4), (5, .int 0)]) [1, 2, 3, 4, 0] rfl h
  · replace h := h.2 c1
    refine am_aload_n hz1 dX12_multichains_51 0 rfl rfl ?_
    refine am_getR hz1 fl_X12_50 (ln_64 hG) (lk_64 hG) (lr_64_21 hG) rfl dX12_multichains_52 ?_
    refine am_iload hz1 dX12_multichains_55 4 rfl ?_
    refine am_lconst (v := 0) hz1 dX12_multichains_57 (by decide) ?_
    obtain ⟨g2, h⟩ := h
    refine am_last hz1 (ln_77 hG) (lk_77 hG) (by rw [(ll_77 hG)]; exact g2) dX12_multichains_58 ?_
    refine am_iconst (v := 0) hz1 dX12_multichains_59 (by decide) ?_
    refine am_istore (lv' := [(6, .int 0), (0, .ref ((zB z).size + 64)), (2, .int v2), (3, .int v3), (4, .int v4), (5, .int v5)]) hz1 dX12_multichains_60 rfl rfl ?_
    exact am_sub (lv' := [(0, .ref ((zB z).size + 64)), (2, .int v2), (3, .int v3), (4, .int v4), (5, .int v5), (6, .int 0)]) [1, 2, 3, 4, 5, 0] rfl h
set_option maxRecDepth 100000 in
set_option maxHeartbeats 4000000 in
theorem b_X12_multichains_118 {z : amZ} {post : amP} {G : amG} {I : amI} {L : amL} (hz : Go z cX12_multichains RX12 7 (some .long) 3 0 0 post) (hG : Lay G) {v2 : Int32} {v3 : Int32} {v4 : Int32} {v5 : Int32} (h : (((m_many L) ≤ v5) → Wx z 0 0 33 [(0, .ref ((zB z).size + 64)), (2, .int v2), (3, .int v3), (4, .int (v4 + 1))] [] G I L) ∧ ((¬ (m_many L) ≤ v5) → vp_in v5 16 ∧ vp_in v5 16 ∧ Wx z 0 0 118 [(0, .ref ((zB z).size + 64)), (2, .int v2), (3, .int v3), (4, .int v4), (5, .int (v5 + 1))] [] G I (setL L 76 (vp_updL (L 76) v5.toNatClampNeg (L 77 v5.toNatClampNeg))))) : Wx z 0 0 118 [(0, .ref ((zB z).size + 64)), (2, .int v2), (3, .int v3), (4, .int v4), (5, .int v5)] [] G I L := by
  have hz1 := hz.1
  refine am_iload hz1 dX12_multichains_118 4 rfl ?_
  refine am_aload_n hz1 dX12_multichains_120 0 rfl rfl ?_
  refine am_cVf hz cv_X12_78 [] [.int v5] (c_X12_many hG  ) (ln_64 hG) (lk_64 hG) rfl rfl rfl ⟨Nat.le_refl _, Nat.le_refl _⟩ (Nat.le_of_ble_eq_true rfl) dX12_multichains_121 ?_
  refine am_icmp_ge (tgt := 147) hz1 dX12_multichains_124 (by decide) (fun c1 => ?_) (fun c1 => ?_)
  · replace h := h.1 c1
    refine am_iinc (v := v4 + 1) (lv' := [(4, .int (v4 + 1)), (0, .ref ((zB z).size + 64)), (2, .int v2), (3, .int v3), (5, .int v5)]) hz1 dX12_multichains_147 3 rfl rfl rfl rfl ?_
    refine am_goto (tgt := 33) hz1 dX12_multichains_150 (by decide) ?_
    exact am_sub (lv' := [(0, .ref ((zB z).size + 64)), (2, .int v2), (3, .int v3), (4, .int (v4 + 1))]) [1, 2, 3, 0] rfl h
  · replace h := h.2 c1
    refine am_aload_n hz1 dX12_multichains_127 0 rfl rfl ?_
    refine am_getR hz1 fl_X12_47 (ln_64 hG) (lk_64 hG) (lr_64_20 hG) rfl dX12_multichains_128 ?_
    refine am_iload hz1 dX12_multichains_131 4 rfl ?_
    refine am_aload_n hz1 dX12_multichains_133 0 rfl rfl ?_
    refine am_getR hz1 fl_X12_50 (ln_64 hG) (lk_64 hG) (lr_64_21 hG) rfl dX12_multichains_134 ?_
    refine am_iload hz1 dX12_multichains_137 4 rfl ?_
    obtain ⟨g2, h⟩ := h
    refine am_lald hz1 (ln_77 hG) (lk_77 hG) (by rw [(ll_77 hG)]; exact g2) dX12_multichains_139 ?_
    obtain ⟨g3, h⟩ := h
    refine am_last hz1 (ln_76 hG) (lk_76 hG) (by rw [(ll_76 hG)]; exact g3) dX12_multichains_140 ?_
    refine am_iinc (v := v5 + 1) (lv' := [(5, .int (v5 + 1)), (0, .ref ((zB z).size + 64)), (2, .int v2), (3, .int v3), (4, .int v4)]) hz1 dX12_multichains_141 4 rfl rfl rfl rfl ?_
    refine am_goto (tgt := 118) hz1 dX12_multichains_144 (by decide) ?_
    exact am_sub (lv' := [(0, .ref ((zB z).size + 64)), (2, .int v2), (3, .int v3), (4, .int v4), (5, .int (v5 + 1))]) [1, 2, 3, 4, 0] rfl h
set_option maxRecDepth 100000 in
set_option maxHeartbeats 4000000 in
theorem b_X12_multichains_62 {z : amZ} {post : amP} {G : amG} {I : amI} {L : amL} (hz : Go z cX12_multichains RX12 7 (some .long) 3 0 0 post) (hG : Lay G) {v2 : Int32} {v3 : Int32} {v4 : Int32} {v5 : Int32} {v6 : Int32} (h : (((m_many L) ≤ v6) → Wx z 0 0 42 [(0, .ref ((zB z).size + 64)), (2, .int v2), (3, .int v3), (4, .int v4), (5, .int (v5 + 1))] [] G I L) ∧ ((¬ (m_many L) ≤ v6) → vp_in v5 16 ∧ (vp_in v6 16) ∧ ((m_am L v6 v5 = false) → vp_in v5 16 ∧ Wx z 0 0 62 [(0, .ref ((zB z).size + 64)), (2, .int v2), (3, .int v3), (4, .int v4), (5, .int v5), (6, .int (v6 + 1))] [] G I (setL L 77 (vp_updL (L 77) v5.toNatClampNeg ((L 77 v5.toNatClampNeg) + (0 : Int64))))) ∧ ((m_am L v6 v5 = true) → vp_in v6 16 ∧ vp_in v5 16 ∧ Wx z 0 0 62 [(0, .ref ((zB z).size + 64)), (2, .int v2), (3, .int v3), (4, .int v4), (5, .int v5), (6, .int (v6 + 1))] [] G I (setL L 77 (vp_updL (L 77) v5.toNatClampNeg ((L 77 v5.toNatClampNeg) + (L 76 v6.toNatClampNeg))))))) : Wx z 0 0 62 [(0, .ref ((zB z).size + 64)), (2, .int v2), (3, .int v3), (4, .int v4), (5, .int v5), (6, .int v6)] [] G I L := by
  have hz1 := hz.1
  refine am_iload hz1 dX12_multichains_62 5 rfl ?_
  refine am_aload_n hz1 dX12_multichains_64 0 rfl rfl ?_
  refine am_cVf hz cv_X12_78 [] [.int v6] (c_X12_many hG  ) (ln_64 hG) (lk_64 hG) rfl rfl rfl ⟨Nat.le_refl _, Nat.le_refl _⟩ (Nat.le_of_ble_eq_true rfl) dX12_multichains_65 ?_
  refine am_icmp_ge (tgt := 109) hz1 dX12_multichains_68 (by decide) (fun c1 => ?_) (fun c1 => ?_)
  · replace h := h.1 c1
    refine am_iinc (v := v5 + 1) (lv' := [(5, .int (v5 + 1)), (0, .ref ((zB z).size + 64)), (2, .int v2), (3, .int v3), (4, .int v4), (6, .int v6)]) hz1 dX12_multichains_109 4 rfl rfl rfl rfl ?_
    refine am_goto (tgt := 42) hz1 dX12_multichains_112 (by decide) ?_
    exact am_sub (lv' := [(0, .ref ((zB z).size + 64)), (2, .int v2), (3, .int v3), (4, .int v4), (5, .int (v5 + 1))]) [1, 2, 3, 4, 0] rfl h
  · replace h := h.2 c1
    refine am_aload_n hz1 dX12_multichains_71 0 rfl rfl ?_
    refine am_getR hz1 fl_X12_50 (ln_64 hG) (lk_64 hG) (lr_64_21 hG) rfl dX12_multichains_72 ?_
    refine am_iload hz1 dX12_multichains_75 4 rfl ?_
    refine am_dup2 hz1 dX12_multichains_77 rfl rfl ?_
    obtain ⟨g2, h⟩ := h
    refine am_lald hz1 (ln_77 hG) (lk_77 hG) (by rw [(ll_77 hG)]; exact g2) dX12_multichains_78 ?_
    refine am_aload_n hz1 dX12_multichains_79 0 rfl rfl ?_
    refine am_iload hz1 dX12_multichains_80 5 rfl ?_
    refine am_iload hz1 dX12_multichains_82 4 rfl ?_
    obtain ⟨g3, h⟩ := h
    refine am_cVf hz cv_X12_94 [.int v6, .int v5] [.long (L 77 v5.toNatClampNeg), .int v5, .ref ((zB z).size + 77)] (c_X12_isAtMost hG v6 v5 g3) (ln_64 hG) (lk_64 hG) rfl rfl rfl ⟨Nat.le_refl _, Nat.le_refl _⟩ (Nat.le_of_ble_eq_true rfl) dX12_multichains_84 ?_
    refine am_ifb_eq (tgt := 100) hz1 dX12_multichains_87 (by decide) (fun c4 => ?_) (fun c4 => ?_)
    · replace h := h.1 c4
      refine am_lconst (v := 0) hz1 dX12_multichains_100 (by decide) ?_
      refine am_ladd hz1 dX12_multichains_101 ?_
      obtain ⟨g5, h⟩ := h
      refine am_last hz1 (ln_77 hG) (lk_77 hG) (by rw [(ll_77 hG)]; exact g5) dX12_multichains_102 ?_
      refine am_iinc (v := v6 + 1) (lv' := [(6, .int (v6 + 1)), (0, .ref ((zB z).size + 64)), (2, .int v2), (3, .int v3), (4, .int v4), (5, .int v5)]) hz1 dX12_multichains_103 5 rfl rfl rfl rfl ?_
      refine am_goto (tgt := 62) hz1 dX12_multichains_106 (by decide) ?_
      exact am_sub (lv' := [(0, .ref ((zB z).size + 64)), (2, .int v2), (3, .int v3), (4, .int v4), (5, .int v5), (6, .int (v6 + 1))]) [1, 2, 3, 4, 5, 0] rfl h
    · replace h := h.2 c4
      refine am_aload_n hz1 dX12_multichains_90 0 rfl rfl ?_
      refine am_getR hz1 fl_X12_47 (ln_64 hG) (lk_64 hG) (lr_64_20 hG) rfl dX12_multichains_91 ?_
      refine am_iload hz1 dX12_multichains_94 5 rfl ?_
      obtain ⟨g6, h⟩ := h
      refine am_lald hz1 (ln_76 hG) (lk_76 hG) (by rw [(ll_76 hG)]; exact g6) dX12_multichains_96 ?_
      refine am_goto (tgt := 101) hz1 dX12_multichains_97 (by decide) ?_
      refine am_ladd hz1 dX12_multichains_101 ?_
      obtain ⟨g7, h⟩ := h
      refine am_last hz1 (ln_77 hG) (lk_77 hG) (by rw [(ll_77 hG)]; exact g7) dX12_multichains_102 ?_
      refine am_iinc (v := v6 + 1) (lv' := [(6, .int (v6 + 1)), (0, .ref ((zB z).size + 64)), (2, .int v2), (3, .int v3), (4, .int v4), (5, .int v5)]) hz1 dX12_multichains_103 5 rfl rfl rfl rfl ?_
      refine am_goto (tgt := 62) hz1 dX12_multichains_106 (by decide) ?_
      exact am_sub (lv' := [(0, .ref ((zB z).size + 64)), (2, .int v2), (3, .int v3), (4, .int v4), (5, .int v5), (6, .int (v6 + 1))]) [1, 2, 3, 4, 5, 0] rfl h
set_option maxRecDepth 100000 in
set_option maxHeartbeats 4000000 in
theorem c_X12_multichains {l : Launch} {D : va_G} {B : Heap} {G : amG} {I : amI} {L : amL}  (hG : Lay G)  (v1 : Int32) (v2 : Int32) (v3 : Int32) {s : St} (hs : RI s I L) (hw : WF s) : Mx l D B yX12_multichains cX12_multichains 7 (some .long) 3 0 0 [.ref (B.size + 64), .int v1, .int v2, .int v3] G I L (fun r G1 I1 L1 => r = some (.long (aMulti s v1 v2 v3)) ∧ G1 = G ∧ RI s I1 L1 ∧ frM I L I1 L1) := by
  refine Mx.of (by decide) rfl rfl (fun z e1 e2 e3 hz => ?_)
  subst e1; subst e2; subst e3
  refine b_X12_multichains_0 hz hG ?_
  have hM := hs.1.mo
  have h16 := hM.2.1
  have hmO : mOk L := ⟨_, _, hM⟩
  rw [hM.isiv, isIn_R (k := 30) (by decide) (by decide)]
  refine ⟨hmO, fun h => ⟨by rw [aMulti, if_neg (by rw [h]; simp)], rfl, hs, frM_r⟩, fun h => ⟨fun h2 => ?_, fun h2 => ⟨by rw [aMulti, if_neg (by rw [h2]; simp)], rfl, hs, frM_r⟩⟩⟩
  obtain ⟨x, y, hx, hy, rfl, rfl, hl⟩ := (iv_t h16).mp h
  obtain ⟨k, hk, rfl⟩ := (inR_t (by decide)).mp h2
  generalize hn : rN (sC s) = n at *
  generalize hA : rA (sC s) = A at *
  have fin : ∀ L1, chnF L L1 → L1 76 y = wayM n (le A) x k y → some (Value.long (L1 76 (nI y).toNatClampNeg)) = some (Value.long (aMulti s (nI x) (nI y) (nI k))) := by
    intro L1 _ e
    rw [aMulti, hn, hA, if_pos (by rw [h, h2]; rfl), cl_nI (by omega), cl_nI (by omega), cl_nI (by omega), e]
  have main : ∀ L1, chnF L L1 → (∀ b, b < n → L1 76 b = wayM n (le A) x 0 b) → Wx z 0 0 33 [(0, .ref ((zB z).size + 64)), (2, .int (nI y)), (3, .int (nI k)), (4, .int (nI 0))] [] G I L1 := by
    refine for_up (P := fun i => ∀ L1, chnF L L1 → (∀ b, b < n → L1 76 b = wayM n (le A) x i b) → Wx z 0 0 33 [(0, .ref ((zB z).size + 64)), (2, .int (nI y)), (3, .int (nI k)), (4, .int (nI i))] [] G I L1) (n := k) ?_ ?_ (Nat.zero_le _)
    · intro L1 hc hb
      exact b_X12_multichains_33 hz hG ⟨fun _ => ⟨in16 h16 hy, fin L1 hc (hb y hy), rfl, chn_RI hs hc, chn_fr hc⟩, fun q => absurd (nI_le (Nat.le_refl _) (by omega)) q⟩
    · intro i hi ih L1 hc hb
      have hO : MO L1 n A := MO_c hM (hc 65 (by decide) (by decide))
      refine b_X12_multichains_33 hz hG ⟨fun q => absurd q (nI_ge hi (by omega)), fun _ => ?_⟩
      have hO7 : ∀ f, MO (setL L1 77 f) n A := fun f => MO_72 hO (by decide)
      have c7 : ∀ f, chnF L (setL L1 77 f) := fun f q h1 h2 => by rw [setL_n h2, hc q h1 h2]
      have rows := for_up (P := fun b => ∀ f : Nat → Int64, (∀ w, w < b → f w = wayM n (le A) x (i + 1) w) → Wx z 0 0 42 [(0, .ref ((zB z).size + 64)), (2, .int (nI y)), (3, .int (nI k)), (4, .int (nI i)), (5, .int (nI b))] [] G I (setL L1 77 f)) (n := n) ?_ ?_ (Nat.zero_le _) (L1 77) (fun w hw => absurd hw (Nat.not_lt_zero _))
      · rw [setL_id] at rows
        exact rows
      · intro f hf
        refine b_X12_multichains_42 hz hG ⟨fun _ => ?_, fun q => absurd (mm_le (hO7 f)) q⟩
        have c77 : ∀ g, chnF L (setL (setL L1 77 f) 76 g) := fun g q h1 h2 => by rw [setL_n h1, setL_n h2, hc q h1 h2]
        have cp := for_up (P := fun b => ∀ g : Nat → Int64, (∀ w, w < b → g w = wayM n (le A) x (i + 1) w) → Wx z 0 0 118 [(0, .ref ((zB z).size + 64)), (2, .int (nI y)), (3, .int (nI k)), (4, .int (nI i)), (5, .int (nI b))] [] G I (setL (setL L1 77 f) 76 g)) (n := n) ?_ ?_ (Nat.zero_le _) (setL L1 77 f 76) (fun w hw => absurd hw (Nat.not_lt_zero _))
        · rw [setL_id] at cp
          exact cp
        · intro g hg
          refine b_X12_multichains_118 hz hG ⟨fun _ => ?_, fun q => absurd (mm_le (MO_72 (hO7 f) (by decide))) q⟩
          rw [nI_1]
          exact ih _ (c77 g) (fun b hb => by rw [setL_s]; exact hg b hb)
        · intro b hb bh g hg
          refine b_X12_multichains_118 hz hG ⟨fun q => absurd q (mm_ge (MO_72 (hO7 f) (by decide)) hb), fun _ => ⟨in16 h16 hb, in16 h16 hb, ?_⟩⟩
          rw [setL_ss, setL_s, setL_n (q := 77) (by decide), setL_s, cl_nI (by omega), nI_1]
          refine bh _ (fun w hw => ?_)
          by_cases e : w = b
          · subst e; rw [updL_s, hf w hb]
          · rw [updL_n e]; exact hg w (by omega)
      · intro b hb bh f hf
        refine b_X12_multichains_42 hz hG ⟨fun q => absurd q (mm_ge (hO7 f) hb), fun _ => ⟨in16 h16 hb, ?_⟩⟩
        rw [setL_ss, setL_s, cl_nI (by omega)]
        refine for_up (P := fun a => Wx z 0 0 62 [(0, .ref ((zB z).size + 64)), (2, .int (nI y)), (3, .int (nI k)), (4, .int (nI i)), (5, .int (nI b)), (6, .int (nI a))] [] G I (setL L1 77 (vp_updL f b (sumC (fun w => le A w b) (wayM n (le A) x i) a)))) (n := n) ?_ ?_ (Nat.zero_le _)
        · refine b_X12_multichains_62 hz hG ⟨fun _ => ?_, fun q => absurd (mm_le (hO7 _)) q⟩
          rw [nI_1]
          refine bh _ (fun w hw => ?_)
          by_cases e : w = b
          · subst e; rw [updL_s]; rfl
          · rw [updL_n e]; exact hf w (by omega)
        · intro a ha ah
          refine b_X12_multichains_62 hz hG ⟨fun q => absurd q (mm_ge (hO7 _) ha), fun _ => ⟨in16 h16 hb, in16 h16 ha, fun q => ⟨in16 h16 hb, ?_⟩, fun q => ⟨in16 h16 ha, in16 h16 hb, ?_⟩⟩⟩
          · rw [(hO7 _).am ha (by omega)] at q
            rw [sumC, if_neg (by rw [q]; decide)] at ah
            rw [setL_ss, setL_s, cl_nI (by omega), updL_s, updL_u, Int64.add_zero, nI_1]
            exact ah
          · rw [(hO7 _).am ha (by omega)] at q
            rw [sumC, if_pos q] at ah
            rw [setL_ss, setL_s, setL_n (q := 76) (by decide), cl_nI (n := b) (by omega), cl_nI (n := a) (by omega), updL_s, updL_u, hb |> fun _ => ‹∀ b, b < n → L1 76 b = wayM n (le A) x i b› a ha, nI_1]
            exact ah
  refine main _ (fun q h1 h2 => setL_n h1) (fun b hb => ?_)
  rw [setL_s, wr_in (by omega), Nat.sub_zero]
  show (if nI b = nI x then (1 : Int64) else 0) = if b = x then 1 else 0
  by_cases e : b = x
  · rw [if_pos e, if_pos (by rw [e])]
  · rw [if_neg e, if_neg (fun q => e ((nI_eq (by omega) (by omega)).mp q))]
def aMoeb (s : St) (a b w : Int32) : Int64 :=
  if ivB (rN (sC s)) (rA (sC s)) a b = true then
    (if w = 0 then mu (rN (sC s)) (rA (sC s)) a.toNatClampNeg b.toNatClampNeg else if w = 1 then nu (rN (sC s)) (rA (sC s)) b.toNatClampNeg a.toNatClampNeg else if w = 2 then altM (rN (sC s)) (fun y x => bt (rA (sC s) y) x) a.toNatClampNeg b.toNatClampNeg 16 else if w = 3 then (if arM (rN (sC s)) (rA (sC s)) (ivS (rN (sC s)) (rA (sC s)) a.toNatClampNeg b.toNatClampNeg) = true then ccX (rN (sC s)) (rA (sC s)) a.toNatClampNeg b.toNatClampNeg else -9223372036854775808) else -9223372036854775808)
  else -9223372036854775808
set_option maxRecDepth 100000 in
set_option maxHeartbeats 4000000 in
theorem b_X12_moebius_0 {z : amZ} {post : amP} {G : amG} {I : amI} {L : amL} (hz : Go z cX12_moebius RX12 4 (some .long) 8 0 0 post) (hG : Lay G) {v1 : Int32} {v2 : Int32} {v3 : Int32} (h : (mOk L) ∧ ((m_isiv L v1 v2 = true) → (v3 = 0 → ∃ (dq4 : Nat) (postq4 : amP), Nat.ble (dq4 + 1) 8 = true ∧ Mx (zL z) (zD z) (zB z) yX12_fromBelow cX12_fromBelow 3 (some .long) dq4 0 0 [.ref ((zB z).size + 64), .int v1, .int v2] G I L postq4 ∧ ∀ (roq4 : Option Value) (Gq4 : amG) (Iq4 : amI) (Lq4 : amL), postq4 roq4 Gq4 Iq4 Lq4 → ∃ (rq4 : Int64), roq4 = some (.long rq4) ∧ Lay Gq4 ∧ post (some (.long rq4)) Gq4 Iq4 Lq4) ∧ (v3 = 1 → ∃ (dq5 : Nat) (postq5 : amP), Nat.ble (dq5 + 1) 8 = true ∧ Mx (zL z) (zD z) (zB z) yX12_fromAbove cX12_fromAbove 8 (some .long) dq5 0 0 [.ref ((zB z).size + 64), .int v1, .int v2] G I L postq5 ∧ ∀ (roq5 : Option Value) (Gq5 : amG) (Iq5 : amI) (Lq5 : amL), postq5 roq5 Gq5 Iq5 Lq5 → ∃ (rq5 : Int64), roq5 = some (.long rq5) ∧ Lay Gq5 ∧ post (some (.long rq5)) Gq5 Iq5 Lq5) ∧ (v3 = 2 → ∃ (dq6 : Nat) (postq6 : amP), Nat.ble (dq6 + 1) 8 = true ∧ Mx (zL z) (zD z) (zB z) yX12_byChains cX12_byChains 6 (some .long) dq6 0 0 [.ref ((zB z).size + 64), .int v1, .int v2] G I L postq6 ∧ ∀ (roq6 : Option Value) (Gq6 : amG) (Iq6 : amI) (Lq6 : amL), postq6 roq6 Gq6 Iq6 Lq6 → ∃ (rq6 : Int64), roq6 = some (.long rq6) ∧ Lay Gq6 ∧ post (some (.long rq6)) Gq6 Iq6 Lq6) ∧ (v3 = 3 → ∃ (dq7 : Nat) (postq7 : amP), Nat.ble (dq7 + 1) 8 = true ∧ Mx (zL z) (zD z) (zB z) yX12_byCrossCut cX12_byCrossCut 8 (some .long) dq7 0 0 [.ref ((zB z).size + 64), .int v1, .int v2] G I L postq7 ∧ ∀ (roq7 : Option Value) (Gq7 : amG) (Iq7 : amI) (Lq7 : amL), postq7 roq7 Gq7 Iq7 Lq7 → ∃ (rq7 : Int64), roq7 = some (.long rq7) ∧ Lay Gq7 ∧ post (some (.long rq7)) Gq7 Iq7 Lq7) ∧ ((v3 < 0 ∨ 3 < v3) → post (some (.long (-9223372036854775808 : Int64))) G I L)) ∧ ((m_isiv L v1 v2 = false) → post (some (.long (-9223372036854775808 : Int64))) G I L)) : Wx z 0 0 0 [(0, .ref ((zB z).size + 64)), (1, .int v1), (2, .int v2), (3, .int v3)] [] G I L := by
  have hz1 := hz.1
  refine am_aload_n hz1 dX12_moebius_0 0 rfl rfl ?_
  refine am_iload_n hz1 dX12_moebius_1 1 rfl rfl ?_
  refine am_iload_n hz1 dX12_moebius_2 2 rfl rfl ?_
  obtain ⟨g1, h⟩ := h
  refine am_cVf hz cv_X12_247 [.int v1, .int v2] [] (c_X12_isInterval hG v1 v2 g1) (ln_64 hG) (lk_64 hG) rfl rfl rfl ⟨Nat.le_refl _, Nat.le_refl _⟩ (Nat.le_of_ble_eq_true rfl) dX12_moebius_3 ?_
  refine am_ifb_ne (tgt := 13) hz1 dX12_moebius_6 (by decide) (fun c2 => ?_) (fun c2 => ?_)
  · replace h := h.1 c2
    refine am_iload_n hz1 dX12_moebius_13 3 rfl rfl ?_
    by_cases c3_0 : v3 = 0
    · replace h := h.1 c3_0
      refine am_tabI (off := 30) (tgt := 44) hz1 0 dX12_moebius_14 c3_0 (by decide) (by decide) rfl (by decide) ?_
      refine am_aload_n hz1 dX12_moebius_44 0 rfl rfl ?_
      refine am_iload_n hz1 dX12_moebius_45 1 rfl rfl ?_
      refine am_iload_n hz1 dX12_moebius_46 2 rfl rfl ?_
      obtain ⟨dq4, postq4, hdq4, hMq4, h⟩ := h
      refine am_callV hz1 cv_X12_388 [.int v1, .int v2] [] hMq4 (ln_64 hG) (lk_64 hG) rfl rfl (hz.fr hdq4) (hz.lo hdq4) (by rw [hz.2.1]; exact ⟨Nat.le_refl _, Nat.le_refl _⟩) (Nat.le_of_ble_eq_true rfl) dX12_moebius_47 (fun roq4 Gq4 Iq4 Lq4 hpq4 => ?_)
      obtain ⟨rq4, rfl, hGq4, h⟩ := h roq4 Gq4 Iq4 Lq4 hpq4
      exact am_lreturn hz dX12_moebius_50 h
    by_cases c3_1 : v3 = 1
    · replace h := h.2.1 c3_1
      refine am_tabI (off := 37) (tgt := 51) hz1 1 dX12_moebius_14 c3_1 (by decide) (by decide) rfl (by decide) ?_
      refine am_aload_n hz1 dX12_moebius_51 0 rfl rfl ?_
      refine am_iload_n hz1 dX12_moebius_52 1 rfl rfl ?_
      refine am_iload_n hz1 dX12_moebius_53 2 rfl rfl ?_
      obtain ⟨dq5, postq5, hdq5, hMq5, h⟩ := h
      refine am_callV hz1 cv_X12_391 [.int v1, .int v2] [] hMq5 (ln_64 hG) (lk_64 hG) rfl rfl (hz.fr hdq5) (hz.lo hdq5) (by rw [hz.2.1]; exact ⟨Nat.le_refl _, Nat.le_refl _⟩) (Nat.le_of_ble_eq_true rfl) dX12_moebius_54 (fun roq5 Gq5 Iq5 Lq5 hpq5 => ?_)
      obtain ⟨rq5, rfl, hGq5, h⟩ := h roq5 Gq5 Iq5 Lq5 hpq5
      exact am_lreturn hz dX12_moebius_57 h
    by_cases c3_2 : v3 = 2
    · replace h := h.2.2.1 c3_2
      refine am_tabI (off := 44) (tgt := 58) hz1 2 dX12_moebius_14 c3_2 (by decide) (by decide) rfl (by decide) ?_
      refine am_aload_n hz1 dX12_moebius_58 0 rfl rfl ?_
      refine am_iload_n hz1 dX12_moebius_59 1 rfl rfl ?_
      refine am_iload_n hz1 dX12_moebius_60 2 rfl rfl ?_
      obtain ⟨dq6, postq6, hdq6, hMq6, h⟩ := h
      refine am_callV hz1 cv_X12_394 [.int v1, .int v2] [] hMq6 (ln_64 hG) (lk_64 hG) rfl rfl (hz.fr hdq6) (hz.lo hdq6) (by rw [hz.2.1]; exact ⟨Nat.le_refl _, Nat.le_refl _⟩) (Nat.le_of_ble_eq_true rfl) dX12_moebius_61 (fun roq6 Gq6 Iq6 Lq6 hpq6 => ?_)
      obtain ⟨rq6, rfl, hGq6, h⟩ := h roq6 Gq6 Iq6 Lq6 hpq6
      exact am_lreturn hz dX12_moebius_64 h
    by_cases c3_3 : v3 = 3
    · replace h := h.2.2.2.1 c3_3
      refine am_tabI (off := 51) (tgt := 65) hz1 3 dX12_moebius_14 c3_3 (by decide) (by decide) rfl (by decide) ?_
      refine am_aload_n hz1 dX12_moebius_65 0 rfl rfl ?_
      refine am_iload_n hz1 dX12_moebius_66 1 rfl rfl ?_
      refine am_iload_n hz1 dX12_moebius_67 2 rfl rfl ?_
      obtain ⟨dq7, postq7, hdq7, hMq7, h⟩ := h
      refine am_callV hz1 cv_X12_397 [.int v1, .int v2] [] hMq7 (ln_64 hG) (lk_64 hG) rfl rfl (hz.fr hdq7) (hz.lo hdq7) (by rw [hz.2.1]; exact ⟨Nat.le_refl _, Nat.le_refl _⟩) (Nat.le_of_ble_eq_true rfl) dX12_moebius_68 (fun roq7 Gq7 Iq7 Lq7 hpq7 => ?_)
      obtain ⟨rq7, rfl, hGq7, h⟩ := h roq7 Gq7 Iq7 Lq7 hpq7
      exact am_lreturn hz dX12_moebius_71 h
    have c3 : v3 < 0 ∨ 3 < v3 := tabx_4_0 c3_0 c3_1 c3_2 c3_3
    replace h := h.2.2.2.2 c3
    refine am_tabO (tgt := 72) hz1 dX12_moebius_14 (c3.elim (fun e => Or.inl (tab_lt 0 rfl e)) (fun e => Or.inr (tab_gt 3 rfl e))) (by decide) ?_
    refine am_ldc2 hz1 kc_X12_269 dX12_moebius_72 ?_
    exact am_lreturn hz dX12_moebius_75 h
  · replace h := h.2 c2
    refine am_ldc2 hz1 kc_X12_269 dX12_moebius_9 ?_
    exact am_lreturn hz dX12_moebius_12 h
set_option maxRecDepth 100000 in
set_option maxHeartbeats 4000000 in
theorem c_X12_moebius {l : Launch} {D : va_G} {B : Heap} {G : amG} {I : amI} {L : amL}  (hG : Lay G)  (v1 : Int32) (v2 : Int32) (v3 : Int32) {s : St} (hs : RI s I L) (hw : WF s) : Mx l D B yX12_moebius cX12_moebius 4 (some .long) 8 0 0 [.ref (B.size + 64), .int v1, .int v2, .int v3] G I L (fun r G1 I1 L1 => r = some (.long (aMoeb s v1 v2 v3)) ∧ G1 = G ∧ RI s I1 L1 ∧ frM I L I1 L1) := by
  refine Mx.of (by decide) rfl rfl (fun z e1 e2 e3 hz => ?_)
  subst e1; subst e2; subst e3
  refine b_X12_moebius_0 hz hG ?_
  have hM := hs.1.mo
  have h16 := hM.2.1
  have hmO : mOk L := ⟨_, _, hM⟩
  rw [hM.isiv]
  refine ⟨hmO, fun h => ?_, fun h => ⟨by rw [aMoeb, if_neg (by rw [h]; decide)], rfl, hs, frM_r⟩⟩
  obtain ⟨x, y, hx, hy, rfl, rfl, hl⟩ := (iv_t h16).mp h
  have ex : (nI x).toNatClampNeg = x := cl_nI (by omega)
  have ey : (nI y).toNatClampNeg = y := cl_nI (by omega)
  refine ⟨fun q => ?_, fun q => ?_, fun q => ?_, fun q => ?_, fun q => ⟨?_, rfl, hs, frM_r⟩⟩
  · subst q
    exact ⟨6, _, rfl, c_X12_fromBelow hG _ _ hM hx hy hl rfl rfl, fun ro G2 I2 L2 ⟨e1, e2, e3, f, e4⟩ => ⟨_, e1, by rw [e2]; exact hG, by rw [aMoeb, if_pos h, if_pos rfl, ex, ey], e2, by rw [e3, e4]; exact RI_L hs (setL_n (by decide)) (setL_n (by decide)), by rw [e3, e4]; exact frM_L (by decide) (by decide)⟩⟩
  · subst q
    exact ⟨4, _, rfl, c_X12_fromAbove hG _ _ hM hx hy hl rfl rfl, fun ro G2 I2 L2 ⟨e1, e2, e3, f, e4⟩ => ⟨_, e1, by rw [e2]; exact hG, by rw [aMoeb, if_pos h, if_neg (by decide), if_pos rfl, ex, ey], e2, by rw [e3, e4]; exact RI_L hs (setL_n (by decide)) (setL_n (by decide)), by rw [e3, e4]; exact frM_L (by decide) (by decide)⟩⟩
  · subst q
    exact ⟨7, _, rfl, c_X12_byChains hG _ _ hM hx hy rfl rfl, fun ro G2 I2 L2 ⟨e1, e2, e3, e4⟩ => ⟨_, e1, by rw [e2]; exact hG, by rw [aMoeb, if_pos h, if_neg (by decide), if_neg (by decide), if_pos rfl, ex, ey], e2, by rw [e3]; exact chn_RI hs e4, by rw [e3]; exact chn_fr e4⟩⟩
  · subst q
    exact ⟨6, _, rfl, c_X12_byCrossCut hG _ _ hM hx hy hl rfl rfl, fun ro G2 I2 L2 ⟨e1, e2, e3, e4⟩ => ⟨_, e1, by rw [e2]; exact hG, by rw [aMoeb, if_pos h, ex, ey]; rfl, e2, by rw [e3, e4]; exact hs, by rw [e3, e4]; exact frM_r⟩⟩
  · have e : ∀ k : Int32, 0 ≤ k ∧ k ≤ 3 → v3 ≠ k := by
      rintro k ⟨k1, k2⟩ rfl
      rcases q with q | q
      · rw [Int32.lt_iff_toInt_lt] at q; rw [Int32.le_iff_toInt_le] at k1; omega
      · rw [Int32.lt_iff_toInt_lt] at q; rw [Int32.le_iff_toInt_le] at k2; omega
    rw [aMoeb, if_pos h, if_neg (e 0 (by decide)), if_neg (e 1 (by decide)), if_neg (e 2 (by decide)), if_neg (e 3 (by decide))]
def aSets (s : St) (w k : Int32) : Int64 := if w = 0 then dsC (rN (sC s)) (rA (sC s)) (-1) else if w = 1 then eF (rN (sC s)) (rA (sC s)) (rN (sC s)) (fun _ => true) else if w = 2 then (if inR (rN (sC s)) k = true then dsC (rN (sC s)) (rA (sC s)) k else -1) else -1
set_option maxRecDepth 100000 in
set_option maxHeartbeats 4000000 in
theorem b_X12_sets_0 {z : amZ} {post : amP} {G : amG} {I : amI} {L : amL} (hz : Go z cX12_sets RX12 3 (some .long) 5 0 0 post) (hG : Lay G) {v1 : Int32} {v2 : Int32} (h : (v1 = 0 → ∃ (dq2 : Nat) (postq2 : amP), Nat.ble (dq2 + 1) 5 = true ∧ Mx (zL z) (zD z) (zB z) yX12_downSets cX12_downSets 5 (some .long) dq2 0 0 [.ref ((zB z).size + 64), .int (-1)] G I L postq2 ∧ ∀ (roq2 : Option Value) (Gq2 : amG) (Iq2 : amI) (Lq2 : amL), postq2 roq2 Gq2 Iq2 Lq2 → ∃ (rq2 : Int64), roq2 = some (.long rq2) ∧ Lay Gq2 ∧ post (some (.long rq2)) Gq2 Iq2 Lq2) ∧ (v1 = 1 → ∃ (dq3 : Nat) (postq3 : amP), Nat.ble (dq3 + 1) 5 = true ∧ Mx (zL z) (zD z) (zB z) yX12_extensions cX12_extensions 3 (some .long) dq3 0 0 [.ref ((zB z).size + 64)] G I L postq3 ∧ ∀ (roq3 : Option Value) (Gq3 : amG) (Iq3 : amI) (Lq3 : amL), postq3 roq3 Gq3 Iq3 Lq3 → ∃ (rq3 : Int64), roq3 = some (.long rq3) ∧ Lay Gq3 ∧ post (some (.long rq3)) Gq3 Iq3 Lq3) ∧ (v1 = 2 → ((m_isIn v2.toInt64 (0 : Int64) ((m_many L).toInt64) = false) → post (some (.long (-1 : Int64))) G I L) ∧ ((m_isIn v2.toInt64 (0 : Int64) ((m_many L).toInt64) = true) → ∃ (dq5 : Nat) (postq5 : amP), Nat.ble (dq5 + 1) 5 = true ∧ Mx (zL z) (zD z) (zB z) yX12_downSets cX12_downSets 5 (some .long) dq5 0 0 [.ref ((zB z).size + 64), .int v2] G I L postq5 ∧ ∀ (roq5 : Option Value) (Gq5 : amG) (Iq5 : amI) (Lq5 : amL), postq5 roq5 Gq5 Iq5 Lq5 → ∃ (rq5 : Int64), roq5 = some (.long rq5) ∧ Lay Gq5 ∧ post (some (.long rq5)) Gq5 Iq5 Lq5)) ∧ ((v1 < 0 ∨ 2 < v1) → post (some (.long (-1 : Int64))) G I L)) : Wx z 0 0 0 [(0, .ref ((zB z).size + 64)), (1, .int v1), (2, .int v2)] [] G I L := by
  have hz1 := hz.1
  refine am_iload_n hz1 dX12_sets_0 1 rfl rfl ?_
  by_cases c1_0 : v1 = 0
  · replace h := h.1 c1_0
    refine am_tabI (off := 27) (tgt := 28) hz1 0 dX12_sets_1 c1_0 (by decide) (by decide) rfl (by decide) ?_
    refine am_aload_n hz1 dX12_sets_28 0 rfl rfl ?_
    refine am_iconst (v := (-1)) hz1 dX12_sets_29 (by decide) ?_
    obtain ⟨dq2, postq2, hdq2, hMq2, h⟩ := h
    refine am_callV hz1 cv_X12_408 [.int (-1)] [] hMq2 (ln_64 hG) (lk_64 hG) rfl rfl (hz.fr hdq2) (hz.lo hdq2) (by rw [hz.2.1]; exact ⟨Nat.le_refl _, Nat.le_refl _⟩) (Nat.le_of_ble_eq_true rfl) dX12_sets_30 (fun roq2 Gq2 Iq2 Lq2 hpq2 => ?_)
    obtain ⟨rq2, rfl, hGq2, h⟩ := h roq2 Gq2 Iq2 Lq2 hpq2
    exact am_lreturn hz dX12_sets_33 h
  by_cases c1_1 : v1 = 1
  · replace h := h.2.1 c1_1
    refine am_tabI (off := 33) (tgt := 34) hz1 1 dX12_sets_1 c1_1 (by decide) (by decide) rfl (by decide) ?_
    refine am_aload_n hz1 dX12_sets_34 0 rfl rfl ?_
    obtain ⟨dq3, postq3, hdq3, hMq3, h⟩ := h
    refine am_callV hz1 cv_X12_412 [] [] hMq3 (ln_64 hG) (lk_64 hG) rfl rfl (hz.fr hdq3) (hz.lo hdq3) (by rw [hz.2.1]; exact ⟨Nat.le_refl _, Nat.le_refl _⟩) (Nat.le_of_ble_eq_true rfl) dX12_sets_35 (fun roq3 Gq3 Iq3 Lq3 hpq3 => ?_)
    obtain ⟨rq3, rfl, hGq3, h⟩ := h roq3 Gq3 Iq3 Lq3 hpq3
    exact am_lreturn hz dX12_sets_38 h
  by_cases c1_2 : v1 = 2
  · replace h := h.2.2.1 c1_2
    refine am_tabI (off := 38) (tgt := 39) hz1 2 dX12_sets_1 c1_2 (by decide) (by decide) rfl (by decide) ?_
    refine am_iload_n hz1 dX12_sets_39 2 rfl rfl ?_
    refine am_i2l hz1 dX12_sets_40 ?_
    refine am_lconst (v := 0) hz1 dX12_sets_41 (by decide) ?_
    refine am_aload_n hz1 dX12_sets_42 0 rfl rfl ?_
    refine am_cVf hz cv_X12_78 [] [.long (0 : Int64), .long v2.toInt64] (c_X12_many hG  ) (ln_64 hG) (lk_64 hG) rfl rfl rfl ⟨Nat.le_refl _, Nat.le_refl _⟩ (Nat.le_of_ble_eq_true rfl) dX12_sets_43 ?_
    refine am_i2l hz1 dX12_sets_46 ?_
    refine am_cSf hz ct_X12_82 [.long v2.toInt64, .long (0 : Int64), .long ((m_many L).toInt64)] [] (c_X12_isIn hG v2.toInt64 (0 : Int64) ((m_many L).toInt64) ) rfl rfl rfl ⟨Nat.le_refl _, Nat.le_refl _⟩ (Nat.le_of_ble_eq_true rfl) dX12_sets_47 ?_
    refine am_ifb_eq (tgt := 61) hz1 dX12_sets_50 (by decide) (fun c4 => ?_) (fun c4 => ?_)
    · replace h := h.1 c4
      refine am_ldc2 hz1 kc_X12_118 dX12_sets_61 ?_
      exact am_lreturn hz dX12_sets_64 h
    · replace h := h.2 c4
      refine am_aload_n hz1 dX12_sets_53 0 rfl rfl ?_
      refine am_iload_n hz1 dX12_sets_54 2 rfl rfl ?_
      obtain ⟨dq5, postq5, hdq5, hMq5, h⟩ := h
      refine am_callV hz1 cv_X12_408 [.int v2] [] hMq5 (ln_64 hG) (lk_64 hG) rfl rfl (hz.fr hdq5) (hz.lo hdq5) (by rw [hz.2.1]; exact ⟨Nat.le_refl _, Nat.le_refl _⟩) (Nat.le_of_ble_eq_true rfl) dX12_sets_55 (fun roq5 Gq5 Iq5 Lq5 hpq5 => ?_)
      obtain ⟨rq5, rfl, hGq5, h⟩ := h roq5 Gq5 Iq5 Lq5 hpq5
      refine am_goto (tgt := 64) hz1 dX12_sets_58 (by decide) ?_
      exact am_lreturn hz dX12_sets_64 h
  have c1 : v1 < 0 ∨ 2 < v1 := tabx_3_0 c1_0 c1_1 c1_2
  replace h := h.2.2.2 c1
  refine am_tabO (tgt := 65) hz1 dX12_sets_1 (c1.elim (fun e => Or.inl (tab_lt 0 rfl e)) (fun e => Or.inr (tab_gt 2 rfl e))) (by decide) ?_
  refine am_ldc2 hz1 kc_X12_118 dX12_sets_65 ?_
  exact am_lreturn hz dX12_sets_68 h
set_option maxRecDepth 100000 in
set_option maxHeartbeats 4000000 in
theorem c_X12_sets {l : Launch} {D : va_G} {B : Heap} {G : amG} {I : amI} {L : amL}  (hG : Lay G)  (v1 : Int32) (v2 : Int32) {s : St} (hs : RI s I L) (hw : WF s) : Mx l D B yX12_sets cX12_sets 3 (some .long) 5 0 0 [.ref (B.size + 64), .int v1, .int v2] G I L (fun r G1 I1 L1 => r = some (.long (aSets s v1 v2)) ∧ G1 = G ∧ RI s I1 L1 ∧ frM I L I1 L1) := by
  refine Mx.of (by decide) rfl rfl (fun z e1 e2 e3 hz => ?_)
  subst e1; subst e2; subst e3
  refine b_X12_sets_0 hz hG ?_
  have hM := hs.1.mo
  have h16 := hM.2.1
  refine ⟨fun q => ?_, fun q => ?_, fun q => ?_, fun q => ⟨?_, rfl, hs, frM_r⟩⟩
  · subst q
    exact ⟨4, _, rfl, c_X12_downSets hG _ hM, fun ro G2 I2 L2 ⟨e1, e2, e3, f, e4⟩ => ⟨_, e1, by rw [e2]; exact hG, by rw [aSets, if_pos rfl], e2, by rw [e3, e4]; exact RI_I hs (by decide) (by decide) (by decide), by rw [e3, e4]; exact frM_I (by decide) (by decide)⟩⟩
  · subst q
    refine ⟨4, _, rfl, c_X12_extensions hG hM, fun ro G2 I2 L2 ⟨e1, e2, ⟨f, e3⟩, g, e4⟩ => ⟨_, e1, by rw [e2]; exact hG, by rw [aSets, if_neg (by decide), if_pos rfl], e2, ?_, ?_⟩⟩
    · rw [e3, e4]; exact RI_L (RI_I hs (by decide) (by decide) (by decide)) (setL_n (by decide)) (setL_n (by decide))
    · rw [e3, e4]; exact frM_t (frM_I (by decide) (by decide)) (frM_L (by decide) (by decide))
  · subst q
    rw [isIn_R (k := rN (sC s)) (by omega) (by rw [hM.many, Int32.toInt_toInt64, nI_toInt (by omega)])]
    refine ⟨fun h => ⟨by rw [aSets, if_neg (by decide), if_neg (by decide), if_pos rfl, if_neg (by rw [h]; decide)], rfl, hs, frM_r⟩, fun h => ?_⟩
    exact ⟨4, _, rfl, c_X12_downSets hG _ hM, fun ro G2 I2 L2 ⟨e1, e2, e3, f, e4⟩ => ⟨_, e1, by rw [e2]; exact hG, by rw [aSets, if_neg (by decide), if_neg (by decide), if_pos rfl, if_pos h], e2, by rw [e3, e4]; exact RI_I hs (by decide) (by decide) (by decide), by rw [e3, e4]; exact frM_I (by decide) (by decide)⟩⟩
  · have e : ∀ k : Int32, 0 ≤ k ∧ k ≤ 2 → v1 ≠ k := by
      rintro k ⟨k1, k2⟩ rfl
      rcases q with q | q
      · rw [Int32.lt_iff_toInt_lt] at q; rw [Int32.le_iff_toInt_le] at k1; omega
      · rw [Int32.lt_iff_toInt_lt] at q; rw [Int32.le_iff_toInt_le] at k2; omega
    rw [aSets, if_neg (e 0 (by decide)), if_neg (e 1 (by decide)), if_neg (e 2 (by decide))]
noncomputable def aType (s : St) (a b : Int32) : Int32 := if ivB (rN (sC s)) (rA (sC s)) a b = true then nI ((tyO (rN (sC s)) (rA (sC s))).ty (16 * a.toNatClampNeg + b.toNatClampNeg)) else -1
set_option maxRecDepth 100000 in
set_option maxHeartbeats 4000000 in
theorem b_X12_type_0 {z : amZ} {post : amP} {G : amG} {I : amI} {L : amL} (hz : Go z cX12_type RX12 3 (some .int) 43 0 0 post) (hG : Lay G) {v1 : Int32} {v2 : Int32} (h : (mOk L) ∧ ((m_isiv L v1 v2 = true) → ∃ (dq3 : Nat) (postq3 : amP), Nat.ble (dq3 + 1) 43 = true ∧ Mx (zL z) (zD z) (zB z) yX12_laysTypes cX12_laysTypes 4 none dq3 0 0 [.ref ((zB z).size + 64)] G I L postq3 ∧ ∀ (roq3 : Option Value) (Gq3 : amG) (Iq3 : amI) (Lq3 : amL), postq3 roq3 Gq3 Iq3 Lq3 → roq3 = none ∧ Lay Gq3 ∧ vp_in (((16 : Int32) * v1) + v2) 256 ∧ post (some (.int (Iq3 80 (((16 : Int32) * v1) + v2).toNatClampNeg))) Gq3 Iq3 Lq3) ∧ ((m_isiv L v1 v2 = false) → post (some (.int (-1))) G I L)) : Wx z 0 0 0 [(0, .ref ((zB z).size + 64)), (1, .int v1), (2, .int v2)] [] G I L := by
  have hz1 := hz.1
  refine am_aload_n hz1 dX12_type_0 0 rfl rfl ?_
  refine am_iload_n hz1 dX12_type_1 1 rfl rfl ?_
  refine am_iload_n hz1 dX12_type_2 2 rfl rfl ?_
  obtain ⟨g1, h⟩ := h
  refine am_cVf hz cv_X12_247 [.int v1, .int v2] [] (c_X12_isInterval hG v1 v2 g1) (ln_64 hG) (lk_64 hG) rfl rfl rfl ⟨Nat.le_refl _, Nat.le_refl _⟩ (Nat.le_of_ble_eq_true rfl) dX12_type_3 ?_
  refine am_ifb_ne (tgt := 11) hz1 dX12_type_6 (by decide) (fun c2 => ?_) (fun c2 => ?_)
  · replace h := h.1 c2
    refine am_aload_n hz1 dX12_type_11 0 rfl rfl ?_
    obtain ⟨dq3, postq3, hdq3, hMq3, h⟩ := h
    refine am_callV hz1 cv_X12_440 [] [] hMq3 (ln_64 hG) (lk_64 hG) rfl rfl (hz.fr hdq3) (hz.lo hdq3) (by rw [hz.2.1]; exact ⟨Nat.le_refl _, Nat.le_refl _⟩) (Nat.le_of_ble_eq_true rfl) dX12_type_12 (fun roq3 Gq3 Iq3 Lq3 hpq3 => ?_)
    obtain ⟨rfl, hGq3, h⟩ := h roq3 Gq3 Iq3 Lq3 hpq3
    refine am_aload_n hz1 dX12_type_15 0 rfl rfl ?_
    refine am_getR hz1 fl_X12_60 (ln_64 hGq3) (lk_64 hGq3) (lr_64_26 hGq3) rfl dX12_type_16 ?_
    refine am_bipush (v := 16) hz1 dX12_type_19 (by decide) ?_
    refine am_iload_n hz1 dX12_type_21 1 rfl rfl ?_
    refine am_imul hz1 dX12_type_22 ?_
    refine am_iload_n hz1 dX12_type_23 2 rfl rfl ?_
    refine am_iadd hz1 dX12_type_24 ?_
    obtain ⟨g4, h⟩ := h
    refine am_iald hz1 (ln_80 hGq3) (lk_80 hGq3) (by rw [(ll_80 hGq3)]; exact g4) dX12_type_25 ?_
    exact am_ireturn hz dX12_type_26 h
  · replace h := h.2 c2
    refine am_iconst (v := (-1)) hz1 dX12_type_9 (by decide) ?_
    exact am_ireturn hz dX12_type_10 h
set_option maxRecDepth 100000 in
set_option maxHeartbeats 4000000 in
theorem c_X12_type {l : Launch} {D : va_G} {B : Heap} {G : amG} {I : amI} {L : amL}  (hG : Lay G)  (v1 : Int32) (v2 : Int32) {s : St} (hs : RI s I L) (hw : WF s) : Mx l D B yX12_type cX12_type 3 (some .int) 43 0 0 [.ref (B.size + 64), .int v1, .int v2] G I L (fun r G1 I1 L1 => r = some (.int (aType s v1 v2)) ∧ G1 = G ∧ RI s I1 L1 ∧ frM I L I1 L1) := by
  refine Mx.of (by decide) rfl rfl (fun z e1 e2 e3 hz => ?_)
  subst e1; subst e2; subst e3
  refine b_X12_type_0 hz hG ?_
  have hM := hs.1.mo
  have h16 := hM.2.1
  rw [hM.isiv]
  refine ⟨⟨_, _, hM⟩, fun h => ?_, fun h => ⟨by rw [aType, if_neg (by rw [h]; decide)], rfl, hs, frM_r⟩⟩
  obtain ⟨x, y, hx, hy, rfl, rfl, hl⟩ := (iv_t h16).mp h
  refine ⟨42, _, rfl, c_X12_laysTypes hG hM hs.2.2.2.2.2.2.2.2, fun ro G2 I2 L2 ⟨r1, r2, r3, r4, r5⟩ => ⟨r1, by rw [r2]; exact hG, by rw [c16]; exact in_nI (by omega) (by decide), ?_, r2, by rw [r3]; exact RI_T hs r5 r4, by rw [r3]; exact frT_M r5⟩⟩
  rw [aType, if_pos h, c16, cl_nI (by omega), cl_nI (by omega), cl_nI (by omega), r4.2.2.1 x y hx hy hl (by omega)]
