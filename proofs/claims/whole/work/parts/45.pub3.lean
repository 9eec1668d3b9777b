/-! THE REFERENCE: what is asked, third part: maps, sides, coefficients, counts -/
def whM (n : Nat) (P : Nat → Int32) : Bool := scan (fun x => decide (P x = -1)) (fun _ => false) true n 0
def moM1 (n : Nat) (A A0 : Nat → Int32) (P : Nat → Int32) (a : Nat) : Bool := scan (fun b => le A a b && !le A0 (P a).toNatClampNeg (P b).toNatClampNeg) (fun _ => true) false n 0
def moM (n : Nat) (A A0 : Nat → Int32) (P : Nat → Int32) : Bool := scan (moM1 n A A0 P) (fun _ => false) true n 0
def adM (n : Nat) (A A0 : Nat → Int32) (P : Nat → Int32) (y : Nat) : Int32 := greatM n A (mkset (fun x => le A0 (P x).toNatClampNeg y) n)
def jdM (n k : Nat) (A A0 : Nat → Int32) (P : Nat → Int32) : Bool := scan (fun y => decide (adM n A A0 P y = -2)) (fun _ => false) true k 0
section MP
variable {s : St} {I : amI} {L : amL}
theorem map_P (hs : RI s I L) {x : Nat} (hx : x < 16) : m_map L (nI x) = rP (sC s) x := by
  rw [m_map]
  have e1 : ((1057 : Int32) + nI x).toNatClampNeg = 1057 + x := clA (a := 1057) (by omega)
  rw [e1, hs.1.2.2.2.1 x hx, i64_32]
theorem wh_M (hs : RI s I L) : m_whole L = whM (rN (sC s)) (rP (sC s)) := by
  have hM := hs.1.mo
  have h16 := hM.2.1
  rw [m_whole, hM.N, whM]
  exact scan_cong _ _ (fun x _ hx => ⟨by rw [map_P hs (by omega)], rfl⟩)
/-- a map that is whole goes to elements that are there -/
theorem P_in (hs : RI s I L) (hw : WF s) (h : whM (rN (sC s)) (rP (sC s)) = true) {x : Nat} (hx : x < rN (sC s)) : ∃ y, y < (s0 s).1 ∧ rP (sC s) x = nI y := by
  have h16 := hs.1.mo.2.1
  have h1 := scan_tf.mp h x hx
  rw [decide_eq_false_iff_not] at h1
  rcases hw.1.2.2.1 hw.2.1 x (by omega) with q | q
  · exact absurd q h1
  · exact q
theorem KO_of (hs : RI s I L) (hk : 1 ≤ (s0 s).1) : KO I 0 (s0 s).1 (s0 s).2 := by
  rcases hs.2.2.1 with ⟨h, _⟩ | h
  · omega
  · exact h
theorem mp_ok (hs : RI s I L) (hw : WF s) (h : whM (rN (sC s)) (rP (sC s)) = true) : mpOk L := by
  have hM := hs.1.mo
  have h16 := hM.2.1
  intro x hx
  rw [hM.N] at hx
  obtain ⟨y, hy, e⟩ := P_in hs hw h hx
  rw [map_P hs (by omega), e]
  have := hw.2.2.1
  exact in_nI (by omega) (by decide)
theorem tk_ok (hs : RI s I L) (hw : WF s) : tkOk I := by
  rcases hs.2.2.1 with ⟨h, e⟩ | h
  · exact ⟨0, by omega, e⟩
  · exact ⟨_, h.2.1, h.2.2.2.1⟩
theorem tk_n (hs : RI s I L) (hw : WF s) : I 67 0 = nI (s0 s).1 := by
  rcases hs.2.2.1 with ⟨h, e⟩ | h
  · rw [h]; exact e
  · exact h.2.2.2.1
theorem amT_M (hs : RI s I L) (hw : WF s) (h : whM (rN (sC s)) (rP (sC s)) = true) {x y : Nat} (hx : x < rN (sC s)) (hy : y < 32) : m_amT I (m_map L (nI x)) (nI y) = le (s0 s).2 (rP (sC s) x).toNatClampNeg y := by
  have h16 := hs.1.mo.2.1
  obtain ⟨p, hp, e⟩ := P_in hs hw h hx
  have hk := KO_of hs (by omega)
  have hk16 := hk.2.1
  rw [map_P hs (by omega), e, hk.am hp hy, cl_nI (by omega)]
theorem mo_M (hs : RI s I L) (hw : WF s) (h : whM (rN (sC s)) (rP (sC s)) = true) : m_mono I L = moM (rN (sC s)) (rA (sC s)) (s0 s).2 (rP (sC s)) := by
  have hM := hs.1.mo
  have h16 := hM.2.1
  rw [m_mono, hM.N, moM]
  refine scan_cong _ _ (fun a _ ha => ⟨?_, rfl⟩)
  rw [m_mono1, hM.N, moM1]
  refine scan_cong _ _ (fun b _ hb => ⟨?_, rfl⟩)
  obtain ⟨p, hp, e⟩ := P_in hs hw h (show b < rN (sC s) by omega)
  have hk16 := hw.2.2.1
  rw [m_monoP, hM.am (by omega) (by omega), map_P hs (x := b) (by omega), e, amT_M hs hw h (by omega) (by omega), cl_nI (n := p) (by omega)]
theorem ad_M (hs : RI s I L) (hw : WF s) (h : whM (rN (sC s)) (rP (sC s)) = true) {y : Nat} (hy : y < 32) : m_adj I L (nI y) = adM (rN (sC s)) (rA (sC s)) (s0 s).2 (rP (sC s)) y := by
  have hM := hs.1.mo
  rw [m_adj, hM.great, hM.N, adM, mkset_cong (fun x hx => amT_M hs hw h hx hy)]
theorem jd_M (hs : RI s I L) (hw : WF s) (h : whM (rN (sC s)) (rP (sC s)) = true) : m_jnd I L = jdM (rN (sC s)) (s0 s).1 (rA (sC s)) (s0 s).2 (rP (sC s)) := by
  have hk16 := hw.2.2.1
  rw [m_jnd, jdM, tk_n hs hw, cl_nI (by omega)]
  exact scan_cong _ _ (fun y _ hy => ⟨by rw [ad_M hs hw h (by omega)], rfl⟩)
theorem th_B (hs : RI s I L) (hw : WF s) (y : Int32) : m_isIn y.toInt64 0 ((I 67 0 - 1).toInt64) = elB (s0 s).1 y := by
  have hk16 := hw.2.2.1
  rw [tk_n hs hw]
  generalize (s0 s).1 = m at hk16
  cases m with
  | zero =>
    rw [elB, m_isIn, Bool.eq_iff_iff, Bool.and_eq_true, Bool.and_eq_true, decide_eq_true_eq, decide_eq_true_eq, decide_eq_true_eq, decide_eq_true_eq, Int64.lt_iff_toInt_lt, Int64.lt_iff_toInt_lt, Int32.toInt_toInt64, Int32.le_iff_toInt_le, Int32.lt_iff_toInt_lt]
    have e1 : ((nI 0 - 1).toInt64).toInt = -1 := by decide
    have e2 : (0 : Int64).toInt = 0 := by decide
    have e3 : (0 : Int32).toInt = 0 := by decide
    have e4 : (nI 0).toInt = 0 := by decide
    rw [e1, e2, e3, e4]
    omega
  | succ m =>
    rw [nI_pred, isIn_R (k := m) (by omega) (by rw [Int32.toInt_toInt64, nI_toInt (by omega)]), inR, elB]
    congr 1
    apply decide_eq_decide.mpr
    rw [Int32.le_iff_toInt_le, Int32.lt_iff_toInt_lt, nI_toInt (by omega), nI_toInt (by omega)]
    omega
end MP
abbrev wholeS (s : St) : Bool := whM (rN (sC s)) (rP (sC s))
abbrev monoS (s : St) : Bool := moM (rN (sC s)) (rA (sC s)) (s0 s).2 (rP (sC s))
abbrev jndS (s : St) : Bool := jdM (rN (sC s)) (s0 s).1 (rA (sC s)) (s0 s).2 (rP (sC s))
abbrev adjS (s : St) (y : Nat) : Int32 := adM (rN (sC s)) (rA (sC s)) (s0 s).2 (rP (sC s)) y
def aMapped (s : St) (w : Int32) : Int32 := if inR 2 w = true then (if w = 0 then bI (wholeS s) else if wholeS s = true then (if w = 1 then bI (monoS s) else bI (jndS s)) else -2) else -1
set_option maxRecDepth 100000 in
set_option maxHeartbeats 4000000 in
theorem b_X12_mapped_0 {z : amZ} {post : amP} {G : amG} {I : amI} {L : amL} (hz : Go z cX12_mapped RX12 3 (some .int) 6 0 0 post) (hG : Lay G) {v1 : Int32} (h : ((m_isIn v1.toInt64 (0 : Int64) (2 : Int64) = true) → (mOk L) ∧ ((¬ v1 = 0) → ((m_whole L = true) → ((¬ v1 = (1 : Int32)) → (mOk L) ∧ (mpOk L) ∧ (tkOk I) ∧ ((m_jnd I L = false) → post (some (.int 0)) G I L) ∧ ((m_jnd I L = true) → post (some (.int 1)) G I L)) ∧ ((v1 = (1 : Int32)) → (mOk L) ∧ (mpOk L) ∧ ((m_mono I L = false) → post (some (.int 0)) G I L) ∧ ((m_mono I L = true) → post (some (.int 1)) G I L))) ∧ ((m_whole L = false) → post (some (.int (-2))) G I L)) ∧ ((v1 = 0) → ((m_whole L = false) → post (some (.int 0)) G I L) ∧ ((m_whole L = true) → post (some (.int 1)) G I L))) ∧ ((m_isIn v1.toInt64 (0 : Int64) (2 : Int64) = false) → post (some (.int (-1))) G I L)) : Wx z 0 0 0 [(0, .ref ((zB z).size + 64)), (1, .int v1)] [] G I L := by
  have hz1 := hz.1
  refine am_iload_n hz1 dX12_mapped_0 1 rfl rfl ?_
  refine am_i2l hz1 dX12_mapped_1 ?_
  refine am_lconst (v := 0) hz1 dX12_mapped_2 (by decide) ?_
  refine am_ldc2 hz1 kc_X12_353 dX12_mapped_3 ?_
  refine am_cSf hz ct_X12_82 [.long v1.toInt64, .long (0 : Int64), .long (2 : Int64)] [] (c_X12_isIn hG v1.toInt64 (0 : Int64) (2 : Int64) ) rfl rfl rfl ⟨Nat.le_refl _, Nat.le_refl _⟩ (Nat.le_of_ble_eq_true rfl) dX12_mapped_6 ?_
  refine am_ifb_ne (tgt := 14) hz1 dX12_mapped_9 (by decide) (fun c1 => ?_) (fun c1 => ?_)
  · replace h := h.1 c1
    refine am_aload_n hz1 dX12_mapped_14 0 rfl rfl ?_
    obtain ⟨g2, h⟩ := h
    refine am_cVf hz cv_X12_461 [] [] (c_X12_isWhole hG  g2) (ln_64 hG) (lk_64 hG) rfl rfl rfl ⟨Nat.le_refl _, Nat.le_refl _⟩ (Nat.le_of_ble_eq_true rfl) dX12_mapped_15 ?_
    refine am_istore_n (lv' := [(2, .int (bI (m_whole L))), (0, .ref ((zB z).size + 64)), (1, .int v1)]) hz1 dX12_mapped_18 rfl rfl rfl ?_
    refine am_iload_n hz1 dX12_mapped_19 2 rfl rfl ?_
    refine am_if_ne (tgt := 33) hz1 dX12_mapped_20 (by decide) (fun c3 => ?_) (fun c3 => ?_)
    · replace h := h.1 c3
      refine am_iload_n hz1 dX12_mapped_33 0 rfl rfl ?_
      refine am_ifb_ne (tgt := 40) hz1 dX12_mapped_34 (by decide) (fun c4 => ?_) (fun c4 => ?_)
      · replace h := h.1 c4
        refine am_iload_n hz1 dX12_mapped_40 2 rfl rfl ?_
        refine am_iconst (v := 1) hz1 dX12_mapped_41 (by decide) ?_
        refine am_icmp_ne (tgt := 55) hz1 dX12_mapped_42 (by decide) (fun c5 => ?_) (fun c5 => ?_)
        · replace h := h.1 c5
          refine am_aload_n hz1 dX12_mapped_55 1 rfl rfl ?_
          obtain ⟨g6, h⟩ := h
          obtain ⟨g7, h⟩ := h
          obtain ⟨g8, h⟩ := h
          refine am_cVf hz cv_X12_467 [] [] (c_X12_isJoined hG  g6 g7 g8) (ln_64 hG) (lk_64 hG) rfl rfl rfl ⟨Nat.le_refl _, Nat.le_refl _⟩ (Nat.le_of_ble_eq_true rfl) dX12_mapped_56 ?_
          refine am_ifb_eq (tgt := 66) hz1 dX12_mapped_59 (by decide) (fun c9 => ?_) (fun c9 => ?_)
          · replace h := h.1 c9
            refine am_iconst (v := 0) hz1 dX12_mapped_66 (by decide) ?_
            exact am_ireturn hz dX12_mapped_67 h
          · replace h := h.2 c9
            refine am_iconst (v := 1) hz1 dX12_mapped_62 (by decide) ?_
            refine am_goto (tgt := 67) hz1 dX12_mapped_63 (by decide) ?_
            exact am_ireturn hz dX12_mapped_67 h
        · replace h := h.2 c5
          refine am_aload_n hz1 dX12_mapped_45 1 rfl rfl ?_
          obtain ⟨g10, h⟩ := h
          obtain ⟨g11, h⟩ := h
          refine am_cVf hz cv_X12_464 [] [] (c_X12_isMonotone hG  g10 g11) (ln_64 hG) (lk_64 hG) rfl rfl rfl ⟨Nat.le_refl _, Nat.le_refl _⟩ (Nat.le_of_ble_eq_true rfl) dX12_mapped_46 ?_
          refine am_ifb_eq (tgt := 66) hz1 dX12_mapped_49 (by decide) (fun c12 => ?_) (fun c12 => ?_)
          · replace h := h.1 c12
            refine am_iconst (v := 0) hz1 dX12_mapped_66 (by decide) ?_
            exact am_ireturn hz dX12_mapped_67 h
          · replace h := h.2 c12
            refine am_goto (tgt := 62) hz1 dX12_mapped_52 (by decide) ?_
            refine am_iconst (v := 1) hz1 dX12_mapped_62 (by decide) ?_
            refine am_goto (tgt := 67) hz1 dX12_mapped_63 (by decide) ?_
            exact am_ireturn hz dX12_mapped_67 h
      · replace h := h.2 c4
        refine am_bipush (v := (-2)) hz1 dX12_mapped_37 (by decide) ?_
        exact am_ireturn hz dX12_mapped_39 h
    · replace h := h.2 c3
      refine am_iload_n hz1 dX12_mapped_23 0 rfl rfl ?_
      refine am_ifb_eq (tgt := 31) hz1 dX12_mapped_24 (by decide) (fun c13 => ?_) (fun c13 => ?_)
      · replace h := h.1 c13
        refine am_iconst (v := 0) hz1 dX12_mapped_31 (by decide) ?_
        exact am_ireturn hz dX12_mapped_32 h
      · replace h := h.2 c13
        refine am_iconst (v := 1) hz1 dX12_mapped_27 (by decide) ?_
        refine am_goto (tgt := 32) hz1 dX12_mapped_28 (by decide) ?_
        exact am_ireturn hz dX12_mapped_32 h
  · replace h := h.2 c1
    refine am_iconst (v := (-1)) hz1 dX12_mapped_12 (by decide) ?_
    exact am_ireturn hz dX12_mapped_13 h
set_option maxRecDepth 100000 in
set_option maxHeartbeats 4000000 in
theorem c_X12_mapped {l : Launch} {D : va_G} {B : Heap} {G : amG} {I : amI} {L : amL}  (hG : Lay G)  (v1 : Int32) {s : St} (hs : RI s I L) (hw : WF s) : Mx l D B yX12_mapped cX12_mapped 3 (some .int) 6 0 0 [.ref (B.size + 64), .int v1] G I L (fun r G1 I1 L1 => r = some (.int (aMapped s v1)) ∧ G1 = G ∧ RI s I1 L1 ∧ frM I L I1 L1) := by
  refine Mx.of (by decide) rfl rfl (fun z e1 e2 e3 hz => ?_)
  subst e1; subst e2; subst e3
  refine b_X12_mapped_0 hz hG ?_
  have hM := hs.1.mo
  have hmO : mOk L := ⟨_, _, hM⟩
  rw [isIn_R (k := 2) (by decide) (by decide), wh_M hs]
  refine ⟨fun h => ⟨hmO, fun h0 => ⟨fun hq => ?_, fun hq => ⟨?_, rfl, hs, frM_r⟩⟩, fun h0 => ⟨fun hq => ⟨?_, rfl, hs, frM_r⟩, fun hq => ⟨?_, rfl, hs, frM_r⟩⟩⟩, fun h => ⟨by rw [aMapped, if_neg (by rw [h]; decide)], rfl, hs, frM_r⟩⟩
  · rw [mo_M hs hw hq, jd_M hs hw hq]
    refine ⟨fun h1 => ⟨hmO, mp_ok hs hw hq, tk_ok hs hw, fun g => ⟨?_, rfl, hs, frM_r⟩, fun g => ⟨?_, rfl, hs, frM_r⟩⟩, fun h1 => ⟨hmO, mp_ok hs hw hq, fun g => ⟨?_, rfl, hs, frM_r⟩, fun g => ⟨?_, rfl, hs, frM_r⟩⟩⟩
    · rw [aMapped, if_pos h, if_neg h0, if_pos (show wholeS s = true from hq), if_neg h1, show jndS s = _ from g]; rfl
    · rw [aMapped, if_pos h, if_neg h0, if_pos (show wholeS s = true from hq), if_neg h1, show jndS s = _ from g]; rfl
    · rw [aMapped, if_pos h, if_neg h0, if_pos (show wholeS s = true from hq), if_pos h1, show monoS s = _ from g]; rfl
    · rw [aMapped, if_pos h, if_neg h0, if_pos (show wholeS s = true from hq), if_pos h1, show monoS s = _ from g]; rfl
  · rw [aMapped, if_pos h, if_neg h0, if_neg (by rw [show wholeS s = _ from hq]; decide)]
  · rw [aMapped, if_pos h, if_pos h0, show wholeS s = _ from hq]; rfl
  · rw [aMapped, if_pos h, if_pos h0, show wholeS s = _ from hq]; rfl
def aAdj (s : St) (y : Int32) : Int32 := if (elB (s0 s).1 y && wholeS s) = true then adjS s y.toNatClampNeg else -1
set_option maxRecDepth 100000 in
set_option maxHeartbeats 4000000 in
theorem b_X12_adjoint_0 {z : amZ} {post : amP} {G : amG} {I : amI} {L : amL} (hz : Go z cX12_adjoint RX12 2 (some .int) 5 0 0 post) (hG : Lay G) {v1 : Int32} (h : ((m_isIn v1.toInt64 0 ((I 67 0 - 1).toInt64) = false) → post (some (.int (-1))) G I L) ∧ ((m_isIn v1.toInt64 0 ((I 67 0 - 1).toInt64) = true) → (mOk L) ∧ ((m_whole L = false) → post (some (.int (-1))) G I L) ∧ ((m_whole L = true) → (mOk L) ∧ (mpOk L) ∧ post (some (.int (m_adj I L v1))) G I L))) : Wx z 0 0 0 [(0, .ref ((zB z).size + 64)), (1, .int v1)] [] G I L := by
  have hz1 := hz.1
  refine am_aload_n hz1 dX12_adjoint_0 0 rfl rfl ?_
  refine am_iload_n hz1 dX12_adjoint_1 1 rfl rfl ?_
  refine am_cVf hz cv_X12_470 [.int v1] [] (c_X12_isThere hG v1 ) (ln_64 hG) (lk_64 hG) rfl rfl rfl ⟨Nat.le_refl _, Nat.le_refl _⟩ (Nat.le_of_ble_eq_true rfl) dX12_adjoint_2 ?_
  refine am_ifb_eq (tgt := 23) hz1 dX12_adjoint_5 (by decide) (fun c1 => ?_) (fun c1 => ?_)
  · replace h := h.1 c1
    refine am_iconst (v := (-1)) hz1 dX12_adjoint_23 (by decide) ?_
    exact am_ireturn hz dX12_adjoint_24 h
  · replace h := h.2 c1
    refine am_aload_n hz1 dX12_adjoint_8 0 rfl rfl ?_
    obtain ⟨g2, h⟩ := h
    refine am_cVf hz cv_X12_461 [] [] (c_X12_isWhole hG  g2) (ln_64 hG) (lk_64 hG) rfl rfl rfl ⟨Nat.le_refl _, Nat.le_refl _⟩ (Nat.le_of_ble_eq_true rfl) dX12_adjoint_9 ?_
    refine am_ifb_eq (tgt := 23) hz1 dX12_adjoint_12 (by decide) (fun c3 => ?_) (fun c3 => ?_)
    · replace h := h.1 c3
      refine am_iconst (v := (-1)) hz1 dX12_adjoint_23 (by decide) ?_
      exact am_ireturn hz dX12_adjoint_24 h
    · replace h := h.2 c3
      refine am_aload_n hz1 dX12_adjoint_15 0 rfl rfl ?_
      refine am_iload_n hz1 dX12_adjoint_16 1 rfl rfl ?_
      obtain ⟨g4, h⟩ := h
      obtain ⟨g5, h⟩ := h
      refine am_cVf hz cv_X12_458 [.int v1] [] (c_X12_adjointOf hG v1 g4 g5) (ln_64 hG) (lk_64 hG) rfl rfl rfl ⟨Nat.le_refl _, Nat.le_refl _⟩ (Nat.le_of_ble_eq_true rfl) dX12_adjoint_17 ?_
      refine am_goto (tgt := 24) hz1 dX12_adjoint_20 (by decide) ?_
      exact am_ireturn hz dX12_adjoint_24 h
set_option maxRecDepth 100000 in
set_option maxHeartbeats 4000000 in
theorem c_X12_adjoint {l : Launch} {D : va_G} {B : Heap} {G : amG} {I : amI} {L : amL}  (hG : Lay G)  (v1 : Int32) {s : St} (hs : RI s I L) (hw : WF s) : Mx l D B yX12_adjoint cX12_adjoint 2 (some .int) 5 0 0 [.ref (B.size + 64), .int v1] G I L (fun r G1 I1 L1 => r = some (.int (aAdj s v1)) ∧ G1 = G ∧ RI s I1 L1 ∧ frM I L I1 L1) := by
  refine Mx.of (by decide) rfl rfl (fun z e1 e2 e3 hz => ?_)
  subst e1; subst e2; subst e3
  refine b_X12_adjoint_0 hz hG ?_
  have hM := hs.1.mo
  have hmO : mOk L := ⟨_, _, hM⟩
  have hk16 := hw.2.2.1
  rw [th_B hs hw, wh_M hs]
  refine ⟨fun h => ⟨by rw [aAdj, if_neg (by rw [h]; simp)], rfl, hs, frM_r⟩, fun h => ⟨hmO, fun hq => ⟨by rw [aAdj, if_neg (by rw [show wholeS s = _ from hq]; simp)], rfl, hs, frM_r⟩, fun hq => ⟨hmO, mp_ok hs hw hq, ?_, rfl, hs, frM_r⟩⟩⟩
  obtain ⟨y, hy, rfl⟩ := (el_t (by omega)).mp h
  rw [aAdj, if_pos (by rw [h, show wholeS s = _ from hq]; rfl), ad_M hs hw hq (by omega), cl_nI (by omega)]
def aSide (s : St) (p q w : Int32) : Int64 :=
  if (elB (rN (sC s)) p && (elB (s0 s).1 q && (inR 1 w && wholeS s))) = true then
    (if w = 0 then sumC (fun x => le (rA (sC s)) p.toNatClampNeg x && decide (rP (sC s) x = q)) (mu (rN (sC s)) (rA (sC s)) p.toNatClampNeg) (rN (sC s)) else if jndS s = true then sumC (fun y => le (s0 s).2 y q.toNatClampNeg && decide (adjS s y = p)) (nu (s0 s).1 (s0 s).2 q.toNatClampNeg) (s0 s).1 else -9223372036854775808)
  else -9223372036854775808
set_option maxRecDepth 100000 in
set_option maxHeartbeats 4000000 in
theorem b_X12_side_0 {z : amZ} {post : amP} {G : amG} {I : amI} {L : amL} (hz : Go z cX12_side RX12 4 (some .long) 7 0 0 post) (hG : Lay G) {v1 : Int32} {v2 : Int32} {v3 : Int32} (h : ((m_el L v1 = false) → post (some (.long (-9223372036854775808 : Int64))) G I L) ∧ ((m_el L v1 = true) → ((m_isIn v2.toInt64 0 ((I 67 0 - 1).toInt64) = false) → post (some (.long (-9223372036854775808 : Int64))) G I L) ∧ ((m_isIn v2.toInt64 0 ((I 67 0 - 1).toInt64) = true) → ((m_isIn v3.toInt64 (0 : Int64) (1 : Int64) = false) → post (some (.long (-9223372036854775808 : Int64))) G I L) ∧ ((m_isIn v3.toInt64 (0 : Int64) (1 : Int64) = true) → (mOk L) ∧ ((m_whole L = true) → ((¬ v3 = (1 : Int32)) → ((¬ v3 = 0) → ∃ (dq8 : Nat) (postq8 : amP), Nat.ble (dq8 + 1) 7 = true ∧ Mx (zL z) (zD z) (zB z) yX12_sideThere cX12_sideThere 6 (some .long) dq8 0 0 [.ref ((zB z).size + 64), .int v1, .int v2] G I L postq8 ∧ ∀ (roq8 : Option Value) (Gq8 : amG) (Iq8 : amI) (Lq8 : amL), postq8 roq8 Gq8 Iq8 Lq8 → ∃ (rq8 : Int64), roq8 = some (.long rq8) ∧ Lay Gq8 ∧ post (some (.long rq8)) Gq8 Iq8 Lq8) ∧ ((v3 = 0) → ∃ (dq9 : Nat) (postq9 : amP), Nat.ble (dq9 + 1) 7 = true ∧ Mx (zL z) (zD z) (zB z) yX12_sideHere cX12_sideHere 6 (some .long) dq9 0 0 [.ref ((zB z).size + 64), .int v1, .int v2] G I L postq9 ∧ ∀ (roq9 : Option Value) (Gq9 : amG) (Iq9 : amI) (Lq9 : amL), postq9 roq9 Gq9 Iq9 Lq9 → ∃ (rq9 : Int64), roq9 = some (.long rq9) ∧ Lay Gq9 ∧ post (some (.long rq9)) Gq9 Iq9 Lq9)) ∧ ((v3 = (1 : Int32)) → (mOk L) ∧ (mpOk L) ∧ (tkOk I) ∧ ((m_jnd I L = true) → ((¬ v3 = 0) → ∃ (dq15 : Nat) (postq15 : amP), Nat.ble (dq15 + 1) 7 = true ∧ Mx (zL z) (zD z) (zB z) yX12_sideThere cX12_sideThere 6 (some .long) dq15 0 0 [.ref ((zB z).size + 64), .int v1, .int v2] G I L postq15 ∧ ∀ (roq15 : Option Value) (Gq15 : amG) (Iq15 : amI) (Lq15 : amL), postq15 roq15 Gq15 Iq15 Lq15 → ∃ (rq15 : Int64), roq15 = some (.long rq15) ∧ Lay Gq15 ∧ post (some (.long rq15)) Gq15 Iq15 Lq15) ∧ ((v3 = 0) → ∃ (dq16 : Nat) (postq16 : amP), Nat.ble (dq16 + 1) 7 = true ∧ Mx (zL z) (zD z) (zB z) yX12_sideHere cX12_sideHere 6 (some .long) dq16 0 0 [.ref ((zB z).size + 64), .int v1, .int v2] G I L postq16 ∧ ∀ (roq16 : Option Value) (Gq16 : amG) (Iq16 : amI) (Lq16 : amL), postq16 roq16 Gq16 Iq16 Lq16 → ∃ (rq16 : Int64), roq16 = some (.long rq16) ∧ Lay Gq16 ∧ post (some (.long rq16)) Gq16 Iq16 Lq16)) ∧ ((m_jnd I L = false) → post (some (.long (-9223372036854775808 : Int64))) G I L))) ∧ ((m_whole L = false) → post (some (.long (-9223372036854775808 : Int64))) G I L))))) : Wx z 0 0 0 [(0, .ref ((zB z).size + 64)), (1, .int v1), (2, .int v2), (3, .int v3)] [] G I L := by
  have hz1 := hz.1
  refine am_aload_n hz1 dX12_side_0 0 rfl rfl ?_
  refine am_iload_n hz1 dX12_side_1 1 rfl rfl ?_
  refine am_cVf hz cv_X12_100 [.int v1] [] (c_X12_isElement hG v1 ) (ln_64 hG) (lk_64 hG) rfl rfl rfl ⟨Nat.le_refl _, Nat.le_refl _⟩ (Nat.le_of_ble_eq_true rfl) dX12_side_2 ?_
  refine am_ifb_eq (tgt := 33) hz1 dX12_side_5 (by decide) (fun c1 => ?_) (fun c1 => ?_)
  · replace h := h.1 c1
    refine am_ldc2 hz1 kc_X12_269 dX12_side_33 ?_
    exact am_lreturn hz dX12_side_36 h
  · replace h := h.2 c1
    refine am_aload_n hz1 dX12_side_8 0 rfl rfl ?_
    refine am_iload_n hz1 dX12_side_9 2 rfl rfl ?_
    refine am_cVf hz cv_X12_470 [.int v2] [] (c_X12_isThere hG v2 ) (ln_64 hG) (lk_64 hG) rfl rfl rfl ⟨Nat.le_refl _, Nat.le_refl _⟩ (Nat.le_of_ble_eq_true rfl) dX12_side_10 ?_
    refine am_ifb_eq (tgt := 33) hz1 dX12_side_13 (by decide) (fun c2 => ?_) (fun c2 => ?_)
    · replace h := h.1 c2
      refine am_ldc2 hz1 kc_X12_269 dX12_side_33 ?_
      exact am_lreturn hz dX12_side_36 h
    · replace h := h.2 c2
      refine am_iload_n hz1 dX12_side_16 3 rfl rfl ?_
      refine am_i2l hz1 dX12_side_17 ?_
      refine am_lconst (v := 0) hz1 dX12_side_18 (by decide) ?_
      refine am_lconst (v := 1) hz1 dX12_side_19 (by decide) ?_
      refine am_cSf hz ct_X12_82 [.long v3.toInt64, .long (0 : Int64), .long (1 : Int64)] [] (c_X12_isIn hG v3.toInt64 (0 : Int64) (1 : Int64) ) rfl rfl rfl ⟨Nat.le_refl _, Nat.le_refl _⟩ (Nat.le_of_ble_eq_true rfl) dX12_side_20 ?_
      refine am_ifb_eq (tgt := 33) hz1 dX12_side_23 (by decide) (fun c3 => ?_) (fun c3 => ?_)
      · replace h := h.1 c3
        refine am_ldc2 hz1 kc_X12_269 dX12_side_33 ?_
        exact am_lreturn hz dX12_side_36 h
      · replace h := h.2 c3
        refine am_aload_n hz1 dX12_side_26 0 rfl rfl ?_
        obtain ⟨g4, h⟩ := h
        refine am_cVf hz cv_X12_461 [] [] (c_X12_isWhole hG  g4) (ln_64 hG) (lk_64 hG) rfl rfl rfl ⟨Nat.le_refl _, Nat.le_refl _⟩ (Nat.le_of_ble_eq_true rfl) dX12_side_27 ?_
        refine am_ifb_ne (tgt := 37) hz1 dX12_side_30 (by decide) (fun c5 => ?_) (fun c5 => ?_)
        · replace h := h.1 c5
          refine am_iload_n hz1 dX12_side_37 3 rfl rfl ?_
          refine am_iconst (v := 1) hz1 dX12_side_38 (by decide) ?_
          refine am_icmp_ne (tgt := 53) hz1 dX12_side_39 (by decide) (fun c6 => ?_) (fun c6 => ?_)
          · replace h := h.1 c6
            refine am_iload_n hz1 dX12_side_53 3 rfl rfl ?_
            refine am_if_ne (tgt := 66) hz1 dX12_side_54 (by decide) (fun c7 => ?_) (fun c7 => ?_)
            · replace h := h.1 c7
              refine am_aload_n hz1 dX12_side_66 0 rfl rfl ?_
              refine am_iload_n hz1 dX12_side_67 1 rfl rfl ?_
              refine am_iload_n hz1 dX12_side_68 2 rfl rfl ?_
              obtain ⟨dq8, postq8, hdq8, hMq8, h⟩ := h
              refine am_callV hz1 cv_X12_482 [.int v1, .int v2] [] hMq8 (ln_64 hG) (lk_64 hG) rfl rfl (hz.fr hdq8) (hz.lo hdq8) (by rw [hz.2.1]; exact ⟨Nat.le_refl _, Nat.le_refl _⟩) (Nat.le_of_ble_eq_true rfl) dX12_side_69 (fun roq8 Gq8 Iq8 Lq8 hpq8 => ?_)
              obtain ⟨rq8, rfl, hGq8, h⟩ := h roq8 Gq8 Iq8 Lq8 hpq8
              exact am_lreturn hz dX12_side_72 h
            · replace h := h.2 c7
              refine am_aload_n hz1 dX12_side_57 0 rfl rfl ?_
              refine am_iload_n hz1 dX12_side_58 1 rfl rfl ?_
              refine am_iload_n hz1 dX12_side_59 2 rfl rfl ?_
              obtain ⟨dq9, postq9, hdq9, hMq9, h⟩ := h
              refine am_callV hz1 cv_X12_479 [.int v1, .int v2] [] hMq9 (ln_64 hG) (lk_64 hG) rfl rfl (hz.fr hdq9) (hz.lo hdq9) (by rw [hz.2.1]; exact ⟨Nat.le_refl _, Nat.le_refl _⟩) (Nat.le_of_ble_eq_true rfl) dX12_side_60 (fun roq9 Gq9 Iq9 Lq9 hpq9 => ?_)
              obtain ⟨rq9, rfl, hGq9, h⟩ := h roq9 Gq9 Iq9 Lq9 hpq9
              refine am_goto (tgt := 72) hz1 dX12_side_63 (by decide) ?_
              exact am_lreturn hz dX12_side_72 h
          · replace h := h.2 c6
            refine am_aload_n hz1 dX12_side_42 0 rfl rfl ?_
            obtain ⟨g10, h⟩ := h
            obtain ⟨g11, h⟩ := h
            obtain ⟨g12, h⟩ := h
            refine am_cVf hz cv_X12_467 [] [] (c_X12_isJoined hG  g10 g11 g12) (ln_64 hG) (lk_64 hG) rfl rfl rfl ⟨Nat.le_refl _, Nat.le_refl _⟩ (Nat.le_of_ble_eq_true rfl) dX12_side_43 ?_
            refine am_ifb_ne (tgt := 53) hz1 dX12_side_46 (by decide) (fun c13 => ?_) (fun c13 => ?_)
            · replace h := h.1 c13
              refine am_iload_n hz1 dX12_side_53 3 rfl rfl ?_
              refine am_if_ne (tgt := 66) hz1 dX12_side_54 (by decide) (fun c14 => ?_) (fun c14 => ?_)
              · replace h := h.1 c14
                refine am_aload_n hz1 dX12_side_66 0 rfl rfl ?_
                refine am_iload_n hz1 dX12_side_67 1 rfl rfl ?_
                refine am_iload_n hz1 dX12_side_68 2 rfl rfl ?_
                obtain ⟨dq15, postq15, hdq15, hMq15, h⟩ := h
                refine am_callV hz1 cv_X12_482 [.int v1, .int v2] [] hMq15 (ln_64 hG) (lk_64 hG) rfl rfl (hz.fr hdq15) (hz.lo hdq15) (by rw [hz.2.1]; exact ⟨Nat.le_refl _, Nat.le_refl _⟩) (Nat.le_of_ble_eq_true rfl) dX12_side_69 (fun roq15 Gq15 Iq15 Lq15 hpq15 => ?_)
                obtain ⟨rq15, rfl, hGq15, h⟩ := h roq15 Gq15 Iq15 Lq15 hpq15
                exact am_lreturn hz dX12_side_72 h
              · replace h := h.2 c14
                refine am_aload_n hz1 dX12_side_57 0 rfl rfl ?_
                refine am_iload_n hz1 dX12_side_58 1 rfl rfl ?_
                refine am_iload_n hz1 dX12_side_59 2 rfl rfl ?_
                obtain ⟨dq16, postq16, hdq16, hMq16, h⟩ := h
                refine am_callV hz1 cv_X12_479 [.int v1, .int v2] [] hMq16 (ln_64 hG) (lk_64 hG) rfl rfl (hz.fr hdq16) (hz.lo hdq16) (by rw [hz.2.1]; exact ⟨Nat.le_refl _, Nat.le_refl _⟩) (Nat.le_of_ble_eq_true rfl) dX12_side_60 (fun roq16 Gq16 Iq16 Lq16 hpq16 => ?_)
                obtain ⟨rq16, rfl, hGq16, h⟩ := h roq16 Gq16 Iq16 Lq16 hpq16
                refine am_goto (tgt := 72) hz1 dX12_side_63 (by decide) ?_
                exact am_lreturn hz dX12_side_72 h
            · replace h := h.2 c13
              refine am_ldc2 hz1 kc_X12_269 dX12_side_49 ?_
              exact am_lreturn hz dX12_side_52 h
        · replace h := h.2 c5
          refine am_ldc2 hz1 kc_X12_269 dX12_side_33 ?_
          exact am_lreturn hz dX12_side_36 h
set_option maxRecDepth 100000 in
set_option maxHeartbeats 4000000 in
theorem c_X12_side {l : Launch} {D : va_G} {B : Heap} {G : amG} {I : amI} {L : amL}  (hG : Lay G)  (v1 : Int32) (v2 : Int32) (v3 : Int32) {s : St} (hs : RI s I L) (hw : WF s) : Mx l D B yX12_side cX12_side 4 (some .long) 7 0 0 [.ref (B.size + 64), .int v1, .int v2, .int v3] G I L (fun r G1 I1 L1 => r = some (.long (aSide s v1 v2 v3)) ∧ G1 = G ∧ RI s I1 L1 ∧ frM I L I1 L1) := by
  refine Mx.of (by decide) rfl rfl (fun z e1 e2 e3 hz => ?_)
  subst e1; subst e2; subst e3
  refine b_X12_side_0 hz hG ?_
  have hM := hs.1.mo
  have h16 := hM.2.1
  have hmO : mOk L := ⟨_, _, hM⟩
  have hk16 := hw.2.2.1
  rw [th_B hs hw, wh_M hs, hM.el, isIn_R (k := 1) (by decide) (by decide)]
  refine ⟨fun h => ⟨by rw [aSide, if_neg (by rw [h]; simp)], rfl, hs, frM_r⟩, fun h => ⟨fun h2 => ⟨by rw [aSide, if_neg (by rw [h2]; simp)], rfl, hs, frM_r⟩, fun h2 => ⟨fun h3 => ⟨by rw [aSide, if_neg (by rw [h3]; simp)], rfl, hs, frM_r⟩, fun h3 => ⟨hmO, fun hq => ?_, fun hq => ⟨by rw [aSide, if_neg (by rw [show wholeS s = _ from hq]; simp)], rfl, hs, frM_r⟩⟩⟩⟩⟩
  have hcond : (elB (rN (sC s)) v1 && (elB (s0 s).1 v2 && (inR 1 v3 && wholeS s))) = true := by rw [h, h2, h3, show wholeS s = _ from hq]; rfl
  obtain ⟨p, hp, rfl⟩ := (el_t (by omega)).mp h
  obtain ⟨q, hqk, rfl⟩ := (el_t (by omega)).mp h2
  have hk := KO_of hs (by omega)
  have ep : (nI p).toNatClampNeg = p := cl_nI (by omega)
  have eq : (nI q).toNatClampNeg = q := cl_nI (by omega)
  have hthere : jndS s = true → v3 ≠ 0 → ∀ (ro : Option Value) (G2 : amG) (I2 : amI) (L2 : amL), (ro = some (.long (sumC (fun y => le (s0 s).2 y q && decide (m_adj I L (nI y) = nI p)) (nu (s0 s).1 (s0 s).2 q) (s0 s).1)) ∧ G2 = G ∧ I2 = I ∧ ∃ f : Nat → Int64, L2 = setL L 84 f) → ∃ r : Int64, ro = some (.long r) ∧ Lay G2 ∧ (some (Value.long r) = some (.long (aSide s (nI p) (nI q) v3)) ∧ G2 = G ∧ RI s I2 L2 ∧ frM I L I2 L2) := by
    rintro hj h0 ro G2 I2 L2 ⟨e1, e2, e3, f, e4⟩
    refine ⟨_, e1, by rw [e2]; exact hG, ?_, e2, by rw [e3, e4]; exact RI_L hs (setL_n (by decide)) (setL_n (by decide)), by rw [e3, e4]; exact frM_L (by decide) (by decide)⟩
    rw [aSide, if_pos hcond, if_neg h0, if_pos hj, eq]
    congr 2
    exact sumC_c (fun y hy => ⟨by rw [ad_M hs hw hq (by omega)], fun _ => rfl⟩)
  have hhere : v3 = 0 → ∀ (ro : Option Value) (G2 : amG) (I2 : amI) (L2 : amL), (ro = some (.long (sumC (fun x => le (rA (sC s)) p x && decide (m_map L (nI x) = nI q)) (mu (rN (sC s)) (rA (sC s)) p) (rN (sC s)))) ∧ G2 = G ∧ I2 = I ∧ ∃ f : Nat → Int64, L2 = setL L 72 f) → ∃ r : Int64, ro = some (.long r) ∧ Lay G2 ∧ (some (Value.long r) = some (.long (aSide s (nI p) (nI q) v3)) ∧ G2 = G ∧ RI s I2 L2 ∧ frM I L I2 L2) := by
    rintro h0 ro G2 I2 L2 ⟨e1, e2, e3, f, e4⟩
    refine ⟨_, e1, by rw [e2]; exact hG, ?_, e2, by rw [e3, e4]; exact RI_L hs (setL_n (by decide)) (setL_n (by decide)), by rw [e3, e4]; exact frM_L (by decide) (by decide)⟩
    rw [aSide, if_pos hcond, if_pos h0, ep]
    congr 2
    exact sumC_c (fun x hx => ⟨by rw [map_P hs (by omega)], fun _ => rfl⟩)
  rw [jd_M hs hw hq]
  refine ⟨fun h1 => ⟨fun h0 => ?_, fun h0 => ⟨6, _, rfl, c_X12_sideHere hG _ _ hM hp rfl, hhere h0⟩⟩, fun h1 => ⟨hmO, mp_ok hs hw hq, tk_ok hs hw, fun hj => ⟨fun h0 => ⟨5, _, rfl, c_X12_sideThere hG _ _ hM (mp_ok hs hw hq) hk hqk rfl, hthere hj h0⟩, fun h0 => ⟨6, _, rfl, c_X12_sideHere hG _ _ hM hp rfl, hhere h0⟩⟩, fun hj => ⟨?_, rfl, hs, frM_r⟩⟩⟩
  · obtain ⟨j, hj, e⟩ := (inR_t (by decide)).mp h3
    exfalso
    have a : j ≠ 0 := fun q => h0 (by rw [e, q]; rfl)
    have b : j ≠ 1 := fun q => h1 (by rw [e, q]; rfl)
    omega
  · rw [aSide, if_pos hcond, if_neg (by rw [h1]; decide), if_neg (by rw [show jndS s = _ from hj]; decide)]
abbrev allS (n : Nat) : Int32 := ((1 : Int32) <<< (nI n &&& 31)) - 1
abbrev hiS (s : St) : Int32 := maxI (ht (rN (sC s)) (rA (sC s))) (rN (sC s))
abbrev loS (s : St) : Int32 := leastM (rN (sC s)) (rA (sC s)) (allS (rN (sC s)))
def aCoef (s : St) (i : Int32) : Int64 :=
  if (decide (¬ loS s = -2) && (grM (rN (sC s)) (rA (sC s)) && m_isIn i.toInt64 0 (hiS s).toInt64)) = true then sumC (fun x => decide (ht (rN (sC s)) (rA (sC s)) x = hiS s - i)) (mu (rN (sC s)) (rA (sC s)) (loS s).toNatClampNeg) (rN (sC s)) else -9223372036854775808
theorem lo_le {n : Nat} {A : Nat → Int32} (h16 : n ≤ 16) {w : Nat} (hw : w < n) (h : allS n &&& (upS A w ^^^ (-1)) = 0) : ∀ x, x < n → le A w x = true := by
  intro x hx
  have := b_eq0.mp h x (by omega)
  rw [b_and, b_not _ (by omega), b_all n h16 x (by omega), decide_eq_true hx, Bool.true_and, Bool.not_eq_false'] at this
  exact this
set_option maxRecDepth 100000 in
set_option maxHeartbeats 4000000 in
theorem b_X12_coefficient_0 {z : amZ} {post : amP} {G : amG} {I : amI} {L : amL} (hz : Go z cX12_coefficient RX12 8 (some .long) 6 0 0 post) (hG : Lay G) {v1 : Int32} (h : (mOk L) ∧ ∃ (dq2 : Nat) (postq2 : amP), Nat.ble (dq2 + 1) 6 = true ∧ Mx (zL z) (zD z) (zB z) yX12_greatestHeight cX12_greatestHeight 3 (some .int) dq2 0 0 [.ref ((zB z).size + 64)] G I L postq2 ∧ ∀ (roq2 : Option Value) (Gq2 : amG) (Iq2 : amI) (Lq2 : amL), postq2 roq2 Gq2 Iq2 Lq2 → ∃ (rq2 : Int32), roq2 = some (.int rq2) ∧ Lay Gq2 ∧ (((m_least L (((1 : Int32) <<< ((m_many L) &&& 31)) - (1 : Int32))) = (-2 : Int32)) → post (some (.long (-9223372036854775808 : Int64))) Gq2 Iq2 Lq2) ∧ ((¬ (m_least L (((1 : Int32) <<< ((m_many L) &&& 31)) - (1 : Int32))) = (-2 : Int32)) → ∃ (dq4 : Nat) (postq4 : amP), Nat.ble (dq4 + 1) 6 = true ∧ Mx (zL z) (zD z) (zB z) yX12_isGraded cX12_isGraded 3 (some .boolean) dq4 0 0 [.ref ((zB z).size + 64)] Gq2 Iq2 Lq2 postq4 ∧ ∀ (roq4 : Option Value) (Gq4 : amG) (Iq4 : amI) (Lq4 : amL), postq4 roq4 Gq4 Iq4 Lq4 → ∃ (rq4 : Int32), roq4 = some (.int rq4) ∧ Lay Gq4 ∧ ((rq4 = 0) → post (some (.long (-9223372036854775808 : Int64))) Gq4 Iq4 Lq4) ∧ ((¬ rq4 = 0) → ((m_isIn v1.toInt64 (0 : Int64) rq2.toInt64 = true) → ∃ (dq7 : Nat) (postq7 : amP), Nat.ble (dq7 + 1) 6 = true ∧ Mx (zL z) (zD z) (zB z) yX12_moebiusMade cX12_moebiusMade 4 none dq7 0 0 [.ref ((zB z).size + 64)] Gq4 Iq4 Lq4 postq7 ∧ ∀ (roq7 : Option Value) (Gq7 : amG) (Iq7 : amI) (Lq7 : amL), postq7 roq7 Gq7 Iq7 Lq7 → roq7 = none ∧ Lay Gq7 ∧ Wx z 0 0 60 [(0, .ref ((zB z).size + 64)), (1, .int v1), (3, .int (m_least L (((1 : Int32) <<< ((m_many L) &&& 31)) - (1 : Int32)))), (4, .int rq2), (5, .long (0 : Int64)), (7, .int 0)] [] Gq7 Iq7 Lq7) ∧ ((m_isIn v1.toInt64 (0 : Int64) rq2.toInt64 = false) → post (some (.long (-9223372036854775808 : Int64))) Gq4 Iq4 Lq4)))) : Wx z 0 0 0 [(0, .ref ((zB z).size + 64)), (1, .int v1)] [] G I L := by
  have hz1 := hz.1
  refine am_iconst (v := 1) hz1 dX12_coefficient_0 (by decide) ?_
  refine am_aload_n hz1 dX12_coefficient_1 0 rfl rfl ?_
  refine am_cVf hz cv_X12_78 [] [.int 1] (c_X12_many hG  ) (ln_64 hG) (lk_64 hG) rfl rfl rfl ⟨Nat.le_refl _, Nat.le_refl _⟩ (Nat.le_of_ble_eq_true rfl) dX12_coefficient_2 ?_
  refine am_ishl hz1 dX12_coefficient_5 ?_
  refine am_iconst (v := 1) hz1 dX12_coefficient_6 (by decide) ?_
  refine am_isub hz1 dX12_coefficient_7 ?_
  refine am_istore_n (lv' := [(2, .int (((1 : Int32) <<< ((m_many L) &&& 31)) - (1 : Int32))), (0, .ref ((zB z).size + 64)), (1, .int v1)]) hz1 dX12_coefficient_8 rfl rfl rfl ?_
  refine am_aload_n hz1 dX12_coefficient_9 1 rfl rfl ?_
  refine am_iload_n hz1 dX12_coefficient_10 0 rfl rfl ?_
  obtain ⟨g1, h⟩ := h
  refine am_cVf hz cv_X12_347 [.int (((1 : Int32) <<< ((m_many L) &&& 31)) - (1 : Int32))] [] (c_X12_leastOf hG (((1 : Int32) <<< ((m_many L) &&& 31)) - (1 : Int32)) g1) (ln_64 hG) (lk_64 hG) rfl rfl rfl ⟨Nat.le_refl _, Nat.le_refl _⟩ (Nat.le_of_ble_eq_true rfl) dX12_coefficient_11 ?_
  refine am_istore_n (lv' := [(3, .int (m_least L (((1 : Int32) <<< ((m_many L) &&& 31)) - (1 : Int32)))), (2, .int (((1 : Int32) <<< ((m_many L) &&& 31)) - (1 : Int32))), (0, .ref ((zB z).size + 64)), (1, .int v1)]) hz1 dX12_coefficient_14 rfl rfl rfl ?_
  refine am_aload_n hz1 dX12_coefficient_15 2 rfl rfl ?_
  obtain ⟨dq2, postq2, hdq2, hMq2, h⟩ := h
  refine am_callV hz1 cv_X12_485 [] [] hMq2 (ln_64 hG) (lk_64 hG) rfl rfl (hz.fr hdq2) (hz.lo hdq2) (by rw [hz.2.1]; exact ⟨Nat.le_refl _, Nat.le_refl _⟩) (Nat.le_of_ble_eq_true rfl) dX12_coefficient_16 (fun roq2 Gq2 Iq2 Lq2 hpq2 => ?_)
  obtain ⟨rq2, rfl, hGq2, h⟩ := h roq2 Gq2 Iq2 Lq2 hpq2
  refine am_istore (lv' := [(4, .int rq2), (3, .int (m_least L (((1 : Int32) <<< ((m_many L) &&& 31)) - (1 : Int32)))), (2, .int (((1 : Int32) <<< ((m_many L) &&& 31)) - (1 : Int32))), (0, .ref ((zB z).size + 64)), (1, .int v1)]) hz1 dX12_coefficient_19 rfl rfl ?_
  refine am_iload_n hz1 dX12_coefficient_21 1 rfl rfl ?_
  refine am_bipush (v := (-2)) hz1 dX12_coefficient_22 (by decide) ?_
  refine am_icmp_eq (tgt := 46) hz1 dX12_coefficient_24 (by decide) (fun c3 => ?_) (fun c3 => ?_)
  · replace h := h.1 c3
    refine am_ldc2 hz1 kc_X12_269 dX12_coefficient_46 ?_
    exact am_lreturn hz dX12_coefficient_49 h
  · replace h := h.2 c3
    refine am_aload_n hz1 dX12_coefficient_27 3 rfl rfl ?_
    obtain ⟨dq4, postq4, hdq4, hMq4, h⟩ := h
    refine am_callV hz1 cv_X12_488 [] [] hMq4 (ln_64 hGq2) (lk_64 hGq2) rfl rfl (hz.fr hdq4) (hz.lo hdq4) (by rw [hz.2.1]; exact ⟨Nat.le_refl _, Nat.le_refl _⟩) (Nat.le_of_ble_eq_true rfl) dX12_coefficient_28 (fun roq4 Gq4 Iq4 Lq4 hpq4 => ?_)
    obtain ⟨rq4, rfl, hGq4, h⟩ := h roq4 Gq4 Iq4 Lq4 hpq4
    refine am_if_eq (tgt := 46) hz1 dX12_coefficient_31 (by decide) (fun c5 => ?_) (fun c5 => ?_)
    · replace h := h.1 c5
      refine am_ldc2 hz1 kc_X12_269 dX12_coefficient_46 ?_
      exact am_lreturn hz dX12_coefficient_49 h
    · replace h := h.2 c5
      refine am_iload_n hz1 dX12_coefficient_34 4 rfl rfl ?_
      refine am_i2l hz1 dX12_coefficient_35 ?_
      refine am_lconst (v := 0) hz1 dX12_coefficient_36 (by decide) ?_
      refine am_iload hz1 dX12_coefficient_37 0 rfl ?_
      refine am_i2l hz1 dX12_coefficient_39 ?_
      refine am_cSf hz ct_X12_82 [.long v1.toInt64, .long (0 : Int64), .long rq2.toInt64] [] (c_X12_isIn hGq4 v1.toInt64 (0 : Int64) rq2.toInt64 ) rfl rfl rfl ⟨Nat.le_refl _, Nat.le_refl _⟩ (Nat.le_of_ble_eq_true rfl) dX12_coefficient_40 ?_
      refine am_ifb_ne (tgt := 50) hz1 dX12_coefficient_43 (by decide) (fun c6 => ?_) (fun c6 => ?_)
      · replace h := h.1 c6
        refine am_aload_n hz1 dX12_coefficient_50 3 rfl rfl ?_
        obtain ⟨dq7, postq7, hdq7, hMq7, h⟩ := h
        refine am_callV hz1 cv_X12_283 [] [] hMq7 (ln_64 hGq4) (lk_64 hGq4) rfl rfl (hz.fr hdq7) (hz.lo hdq7) (by rw [hz.2.1]; exact ⟨Nat.le_refl _, Nat.le_refl _⟩) (Nat.le_of_ble_eq_true rfl) dX12_coefficient_51 (fun roq7 Gq7 Iq7 Lq7 hpq7 => ?_)
        obtain ⟨rfl, hGq7, h⟩ := h roq7 Gq7 Iq7 Lq7 hpq7
        refine am_lconst (v := 0) hz1 dX12_coefficient_54 (by decide) ?_
        refine am_lstore (lv' := [(5, .long (0 : Int64)), (4, .int rq2), (3, .int (m_least L (((1 : Int32) <<< ((m_many L) &&& 31)) - (1 : Int32)))), (2, .int (((1 : Int32) <<< ((m_many L) &&& 31)) - (1 : Int32))), (0, .ref ((zB z).size + 64)), (1, .int v1)]) hz1 dX12_coefficient_55 rfl rfl ?_
        refine am_iconst (v := 0) hz1 dX12_coefficient_57 (by decide) ?_
        refine am_istore (lv' := [(7, .int 0), (5, .long (0 : Int64)), (4, .int rq2), (3, .int (m_least L (((1 : Int32) <<< ((m_many L) &&& 31)) - (1 : Int32)))), (2, .int (((1 : Int32) <<< ((m_many L) &&& 31)) - (1 : Int32))), (0, .ref ((zB z).size + 64)), (1, .int v1)]) hz1 dX12_coefficient_58 rfl rfl ?_
        exact am_sub (lv' := [(0, .ref ((zB z).size + 64)), (1, .int v1), (3, .int (m_least L (((1 : Int32) <<< ((m_many L) &&& 31)) - (1 : Int32)))), (4, .int rq2), (5, .long (0 : Int64)), (7, .int 0)]) [5, 6, 3, 2, 1, 0] rfl h
      · replace h := h.2 c6
        refine am_ldc2 hz1 kc_X12_269 dX12_coefficient_46 ?_
        exact am_lreturn hz dX12_coefficient_49 h
set_option maxRecDepth 100000 in
set_option maxHeartbeats 4000000 in
theorem b_X12_coefficient_60 {z : amZ} {post : amP} {G : amG} {I : amI} {L : amL} (hz : Go z cX12_coefficient RX12 8 (some .long) 6 0 0 post) (hG : Lay G) {v1 : Int32} {v3 : Int32} {v4 : Int32} {v5 : Int64} {v7 : Int32} (h : (((m_many L) ≤ v7) → post (some (.long v5)) G I L) ∧ ((¬ (m_many L) ≤ v7) → vp_in v7 16 ∧ ((¬ (I 75 v7.toNatClampNeg) = (v4 - v1)) → Wx z 0 0 60 [(0, .ref ((zB z).size + 64)), (1, .int v1), (3, .int v3), (4, .int v4), (5, .long v5), (7, .int (v7 + 1))] [] G I L) ∧ (((I 75 v7.toNatClampNeg) = (v4 - v1)) → vp_in (((16 : Int32) * v3) + v7) 256 ∧ Wx z 0 0 60 [(0, .ref ((zB z).size + 64)), (1, .int v1), (3, .int v3), (4, .int v4), (5, .long (v5 + (L 72 (((16 : Int32) * v3) + v7).toNatClampNeg))), (7, .int (v7 + 1))] [] G I L))) : Wx z 0 0 60 [(0, .ref ((zB z).size + 64)), (1, .int v1), (3, .int v3), (4, .int v4), (5, .long v5), (7, .int v7)] [] G I L := by
  have hz1 := hz.1
  refine am_iload hz1 dX12_coefficient_60 5 rfl ?_
  refine am_aload_n hz1 dX12_coefficient_62 0 rfl rfl ?_
  refine am_cVf hz cv_X12_78 [] [.int v7] (c_X12_many hG  ) (ln_64 hG) (lk_64 hG) rfl rfl rfl ⟨Nat.le_refl _, Nat.le_refl _⟩ (Nat.le_of_ble_eq_true rfl) dX12_coefficient_63 ?_
  refine am_icmp_ge (tgt := 106) hz1 dX12_coefficient_66 (by decide) (fun c1 => ?_) (fun c1 => ?_)
  · replace h := h.1 c1
    refine am_lload hz1 dX12_coefficient_106 4 rfl ?_
    exact am_lreturn hz dX12_coefficient_108 h
  · replace h := h.2 c1
    refine am_aload_n hz1 dX12_coefficient_69 0 rfl rfl ?_
    refine am_getR hz1 fl_X12_44 (ln_64 hG) (lk_64 hG) (lr_64_19 hG) rfl dX12_coefficient_70 ?_
    refine am_iload hz1 dX12_coefficient_73 5 rfl ?_
    obtain ⟨g2, h⟩ := h
    refine am_iald hz1 (ln_75 hG) (lk_75 hG) (by rw [(ll_75 hG)]; exact g2) dX12_coefficient_75 ?_
    refine am_iload hz1 dX12_coefficient_76 3 rfl ?_
    refine am_iload_n hz1 dX12_coefficient_78 1 rfl rfl ?_
    refine am_isub hz1 dX12_coefficient_79 ?_
    refine am_icmp_ne (tgt := 100) hz1 dX12_coefficient_80 (by decide) (fun c3 => ?_) (fun c3 => ?_)
    · replace h := h.1 c3
      refine am_iinc (v := v7 + 1) (lv' := [(7, .int (v7 + 1)), (0, .ref ((zB z).size + 64)), (1, .int v1), (3, .int v3), (4, .int v4), (5, .long v5)]) hz1 dX12_coefficient_100 5 rfl rfl rfl rfl ?_
      refine am_goto (tgt := 60) hz1 dX12_coefficient_103 (by decide) ?_
      exact am_sub (lv' := [(0, .ref ((zB z).size + 64)), (1, .int v1), (3, .int v3), (4, .int v4), (5, .long v5), (7, .int (v7 + 1))]) [1, 2, 3, 4, 5, 0] rfl h
    · replace h := h.2 c3
      refine am_lload hz1 dX12_coefficient_83 4 rfl ?_
      refine am_aload_n hz1 dX12_coefficient_85 0 rfl rfl ?_
      refine am_getR hz1 fl_X12_35 (ln_64 hG) (lk_64 hG) (lr_64_16 hG) rfl dX12_coefficient_86 ?_
      refine am_bipush (v := 16) hz1 dX12_coefficient_89 (by decide) ?_
      refine am_iload_n hz1 dX12_coefficient_91 2 rfl rfl ?_
      refine am_imul hz1 dX12_coefficient_92 ?_
      refine am_iload hz1 dX12_coefficient_93 5 rfl ?_
      refine am_iadd hz1 dX12_coefficient_95 ?_
      obtain ⟨g4, h⟩ := h
      refine am_lald hz1 (ln_72 hG) (lk_72 hG) (by rw [(ll_72 hG)]; exact g4) dX12_coefficient_96 ?_
      refine am_ladd hz1 dX12_coefficient_97 ?_
      refine am_lstore (lv' := [(5, .long (v5 + (L 72 (((16 : Int32) * v3) + v7).toNatClampNeg))), (0, .ref ((zB z).size + 64)), (1, .int v1), (3, .int v3), (4, .int v4), (7, .int v7)]) hz1 dX12_coefficient_98 rfl rfl ?_
      refine am_iinc (v := v7 + 1) (lv' := [(7, .int (v7 + 1)), (5, .long (v5 + (L 72 (((16 : Int32) * v3) + v7).toNatClampNeg))), (0, .ref ((zB z).size + 64)), (1, .int v1), (3, .int v3), (4, .int v4)]) hz1 dX12_coefficient_100 5 rfl rfl rfl rfl ?_
      refine am_goto (tgt := 60) hz1 dX12_coefficient_103 (by decide) ?_
      exact am_sub (lv' := [(0, .ref ((zB z).size + 64)), (1, .int v1), (3, .int v3), (4, .int v4), (5, .long (v5 + (L 72 (((16 : Int32) * v3) + v7).toNatClampNeg))), (7, .int (v7 + 1))]) [2, 3, 4, 5, 1, 0] rfl h
set_option maxRecDepth 100000 in
set_option maxHeartbeats 4000000 in
theorem c_X12_coefficient {l : Launch} {D : va_G} {B : Heap} {G : amG} {I : amI} {L : amL}  (hG : Lay G)  (v1 : Int32) {s : St} (hs : RI s I L) (hw : WF s) : Mx l D B yX12_coefficient cX12_coefficient 8 (some .long) 6 0 0 [.ref (B.size + 64), .int v1] G I L (fun r G1 I1 L1 => r = some (.long (aCoef s v1)) ∧ G1 = G ∧ RI s I1 L1 ∧ frM I L I1 L1) := by
  refine Mx.of (by decide) rfl rfl (fun z e1 e2 e3 hz => ?_)
  subst e1; subst e2; subst e3
  refine b_X12_coefficient_0 hz hG ?_
  have hM := hs.1.mo
  have h16 := hM.2.1
  have hlo : m_least L (((1 : Int32) <<< (m_many L &&& 31)) - 1) = loS s := by rw [hM.least, hM.many]
  rw [hlo]
  refine ⟨⟨_, _, hM⟩, 4, _, rfl, c_X12_greatestHeight hG hM, fun ro G2 I2 L2 ⟨e1, e2, e3, f, e4, e5⟩ => ⟨_, e1, by rw [e2]; exact hG, fun q => ⟨?_, e2, by rw [e3, e4]; exact RI_I hs (by decide) (by decide) (by decide), by rw [e3, e4]; exact frM_I (by decide) (by decide)⟩, fun q => ?_⟩⟩
  · rw [aCoef, if_neg (by rw [decide_eq_false (not_not_intro q)]; simp)]
  rw [e2, e3, e4]
  refine ⟨5, _, rfl, c_X12_isGraded hG hM, fun ro2 G3 I3 L3 ⟨g1, g2, g3, f2, g4, g5⟩ => ⟨_, g1, by rw [g2]; exact hG, fun q2 => ⟨?_, g2, by rw [g3, g4, setI_ss]; exact RI_I hs (by decide) (by decide) (by decide), by rw [g3, g4, setI_ss]; exact frM_I (by decide) (by decide)⟩, fun q2 => ⟨fun q3 => ?_, fun q3 => ⟨?_, g2, by rw [g3, g4, setI_ss]; exact RI_I hs (by decide) (by decide) (by decide), by rw [g3, g4, setI_ss]; exact frM_I (by decide) (by decide)⟩⟩⟩⟩
  · rw [bI_z] at q2
    rw [aCoef, if_neg (by rw [q2]; simp)]
  · rw [bI_nz] at q2
    rw [g2, g3, g4, setI_ss]
    have hcond : (decide (¬ loS s = -2) && (grM (rN (sC s)) (rA (sC s)) && m_isIn v1.toInt64 0 (hiS s).toInt64)) = true := by rw [decide_eq_true q, q2, q3]; rfl
    rcases least_or (rN (sC s)) (rA (sC s)) (allS (rN (sC s))) with ⟨w1, _⟩ | ⟨w, hww, _, hw3, hw4⟩
    · exact absurd w1 q
    · have hle := lo_le h16 hww hw3
      refine ⟨5, _, rfl, c_X12_moebiusMade hG hM, fun ro4 G5 I5 L5 ⟨k1, k2, k3, f3, k4, k5⟩ => ⟨k1, by rw [k2]; exact hG, ?_⟩⟩
      rw [k2, k3, k4, show loS s = nI w from hw4]
      have hO : MO (setL L 72 f3) (rN (sC s)) (rA (sC s)) := MO_72 hM (by decide)
      refine for_up (P := fun i => Wx z 0 0 60 [(0, .ref ((zB z).size + 64)), (1, .int v1), (3, .int (nI w)), (4, .int (hiS s)), (5, .long (sumC (fun x => decide (ht (rN (sC s)) (rA (sC s)) x = hiS s - v1)) (mu (rN (sC s)) (rA (sC s)) w) i)), (7, .int (nI i))] [] G (setI I 75 f2) (setL L 72 f3)) (n := rN (sC s)) ?_ ?_ (Nat.zero_le _)
      · refine b_X12_coefficient_60 hz hG ⟨fun _ => ⟨?_, rfl, RI_L (RI_I hs (by decide) (by decide) (by decide)) (setL_n (by decide)) (setL_n (by decide)), frM_t (frM_I (by decide) (by decide)) (frM_L (by decide) (by decide))⟩, fun g => absurd (mm_le hO) g⟩
        rw [aCoef, if_pos hcond, show loS s = nI w from hw4, cl_nI (by omega)]
      · intro i hi ih
        refine b_X12_coefficient_60 hz hG ⟨fun g => absurd g (mm_ge hO hi), fun _ => ?_⟩
        rw [setI_s, cl_nI (n := i) (by omega), g5 i hi, c16, cl_nI (n := 16 * w + i) (by omega), setL_s, nI_1, k5 w i (by omega) (by omega), if_pos ⟨hww, hi⟩, muT, if_pos (hle i hi)]
        refine ⟨in16 h16 hi, fun g => ?_, fun g => ⟨in_nI (by omega) (by decide), ?_⟩⟩
        · rw [sumC, if_neg (by rw [decide_eq_false g]; decide)] at ih
          exact ih
        · rw [sumC, if_pos (decide_eq_true g)] at ih
          exact ih
  · rw [aCoef, if_neg (by rw [q3]; simp)]
/-! counts -/
noncomputable def wdN (n : Nat) (A : Nat → Int32) : Nat := @Classical.epsilon Nat ⟨0⟩ (isWd n A (fun _ => true))
theorem wdN_is {n m : Nat} {A : Nat → Int32} (h : isWd n A (fun _ => true) m) : m = wdN n A := isWd_un h (@Classical.epsilon_spec Nat _ ⟨m, h⟩)
def pbM (n : Nat) (A : Nat → Int32) : Int32 := sumI (fun x => nI (ct (bt (A x)) n)) n
def cvM (n : Nat) (A : Nat → Int32) : Int32 := sumI (fun x => nI (ct (cv n A x) n)) n
def laM1 (n : Nat) (A : Nat → Int32) (x : Nat) : Bool := scan (fun y => decide (leastM n A (upS A x &&& upS A y) = -2) || decide (greatM n A (dnS n A x &&& dnS n A y) = -2)) (fun _ => true) false x 0
def laM (n : Nat) (A : Nat → Int32) : Bool := scan (laM1 n A) (fun _ => false) true n 0
noncomputable def aCount (s : St) (w : Int32) : Int32 :=
  if w = 0 then nI (rN (sC s)) else if w = 1 then pbM (rN (sC s)) (rA (sC s)) else if w = 2 then cvM (rN (sC s)) (rA (sC s)) else if w = 3 then hiS s else if w = 4 then bI (grM (rN (sC s)) (rA (sC s))) else if w = 5 then bI (laM (rN (sC s)) (rA (sC s))) else if w = 6 then nI (tyO (rN (sC s)) (rA (sC s))).tm else if w = 7 then pbM (rN (sC s)) (rA (sC s)) + nI (rN (sC s)) else if w = 8 then nI (sH s).1 else if w = 9 then nI (sT s).1 else if w = 10 then mkset (fun j => decide (¬ (if j = 0 then (s0 s).1 else (s1 s).1) = 0)) 2 else if w = 11 then mkset (fun a => decide (bn (rN (sC s)) (rA (sC s)) a = 0)) (rN (sC s)) else if w = 12 then mkset (fun a => decide (rA (sC s) a = 0)) (rN (sC s)) else if w = 13 then mkset (fun f => rdM (rN (sC s)) (rA (sC s)) (fun k => rF (sC s) (256 * f + k))) 4 else if w = 14 then nI (wdN (rN (sC s)) (rA (sC s))) else -1
theorem up_ct {n : Nat} {A : Nat → Int32} (hP : PO n A) (h16 : n ≤ 16) {a : Nat} (ha : a < n) : ct (bt (upS A a)) 16 = ct (bt (A a)) n + 1 := by
  have e1 : ct (bt (upS A a)) 16 = ct (fun i => decide (i = a) || (decide (i < n) && bt (A a) i)) 16 := by
    apply ct_cong
    intro i hi
    rw [upS, b_or, b_one a (by omega) (by omega), Bool.or_comm]
    congr 1
    cases e : bt (A a) i
    · rw [Bool.and_false]
    · rw [decide_eq_true (hP.1 a ha i (by omega) e)]; rfl
  rw [e1, ct_add, ct_one (by omega), ct_lim h16]
  · omega
  · rintro i hi ⟨q1, q2⟩
    rw [decide_eq_true_eq] at q1
    subst q1
    rw [hP.2.1 i ha, Bool.and_false] at q2
    cases q2
theorem sumI_c {f g : Nat → Int32} : ∀ {n : Nat}, (∀ i, i < n → f i = g i) → sumI f n = sumI g n
  | 0, _ => rfl
  | n + 1, h => by rw [sumI, sumI, sumI_c (fun i hi => h i (by omega)), h n (by omega)]
theorem addC_n {c : Nat → Bool} {b : Int32} : ∀ n, cnt2.addC c b n = b + nI (ct c n)
  | 0 => by rw [cnt2.addC, ct]; show b = b + 0; rw [Int32.add_zero]
  | n + 1 => by
    rw [cnt2.addC, ct, addC_n n]
    by_cases h : c n = true
    · rw [if_pos h, if_pos h, Int32.add_assoc, nI_1]
    · rw [if_neg h, if_neg h]; rfl
theorem cnt2_n {c : Nat → Nat → Bool} {m : Nat} : ∀ n, cnt2 c m n = sumI (fun a => nI (ct (c a) m)) n
  | 0 => rfl
  | n + 1 => by rw [cnt2, sumI, addC_n, cnt2_n n]
theorem bn_0 {n : Nat} {A : Nat → Int32} (h16 : n ≤ 16) {a : Nat} : bn n A a = 0 ↔ key n A a = 0 := by
  rw [key, ct_0, b_eq0]
  constructor
  · intro h i hi
    have := h i (by omega)
    rw [bn_bt (by omega) (by omega), decide_eq_true hi, Bool.true_and] at this
    exact this
  · intro h i hi
    rw [bn_bt (by omega) hi]
    by_cases e : i < n
    · rw [h i e, Bool.and_false]
    · rw [decide_eq_false e]; rfl
theorem A_0 {n : Nat} {A : Nat → Int32} (hP : PO n A) {a : Nat} (ha : a < n) (h16 : n ≤ 16) : A a = 0 ↔ ct (bt (A a)) n = 0 := by
  rw [ct_0, b_eq0]
  constructor
  · intro h i hi; exact h i (by omega)
  · intro h i hi
    rw [Bool.eq_false_iff]
    intro q
    rw [h i (hP.1 a ha i hi q)] at q; cases q
theorem kept_M {s : St} {I : amI} {L : amL} (hs : RI s I L) (hw : WF s) {j : Nat} (hj : j < 2) : m_kept I (nI j) = decide (¬ (if j = 0 then (s0 s).1 else (s1 s).1) = 0) := by
  have hj01 : j = 0 ∨ j = 1 := by omega
  have key : ∀ (h : Shf), h.1 ≤ 16 → shM I j h → decide (¬ I 67 j ≤ 0) = decide (¬ h.1 = 0) := by
    intro h hle q
    apply decide_eq_decide.mpr
    apply not_congr
    rcases q with ⟨q1, q2⟩ | q
    · rw [q1, q2]; decide
    · rw [q.2.2.2.1, show (0 : Int32) = nI 0 from rfl, nI_leI (by have := q.2.1; omega) (by decide)]
      omega
  rw [m_kept, isIn_R (k := 1) (by decide) (by decide), (inR_t (by decide)).mpr ⟨j, by omega, rfl⟩, Bool.true_and, cl_nI (by omega)]
  rcases hj01 with rfl | rfl
  · rw [if_pos rfl]; exact key _ hw.2.2.1 hs.2.2.1
  · rw [if_neg (by decide)]; exact key _ hw.2.2.2.1 hs.2.2.2.1
theorem cases15 {w : Int32} (h : w < 0 ∨ 14 < w) (k : Int32) (hk : 0 ≤ k ∧ k ≤ 14) : ¬ w = k := by
  rintro rfl
  rcases h with q | q
  · rw [Int32.lt_iff_toInt_lt] at q; have := hk.1; rw [Int32.le_iff_toInt_le] at this; omega
  · rw [Int32.lt_iff_toInt_lt] at q; have := hk.2; rw [Int32.le_iff_toInt_le] at this; omega
set_option maxRecDepth 100000 in
set_option maxHeartbeats 4000000 in
theorem b_X12_count_0 {z : amZ} {post : amP} {G : amG} {I : amI} {L : amL} (hz : Go z cX12_count RX12 2 (some .int) 45 0 0 post) (hG : Lay G) {v1 : Int32} (h : (v1 = 0 → post (some (.int (m_many L))) G I L) ∧ (v1 = 1 → (mOk L) ∧ post (some (.int (m_pb L))) G I L) ∧ (v1 = 2 → (mOk L) ∧ post (some (.int (m_covers L))) G I L) ∧ (v1 = 3 → ∃ (dq4 : Nat) (postq4 : amP), Nat.ble (dq4 + 1) 45 = true ∧ Mx (zL z) (zD z) (zB z) yX12_greatestHeight cX12_greatestHeight 3 (some .int) dq4 0 0 [.ref ((zB z).size + 64)] G I L postq4 ∧ ∀ (roq4 : Option Value) (Gq4 : amG) (Iq4 : amI) (Lq4 : amL), postq4 roq4 Gq4 Iq4 Lq4 → ∃ (rq4 : Int32), roq4 = some (.int rq4) ∧ Lay Gq4 ∧ post (some (.int rq4)) Gq4 Iq4 Lq4) ∧ (v1 = 4 → ∃ (dq5 : Nat) (postq5 : amP), Nat.ble (dq5 + 1) 45 = true ∧ Mx (zL z) (zD z) (zB z) yX12_isGraded cX12_isGraded 3 (some .boolean) dq5 0 0 [.ref ((zB z).size + 64)] G I L postq5 ∧ ∀ (roq5 : Option Value) (Gq5 : amG) (Iq5 : amI) (Lq5 : amL), postq5 roq5 Gq5 Iq5 Lq5 → ∃ (rq5 : Int32), roq5 = some (.int rq5) ∧ Lay Gq5 ∧ ((rq5 = 0) → post (some (.int 0)) Gq5 Iq5 Lq5) ∧ ((¬ rq5 = 0) → post (some (.int 1)) Gq5 Iq5 Lq5)) ∧ (v1 = 5 → (mOk L) ∧ ((m_allJ L = false) → post (some (.int 0)) G I L) ∧ ((m_allJ L = true) → post (some (.int 1)) G I L)) ∧ (v1 = 6 → ∃ (dq9 : Nat) (postq9 : amP), Nat.ble (dq9 + 1) 45 = true ∧ Mx (zL z) (zD z) (zB z) yX12_typesNow cX12_typesNow 1 (some .int) dq9 0 0 [.ref ((zB z).size + 64)] G I L postq9 ∧ ∀ (roq9 : Option Value) (Gq9 : amG) (Iq9 : amI) (Lq9 : amL), postq9 roq9 Gq9 Iq9 Lq9 → ∃ (rq9 : Int32), roq9 = some (.int rq9) ∧ Lay Gq9 ∧ post (some (.int rq9)) Gq9 Iq9 Lq9) ∧ (v1 = 7 → (mOk L) ∧ post (some (.int ((m_pb L) + (m_many L)))) G I L) ∧ (v1 = 8 → post (some (.int (I 64 2))) G I L) ∧ (v1 = 9 → post (some (.int (I 64 7))) G I L) ∧ (v1 = 10 → post (some (.int (mkset (fun s => m_kept I (nI s)) 2))) G I L) ∧ (v1 = 11 → (mOk L) ∧ post (some (.int (mkset (fun a => decide (m_size (if (1 : Int32) = 0 then m_up L (nI a) else m_dn L (nI a)) = 1)) (mN L)))) G I L) ∧ (v1 = 12 → (mOk L) ∧ post (some (.int (mkset (fun a => decide (m_size (if (0 : Int32) = 0 then m_up L (nI a) else m_dn L (nI a)) = 1)) (mN L)))) G I L) ∧ (v1 = 13 → ∃ (dq13 : Nat) (postq13 : amP), Nat.ble (dq13 + 1) 45 = true ∧ Mx (zL z) (zD z) (zB z) yX12_reducedOnes cX12_reducedOnes 3 (some .int) dq13 0 0 [.ref ((zB z).size + 64)] G I L postq13 ∧ ∀ (roq13 : Option Value) (Gq13 : amG) (Iq13 : amI) (Lq13 : amL), postq13 roq13 Gq13 Iq13 Lq13 → ∃ (rq13 : Int32), roq13 = some (.int rq13) ∧ Lay Gq13 ∧ post (some (.int rq13)) Gq13 Iq13 Lq13) ∧ (v1 = 14 → ∃ (dq14 : Nat) (postq14 : amP), Nat.ble (dq14 + 1) 45 = true ∧ Mx (zL z) (zD z) (zB z) yX12_widest cX12_widest 3 (some .int) dq14 0 0 [.ref ((zB z).size + 64)] G I L postq14 ∧ ∀ (roq14 : Option Value) (Gq14 : amG) (Iq14 : amI) (Lq14 : amL), postq14 roq14 Gq14 Iq14 Lq14 → ∃ (rq14 : Int32), roq14 = some (.int rq14) ∧ Lay Gq14 ∧ post (some (.int rq14)) Gq14 Iq14 Lq14) ∧ ((v1 < 0 ∨ 14 < v1) → post (some (.int (-1))) G I L)) : Wx z 0 0 0 [(0, .ref ((zB z).size + 64)), (1, .int v1)] [] G I L := by
  have hz1 := hz.1
  refine am_iload_n hz1 dX12_count_0 1 rfl rfl ?_
  by_cases c1_0 : v1 = 0
  · replace h := h.1 c1_0
    refine am_tabI (off := 75) (tgt := 76) hz1 0 dX12_count_1 c1_0 (by decide) (by decide) rfl (by decide) ?_
    refine am_aload_n hz1 dX12_count_76 0 rfl rfl ?_
    refine am_cVf hz cv_X12_78 [] [] (c_X12_many hG  ) (ln_64 hG) (lk_64 hG) rfl rfl rfl ⟨Nat.le_refl _, Nat.le_refl _⟩ (Nat.le_of_ble_eq_true rfl) dX12_count_77 ?_
    exact am_ireturn hz dX12_count_80 h
  by_cases c1_1 : v1 = 1
  · replace h := h.2.1 c1_1
    refine am_tabI (off := 80) (tgt := 81) hz1 1 dX12_count_1 c1_1 (by decide) (by decide) rfl (by decide) ?_
    refine am_aload_n hz1 dX12_count_81 0 rfl rfl ?_
    obtain ⟨g2, h⟩ := h
    refine am_cVf hz cv_X12_494 [] [] (c_X12_pairsBelow hG  g2) (ln_64 hG) (lk_64 hG) rfl rfl rfl ⟨Nat.le_refl _, Nat.le_refl _⟩ (Nat.le_of_ble_eq_true rfl) dX12_count_82 ?_
    exact am_ireturn hz dX12_count_85 h
  by_cases c1_2 : v1 = 2
  · replace h := h.2.2.1 c1_2
    refine am_tabI (off := 85) (tgt := 86) hz1 2 dX12_count_1 c1_2 (by decide) (by decide) rfl (by decide) ?_
    refine am_aload_n hz1 dX12_count_86 0 rfl rfl ?_
    obtain ⟨g3, h⟩ := h
    refine am_cVf hz cv_X12_242 [] [] (c_X12_covers hG  g3) (ln_64 hG) (lk_64 hG) rfl rfl rfl ⟨Nat.le_refl _, Nat.le_refl _⟩ (Nat.le_of_ble_eq_true rfl) dX12_count_87 ?_
    exact am_ireturn hz dX12_count_90 h
  by_cases c1_3 : v1 = 3
  · replace h := h.2.2.2.1 c1_3
    refine am_tabI (off := 90) (tgt := 91) hz1 3 dX12_count_1 c1_3 (by decide) (by decide) rfl (by decide) ?_
    refine am_aload_n hz1 dX12_count_91 0 rfl rfl ?_
    obtain ⟨dq4, postq4, hdq4, hMq4, h⟩ := h
    refine am_callV hz1 cv_X12_485 [] [] hMq4 (ln_64 hG) (lk_64 hG) rfl rfl (hz.fr hdq4) (hz.lo hdq4) (by rw [hz.2.1]; exact ⟨Nat.le_refl _, Nat.le_refl _⟩) (Nat.le_of_ble_eq_true rfl) dX12_count_92 (fun roq4 Gq4 Iq4 Lq4 hpq4 => ?_)
    obtain ⟨rq4, rfl, hGq4, h⟩ := h roq4 Gq4 Iq4 Lq4 hpq4
    exact am_ireturn hz dX12_count_95 h
  by_cases c1_4 : v1 = 4
  · replace h := h.2.2.2.2.1 c1_4
    refine am_tabI (off := 95) (tgt := 96) hz1 4 dX12_count_1 c1_4 (by decide) (by decide) rfl (by decide) ?_
    refine am_aload_n hz1 dX12_count_96 0 rfl rfl ?_
    obtain ⟨dq5, postq5, hdq5, hMq5, h⟩ := h
    refine am_callV hz1 cv_X12_488 [] [] hMq5 (ln_64 hG) (lk_64 hG) rfl rfl (hz.fr hdq5) (hz.lo hdq5) (by rw [hz.2.1]; exact ⟨Nat.le_refl _, Nat.le_refl _⟩) (Nat.le_of_ble_eq_true rfl) dX12_count_97 (fun roq5 Gq5 Iq5 Lq5 hpq5 => ?_)
    obtain ⟨rq5, rfl, hGq5, h⟩ := h roq5 Gq5 Iq5 Lq5 hpq5
    refine am_if_eq (tgt := 107) hz1 dX12_count_100 (by decide) (fun c6 => ?_) (fun c6 => ?_)
    · replace h := h.1 c6
      refine am_iconst (v := 0) hz1 dX12_count_107 (by decide) ?_
      exact am_ireturn hz dX12_count_108 h
    · replace h := h.2 c6
      refine am_iconst (v := 1) hz1 dX12_count_103 (by decide) ?_
      refine am_goto (tgt := 108) hz1 dX12_count_104 (by decide) ?_
      exact am_ireturn hz dX12_count_108 h
  by_cases c1_5 : v1 = 5
  · replace h := h.2.2.2.2.2.1 c1_5
    refine am_tabI (off := 108) (tgt := 109) hz1 5 dX12_count_1 c1_5 (by decide) (by decide) rfl (by decide) ?_
    refine am_aload_n hz1 dX12_count_109 0 rfl rfl ?_
    obtain ⟨g7, h⟩ := h
    refine am_cVf hz cv_X12_497 [] [] (c_X12_areAllJoined hG  g7) (ln_64 hG) (lk_64 hG) rfl rfl rfl ⟨Nat.le_refl _, Nat.le_refl _⟩ (Nat.le_of_ble_eq_true rfl) dX12_count_110 ?_
    refine am_ifb_eq (tgt := 120) hz1 dX12_count_113 (by decide) (fun c8 => ?_) (fun c8 => ?_)
    · replace h := h.1 c8
      refine am_iconst (v := 0) hz1 dX12_count_120 (by decide) ?_
      exact am_ireturn hz dX12_count_121 h
    · replace h := h.2 c8
      refine am_iconst (v := 1) hz1 dX12_count_116 (by decide) ?_
      refine am_goto (tgt := 121) hz1 dX12_count_117 (by decide) ?_
      exact am_ireturn hz dX12_count_121 h
  by_cases c1_6 : v1 = 6
  · replace h := h.2.2.2.2.2.2.1 c1_6
    refine am_tabI (off := 121) (tgt := 122) hz1 6 dX12_count_1 c1_6 (by decide) (by decide) rfl (by decide) ?_
    refine am_aload_n hz1 dX12_count_122 0 rfl rfl ?_
    obtain ⟨dq9, postq9, hdq9, hMq9, h⟩ := h
    refine am_callV hz1 cv_X12_500 [] [] hMq9 (ln_64 hG) (lk_64 hG) rfl rfl (hz.fr hdq9) (hz.lo hdq9) (by rw [hz.2.1]; exact ⟨Nat.le_refl _, Nat.le_refl _⟩) (Nat.le_of_ble_eq_true rfl) dX12_count_123 (fun roq9 Gq9 Iq9 Lq9 hpq9 => ?_)
    obtain ⟨rq9, rfl, hGq9, h⟩ := h roq9 Gq9 Iq9 Lq9 hpq9
    exact am_ireturn hz dX12_count_126 h
  by_cases c1_7 : v1 = 7
  · replace h := h.2.2.2.2.2.2.2.1 c1_7
    refine am_tabI (off := 126) (tgt := 127) hz1 7 dX12_count_1 c1_7 (by decide) (by decide) rfl (by decide) ?_
    refine am_aload_n hz1 dX12_count_127 0 rfl rfl ?_
    obtain ⟨g10, h⟩ := h
    refine am_cVf hz cv_X12_494 [] [] (c_X12_pairsBelow hG  g10) (ln_64 hG) (lk_64 hG) rfl rfl rfl ⟨Nat.le_refl _, Nat.le_refl _⟩ (Nat.le_of_ble_eq_true rfl) dX12_count_128 ?_
    refine am_aload_n hz1 dX12_count_131 0 rfl rfl ?_
    refine am_cVf hz cv_X12_78 [] [.int (m_pb L)] (c_X12_many hG  ) (ln_64 hG) (lk_64 hG) rfl rfl rfl ⟨Nat.le_refl _, Nat.le_refl _⟩ (Nat.le_of_ble_eq_true rfl) dX12_count_132 ?_
    refine am_iadd hz1 dX12_count_135 ?_
    exact am_ireturn hz dX12_count_136 h
  by_cases c1_8 : v1 = 8
  · replace h := h.2.2.2.2.2.2.2.2.1 c1_8
    refine am_tabI (off := 136) (tgt := 137) hz1 8 dX12_count_1 c1_8 (by decide) (by decide) rfl (by decide) ?_
    refine am_aload_n hz1 dX12_count_137 0 rfl rfl ?_
    refine am_getI hz1 fl_X12_124 (ln_64 hG) (lk_64 hG) rfl dX12_count_138 ?_
    exact am_ireturn hz dX12_count_141 h
  by_cases c1_9 : v1 = 9
  · replace h := h.2.2.2.2.2.2.2.2.2.1 c1_9
    refine am_tabI (off := 141) (tgt := 142) hz1 9 dX12_count_1 c1_9 (by decide) (by decide) rfl (by decide) ?_
    refine am_aload_n hz1 dX12_count_142 0 rfl rfl ?_
    refine am_getI hz1 fl_X12_130 (ln_64 hG) (lk_64 hG) rfl dX12_count_143 ?_
    exact am_ireturn hz dX12_count_146 h
  by_cases c1_10 : v1 = 10
  · replace h := h.2.2.2.2.2.2.2.2.2.2.1 c1_10
    refine am_tabI (off := 146) (tgt := 147) hz1 10 dX12_count_1 c1_10 (by decide) (by decide) rfl (by decide) ?_
    refine am_aload_n hz1 dX12_count_147 0 rfl rfl ?_
    refine am_cVf hz cv_X12_503 [] [] (c_X12_keptSet hG  ) (ln_64 hG) (lk_64 hG) rfl rfl rfl ⟨Nat.le_refl _, Nat.le_refl _⟩ (Nat.le_of_ble_eq_true rfl) dX12_count_148 ?_
    exact am_ireturn hz dX12_count_151 h
  by_cases c1_11 : v1 = 11
  · replace h := h.2.2.2.2.2.2.2.2.2.2.2.1 c1_11
    refine am_tabI (off := 151) (tgt := 152) hz1 11 dX12_count_1 c1_11 (by decide) (by decide) rfl (by decide) ?_
    refine am_aload_n hz1 dX12_count_152 0 rfl rfl ?_
    refine am_iconst (v := 1) hz1 dX12_count_153 (by decide) ?_
    obtain ⟨g11, h⟩ := h
    refine am_cVf hz cv_X12_506 [.int 1] [] (c_X12_ends hG (1 : Int32) g11) (ln_64 hG) (lk_64 hG) rfl rfl rfl ⟨Nat.le_refl _, Nat.le_refl _⟩ (Nat.le_of_ble_eq_true rfl) dX12_count_154 ?_
    exact am_ireturn hz dX12_count_157 h
  by_cases c1_12 : v1 = 12
  · replace h := h.2.2.2.2.2.2.2.2.2.2.2.2.1 c1_12
    refine am_tabI (off := 157) (tgt := 158) hz1 12 dX12_count_1 c1_12 (by decide) (by decide) rfl (by decide) ?_
    refine am_aload_n hz1 dX12_count_158 0 rfl rfl ?_
    refine am_iconst (v := 0) hz1 dX12_count_159 (by decide) ?_
    obtain ⟨g12, h⟩ := h
    refine am_cVf hz cv_X12_506 [.int 0] [] (c_X12_ends hG (0 : Int32) g12) (ln_64 hG) (lk_64 hG) rfl rfl rfl ⟨Nat.le_refl _, Nat.le_refl _⟩ (Nat.le_of_ble_eq_true rfl) dX12_count_160 ?_
    exact am_ireturn hz dX12_count_163 h
  by_cases c1_13 : v1 = 13
  · replace h := h.2.2.2.2.2.2.2.2.2.2.2.2.2.1 c1_13
    refine am_tabI (off := 163) (tgt := 164) hz1 13 dX12_count_1 c1_13 (by decide) (by decide) rfl (by decide) ?_
    refine am_aload_n hz1 dX12_count_164 0 rfl rfl ?_
    obtain ⟨dq13, postq13, hdq13, hMq13, h⟩ := h
    refine am_callV hz1 cv_X12_510 [] [] hMq13 (ln_64 hG) (lk_64 hG) rfl rfl (hz.fr hdq13) (hz.lo hdq13) (by rw [hz.2.1]; exact ⟨Nat.le_refl _, Nat.le_refl _⟩) (Nat.le_of_ble_eq_true rfl) dX12_count_165 (fun roq13 Gq13 Iq13 Lq13 hpq13 => ?_)
    obtain ⟨rq13, rfl, hGq13, h⟩ := h roq13 Gq13 Iq13 Lq13 hpq13
    exact am_ireturn hz dX12_count_168 h
  by_cases c1_14 : v1 = 14
  · replace h := h.2.2.2.2.2.2.2.2.2.2.2.2.2.2.1 c1_14
    refine am_tabI (off := 168) (tgt := 169) hz1 14 dX12_count_1 c1_14 (by decide) (by decide) rfl (by decide) ?_
    refine am_aload_n hz1 dX12_count_169 0 rfl rfl ?_
    obtain ⟨dq14, postq14, hdq14, hMq14, h⟩ := h
    refine am_callV hz1 cv_X12_513 [] [] hMq14 (ln_64 hG) (lk_64 hG) rfl rfl (hz.fr hdq14) (hz.lo hdq14) (by rw [hz.2.1]; exact ⟨Nat.le_refl _, Nat.le_refl _⟩) (Nat.le_of_ble_eq_true rfl) dX12_count_170 (fun roq14 Gq14 Iq14 Lq14 hpq14 => ?_)
    obtain ⟨rq14, rfl, hGq14, h⟩ := h roq14 Gq14 Iq14 Lq14 hpq14
    exact am_ireturn hz dX12_count_173 h
  have c1 : v1 < 0 ∨ 14 < v1 := tabx_15_0 c1_0 c1_1 c1_2 c1_3 c1_4 c1_5 c1_6 c1_7 c1_8 c1_9 c1_10 c1_11 c1_12 c1_13 c1_14
  replace h := h.2.2.2.2.2.2.2.2.2.2.2.2.2.2.2 c1
  refine am_tabO (tgt := 174) hz1 dX12_count_1 (c1.elim (fun e => Or.inl (tab_lt 0 rfl e)) (fun e => Or.inr (tab_gt 14 rfl e))) (by decide) ?_
  refine am_iconst (v := (-1)) hz1 dX12_count_174 (by decide) ?_
  exact am_ireturn hz dX12_count_175 h
set_option maxRecDepth 100000 in
set_option maxHeartbeats 4000000 in
theorem c_X12_count {l : Launch} {D : va_G} {B : Heap} {G : amG} {I : amI} {L : amL}  (hG : Lay G)  (v1 : Int32) {s : St} (hs : RI s I L) (hw : WF s) : Mx l D B yX12_count cX12_count 2 (some .int) 45 0 0 [.ref (B.size + 64), .int v1] G I L (fun r G1 I1 L1 => r = some (.int (aCount s v1)) ∧ G1 = G ∧ RI s I1 L1 ∧ frM I L I1 L1) := by
  refine Mx.of (by decide) rfl rfl (fun z e1 e2 e3 hz => ?_)
  subst e1; subst e2; subst e3
  refine b_X12_count_0 hz hG ?_
  have hM := hs.1.mo
  have h16 := hM.2.1
  have hP := hM.2.2.1
  have hmO : mOk L := ⟨_, _, hM⟩
  have hpb : m_pb L = pbM (rN (sC s)) (rA (sC s)) := by
    rw [m_pb, hM.N, pbM]
    refine sumI_c (fun a ha => ?_)
    rw [hM.up ha, m_size, up_ct hP h16 ha, nI_pred]
  have hT := hs.2.2.2.2.2.2.2.2
  refine ⟨fun q => ?_, fun q => ?_, fun q => ?_, fun q => ?_, fun q => ?_, fun q => ?_, fun q => ?_, fun q => ?_, fun q => ?_, fun q => ?_, fun q => ?_, fun q => ?_, fun q => ?_, fun q => ?_, fun q => ?_, fun q => ⟨?_, rfl, hs, frM_r⟩⟩
  · subst q; exact ⟨by rw [hM.many]; rfl, rfl, hs, frM_r⟩
  · subst q; exact ⟨hmO, by rw [hpb]; rfl, rfl, hs, frM_r⟩
  · subst q
    refine ⟨hmO, ?_, rfl, hs, frM_r⟩
    rw [m_covers, hM.N, cnt2_n]
    show _ = some (Value.int (cvM (rN (sC s)) (rA (sC s))))
    rw [cvM, sumI_c (fun a ha => by rw [ct_cong (fun b hb => hM.cov ha hb)])]
  · subst q
    exact ⟨4, _, rfl, c_X12_greatestHeight hG hM, fun ro G2 I2 L2 ⟨e1, e2, e3, f, e4, e5⟩ => ⟨_, e1, by rw [e2]; exact hG, rfl, e2, by rw [e3, e4]; exact RI_I hs (by decide) (by decide) (by decide), by rw [e3, e4]; exact frM_I (by decide) (by decide)⟩⟩
  · subst q
    refine ⟨5, _, rfl, c_X12_isGraded hG hM, fun ro G2 I2 L2 ⟨e1, e2, e3, f, e4, e5⟩ => ⟨_, e1, by rw [e2]; exact hG, fun q => ⟨?_, e2, by rw [e3, e4]; exact RI_I hs (by decide) (by decide) (by decide), by rw [e3, e4]; exact frM_I (by decide) (by decide)⟩, fun q => ⟨?_, e2, by rw [e3, e4]; exact RI_I hs (by decide) (by decide) (by decide), by rw [e3, e4]; exact frM_I (by decide) (by decide)⟩⟩⟩
    · show _ = some (Value.int (bI (grM (rN (sC s)) (rA (sC s)))))
      rw [q]
    · rw [bI_nz] at q
      show _ = some (Value.int (bI (grM (rN (sC s)) (rA (sC s)))))
      rw [q]; rfl
  · subst q
    have hla : m_allJ L = laM (rN (sC s)) (rA (sC s)) := by
      rw [m_allJ, hM.N, laM]
      refine scan_cong _ _ (fun a _ ha => ⟨?_, rfl⟩)
      rw [m_allJ1, laM1]
      refine scan_cong _ _ (fun b _ hb => ⟨?_, rfl⟩)
      rw [m_allJP, hM.least, hM.great, hM.up (by omega), hM.up (by omega), hM.dn (by omega), hM.dn (by omega)]
    rw [hla]
    refine ⟨hmO, fun q => ⟨?_, rfl, hs, frM_r⟩, fun q => ⟨?_, rfl, hs, frM_r⟩⟩
    · show _ = some (Value.int (bI (laM (rN (sC s)) (rA (sC s)))))
      rw [q]; rfl
    · show _ = some (Value.int (bI (laM (rN (sC s)) (rA (sC s)))))
      rw [q]; rfl
  · subst q
    exact ⟨43, _, rfl, c_X12_typesNow hG hM hT, fun ro G2 I2 L2 ⟨r1, r2, r3, r4, r5⟩ => ⟨_, r1, by rw [r2]; exact hG, rfl, r2, by rw [r3]; exact RI_T hs r5 r4, by rw [r3]; exact frT_M r5⟩⟩
  · subst q; exact ⟨hmO, by rw [hpb, hM.many]; rfl, rfl, hs, frM_r⟩
  · subst q; exact ⟨by rw [hs.2.2.2.2.2.2.1]; rfl, rfl, hs, frM_r⟩
  · subst q; exact ⟨by rw [hs.2.2.2.2.1]; rfl, rfl, hs, frM_r⟩
  · subst q
    refine ⟨?_, rfl, hs, frM_r⟩
    rw [mkset_cong (fun j hj => kept_M hs hw hj)]
    rfl
  · subst q
    refine ⟨hmO, ?_, rfl, hs, frM_r⟩
    rw [hM.N, mkset_cong (g := fun a => decide (bn (rN (sC s)) (rA (sC s)) a = 0)) (fun a ha => ?_)]
    · rfl
    · apply decide_eq_decide.mpr
      rw [if_neg (by decide), hM.dn ha, m_size, dn_ct hP h16 ha, bn_0 h16, show (1 : Int32) = nI 1 from rfl, nI_eq (by have := key_lt hP ha; omega) (by decide)]
      omega
  · subst q
    refine ⟨hmO, ?_, rfl, hs, frM_r⟩
    rw [hM.N, mkset_cong (g := fun a => decide (rA (sC s) a = 0)) (fun a ha => ?_)]
    · rfl
    · apply decide_eq_decide.mpr
      rw [if_pos rfl, hM.up ha, m_size, up_ct hP h16 ha, A_0 hP ha h16, show (1 : Int32) = nI 1 from rfl, nI_eq (by have := ct_le (bt (rA (sC s) a)) (rN (sC s)); omega) (by decide)]
      omega
  · subst q
    refine ⟨44, _, rfl, c_X12_reducedOnes hG hM hT, fun ro G2 I2 L2 ⟨r1, r2, r3, r4, r5⟩ => ⟨_, r1, by rw [r2]; exact hG, ?_, r2, by rw [r3]; exact RI_T hs r5 r4, by rw [r3]; exact frT_M r5⟩⟩
    rw [mkset_cong (fun f hf => rdM_c hP h16 (fun k hk => by rw [Nat.add_assoc, hs.1.2.1 _ (by omega)]))]
    rfl
  · subst q
    refine ⟨4, _, rfl, c_X12_widest hG hM, fun ro G2 I2 L2 ⟨m, h1, h2, e1, e2, e3, f, e4⟩ => ⟨_, e1, by rw [e2]; exact hG, ?_, e2, by rw [e3, e4]; exact RI_I hs (by decide) (by decide) (by decide), by rw [e3, e4]; exact frM_I (by decide) (by decide)⟩⟩
    rw [wdN_is h1]
    rfl
  · rw [aCount, if_neg (cases15 q 0 (by decide)), if_neg (cases15 q 1 (by decide)), if_neg (cases15 q 2 (by decide)), if_neg (cases15 q 3 (by decide)), if_neg (cases15 q 4 (by decide)), if_neg (cases15 q 5 (by decide)), if_neg (cases15 q 6 (by decide)), if_neg (cases15 q 7 (by decide)), if_neg (cases15 q 8 (by decide)), if_neg (cases15 q 9 (by decide)), if_neg (cases15 q 10 (by decide)), if_neg (cases15 q 11 (by decide)), if_neg (cases15 q 12 (by decide)), if_neg (cases15 q 13 (by decide)), if_neg (cases15 q 14 (by decide))]
