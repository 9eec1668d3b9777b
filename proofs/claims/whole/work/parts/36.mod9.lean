/-! THE REFERENCE: cross-cuts -/
def jN (n : Nat) (A : Nat → Int32) (s : Int32) (y k : Nat) : Nat := (jnM n A s y k).toNatClampNeg
set_option maxRecDepth 100000 in
set_option maxHeartbeats 4000000 in
theorem b_X12_joinOf_0 {z : amZ} {post : amP} {G : amG} {I : amI} {L : amL} (hz : Go z cX12_joinOf RX12 6 (some .int) 3 0 0 post) (hG : Lay G) {v1 : Int32} {v2 : Int32} {v3 : Int32} (h : Wx z 0 0 6 [(0, .ref ((zB z).size + 64)), (1, .int v1), (3, .int v3), (4, .int v2), (5, .int 0)] [] G I L) : Wx z 0 0 0 [(0, .ref ((zB z).size + 64)), (1, .int v1), (2, .int v2), (3, .int v3)] [] G I L := by
  have hz1 := hz.1
  refine am_iload_n hz1 dX12_joinOf_0 2 rfl rfl ?_
  refine am_istore (lv' := [(4, .int v2), (0, .ref ((zB z).size + 64)), (1, .int v1), (2, .int v2), (3, .int v3)]) hz1 dX12_joinOf_1 rfl rfl ?_
  refine am_iconst (v := 0) hz1 dX12_joinOf_3 (by decide) ?_
  refine am_istore (lv' := [(5, .int 0), (4, .int v2), (0, .ref ((zB z).size + 64)), (1, .int v1), (2, .int v2), (3, .int v3)]) hz1 dX12_joinOf_4 rfl rfl ?_
  exact am_sub (lv' := [(0, .ref ((zB z).size + 64)), (1, .int v1), (3, .int v3), (4, .int v2), (5, .int 0)]) [2, 3, 5, 1, 0] rfl h
set_option maxRecDepth 100000 in
set_option maxHeartbeats 4000000 in
theorem b_X12_joinOf_6 {z : amZ} {post : amP} {G : amG} {I : amI} {L : amL} (hz : Go z cX12_joinOf RX12 6 (some .int) 3 0 0 post) (hG : Lay G) {v1 : Int32} {v3 : Int32} {v4 : Int32} {v5 : Int32} (h : (((m_many L) ≤ v5) → post (some (.int v4)) G I L) ∧ ((¬ (m_many L) ≤ v5) → ((m_has v3 v5 = false) → Wx z 0 0 6 [(0, .ref ((zB z).size + 64)), (1, .int v1), (3, .int v3), (4, .int v4), (5, .int (v5 + 1))] [] G I L) ∧ ((m_has v3 v5 = true) → (mOk L) ∧ (vp_in v4 16) ∧ (vp_in v5 16) ∧ Wx z 0 0 6 [(0, .ref ((zB z).size + 64)), (1, .int v1), (3, .int v3), (4, .int (m_least L ((v1 &&& m_up L v4) &&& m_up L v5))), (5, .int (v5 + 1))] [] G I L))) : Wx z 0 0 6 [(0, .ref ((zB z).size + 64)), (1, .int v1), (3, .int v3), (4, .int v4), (5, .int v5)] [] G I L := by
  have hz1 := hz.1
  refine am_iload hz1 dX12_joinOf_6 4 rfl ?_
  refine am_aload_n hz1 dX12_joinOf_8 0 rfl rfl ?_
  refine am_cVf hz cv_X12_78 [] [.int v5] (c_X12_many hG  ) (ln_64 hG) (lk_64 hG) rfl rfl rfl ⟨Nat.le_refl _, Nat.le_refl _⟩ (Nat.le_of_ble_eq_true rfl) dX12_joinOf_9 ?_
  refine am_icmp_ge (tgt := 41) hz1 dX12_joinOf_12 (by decide) (fun c1 => ?_) (fun c1 => ?_)
  · replace h := h.1 c1
    refine am_iload hz1 dX12_joinOf_41 3 rfl ?_
    exact am_ireturn hz dX12_joinOf_43 h
  · replace h := h.2 c1
    refine am_iload_n hz1 dX12_joinOf_15 2 rfl rfl ?_
    refine am_iload hz1 dX12_joinOf_16 4 rfl ?_
    refine am_cSf hz ct_X12_90 [.int v3, .int v5] [] (c_X12_has hG v3 v5 ) rfl rfl rfl ⟨Nat.le_refl _, Nat.le_refl _⟩ (Nat.le_of_ble_eq_true rfl) dX12_joinOf_18 ?_
    refine am_ifb_eq (tgt := 35) hz1 dX12_joinOf_21 (by decide) (fun c2 => ?_) (fun c2 => ?_)
    · replace h := h.1 c2
      refine am_iinc (v := v5 + 1) (lv' := [(5, .int (v5 + 1)), (0, .ref ((zB z).size + 64)), (1, .int v1), (3, .int v3), (4, .int v4)]) hz1 dX12_joinOf_35 4 rfl rfl rfl rfl ?_
      refine am_goto (tgt := 6) hz1 dX12_joinOf_38 (by decide) ?_
      exact am_sub (lv' := [(0, .ref ((zB z).size + 64)), (1, .int v1), (3, .int v3), (4, .int v4), (5, .int (v5 + 1))]) [1, 2, 3, 4, 0] rfl h
    · replace h := h.2 c2
      refine am_aload_n hz1 dX12_joinOf_24 0 rfl rfl ?_
      refine am_iload_n hz1 dX12_joinOf_25 1 rfl rfl ?_
      refine am_iload hz1 dX12_joinOf_26 3 rfl ?_
      refine am_iload hz1 dX12_joinOf_28 4 rfl ?_
      obtain ⟨g3, h⟩ := h
      obtain ⟨g4, h⟩ := h
      obtain ⟨g5, h⟩ := h
      refine am_cVf hz cv_X12_379 [.int v1, .int v4, .int v5] [] (c_X12_joinWithin hG v1 v4 v5 g3 g4 g5) (ln_64 hG) (lk_64 hG) rfl rfl rfl ⟨Nat.le_refl _, Nat.le_refl _⟩ (Nat.le_of_ble_eq_true rfl) dX12_joinOf_30 ?_
      refine am_istore (lv' := [(4, .int (m_least L ((v1 &&& m_up L v4) &&& m_up L v5))), (0, .ref ((zB z).size + 64)), (1, .int v1), (3, .int v3), (5, .int v5)]) hz1 dX12_joinOf_33 rfl rfl ?_
      refine am_iinc (v := v5 + 1) (lv' := [(5, .int (v5 + 1)), (4, .int (m_least L ((v1 &&& m_up L v4) &&& m_up L v5))), (0, .ref ((zB z).size + 64)), (1, .int v1), (3, .int v3)]) hz1 dX12_joinOf_35 4 rfl rfl rfl rfl ?_
      refine am_goto (tgt := 6) hz1 dX12_joinOf_38 (by decide) ?_
      exact am_sub (lv' := [(0, .ref ((zB z).size + 64)), (1, .int v1), (3, .int v3), (4, .int (m_least L ((v1 &&& m_up L v4) &&& m_up L v5))), (5, .int (v5 + 1))]) [2, 3, 4, 1, 0] rfl h
set_option maxRecDepth 100000 in
set_option maxHeartbeats 4000000 in
theorem c_X12_joinOf {l : Launch} {D : va_G} {B : Heap} {G : amG} {I : amI} {L : amL}  (hG : Lay G)  (v1 : Int32) (v2 : Int32) (v3 : Int32) {n a t : Nat} {A : Nat → Int32} (hM : MO L n A) (hs : ∀ i, i < 32 → bt v1 i = true → i < n) (har : arM n A v1 = true) (ha : a < n) (hba : bt v1 a = true) (hv2 : v2 = nI a) (hv3 : v3 = nI t) (hsub : ∀ i, i < 32 → t.testBit i = true → bt v1 i = true) : Mx l D B yX12_joinOf cX12_joinOf 6 (some .int) 3 0 0 [.ref (B.size + 64), .int v1, .int v2, .int v3] G I L (fun r G1 I1 L1 => r = some (.int (nI (jfN (jN n A v1) a t n))) ∧ G1 = G ∧ I1 = I ∧ L1 = L) := by
  refine Mx.of (by decide) rfl rfl (fun z e1 e2 e3 hz => ?_)
  subst e1; subst e2; subst e3
  refine b_X12_joinOf_0 hz hG ?_
  subst hv2; subst hv3
  have h16 := hM.2.1
  have hP := hM.2.2.1
  have hin : ∀ k, k ≤ n → jfN (jN n A v1) a t k < n ∧ bt v1 (jfN (jN n A v1) a t k) = true := by
    intro k
    induction k with
    | zero => intro _; exact ⟨ha, hba⟩
    | succ k ih =>
      intro hk
      obtain ⟨h1, h2⟩ := ih (by omega)
      rw [jfN]
      by_cases e : t.testBit k = true
      · rw [if_pos e]
        obtain ⟨w, hw, hb, q⟩ := jn_in hP h16 hs har h1 (show k < n by omega) h2 (hsub k (by omega) e)
        rw [jN, q, cl_nI (by omega)]
        exact ⟨hw, hb⟩
      · rw [if_neg e]; exact ⟨h1, h2⟩
  refine for_up (P := fun k => Wx z 0 0 6 [(0, .ref ((zB z).size + 64)), (1, .int v1), (3, .int (nI t)), (4, .int (nI (jfN (jN n A v1) a t k))), (5, .int (nI k))] [] G I L) (n := n) ?_ ?_ (Nat.zero_le _)
  · exact b_X12_joinOf_6 hz hG ⟨fun _ => ⟨rfl, rfl, rfl, rfl⟩, fun h => absurd (mm_le hM) h⟩
  · intro k hk ih
    obtain ⟨h1, h2⟩ := hin k (by omega)
    refine b_X12_joinOf_6 hz hG ⟨fun h => absurd h (mm_ge hM hk), fun _ => ⟨fun h => ?_, fun h => ⟨⟨n, A, hM⟩, in16 h16 h1, in16 h16 hk, ?_⟩⟩⟩
    · rw [has_b (by omega), bt_nI t k (by omega)] at h
      rw [jfN, if_neg (by rw [h]; decide)] at ih
      rw [nI_1]
      exact ih
    · rw [has_b (by omega), bt_nI t k (by omega)] at h
      obtain ⟨w, hw, hb, q⟩ := jn_in hP h16 hs har h1 hk h2 (hsub k (by omega) h)
      rw [jfN, if_pos h, jN, q, cl_nI (by omega)] at ih
      rw [nI_1, hM.least, hM.up h1, hM.up hk, show leastM n A ((v1 &&& upS A (jfN (jN n A v1) a t k)) &&& upS A k) = nI w from q]
      exact ih
def atM (n : Nat) (A : Nat → Int32) (a b : Nat) : Int32 := mkset (cv n A a) n &&& ivS n A a b
def ccX (n : Nat) (A : Nat → Int32) (a b : Nat) : Int64 := ccN n (bt (ivS n A a b)) (atM n A a b).toNatClampNeg (jN n A (ivS n A a b)) a n b
set_option maxRecDepth 100000 in
set_option maxHeartbeats 4000000 in
theorem b_X12_byCrossCut_0 {z : amZ} {post : amP} {G : amG} {I : amI} {L : amL} (hz : Go z cX12_byCrossCut RX12 8 (some .long) 6 0 0 post) (hG : Lay G) {v1 : Int32} {v2 : Int32} (h : (mOk L) ∧ (vp_in v1 16) ∧ (mOk L) ∧ ((m_arJ L (m_iv L v1 v2) = true) → (mOk L) ∧ (vp_in v1 16) ∧ ∃ (dq7 : Nat) (postq7 : amP), Nat.ble (dq7 + 1) 6 = true ∧ Mx (zL z) (zD z) (zB z) yX12_joinOf cX12_joinOf 6 (some .int) dq7 0 0 [.ref ((zB z).size + 64), .int (m_iv L v1 v2), .int v1, .int 0] G I L postq7 ∧ ∀ (roq7 : Option Value) (Gq7 : amG) (Iq7 : amI) (Lq7 : amL), postq7 roq7 Gq7 Iq7 Lq7 → ∃ (rq7 : Int32), roq7 = some (.int rq7) ∧ Lay Gq7 ∧ ((¬ rq7 = v2) → Wx z 0 0 50 [(0, .ref ((zB z).size + 64)), (1, .int v1), (2, .int v2), (3, .int (m_iv L v1 v2)), (4, .int ((m_cset L v1) &&& (m_iv L v1 v2))), (5, .long (0 : Int64)), (7, .int ((m_cset L v1) &&& (m_iv L v1 v2)))] [] Gq7 Iq7 Lq7) ∧ ((rq7 = v2) → Wx z 0 0 50 [(0, .ref ((zB z).size + 64)), (1, .int v1), (2, .int v2), (3, .int (m_iv L v1 v2)), (4, .int ((m_cset L v1) &&& (m_iv L v1 v2))), (5, .long (1 : Int64)), (7, .int ((m_cset L v1) &&& (m_iv L v1 v2)))] [] Gq7 Iq7 Lq7)) ∧ ((m_arJ L (m_iv L v1 v2) = false) → post (some (.long (-9223372036854775808 : Int64))) G I L)) : Wx z 0 0 0 [(0, .ref ((zB z).size + 64)), (1, .int v1), (2, .int v2)] [] G I L := by
  have hz1 := hz.1
  refine am_aload_n hz1 dX12_byCrossCut_0 0 rfl rfl ?_
  refine am_iload_n hz1 dX12_byCrossCut_1 1 rfl rfl ?_
  refine am_iload_n hz1 dX12_byCrossCut_2 2 rfl rfl ?_
  obtain ⟨g1, h⟩ := h
  obtain ⟨g2, h⟩ := h
  refine am_cVf hz cv_X12_107 [.int v1, .int v2] [] (c_X12_interval hG v1 v2 g1 g2) (ln_64 hG) (lk_64 hG) rfl rfl rfl ⟨Nat.le_refl _, Nat.le_refl _⟩ (Nat.le_of_ble_eq_true rfl) dX12_byCrossCut_3 ?_
  refine am_istore_n (lv' := [(3, .int (m_iv L v1 v2)), (0, .ref ((zB z).size + 64)), (1, .int v1), (2, .int v2)]) hz1 dX12_byCrossCut_6 rfl rfl rfl ?_
  refine am_aload_n hz1 dX12_byCrossCut_7 1 rfl rfl ?_
  refine am_iload_n hz1 dX12_byCrossCut_8 0 rfl rfl ?_
  obtain ⟨g3, h⟩ := h
  refine am_cVf hz cv_X12_382 [.int (m_iv L v1 v2)] [] (c_X12_areJoined hG (m_iv L v1 v2) g3) (ln_64 hG) (lk_64 hG) rfl rfl rfl ⟨Nat.le_refl _, Nat.le_refl _⟩ (Nat.le_of_ble_eq_true rfl) dX12_byCrossCut_9 ?_
  refine am_ifb_ne (tgt := 19) hz1 dX12_byCrossCut_12 (by decide) (fun c4 => ?_) (fun c4 => ?_)
  · replace h := h.1 c4
    refine am_aload_n hz1 dX12_byCrossCut_19 1 rfl rfl ?_
    refine am_iload_n hz1 dX12_byCrossCut_20 2 rfl rfl ?_
    obtain ⟨g5, h⟩ := h
    obtain ⟨g6, h⟩ := h
    refine am_cVf hz cv_X12_341 [.int v1] [] (c_X12_coverSet hG v1 g5 g6) (ln_64 hG) (lk_64 hG) rfl rfl rfl ⟨Nat.le_refl _, Nat.le_refl _⟩ (Nat.le_of_ble_eq_true rfl) dX12_byCrossCut_21 ?_
    refine am_iload_n hz1 dX12_byCrossCut_24 0 rfl rfl ?_
    refine am_iand hz1 dX12_byCrossCut_25 ?_
    refine am_istore (lv' := [(4, .int ((m_cset L v1) &&& (m_iv L v1 v2))), (3, .int (m_iv L v1 v2)), (0, .ref ((zB z).size + 64)), (1, .int v1), (2, .int v2)]) hz1 dX12_byCrossCut_26 rfl rfl ?_
    refine am_aload_n hz1 dX12_byCrossCut_28 2 rfl rfl ?_
    refine am_iload_n hz1 dX12_byCrossCut_29 1 rfl rfl ?_
    refine am_iload_n hz1 dX12_byCrossCut_30 3 rfl rfl ?_
    refine am_iconst (v := 0) hz1 dX12_byCrossCut_31 (by decide) ?_
    obtain ⟨dq7, postq7, hdq7, hMq7, h⟩ := h
    refine am_callV hz1 cv_X12_385 [.int (m_iv L v1 v2), .int v1, .int 0] [] hMq7 (ln_64 hG) (lk_64 hG) rfl rfl (hz.fr hdq7) (hz.lo hdq7) (by rw [hz.2.1]; exact ⟨Nat.le_refl _, Nat.le_refl _⟩) (Nat.le_of_ble_eq_true rfl) dX12_byCrossCut_32 (fun roq7 Gq7 Iq7 Lq7 hpq7 => ?_)
    obtain ⟨rq7, rfl, hGq7, h⟩ := h roq7 Gq7 Iq7 Lq7 hpq7
    refine am_iload_n hz1 dX12_byCrossCut_35 4 rfl rfl ?_
    refine am_icmp_ne (tgt := 43) hz1 dX12_byCrossCut_36 (by decide) (fun c8 => ?_) (fun c8 => ?_)
    · replace h := h.1 c8
      refine am_lconst (v := 0) hz1 dX12_byCrossCut_43 (by decide) ?_
      refine am_lstore (lv' := [(5, .long (0 : Int64)), (4, .int ((m_cset L v1) &&& (m_iv L v1 v2))), (3, .int (m_iv L v1 v2)), (0, .ref ((zB z).size + 64)), (1, .int v1), (2, .int v2)]) hz1 dX12_byCrossCut_44 rfl rfl ?_
      refine am_iload hz1 dX12_byCrossCut_46 1 rfl ?_
      refine am_istore (lv' := [(7, .int ((m_cset L v1) &&& (m_iv L v1 v2))), (5, .long (0 : Int64)), (4, .int ((m_cset L v1) &&& (m_iv L v1 v2))), (3, .int (m_iv L v1 v2)), (0, .ref ((zB z).size + 64)), (1, .int v1), (2, .int v2)]) hz1 dX12_byCrossCut_48 rfl rfl ?_
      exact am_sub (lv' := [(0, .ref ((zB z).size + 64)), (1, .int v1), (2, .int v2), (3, .int (m_iv L v1 v2)), (4, .int ((m_cset L v1) &&& (m_iv L v1 v2))), (5, .long (0 : Int64)), (7, .int ((m_cset L v1) &&& (m_iv L v1 v2)))]) [4, 5, 6, 3, 2, 1, 0] rfl h
    · replace h := h.2 c8
      refine am_lconst (v := 1) hz1 dX12_byCrossCut_39 (by decide) ?_
      refine am_goto (tgt := 44) hz1 dX12_byCrossCut_40 (by decide) ?_
      refine am_lstore (lv' := [(5, .long (1 : Int64)), (4, .int ((m_cset L v1) &&& (m_iv L v1 v2))), (3, .int (m_iv L v1 v2)), (0, .ref ((zB z).size + 64)), (1, .int v1), (2, .int v2)]) hz1 dX12_byCrossCut_44 rfl rfl ?_
      refine am_iload hz1 dX12_byCrossCut_46 1 rfl ?_
      refine am_istore (lv' := [(7, .int ((m_cset L v1) &&& (m_iv L v1 v2))), (5, .long (1 : Int64)), (4, .int ((m_cset L v1) &&& (m_iv L v1 v2))), (3, .int (m_iv L v1 v2)), (0, .ref ((zB z).size + 64)), (1, .int v1), (2, .int v2)]) hz1 dX12_byCrossCut_48 rfl rfl ?_
      exact am_sub (lv' := [(0, .ref ((zB z).size + 64)), (1, .int v1), (2, .int v2), (3, .int (m_iv L v1 v2)), (4, .int ((m_cset L v1) &&& (m_iv L v1 v2))), (5, .long (1 : Int64)), (7, .int ((m_cset L v1) &&& (m_iv L v1 v2)))]) [4, 5, 6, 3, 2, 1, 0] rfl h
  · replace h := h.2 c4
    refine am_ldc2 hz1 kc_X12_269 dX12_byCrossCut_15 ?_
    exact am_lreturn hz dX12_byCrossCut_18 h
set_option maxRecDepth 100000 in
set_option maxHeartbeats 4000000 in
theorem b_X12_byCrossCut_50 {z : amZ} {post : amP} {G : amG} {I : amI} {L : amL} (hz : Go z cX12_byCrossCut RX12 8 (some .long) 6 0 0 post) (hG : Lay G) {v1 : Int32} {v2 : Int32} {v3 : Int32} {v4 : Int32} {v5 : Int64} {v7 : Int32} (h : ((v7 = 0) → post (some (.long v5)) G I L) ∧ ((¬ v7 = 0) → ∃ (dq2 : Nat) (postq2 : amP), Nat.ble (dq2 + 1) 6 = true ∧ Mx (zL z) (zD z) (zB z) yX12_joinOf cX12_joinOf 6 (some .int) dq2 0 0 [.ref ((zB z).size + 64), .int v3, .int v1, .int v7] G I L postq2 ∧ ∀ (roq2 : Option Value) (Gq2 : amG) (Iq2 : amI) (Lq2 : amL), postq2 roq2 Gq2 Iq2 Lq2 → ∃ (rq2 : Int32), roq2 = some (.int rq2) ∧ Lay Gq2 ∧ ((¬ rq2 = v2) → Wx z 0 0 50 [(0, .ref ((zB z).size + 64)), (1, .int v1), (2, .int v2), (3, .int v3), (4, .int v4), (5, .long v5), (7, .int ((v7 - (1 : Int32)) &&& v4))] [] Gq2 Iq2 Lq2) ∧ ((rq2 = v2) → (s16 v7) ∧ ((¬ ((m_size v7) - (m_size v7) / (2 : Int32) * (2 : Int32)) = 0) → Wx z 0 0 50 [(0, .ref ((zB z).size + 64)), (1, .int v1), (2, .int v2), (3, .int v3), (4, .int v4), (5, .long (v5 + (-1 : Int64))), (7, .int ((v7 - (1 : Int32)) &&& v4))] [] Gq2 Iq2 Lq2) ∧ ((((m_size v7) - (m_size v7) / (2 : Int32) * (2 : Int32)) = 0) → Wx z 0 0 50 [(0, .ref ((zB z).size + 64)), (1, .int v1), (2, .int v2), (3, .int v3), (4, .int v4), (5, .long (v5 + (1 : Int64))), (7, .int ((v7 - (1 : Int32)) &&& v4))] [] Gq2 Iq2 Lq2)))) : Wx z 0 0 50 [(0, .ref ((zB z).size + 64)), (1, .int v1), (2, .int v2), (3, .int v3), (4, .int v4), (5, .long v5), (7, .int v7)] [] G I L := by
  have hz1 := hz.1
  refine am_iload hz1 dX12_byCrossCut_50 6 rfl ?_
  refine am_if_eq (tgt := 101) hz1 dX12_byCrossCut_52 (by decide) (fun c1 => ?_) (fun c1 => ?_)
  · replace h := h.1 c1
    refine am_lload hz1 dX12_byCrossCut_101 5 rfl ?_
    exact am_lreturn hz dX12_byCrossCut_103 h
  · replace h := h.2 c1
    refine am_aload_n hz1 dX12_byCrossCut_55 0 rfl rfl ?_
    refine am_iload_n hz1 dX12_byCrossCut_56 3 rfl rfl ?_
    refine am_iload_n hz1 dX12_byCrossCut_57 1 rfl rfl ?_
    refine am_iload hz1 dX12_byCrossCut_58 6 rfl ?_
    obtain ⟨dq2, postq2, hdq2, hMq2, h⟩ := h
    refine am_callV hz1 cv_X12_385 [.int v3, .int v1, .int v7] [] hMq2 (ln_64 hG) (lk_64 hG) rfl rfl (hz.fr hdq2) (hz.lo hdq2) (by rw [hz.2.1]; exact ⟨Nat.le_refl _, Nat.le_refl _⟩) (Nat.le_of_ble_eq_true rfl) dX12_byCrossCut_60 (fun roq2 Gq2 Iq2 Lq2 hpq2 => ?_)
    obtain ⟨rq2, rfl, hGq2, h⟩ := h roq2 Gq2 Iq2 Lq2 hpq2
    refine am_iload_n hz1 dX12_byCrossCut_63 2 rfl rfl ?_
    refine am_icmp_ne (tgt := 89) hz1 dX12_byCrossCut_64 (by decide) (fun c3 => ?_) (fun c3 => ?_)
    · replace h := h.1 c3
      refine am_iload hz1 dX12_byCrossCut_89 6 rfl ?_
      refine am_iconst (v := 1) hz1 dX12_byCrossCut_91 (by decide) ?_
      refine am_isub hz1 dX12_byCrossCut_92 ?_
      refine am_iload hz1 dX12_byCrossCut_93 4 rfl ?_
      refine am_iand hz1 dX12_byCrossCut_95 ?_
      refine am_istore (lv' := [(7, .int ((v7 - (1 : Int32)) &&& v4)), (0, .ref ((zB z).size + 64)), (1, .int v1), (2, .int v2), (3, .int v3), (4, .int v4), (5, .long v5)]) hz1 dX12_byCrossCut_96 rfl rfl ?_
      refine am_goto (tgt := 50) hz1 dX12_byCrossCut_98 (by decide) ?_
      exact am_sub (lv' := [(0, .ref ((zB z).size + 64)), (1, .int v1), (2, .int v2), (3, .int v3), (4, .int v4), (5, .long v5), (7, .int ((v7 - (1 : Int32)) &&& v4))]) [1, 2, 3, 4, 5, 6, 0] rfl h
    · replace h := h.2 c3
      refine am_lload hz1 dX12_byCrossCut_67 5 rfl ?_
      refine am_iload hz1 dX12_byCrossCut_69 6 rfl ?_
      obtain ⟨g4, h⟩ := h
      refine am_cSf hz ct_X12_111 [.int v7] [.long v5] (c_X12_size hGq2 v7 g4) rfl rfl rfl ⟨Nat.le_refl _, Nat.le_refl _⟩ (Nat.le_of_ble_eq_true rfl) dX12_byCrossCut_71 ?_
      refine am_iconst (v := 2) hz1 dX12_byCrossCut_74 (by decide) ?_
      refine am_irem hz1 dX12_byCrossCut_75 (by decide) ?_
      refine am_if_ne (tgt := 83) hz1 dX12_byCrossCut_76 (by decide) (fun c6 => ?_) (fun c6 => ?_)
      · replace h := h.1 c6
        refine am_ldc2 hz1 kc_X12_118 dX12_byCrossCut_83 ?_
        refine am_ladd hz1 dX12_byCrossCut_86 ?_
        refine am_lstore (lv' := [(5, .long (v5 + (-1 : Int64))), (0, .ref ((zB z).size + 64)), (1, .int v1), (2, .int v2), (3, .int v3), (4, .int v4), (7, .int v7)]) hz1 dX12_byCrossCut_87 rfl rfl ?_
        refine am_iload hz1 dX12_byCrossCut_89 6 rfl ?_
        refine am_iconst (v := 1) hz1 dX12_byCrossCut_91 (by decide) ?_
        refine am_isub hz1 dX12_byCrossCut_92 ?_
        refine am_iload hz1 dX12_byCrossCut_93 5 rfl ?_
        refine am_iand hz1 dX12_byCrossCut_95 ?_
        refine am_istore (lv' := [(7, .int ((v7 - (1 : Int32)) &&& v4)), (5, .long (v5 + (-1 : Int64))), (0, .ref ((zB z).size + 64)), (1, .int v1), (2, .int v2), (3, .int v3), (4, .int v4)]) hz1 dX12_byCrossCut_96 rfl rfl ?_
        refine am_goto (tgt := 50) hz1 dX12_byCrossCut_98 (by decide) ?_
        exact am_sub (lv' := [(0, .ref ((zB z).size + 64)), (1, .int v1), (2, .int v2), (3, .int v3), (4, .int v4), (5, .long (v5 + (-1 : Int64))), (7, .int ((v7 - (1 : Int32)) &&& v4))]) [2, 3, 4, 5, 6, 1, 0] rfl h
      · replace h := h.2 c6
        refine am_lconst (v := 1) hz1 dX12_byCrossCut_79 (by decide) ?_
        refine am_goto (tgt := 86) hz1 dX12_byCrossCut_80 (by decide) ?_
        refine am_ladd hz1 dX12_byCrossCut_86 ?_
        refine am_lstore (lv' := [(5, .long (v5 + (1 : Int64))), (0, .ref ((zB z).size + 64)), (1, .int v1), (2, .int v2), (3, .int v3), (4, .int v4), (7, .int v7)]) hz1 dX12_byCrossCut_87 rfl rfl ?_
        refine am_iload hz1 dX12_byCrossCut_89 6 rfl ?_
        refine am_iconst (v := 1) hz1 dX12_byCrossCut_91 (by decide) ?_
        refine am_isub hz1 dX12_byCrossCut_92 ?_
        refine am_iload hz1 dX12_byCrossCut_93 5 rfl ?_
        refine am_iand hz1 dX12_byCrossCut_95 ?_
        refine am_istore (lv' := [(7, .int ((v7 - (1 : Int32)) &&& v4)), (5, .long (v5 + (1 : Int64))), (0, .ref ((zB z).size + 64)), (1, .int v1), (2, .int v2), (3, .int v3), (4, .int v4)]) hz1 dX12_byCrossCut_96 rfl rfl ?_
        refine am_goto (tgt := 50) hz1 dX12_byCrossCut_98 (by decide) ?_
        exact am_sub (lv' := [(0, .ref ((zB z).size + 64)), (1, .int v1), (2, .int v2), (3, .int v3), (4, .int v4), (5, .long (v5 + (1 : Int64))), (7, .int ((v7 - (1 : Int32)) &&& v4))]) [2, 3, 4, 5, 6, 1, 0] rfl h
set_option maxRecDepth 100000 in
set_option maxHeartbeats 4000000 in
theorem c_X12_byCrossCut {l : Launch} {D : va_G} {B : Heap} {G : amG} {I : amI} {L : amL}  (hG : Lay G)  (v1 : Int32) (v2 : Int32) {n a b : Nat} {A : Nat → Int32} (hM : MO L n A) (ha : a < n) (hb : b < n) (hl : le A a b = true) (hv1 : v1 = nI a) (hv2 : v2 = nI b) : Mx l D B yX12_byCrossCut cX12_byCrossCut 8 (some .long) 6 0 0 [.ref (B.size + 64), .int v1, .int v2] G I L (fun r G1 I1 L1 => r = some (.long (if arM n A (ivS n A a b) = true then ccX n A a b else -9223372036854775808)) ∧ G1 = G ∧ I1 = I ∧ L1 = L) := by
  refine Mx.of (by decide) rfl rfl (fun z e1 e2 e3 hz => ?_)
  subst e1; subst e2; subst e3
  refine b_X12_byCrossCut_0 hz hG ?_
  subst hv1; subst hv2
  have h16 := hM.2.1
  have hP := hM.2.2.1
  have hcs : m_cset L (nI a) = mkset (cv n A a) n := by
    rw [m_cset, hM.N]
    exact mkset_cong (fun i hi => hM.cov ha hi)
  rw [hM.iv ha hb, hM.arJ, hcs]
  refine ⟨⟨n, A, hM⟩, in16 h16 ha, ⟨n, A, hM⟩, fun har => ⟨⟨n, A, hM⟩, in16 h16 ha, ?_⟩, fun har => ⟨by rw [if_neg (by rw [har]; decide)], rfl, rfl, rfl⟩⟩
  have hset := iv_lt (n := n) (A := A) (a := a) (by omega) hb
  have hba : bt (ivS n A a b) a = true := by rw [iv_b (by omega) hb (by omega), decide_eq_true ha, le_rf (by omega), hl]; rfl
  obtain ⟨M, hM16, hat, hbits⟩ := set16 (x := atM n A a b) (and_16' (iv_16 h16 hb))
  have hMn : ∀ i, M.testBit i = true → i < n ∧ bt (ivS n A a b) i = true := by
    intro i hi
    have hi16 : i < 16 := Nat.not_le.mp fun q => by
      rw [Nat.testBit_lt_two_pow (Nat.lt_of_lt_of_le hM16 (Nat.pow_le_pow_right (n := 2) (by decide) q))] at hi
      cases hi
    rw [hbits i (by omega), atM, b_and, Bool.and_eq_true] at hi
    exact ⟨hset i (by omega) hi.2, hi.2⟩
  have hM2 : M < 2 ^ n := by
    apply Nat.lt_pow_two_of_testBit
    intro i hi
    rw [Bool.eq_false_iff]
    intro q
    have := (hMn i q).1
    omega
  have hat' : mkset (cv n A a) n &&& ivS n A a b = nI M := hat
  have hMe : (atM n A a b).toNatClampNeg = M := by rw [hat]; exact cl_nI (by omega)
  let φ : Nat → Int64 := fun t => if jfN (jN n A (ivS n A a b)) a t n = b then sgF t n else 0
  have hfin : sumT M φ M = ccX n A a b := by
    rw [sumT_all (s := 0) hM2, ccX, hMe]
    exact cross (S := bt (ivS n A a b)) ha hba (fun y k hy hs hk => by
      obtain ⟨w, hw, hbw, q⟩ := jn_in hP h16 hset har hy (hMn k hk).1 hs (hMn k hk).2
      rw [jN, q, cl_nI (by omega)]
      exact ⟨hw, hbw⟩) n b
  have hsubi : ∀ s, s &&& M = s → ∀ i, i < 32 → s.testBit i = true → bt (ivS n A a b) i = true := fun s hs i _ hi => (hMn i (sub_iff.mp hs i hi)).2
  have hinj : ∀ s, s &&& M = s → jfN (jN n A (ivS n A a b)) a s n < n := fun s hs => (jfN_in (S := bt (ivS n A a b)) ha hba (fun y k hy hs hk => by
      obtain ⟨w, hw, hbw, q⟩ := jn_in hP h16 hset har hy (hMn k hk).1 hs (hMn k hk).2
      rw [jN, q, cl_nI (by omega)]
      exact ⟨hw, hbw⟩) hs n).1
  have loop : ∀ s, s &&& M = s → Wx z 0 0 50 [(0, .ref ((zB z).size + 64)), (1, .int (nI a)), (2, .int (nI b)), (3, .int (ivS n A a b)), (4, .int (nI M)), (5, .long ((sumT M φ M - sumT M φ s) + φ 0)), (7, .int (nI s))] [] G I L := by
    intro s
    induction s using Nat.strongRecOn with
    | _ s ih =>
      intro hs
      have hsM : s ≤ M := by rw [← hs]; exact Nat.and_le_right
      have hctn : ct (bt (nI s)) 16 = ct (fun i => s.testBit i) n := by
        rw [ct_16 (n := n) h16 (fun i hi q => by rw [bt_nI s i hi] at q; exact (hMn i (sub_iff.mp hs i q)).1)]
        exact ct_cong (fun i hi => bt_nI s i (by omega))
      have hsz : m_size (nI s) = nI (ct (fun i => s.testBit i) n) := by rw [m_size, hctn]
      have hcl := ct_le (fun i => s.testBit i) n
      have hrem : nI (ct (fun i => s.testBit i) n) - nI (ct (fun i => s.testBit i) n) / (2 : Int32) * 2 = nI (ct (fun i => s.testBit i) n % 2) := nI_rem (b := 2) (by omega) (by decide) (by decide)
      refine b_X12_byCrossCut_50 hz hG ⟨fun h => ⟨?_, rfl, rfl, rfl⟩, fun h => ⟨3, _, rfl, c_X12_joinOf hG _ _ _ hM hset har ha hba rfl rfl (hsubi s hs), fun ro G2 I2 L2 ⟨e1, e2, e3, e4⟩ => ⟨_, e1, by rw [e2]; exact hG, ?_⟩⟩⟩
      · have h0 : s = 0 := (nI_eq (b := 0) (by omega) (by decide)).mp h
        subst h0
        rw [sumT_0, if_pos har, ← hfin, Int64.sub_add_cancel]
      · have h0 : s ≠ 0 := fun q => h (by rw [q]; rfl)
        have hle : (s - 1) &&& M ≤ s - 1 := Nat.and_le_left
        have hnext := ih ((s - 1) &&& M) (by omega) (by rw [Nat.and_assoc, Nat.and_self])
        have hv : (sumT M φ M - sumT M φ s) + φ 0 + φ s = (sumT M φ M - sumT M φ ((s - 1) &&& M)) + φ 0 := by
          rw [sumT_s hs h0, Int64.add_assoc, Int64.add_comm (φ 0), ← Int64.add_assoc, ← Int64.sub_sub, Int64.sub_add_cancel]
        have hp : (nI s - 1) &&& nI M = nI ((s - 1) &&& M) := by
          obtain ⟨s', rfl⟩ : ∃ j, s = j + 1 := ⟨s - 1, by omega⟩
          rw [nI_pred, nx_and, Nat.add_sub_cancel]
        rw [← hv] at hnext
        rw [e2, e3, e4, hp, hsz, hrem]
        refine ⟨fun g => ?_, fun g => ⟨?_, fun g2 => ?_, fun g2 => ?_⟩⟩
        · rw [show φ s = 0 from if_neg (fun q => g (by rw [q])), Int64.add_zero] at hnext
          exact hnext
        · intro i h1 h2
          rw [bt_nI s i h2, Bool.eq_false_iff]
          intro q
          have := (hMn i (sub_iff.mp hs i q)).1
          omega
        · have gj : jfN (jN n A (ivS n A a b)) a s n = b := (nI_eq (by have := hinj s hs; omega) (by omega)).mp g
          rw [show φ s = -1 from by
            show (if jfN (jN n A (ivS n A a b)) a s n = b then sgF s n else 0) = -1
            rw [if_pos gj, sg_ct, if_neg (fun q => g2 (by rw [q]; rfl))]] at hnext
          exact hnext
        · have gj : jfN (jN n A (ivS n A a b)) a s n = b := (nI_eq (by have := hinj s hs; omega) (by omega)).mp g
          rw [show φ s = 1 from by
            show (if jfN (jN n A (ivS n A a b)) a s n = b then sgF s n else 0) = 1
            rw [if_pos gj, sg_ct, if_pos ((nI_eq (b := 0) (by omega) (by decide)).mp g2)]] at hnext
          exact hnext
  have start := loop M (Nat.and_self M)
  rw [Int64.sub_self, Int64.zero_add] at start
  refine ⟨3, _, rfl, c_X12_joinOf (a := a) (t := 0) hG _ _ _ hM hset har ha hba rfl rfl (hsubi 0 (Nat.zero_and M)), fun ro G2 I2 L2 ⟨e1, e2, e3, e4⟩ => ⟨_, e1, by rw [e2]; exact hG, ?_⟩⟩
  rw [e2, e3, e4, hat']
  have hsg0 : sgF 0 n = 1 := by rw [sg_ct, ct_0.mpr (fun i _ => Nat.zero_testBit i)]; rfl
  refine ⟨fun g => ?_, fun g => ?_⟩
  · rw [show φ 0 = 0 from if_neg (fun q => g (by rw [q]))] at start
    exact start
  · have gj : jfN (jN n A (ivS n A a b)) a 0 n = b := (nI_eq (by have := hinj 0 (Nat.zero_and M); omega) (by omega)).mp g
    rw [show φ 0 = 1 from by
      show (if jfN (jN n A (ivS n A a b)) a 0 n = b then sgF 0 n else 0) = 1
      rw [if_pos gj, hsg0]] at start
    exact start
