/-! THE REFERENCE: orders made of orders -/
def m_jn (f : Nat → Int32) (n : Nat) (a : Int32) (b : Nat) : Nat → Int32 := fun x => if (decide (x < n) && m_has (f x) a) = true then f x ||| f b else f x
set_option maxRecDepth 100000 in
set_option maxHeartbeats 4000000 in
theorem b_X12_joins_0 {z : amZ} {post : amP} {G : amG} {I : amI} {L : amL} (hz : Go z cX12_joins RX12 5 none 1 0 0 post) (hG : Lay G) {v1 : Int32} {v2 : Int32} {v3 : Int32} (h : Wx z 0 0 3 [(0, .ref ((zB z).size + 70)), (1, .int v1), (2, .int v2), (3, .int v3), (4, .int 0)] [] G I L) : Wx z 0 0 0 [(0, .ref ((zB z).size + 70)), (1, .int v1), (2, .int v2), (3, .int v3)] [] G I L := by
  have hz1 := hz.1
  refine am_iconst (v := 0) hz1 dX12_joins_0 (by decide) ?_
  refine am_istore (lv' := [(4, .int 0), (0, .ref ((zB z).size + 70)), (1, .int v1), (2, .int v2), (3, .int v3)]) hz1 dX12_joins_1 rfl rfl ?_
  exact am_sub (lv' := [(0, .ref ((zB z).size + 70)), (1, .int v1), (2, .int v2), (3, .int v3), (4, .int 0)]) [1, 2, 3, 4, 0] rfl h
set_option maxRecDepth 100000 in
set_option maxHeartbeats 4000000 in
theorem b_X12_joins_3 {z : amZ} {post : amP} {G : amG} {I : amI} {L : amL} (hz : Go z cX12_joins RX12 5 none 1 0 0 post) (hG : Lay G) {v1 : Int32} {v2 : Int32} {v3 : Int32} {v4 : Int32} (h : ((v1 ≤ v4) → post none G I L) ∧ ((¬ v1 ≤ v4) → vp_in v4 16 ∧ ((m_has (I 70 v4.toNatClampNeg) v2 = false) → Wx z 0 0 3 [(0, .ref ((zB z).size + 70)), (1, .int v1), (2, .int v2), (3, .int v3), (4, .int (v4 + 1))] [] G I L) ∧ ((m_has (I 70 v4.toNatClampNeg) v2 = true) → vp_in v4 16 ∧ vp_in v3 16 ∧ vp_in v4 16 ∧ Wx z 0 0 3 [(0, .ref ((zB z).size + 70)), (1, .int v1), (2, .int v2), (3, .int v3), (4, .int (v4 + 1))] [] G (setI I 70 (upd (I 70) v4.toNatClampNeg ((I 70 v4.toNatClampNeg) ||| (I 70 v3.toNatClampNeg)))) L))) : Wx z 0 0 3 [(0, .ref ((zB z).size + 70)), (1, .int v1), (2, .int v2), (3, .int v3), (4, .int v4)] [] G I L := by
  have hz1 := hz.1
  refine am_iload hz1 dX12_joins_3 4 rfl ?_
  refine am_iload_n hz1 dX12_joins_5 1 rfl rfl ?_
  refine am_icmp_ge (tgt := 36) hz1 dX12_joins_6 (by decide) (fun c1 => ?_) (fun c1 => ?_)
  · replace h := h.1 c1
    exact am_return hz dX12_joins_36 h
  · replace h := h.2 c1
    refine am_aload_n hz1 dX12_joins_9 0 rfl rfl ?_
    refine am_iload hz1 dX12_joins_10 4 rfl ?_
    obtain ⟨g2, h⟩ := h
    refine am_iald hz1 (ln_70 hG) (lk_70 hG) (by rw [(ll_70 hG)]; exact g2) dX12_joins_12 ?_
    refine am_iload_n hz1 dX12_joins_13 2 rfl rfl ?_
    refine am_cSf hz ct_X12_90 [.int (I 70 v4.toNatClampNeg), .int v2] [] (c_X12_has hG (I 70 v4.toNatClampNeg) v2 ) rfl rfl rfl ⟨Nat.le_refl _, Nat.le_refl _⟩ (Nat.le_of_ble_eq_true rfl) dX12_joins_14 ?_
    refine am_ifb_eq (tgt := 30) hz1 dX12_joins_17 (by decide) (fun c3 => ?_) (fun c3 => ?_)
    · replace h := h.1 c3
      refine am_iinc (v := v4 + 1) (lv' := [(4, .int (v4 + 1)), (0, .ref ((zB z).size + 70)), (1, .int v1), (2, .int v2), (3, .int v3)]) hz1 dX12_joins_30 4 rfl rfl rfl rfl ?_
      refine am_goto (tgt := 3) hz1 dX12_joins_33 (by decide) ?_
      exact am_sub (lv' := [(0, .ref ((zB z).size + 70)), (1, .int v1), (2, .int v2), (3, .int v3), (4, .int (v4 + 1))]) [1, 2, 3, 4, 0] rfl h
    · replace h := h.2 c3
      refine am_aload_n hz1 dX12_joins_20 0 rfl rfl ?_
      refine am_iload hz1 dX12_joins_21 4 rfl ?_
      refine am_dup2 hz1 dX12_joins_23 rfl rfl ?_
      obtain ⟨g4, h⟩ := h
      refine am_iald hz1 (ln_70 hG) (lk_70 hG) (by rw [(ll_70 hG)]; exact g4) dX12_joins_24 ?_
      refine am_aload_n hz1 dX12_joins_25 0 rfl rfl ?_
      refine am_iload_n hz1 dX12_joins_26 3 rfl rfl ?_
      obtain ⟨g5, h⟩ := h
      refine am_iald hz1 (ln_70 hG) (lk_70 hG) (by rw [(ll_70 hG)]; exact g5) dX12_joins_27 ?_
      refine am_ior hz1 dX12_joins_28 ?_
      obtain ⟨g6, h⟩ := h
      refine am_iast hz1 (ln_70 hG) (lk_70 hG) (by rw [(ll_70 hG)]; exact g6) dX12_joins_29 ?_
      refine am_iinc (v := v4 + 1) (lv' := [(4, .int (v4 + 1)), (0, .ref ((zB z).size + 70)), (1, .int v1), (2, .int v2), (3, .int v3)]) hz1 dX12_joins_30 4 rfl rfl rfl rfl ?_
      refine am_goto (tgt := 3) hz1 dX12_joins_33 (by decide) ?_
      exact am_sub (lv' := [(0, .ref ((zB z).size + 70)), (1, .int v1), (2, .int v2), (3, .int v3), (4, .int (v4 + 1))]) [1, 2, 3, 4, 0] rfl h
set_option maxRecDepth 100000 in
set_option maxHeartbeats 4000000 in
theorem c_X12_joins {l : Launch} {D : va_G} {B : Heap} {G : amG} {I : amI} {L : amL}  (hG : Lay G)  (v1 : Int32) (v2 : Int32) (v3 : Int32) (hn : w16 v1) (hb : vp_in v3 16) (hh : m_has (I 70 v3.toNatClampNeg) v2 = false) : Fx l D B yX12_joins cX12_joins 5 none 1 [.ref (B.size + 70), .int v1, .int v2, .int v3] G I L none (setI I 70 (m_jn (I 70) v1.toNatClampNeg v2 v3.toNatClampNeg)) L := by
  refine Mx.of (by decide) rfl rfl (fun z e1 e2 e3 hz => ?_)
  subst e1; subst e2; subst e3
  refine b_X12_joins_0 hz hG ?_
  obtain ⟨n, h16, rfl⟩ := hn
  obtain ⟨b, hb16, rfl⟩ := vp_in_of hb (by decide)
  rw [cl_nI (by omega)] at hh
  have en : (nI n).toNatClampNeg = n := cl_nI (by omega)
  have eb : (nI b).toNatClampNeg = b := cl_nI (by omega)
  have main := for_up (P := fun i => Wx z 0 0 3 [(0, .ref ((zB z).size + 70)), (1, .int (nI n)), (2, .int v2), (3, .int (nI b)), (4, .int (nI i))] [] G (setI I 70 (m_jn (I 70) i v2 b)) L) (n := n) ?_ ?_ (Nat.zero_le _)
  · have e0 : m_jn (I 70) 0 v2 b = I 70 := by
      funext x
      rw [m_jn, if_neg (by simp)]
    rw [e0, setI_id] at main
    exact main
  · exact b_X12_joins_3 hz hG ⟨fun _ => ⟨rfl, rfl, by rw [en, eb], rfl⟩, fun h => absurd (nI_le (Nat.le_refl _) (by omega)) h⟩
  · intro i hi ih
    have ei : m_jn (I 70) i v2 b i = I 70 i := by rw [m_jn, if_neg (by simp)]
    have ebb : m_jn (I 70) i v2 b b = I 70 b := by rw [m_jn, if_neg (by rw [hh, Bool.and_false]; decide)]
    refine b_X12_joins_3 hz hG ⟨fun h => absurd h (nI_ge hi (by omega)), fun _ => ⟨in16 h16 hi, fun h => ?_, fun h => ⟨in16 h16 hi, hb, in16 h16 hi, ?_⟩⟩⟩
    · rw [setI_s, cl_nI (by omega), ei] at h
      have e : m_jn (I 70) (i + 1) v2 b = m_jn (I 70) i v2 b := by
        funext x
        unfold m_jn
        by_cases hx : x = i
        · subst hx
          rw [if_neg (by rw [h, Bool.and_false]; decide), if_neg (by rw [h, Bool.and_false]; decide)]
        · by_cases hx2 : x < i
          · rw [decide_eq_true hx2, decide_eq_true (show x < i + 1 by omega)]
          · rw [decide_eq_false hx2, decide_eq_false (show ¬ x < i + 1 by omega)]
      rw [e] at ih
      rw [nI_1]
      exact ih
    · rw [setI_s, cl_nI (by omega), ei] at h
      rw [setI_ss, setI_s, eb, cl_nI (by omega), ei, ebb]
      have e : upd (m_jn (I 70) i v2 b) i (I 70 i ||| I 70 b) = m_jn (I 70) (i + 1) v2 b := by
        funext x
        unfold m_jn upd
        by_cases hx : x = i
        · subst hx
          rw [if_pos rfl, if_pos (by rw [h, decide_eq_true (Nat.lt_succ_self _)]; rfl)]
        · rw [if_neg hx]
          by_cases hx2 : x < i
          · simp [hx2, show x < i + 1 by omega]
          · simp [hx2, show ¬ x < i + 1 by omega]
      rw [e, nI_1]
      exact ih
def wi (I : amI) (c : Int32) (f : Nat → Int32) : amI := setI (setI I 64 (upd (I 64) 12 c)) 70 f
theorem wi_70 {I : amI} {c : Int32} {f : Nat → Int32} : wi I c f 70 = f := by rw [wi, setI_s]
theorem wi_12 {I : amI} {c : Int32} {f : Nat → Int32} : wi I c f 64 12 = c := by rw [wi, setI_n (by decide), setI_s, upd_s]
theorem wi_64 {I : amI} {c : Int32} {f : Nat → Int32} {k : Nat} (h : k ≠ 12) : wi I c f 64 k = I 64 k := by rw [wi, setI_n (by decide), setI_s, upd_n h]
theorem wi_o {I : amI} {c : Int32} {f : Nat → Int32} {q : Nat} (h : q ≠ 64) (h2 : q ≠ 70) : wi I c f q = I q := by rw [wi, setI_n h2, setI_n h]
theorem wi_s {I : amI} {c : Int32} {f g : Nat → Int32} : setI (wi I c f) 70 g = wi I c g := by rw [wi, setI_ss, wi]
theorem wi_c {I : amI} {c d : Int32} {f : Nat → Int32} : setI (wi I c f) 64 (upd (wi I c f 64) 12 d) = wi I d f := by
  funext q
  by_cases h : q = 64
  · subst h
    rw [setI_s, wi, wi, setI_n (p := 70) (by decide), setI_n (p := 70) (by decide), setI_s, setI_s, upd_upd]
  · rw [setI_n h]
    by_cases h2 : q = 70
    · subst h2
      rw [wi_70, wi_70]
    · rw [wi_o h h2, wi_o h h2]
theorem wi_i {I : amI} {c : Int32} : setI I 64 (upd (I 64) 12 c) = wi I c (I 70) := by
  rw [wi, show I 70 = (setI I 64 (upd (I 64) 12 c)) 70 from (setI_n (by decide)).symm, setI_id]
theorem upd_id {f : Nat → Int32} {k : Nat} : upd f k (f k) = f := by
  funext j
  unfold upd
  by_cases h : j = k
  · rw [if_pos h, h]
  · rw [if_neg h]
/-- a set, drawn together to the places that another set leaves -/
def pkp (p : Nat → Bool) (s : Int32) : Nat → Int32
  | 0 => 0
  | b + 1 => if bt s b = true then pkp p s b ||| (if p b = true then (1 : Int32) <<< (nI (ct (bt s) b) &&& 31) else 0) else pkp p s b
set_option maxRecDepth 100000 in
set_option maxHeartbeats 4000000 in
theorem b_X12_within_0 {z : amZ} {post : amP} {G : amG} {I : amI} {L : amL} (hz : Go z cX12_within RX12 5 none 2 0 0 post) (hG : Lay G) {v1 : Int32} (h : Wx z 0 0 7 [(0, .ref ((zB z).size + 64)), (1, .int v1), (2, .int 0)] [] G (setI I 64 (upd (I 64) 12 (0 : Int32))) L) : Wx z 0 0 0 [(0, .ref ((zB z).size + 64)), (1, .int v1)] [] G I L := by
  have hz1 := hz.1
  refine am_aload_n hz1 dX12_within_0 0 rfl rfl ?_
  refine am_iconst (v := 0) hz1 dX12_within_1 (by decide) ?_
  refine am_putI hz1 fl_X12_170 (ln_64 hG) (lk_64 hG) rfl rfl (fun _ => rfl) dX12_within_2 ?_
  refine am_iconst (v := 0) hz1 dX12_within_5 (by decide) ?_
  refine am_istore_n (lv' := [(2, .int 0), (0, .ref ((zB z).size + 64)), (1, .int v1)]) hz1 dX12_within_6 rfl rfl rfl ?_
  exact am_sub (lv' := [(0, .ref ((zB z).size + 64)), (1, .int v1), (2, .int 0)]) [1, 2, 0] rfl h
set_option maxRecDepth 100000 in
set_option maxHeartbeats 4000000 in
theorem b_X12_within_7 {z : amZ} {post : amP} {G : amG} {I : amI} {L : amL} (hz : Go z cX12_within RX12 5 none 2 0 0 post) (hG : Lay G) {v1 : Int32} {v2 : Int32} (h : (((16 : Int32) ≤ v2) → Wx z 0 0 28 [(0, .ref ((zB z).size + 64)), (1, .int v1), (2, .int 0)] [] G I L) ∧ ((¬ (16 : Int32) ≤ v2) → vp_in v2 16 ∧ Wx z 0 0 7 [(0, .ref ((zB z).size + 64)), (1, .int v1), (2, .int (v2 + 1))] [] G (setI I 70 (upd (I 70) v2.toNatClampNeg (0 : Int32))) L)) : Wx z 0 0 7 [(0, .ref ((zB z).size + 64)), (1, .int v1), (2, .int v2)] [] G I L := by
  have hz1 := hz.1
  refine am_iload_n hz1 dX12_within_7 2 rfl rfl ?_
  refine am_bipush (v := 16) hz1 dX12_within_8 (by decide) ?_
  refine am_icmp_ge (tgt := 26) hz1 dX12_within_10 (by decide) (fun c1 => ?_) (fun c1 => ?_)
  · replace h := h.1 c1
    refine am_iconst (v := 0) hz1 dX12_within_26 (by decide) ?_
    refine am_istore_n (lv' := [(2, .int 0), (0, .ref ((zB z).size + 64)), (1, .int v1)]) hz1 dX12_within_27 rfl rfl rfl ?_
    exact am_sub (lv' := [(0, .ref ((zB z).size + 64)), (1, .int v1), (2, .int 0)]) [1, 2, 0] rfl h
  · replace h := h.2 c1
    refine am_aload_n hz1 dX12_within_13 0 rfl rfl ?_
    refine am_getR hz1 fl_X12_29 (ln_64 hG) (lk_64 hG) (lr_64_13 hG) rfl dX12_within_14 ?_
    refine am_iload_n hz1 dX12_within_17 2 rfl rfl ?_
    refine am_iconst (v := 0) hz1 dX12_within_18 (by decide) ?_
    obtain ⟨g2, h⟩ := h
    refine am_iast hz1 (ln_70 hG) (lk_70 hG) (by rw [(ll_70 hG)]; exact g2) dX12_within_19 ?_
    refine am_iinc (v := v2 + 1) (lv' := [(2, .int (v2 + 1)), (0, .ref ((zB z).size + 64)), (1, .int v1)]) hz1 dX12_within_20 2 rfl rfl rfl rfl ?_
    refine am_goto (tgt := 7) hz1 dX12_within_23 (by decide) ?_
    exact am_sub (lv' := [(0, .ref ((zB z).size + 64)), (1, .int v1), (2, .int (v2 + 1))]) [1, 2, 0] rfl h
set_option maxRecDepth 100000 in
set_option maxHeartbeats 4000000 in
theorem b_X12_within_28 {z : amZ} {post : amP} {G : amG} {I : amI} {L : amL} (hz : Go z cX12_within RX12 5 none 2 0 0 post) (hG : Lay G) {v1 : Int32} {v2 : Int32} (h : (((m_many L) ≤ v2) → post none G I L) ∧ ((¬ (m_many L) ≤ v2) → ((m_has v1 v2 = true) → Wx z 0 0 52 [(0, .ref ((zB z).size + 64)), (1, .int v1), (2, .int v2), (3, .int 0), (4, .int 0)] [] G I L) ∧ ((m_has v1 v2 = false) → Wx z 0 0 28 [(0, .ref ((zB z).size + 64)), (1, .int v1), (2, .int (v2 + 1))] [] G I L))) : Wx z 0 0 28 [(0, .ref ((zB z).size + 64)), (1, .int v1), (2, .int v2)] [] G I L := by
  have hz1 := hz.1
  refine am_iload_n hz1 dX12_within_28 2 rfl rfl ?_
  refine am_aload_n hz1 dX12_within_29 0 rfl rfl ?_
  refine am_cVf hz cv_X12_78 [] [.int v2] (c_X12_many hG  ) (ln_64 hG) (lk_64 hG) rfl rfl rfl ⟨Nat.le_refl _, Nat.le_refl _⟩ (Nat.le_of_ble_eq_true rfl) dX12_within_30 ?_
  refine am_icmp_ge (tgt := 127) hz1 dX12_within_33 (by decide) (fun c1 => ?_) (fun c1 => ?_)
  · replace h := h.1 c1
    exact am_return hz dX12_within_127 h
  · replace h := h.2 c1
    refine am_iload_n hz1 dX12_within_36 1 rfl rfl ?_
    refine am_iload_n hz1 dX12_within_37 2 rfl rfl ?_
    refine am_cSf hz ct_X12_90 [.int v1, .int v2] [] (c_X12_has hG v1 v2 ) rfl rfl rfl ⟨Nat.le_refl _, Nat.le_refl _⟩ (Nat.le_of_ble_eq_true rfl) dX12_within_38 ?_
    refine am_ifb_ne (tgt := 47) hz1 dX12_within_41 (by decide) (fun c2 => ?_) (fun c2 => ?_)
    · replace h := h.1 c2
      refine am_iconst (v := 0) hz1 dX12_within_47 (by decide) ?_
      refine am_istore_n (lv' := [(3, .int 0), (0, .ref ((zB z).size + 64)), (1, .int v1), (2, .int v2)]) hz1 dX12_within_48 rfl rfl rfl ?_
      refine am_iconst (v := 0) hz1 dX12_within_49 (by decide) ?_
      refine am_istore (lv' := [(4, .int 0), (3, .int 0), (0, .ref ((zB z).size + 64)), (1, .int v1), (2, .int v2)]) hz1 dX12_within_50 rfl rfl ?_
      exact am_sub (lv' := [(0, .ref ((zB z).size + 64)), (1, .int v1), (2, .int v2), (3, .int 0), (4, .int 0)]) [2, 3, 4, 1, 0] rfl h
    · replace h := h.2 c2
      refine am_goto (tgt := 121) hz1 dX12_within_44 (by decide) ?_
      refine am_iinc (v := v2 + 1) (lv' := [(2, .int (v2 + 1)), (0, .ref ((zB z).size + 64)), (1, .int v1)]) hz1 dX12_within_121 2 rfl rfl rfl rfl ?_
      refine am_goto (tgt := 28) hz1 dX12_within_124 (by decide) ?_
      exact am_sub (lv' := [(0, .ref ((zB z).size + 64)), (1, .int v1), (2, .int (v2 + 1))]) [1, 2, 0] rfl h
set_option maxRecDepth 100000 in
set_option maxHeartbeats 4000000 in
theorem b_X12_within_52 {z : amZ} {post : amP} {G : amG} {I : amI} {L : amL} (hz : Go z cX12_within RX12 5 none 2 0 0 post) (hG : Lay G) {v1 : Int32} {v2 : Int32} {v3 : Int32} {v4 : Int32} (h : (((m_many L) ≤ v4) → Wx z 0 0 28 [(0, .ref ((zB z).size + 64)), (1, .int v1), (2, .int (v2 + 1))] [] G (setI I 64 (upd (I 64) 12 ((I 64 12) + (1 : Int32)))) L) ∧ ((¬ (m_many L) ≤ v4) → ((m_has v1 v4 = true) → vp_in (I 64 12) 16 ∧ (vp_in v2 16) ∧ ((m_am L v2 v4 = false) → vp_in (I 64 12) 16 ∧ Wx z 0 0 52 [(0, .ref ((zB z).size + 64)), (1, .int v1), (2, .int v2), (3, .int (v3 + 1)), (4, .int (v4 + 1))] [] G (setI I 70 (upd (I 70) (I 64 12).toNatClampNeg ((I 70 (I 64 12).toNatClampNeg) ||| (0 : Int32)))) L) ∧ ((m_am L v2 v4 = true) → vp_in (I 64 12) 16 ∧ Wx z 0 0 52 [(0, .ref ((zB z).size + 64)), (1, .int v1), (2, .int v2), (3, .int (v3 + 1)), (4, .int (v4 + 1))] [] G (setI I 70 (upd (I 70) (I 64 12).toNatClampNeg ((I 70 (I 64 12).toNatClampNeg) ||| ((1 : Int32) <<< (v3 &&& 31))))) L)) ∧ ((m_has v1 v4 = false) → Wx z 0 0 52 [(0, .ref ((zB z).size + 64)), (1, .int v1), (2, .int v2), (3, .int v3), (4, .int (v4 + 1))] [] G I L))) : Wx z 0 0 52 [(0, .ref ((zB z).size + 64)), (1, .int v1), (2, .int v2), (3, .int v3), (4, .int v4)] [] G I L := by
  have hz1 := hz.1
  refine am_iload hz1 dX12_within_52 4 rfl ?_
  refine am_aload_n hz1 dX12_within_54 0 rfl rfl ?_
  refine am_cVf hz cv_X12_78 [] [.int v4] (c_X12_many hG  ) (ln_64 hG) (lk_64 hG) rfl rfl rfl ⟨Nat.le_refl _, Nat.le_refl _⟩ (Nat.le_of_ble_eq_true rfl) dX12_within_55 ?_
  refine am_icmp_ge (tgt := 111) hz1 dX12_within_58 (by decide) (fun c1 => ?_) (fun c1 => ?_)
  · replace h := h.1 c1
    refine am_aload_n hz1 dX12_within_111 0 rfl rfl ?_
    refine am_dup hz1 dX12_within_112 rfl ?_
    refine am_getI hz1 fl_X12_170 (ln_64 hG) (lk_64 hG) rfl dX12_within_113 ?_
    refine am_iconst (v := 1) hz1 dX12_within_116 (by decide) ?_
    refine am_iadd hz1 dX12_within_117 ?_
    refine am_putI hz1 fl_X12_170 (ln_64 hG) (lk_64 hG) rfl rfl (fun _ => rfl) dX12_within_118 ?_
    refine am_iinc (v := v2 + 1) (lv' := [(2, .int (v2 + 1)), (0, .ref ((zB z).size + 64)), (1, .int v1), (3, .int v3), (4, .int v4)]) hz1 dX12_within_121 2 rfl rfl rfl rfl ?_
    refine am_goto (tgt := 28) hz1 dX12_within_124 (by decide) ?_
    exact am_sub (lv' := [(0, .ref ((zB z).size + 64)), (1, .int v1), (2, .int (v2 + 1))]) [1, 2, 0] rfl h
  · replace h := h.2 c1
    refine am_iload_n hz1 dX12_within_61 1 rfl rfl ?_
    refine am_iload hz1 dX12_within_62 4 rfl ?_
    refine am_cSf hz ct_X12_90 [.int v1, .int v4] [] (c_X12_has hG v1 v4 ) rfl rfl rfl ⟨Nat.le_refl _, Nat.le_refl _⟩ (Nat.le_of_ble_eq_true rfl) dX12_within_64 ?_
    refine am_ifb_ne (tgt := 73) hz1 dX12_within_67 (by decide) (fun c2 => ?_) (fun c2 => ?_)
    · replace h := h.1 c2
      refine am_aload_n hz1 dX12_within_73 0 rfl rfl ?_
      refine am_getR hz1 fl_X12_29 (ln_64 hG) (lk_64 hG) (lr_64_13 hG) rfl dX12_within_74 ?_
      refine am_aload_n hz1 dX12_within_77 0 rfl rfl ?_
      refine am_getI hz1 fl_X12_170 (ln_64 hG) (lk_64 hG) rfl dX12_within_78 ?_
      refine am_dup2 hz1 dX12_within_81 rfl rfl ?_
      obtain ⟨g3, h⟩ := h
      refine am_iald hz1 (ln_70 hG) (lk_70 hG) (by rw [(ll_70 hG)]; exact g3) dX12_within_82 ?_
      refine am_aload_n hz1 dX12_within_83 0 rfl rfl ?_
      refine am_iload_n hz1 dX12_within_84 2 rfl rfl ?_
      refine am_iload hz1 dX12_within_85 4 rfl ?_
      obtain ⟨g4, h⟩ := h
      refine am_cVf hz cv_X12_94 [.int v2, .int v4] [.int (I 70 (I 64 12).toNatClampNeg), .int (I 64 12), .ref ((zB z).size + 70)] (c_X12_isAtMost hG v2 v4 g4) (ln_64 hG) (lk_64 hG) rfl rfl rfl ⟨Nat.le_refl _, Nat.le_refl _⟩ (Nat.le_of_ble_eq_true rfl) dX12_within_87 ?_
      refine am_ifb_eq (tgt := 99) hz1 dX12_within_90 (by decide) (fun c5 => ?_) (fun c5 => ?_)
      · replace h := h.1 c5
        refine am_iconst (v := 0) hz1 dX12_within_99 (by decide) ?_
        refine am_ior hz1 dX12_within_100 ?_
        obtain ⟨g6, h⟩ := h
        refine am_iast hz1 (ln_70 hG) (lk_70 hG) (by rw [(ll_70 hG)]; exact g6) dX12_within_101 ?_
        refine am_iinc (v := v3 + 1) (lv' := [(3, .int (v3 + 1)), (0, .ref ((zB z).size + 64)), (1, .int v1), (2, .int v2), (4, .int v4)]) hz1 dX12_within_102 3 rfl rfl rfl rfl ?_
        refine am_iinc (v := v4 + 1) (lv' := [(4, .int (v4 + 1)), (3, .int (v3 + 1)), (0, .ref ((zB z).size + 64)), (1, .int v1), (2, .int v2)]) hz1 dX12_within_105 4 rfl rfl rfl rfl ?_
        refine am_goto (tgt := 52) hz1 dX12_within_108 (by decide) ?_
        exact am_sub (lv' := [(0, .ref ((zB z).size + 64)), (1, .int v1), (2, .int v2), (3, .int (v3 + 1)), (4, .int (v4 + 1))]) [2, 3, 4, 1, 0] rfl h
      · replace h := h.2 c5
        refine am_iconst (v := 1) hz1 dX12_within_93 (by decide) ?_
        refine am_iload_n hz1 dX12_within_94 3 rfl rfl ?_
        refine am_ishl hz1 dX12_within_95 ?_
        refine am_goto (tgt := 100) hz1 dX12_within_96 (by decide) ?_
        refine am_ior hz1 dX12_within_100 ?_
        obtain ⟨g7, h⟩ := h
        refine am_iast hz1 (ln_70 hG) (lk_70 hG) (by rw [(ll_70 hG)]; exact g7) dX12_within_101 ?_
        refine am_iinc (v := v3 + 1) (lv' := [(3, .int (v3 + 1)), (0, .ref ((zB z).size + 64)), (1, .int v1), (2, .int v2), (4, .int v4)]) hz1 dX12_within_102 3 rfl rfl rfl rfl ?_
        refine am_iinc (v := v4 + 1) (lv' := [(4, .int (v4 + 1)), (3, .int (v3 + 1)), (0, .ref ((zB z).size + 64)), (1, .int v1), (2, .int v2)]) hz1 dX12_within_105 4 rfl rfl rfl rfl ?_
        refine am_goto (tgt := 52) hz1 dX12_within_108 (by decide) ?_
        exact am_sub (lv' := [(0, .ref ((zB z).size + 64)), (1, .int v1), (2, .int v2), (3, .int (v3 + 1)), (4, .int (v4 + 1))]) [2, 3, 4, 1, 0] rfl h
    · replace h := h.2 c2
      refine am_goto (tgt := 105) hz1 dX12_within_70 (by decide) ?_
      refine am_iinc (v := v4 + 1) (lv' := [(4, .int (v4 + 1)), (0, .ref ((zB z).size + 64)), (1, .int v1), (2, .int v2), (3, .int v3)]) hz1 dX12_within_105 4 rfl rfl rfl rfl ?_
      refine am_goto (tgt := 52) hz1 dX12_within_108 (by decide) ?_
      exact am_sub (lv' := [(0, .ref ((zB z).size + 64)), (1, .int v1), (2, .int v2), (3, .int v3), (4, .int (v4 + 1))]) [1, 2, 3, 4, 0] rfl h
set_option maxRecDepth 100000 in
set_option maxHeartbeats 4000000 in
theorem c_X12_within {l : Launch} {D : va_G} {B : Heap} {G : amG} {I : amI} {L : amL}  (hG : Lay G)  (v1 : Int32) {n : Nat} {A : Nat → Int32} (hM : MO L n A) : Mx l D B yX12_within cX12_within 5 none 2 0 0 [.ref (B.size + 64), .int v1] G I L (fun r G1 I1 L1 => r = none ∧ G1 = G ∧ L1 = L ∧ ∃ f : Nat → Int32, I1 = wi I (nI (ct (bt v1) n)) f ∧ (∀ x, x < n → bt v1 x = true → f (ct (bt v1) x) = pkp (fun b => m_am L (nI x) (nI b)) v1 n) ∧ ∀ j, ct (bt v1) n ≤ j → j < 16 → f j = 0) := by
  refine Mx.of (by decide) rfl rfl (fun z e1 e2 e3 hz => ?_)
  subst e1; subst e2; subst e3
  refine b_X12_within_0 hz hG ?_
  have h16 := hM.2.1
  rw [wi_i]
  have main2 : ∀ f : Nat → Int32, ((∀ x, x < 0 → bt v1 x = true → f (ct (bt v1) x) = pkp (fun b => m_am L (nI x) (nI b)) v1 n) ∧ ∀ j, ct (bt v1) 0 ≤ j → j < 16 → f j = 0) → Wx z 0 0 28 [(0, .ref ((zB z).size + 64)), (1, .int v1), (2, .int (nI 0))] [] G (wi I (nI (ct (bt v1) 0)) f) L := by
    refine for_up (P := fun i => ∀ f : Nat → Int32, ((∀ x, x < i → bt v1 x = true → f (ct (bt v1) x) = pkp (fun b => m_am L (nI x) (nI b)) v1 n) ∧ ∀ j, ct (bt v1) i ≤ j → j < 16 → f j = 0) → Wx z 0 0 28 [(0, .ref ((zB z).size + 64)), (1, .int v1), (2, .int (nI i))] [] G (wi I (nI (ct (bt v1) i)) f) L) (n := n) ?_ ?_ (Nat.zero_le _)
    · intro f hf
      exact b_X12_within_28 hz hG ⟨fun _ => ⟨rfl, rfl, rfl, f, rfl, hf.1, hf.2⟩, fun h => absurd (mm_le hM) h⟩
    · intro i hi ih f hf
      refine b_X12_within_28 hz hG ⟨fun h => absurd h (mm_ge hM hi), fun _ => ⟨fun h => ?_, fun h => ?_⟩⟩
      · rw [has_b (by omega)] at h
        have hci : ct (bt v1) i ≤ i := ct_le _ _
        have h0 : f (ct (bt v1) i) = 0 := hf.2 _ (Nat.le_refl _) (by omega)
        have inner := for_up (P := fun j => Wx z 0 0 52 [(0, .ref ((zB z).size + 64)), (1, .int v1), (2, .int (nI i)), (3, .int (nI (ct (bt v1) j))), (4, .int (nI j))] [] G (wi I (nI (ct (bt v1) i)) (upd f (ct (bt v1) i) (pkp (fun b => m_am L (nI i) (nI b)) v1 j))) L) (n := n) ?_ ?_ (Nat.zero_le _)
        · rw [pkp, ← h0, upd_id] at inner
          exact inner
        · refine b_X12_within_52 hz hG ⟨fun _ => ?_, fun h => absurd (mm_le hM) h⟩
          have := ih (upd f (ct (bt v1) i) (pkp (fun b => m_am L (nI i) (nI b)) v1 n)) (by
            rw [ct, if_pos h]
            refine ⟨fun x hx hb => ?_, fun j h1 h2 => ?_⟩
            · by_cases e : x = i
              · subst e
                rw [upd_s]
              · have : ct (bt v1) x < ct (bt v1) i := Nat.lt_of_succ_le (ct_lt (by omega) hb)
                rw [upd_n (by omega)]
                exact hf.1 x (by omega) hb
            · rw [upd_n (by omega)]
              exact hf.2 j (by omega) h2)
          rw [ct, if_pos h] at this
          rw [wi_c, wi_12, nI_1, nI_1]
          exact this
        · intro j hj jh
          refine b_X12_within_52 hz hG ⟨fun h => absurd h (mm_ge hM hj), fun _ => ⟨fun g => ?_, fun g => ?_⟩⟩
          · rw [has_b (by omega)] at g
            rw [wi_12]
            refine ⟨in_nI (by omega) (by decide), in16 h16 hi, fun g2 => ⟨in_nI (by omega) (by decide), ?_⟩, fun g2 => ⟨in_nI (by omega) (by decide), ?_⟩⟩
            · rw [wi_s, wi_70, cl_nI (by omega), upd_s, upd_upd, nI_1, nI_1]
              rw [ct, if_pos g, pkp, if_pos g, if_neg (by rw [g2]; decide)] at jh
              exact jh
            · rw [wi_s, wi_70, cl_nI (by omega), upd_s, upd_upd, nI_1, nI_1]
              rw [ct, if_pos g, pkp, if_pos g, if_pos g2] at jh
              exact jh
          · rw [has_b (by omega)] at g
            rw [ct, if_neg (by rw [g]; decide), pkp, if_neg (by rw [g]; decide)] at jh
            rw [nI_1]
            exact jh
      · rw [has_b (by omega)] at h
        have := ih f (by
          rw [ct, if_neg (by rw [h]; decide), Nat.add_zero]
          exact ⟨fun x hx hb => hf.1 x (by
            have : x ≠ i := fun e => by rw [e, h] at hb; cases hb
            omega) hb, hf.2⟩)
        rw [ct, if_neg (by rw [h]; decide), Nat.add_zero] at this
        rw [nI_1]
        exact this
  have main := for_up (P := fun i => Wx z 0 0 7 [(0, .ref ((zB z).size + 64)), (1, .int v1), (2, .int (nI i))] [] G (wi I 0 (wr (I 70) 0 i (fun _ => 0))) L) (n := 16) ?_ ?_ (Nat.zero_le _)
  · rw [wr_0] at main
    exact main
  · refine b_X12_within_7 hz hG ⟨fun _ => ?_, fun h => absurd (nI_le (a := 16) (b := 16) (Nat.le_refl _) (by decide)) h⟩
    exact main2 _ ⟨fun x hx => absurd hx (Nat.not_lt_zero _), fun j _ hj => wr_in (by omega)⟩
  · intro i hi ih
    refine b_X12_within_7 hz hG ⟨fun h => absurd h (nI_ge (b := 16) hi (by decide)), fun _ => ⟨in_nI hi (by decide), ?_⟩⟩
    rw [wi_s, wi_70, cl_nI (by omega), wr_I0 rfl, nI_1]
    exact ih
def besOk (I : amI) (L : amL) (s : Int32) : Prop := ∃ t k : Nat, t < 2 ∧ s = nI t ∧ I 67 t = nI k ∧ mN L + k ≤ 16
def m_besV (I : amI) (L : amL) (s v : Int32) (a : Nat) : Int32 := m_up L (nI a) ||| (if v = 0 then 0 else (((1 : Int32) <<< (I 67 s.toNatClampNeg &&& 31)) - 1) <<< (m_many L &&& 31))
def m_bes (I : amI) (L : amL) (s v : Int32) : Nat → Int32 := wr (wr (wr (I 70) 0 16 (fun _ => 0)) 0 (mN L) (m_besV I L s v)) (mN L) (I 67 s.toNatClampNeg).toNatClampNeg (fun a => I 68 (16 * s.toNatClampNeg + a) <<< (m_many L &&& 31))
set_option maxRecDepth 100000 in
set_option maxHeartbeats 4000000 in
theorem b_X12_beside_0 {z : amZ} {post : amP} {G : amG} {I : amI} {L : amL} (hz : Go z cX12_beside RX12 5 none 1 0 0 post) (hG : Lay G) {v1 : Int32} {v2 : Int32} (h : vp_in v1 2 ∧ Wx z 0 0 20 [(0, .ref ((zB z).size + 64)), (1, .int v1), (2, .int v2), (3, .int (m_many L)), (4, .int 0)] [] G (setI I 64 (upd (I 64) 12 ((m_many L) + (I 67 v1.toNatClampNeg)))) L) : Wx z 0 0 0 [(0, .ref ((zB z).size + 64)), (1, .int v1), (2, .int v2)] [] G I L := by
  have hz1 := hz.1
  refine am_aload_n hz1 dX12_beside_0 0 rfl rfl ?_
  refine am_cVf hz cv_X12_78 [] [] (c_X12_many hG  ) (ln_64 hG) (lk_64 hG) rfl rfl rfl ⟨Nat.le_refl _, Nat.le_refl _⟩ (Nat.le_of_ble_eq_true rfl) dX12_beside_1 ?_
  refine am_istore_n (lv' := [(3, .int (m_many L)), (0, .ref ((zB z).size + 64)), (1, .int v1), (2, .int v2)]) hz1 dX12_beside_4 rfl rfl rfl ?_
  refine am_aload_n hz1 dX12_beside_5 1 rfl rfl ?_
  refine am_iload_n hz1 dX12_beside_6 0 rfl rfl ?_
  refine am_aload_n hz1 dX12_beside_7 1 rfl rfl ?_
  refine am_getR hz1 fl_X12_18 (ln_64 hG) (lk_64 hG) (lr_64_3 hG) rfl dX12_beside_8 ?_
  refine am_iload_n hz1 dX12_beside_11 2 rfl rfl ?_
  obtain ⟨g1, h⟩ := h
  refine am_iald hz1 (ln_67 hG) (lk_67 hG) (by rw [(ll_67 hG)]; exact g1) dX12_beside_12 ?_
  refine am_iadd hz1 dX12_beside_13 ?_
  refine am_putI hz1 fl_X12_170 (ln_64 hG) (lk_64 hG) rfl rfl (fun _ => rfl) dX12_beside_14 ?_
  refine am_iconst (v := 0) hz1 dX12_beside_17 (by decide) ?_
  refine am_istore (lv' := [(4, .int 0), (3, .int (m_many L)), (0, .ref ((zB z).size + 64)), (1, .int v1), (2, .int v2)]) hz1 dX12_beside_18 rfl rfl ?_
  exact am_sub (lv' := [(0, .ref ((zB z).size + 64)), (1, .int v1), (2, .int v2), (3, .int (m_many L)), (4, .int 0)]) [2, 3, 4, 1, 0] rfl h
set_option maxRecDepth 100000 in
set_option maxHeartbeats 4000000 in
theorem b_X12_beside_20 {z : amZ} {post : amP} {G : amG} {I : amI} {L : amL} (hz : Go z cX12_beside RX12 5 none 1 0 0 post) (hG : Lay G) {v1 : Int32} {v2 : Int32} {v3 : Int32} {v4 : Int32} (h : (((16 : Int32) ≤ v4) → Wx z 0 0 44 [(0, .ref ((zB z).size + 64)), (1, .int v1), (2, .int v2), (3, .int v3), (4, .int 0)] [] G I L) ∧ ((¬ (16 : Int32) ≤ v4) → vp_in v4 16 ∧ Wx z 0 0 20 [(0, .ref ((zB z).size + 64)), (1, .int v1), (2, .int v2), (3, .int v3), (4, .int (v4 + 1))] [] G (setI I 70 (upd (I 70) v4.toNatClampNeg (0 : Int32))) L)) : Wx z 0 0 20 [(0, .ref ((zB z).size + 64)), (1, .int v1), (2, .int v2), (3, .int v3), (4, .int v4)] [] G I L := by
  have hz1 := hz.1
  refine am_iload hz1 dX12_beside_20 4 rfl ?_
  refine am_bipush (v := 16) hz1 dX12_beside_22 (by decide) ?_
  refine am_icmp_ge (tgt := 41) hz1 dX12_beside_24 (by decide) (fun c1 => ?_) (fun c1 => ?_)
  · replace h := h.1 c1
    refine am_iconst (v := 0) hz1 dX12_beside_41 (by decide) ?_
    refine am_istore (lv' := [(4, .int 0), (0, .ref ((zB z).size + 64)), (1, .int v1), (2, .int v2), (3, .int v3)]) hz1 dX12_beside_42 rfl rfl ?_
    exact am_sub (lv' := [(0, .ref ((zB z).size + 64)), (1, .int v1), (2, .int v2), (3, .int v3), (4, .int 0)]) [1, 2, 3, 4, 0] rfl h
  · replace h := h.2 c1
    refine am_aload_n hz1 dX12_beside_27 0 rfl rfl ?_
    refine am_getR hz1 fl_X12_29 (ln_64 hG) (lk_64 hG) (lr_64_13 hG) rfl dX12_beside_28 ?_
    refine am_iload hz1 dX12_beside_31 4 rfl ?_
    refine am_iconst (v := 0) hz1 dX12_beside_33 (by decide) ?_
    obtain ⟨g2, h⟩ := h
    refine am_iast hz1 (ln_70 hG) (lk_70 hG) (by rw [(ll_70 hG)]; exact g2) dX12_beside_34 ?_
    refine am_iinc (v := v4 + 1) (lv' := [(4, .int (v4 + 1)), (0, .ref ((zB z).size + 64)), (1, .int v1), (2, .int v2), (3, .int v3)]) hz1 dX12_beside_35 4 rfl rfl rfl rfl ?_
    refine am_goto (tgt := 20) hz1 dX12_beside_38 (by decide) ?_
    exact am_sub (lv' := [(0, .ref ((zB z).size + 64)), (1, .int v1), (2, .int v2), (3, .int v3), (4, .int (v4 + 1))]) [1, 2, 3, 4, 0] rfl h
set_option maxRecDepth 100000 in
set_option maxHeartbeats 4000000 in
theorem b_X12_beside_44 {z : amZ} {post : amP} {G : amG} {I : amI} {L : amL} (hz : Go z cX12_beside RX12 5 none 1 0 0 post) (hG : Lay G) {v1 : Int32} {v2 : Int32} {v3 : Int32} {v4 : Int32} (h : ((v3 ≤ v4) → Wx z 0 0 93 [(0, .ref ((zB z).size + 64)), (1, .int v1), (3, .int v3), (4, .int 0)] [] G I L) ∧ ((¬ v3 ≤ v4) → (vp_in v4 16) ∧ ((v2 = 0) → vp_in v4 16 ∧ Wx z 0 0 44 [(0, .ref ((zB z).size + 64)), (1, .int v1), (2, .int v2), (3, .int v3), (4, .int (v4 + 1))] [] G (setI I 70 (upd (I 70) v4.toNatClampNeg ((m_up L v4) ||| (0 : Int32)))) L) ∧ ((¬ v2 = 0) → vp_in v1 2 ∧ vp_in v4 16 ∧ Wx z 0 0 44 [(0, .ref ((zB z).size + 64)), (1, .int v1), (2, .int v2), (3, .int v3), (4, .int (v4 + 1))] [] G (setI I 70 (upd (I 70) v4.toNatClampNeg ((m_up L v4) ||| ((((1 : Int32) <<< ((I 67 v1.toNatClampNeg) &&& 31)) - (1 : Int32)) <<< (v3 &&& 31))))) L))) : Wx z 0 0 44 [(0, .ref ((zB z).size + 64)), (1, .int v1), (2, .int v2), (3, .int v3), (4, .int v4)] [] G I L := by
  have hz1 := hz.1
  refine am_iload hz1 dX12_beside_44 4 rfl ?_
  refine am_iload_n hz1 dX12_beside_46 3 rfl rfl ?_
  refine am_icmp_ge (tgt := 90) hz1 dX12_beside_47 (by decide) (fun c1 => ?_) (fun c1 => ?_)
  · replace h := h.1 c1
    refine am_iconst (v := 0) hz1 dX12_beside_90 (by decide) ?_
    refine am_istore (lv' := [(4, .int 0), (0, .ref ((zB z).size + 64)), (1, .int v1), (2, .int v2), (3, .int v3)]) hz1 dX12_beside_91 rfl rfl ?_
    exact am_sub (lv' := [(0, .ref ((zB z).size + 64)), (1, .int v1), (3, .int v3), (4, .int 0)]) [1, 2, 4, 0] rfl h
  · replace h := h.2 c1
    refine am_aload_n hz1 dX12_beside_50 0 rfl rfl ?_
    refine am_getR hz1 fl_X12_29 (ln_64 hG) (lk_64 hG) (lr_64_13 hG) rfl dX12_beside_51 ?_
    refine am_iload hz1 dX12_beside_54 4 rfl ?_
    refine am_aload_n hz1 dX12_beside_56 0 rfl rfl ?_
    refine am_iload hz1 dX12_beside_57 4 rfl ?_
    obtain ⟨g2, h⟩ := h
    refine am_cVf hz cv_X12_86 [.int v4] [.int v4, .ref ((zB z).size + 70)] (c_X12_up hG v4 g2) (ln_64 hG) (lk_64 hG) rfl rfl rfl ⟨Nat.le_refl _, Nat.le_refl _⟩ (Nat.le_of_ble_eq_true rfl) dX12_beside_59 ?_
    refine am_iload_n hz1 dX12_beside_62 2 rfl rfl ?_
    refine am_if_eq (tgt := 81) hz1 dX12_beside_63 (by decide) (fun c3 => ?_) (fun c3 => ?_)
    · replace h := h.1 c3
      refine am_iconst (v := 0) hz1 dX12_beside_81 (by decide) ?_
      refine am_ior hz1 dX12_beside_82 ?_
      obtain ⟨g4, h⟩ := h
      refine am_iast hz1 (ln_70 hG) (lk_70 hG) (by rw [(ll_70 hG)]; exact g4) dX12_beside_83 ?_
      refine am_iinc (v := v4 + 1) (lv' := [(4, .int (v4 + 1)), (0, .ref ((zB z).size + 64)), (1, .int v1), (2, .int v2), (3, .int v3)]) hz1 dX12_beside_84 4 rfl rfl rfl rfl ?_
      refine am_goto (tgt := 44) hz1 dX12_beside_87 (by decide) ?_
      exact am_sub (lv' := [(0, .ref ((zB z).size + 64)), (1, .int v1), (2, .int v2), (3, .int v3), (4, .int (v4 + 1))]) [1, 2, 3, 4, 0] rfl h
    · replace h := h.2 c3
      refine am_iconst (v := 1) hz1 dX12_beside_66 (by decide) ?_
      refine am_aload_n hz1 dX12_beside_67 0 rfl rfl ?_
      refine am_getR hz1 fl_X12_18 (ln_64 hG) (lk_64 hG) (lr_64_3 hG) rfl dX12_beside_68 ?_
      refine am_iload_n hz1 dX12_beside_71 1 rfl rfl ?_
      obtain ⟨g5, h⟩ := h
      refine am_iald hz1 (ln_67 hG) (lk_67 hG) (by rw [(ll_67 hG)]; exact g5) dX12_beside_72 ?_
      refine am_ishl hz1 dX12_beside_73 ?_
      refine am_iconst (v := 1) hz1 dX12_beside_74 (by decide) ?_
      refine am_isub hz1 dX12_beside_75 ?_
      refine am_iload_n hz1 dX12_beside_76 3 rfl rfl ?_
      refine am_ishl hz1 dX12_beside_77 ?_
      refine am_goto (tgt := 82) hz1 dX12_beside_78 (by decide) ?_
      refine am_ior hz1 dX12_beside_82 ?_
      obtain ⟨g6, h⟩ := h
      refine am_iast hz1 (ln_70 hG) (lk_70 hG) (by rw [(ll_70 hG)]; exact g6) dX12_beside_83 ?_
      refine am_iinc (v := v4 + 1) (lv' := [(4, .int (v4 + 1)), (0, .ref ((zB z).size + 64)), (1, .int v1), (2, .int v2), (3, .int v3)]) hz1 dX12_beside_84 4 rfl rfl rfl rfl ?_
      refine am_goto (tgt := 44) hz1 dX12_beside_87 (by decide) ?_
      exact am_sub (lv' := [(0, .ref ((zB z).size + 64)), (1, .int v1), (2, .int v2), (3, .int v3), (4, .int (v4 + 1))]) [1, 2, 3, 4, 0] rfl h
set_option maxRecDepth 100000 in
set_option maxHeartbeats 4000000 in
theorem b_X12_beside_93 {z : amZ} {post : amP} {G : amG} {I : amI} {L : amL} (hz : Go z cX12_beside RX12 5 none 1 0 0 post) (hG : Lay G) {v1 : Int32} {v3 : Int32} {v4 : Int32} (h : vp_in v1 2 ∧ (((I 67 v1.toNatClampNeg) ≤ v4) → post none G I L) ∧ ((¬ (I 67 v1.toNatClampNeg) ≤ v4) → vp_in (((16 : Int32) * v1) + v4) 32 ∧ vp_in (v3 + v4) 16 ∧ Wx z 0 0 93 [(0, .ref ((zB z).size + 64)), (1, .int v1), (3, .int v3), (4, .int (v4 + 1))] [] G (setI I 70 (upd (I 70) (v3 + v4).toNatClampNeg ((I 68 (((16 : Int32) * v1) + v4).toNatClampNeg) <<< (v3 &&& 31)))) L)) : Wx z 0 0 93 [(0, .ref ((zB z).size + 64)), (1, .int v1), (3, .int v3), (4, .int v4)] [] G I L := by
  have hz1 := hz.1
  refine am_iload hz1 dX12_beside_93 3 rfl ?_
  refine am_aload_n hz1 dX12_beside_95 0 rfl rfl ?_
  refine am_getR hz1 fl_X12_18 (ln_64 hG) (lk_64 hG) (lr_64_3 hG) rfl dX12_beside_96 ?_
  refine am_iload_n hz1 dX12_beside_99 1 rfl rfl ?_
  obtain ⟨g1, h⟩ := h
  refine am_iald hz1 (ln_67 hG) (lk_67 hG) (by rw [(ll_67 hG)]; exact g1) dX12_beside_100 ?_
  refine am_icmp_ge (tgt := 133) hz1 dX12_beside_101 (by decide) (fun c2 => ?_) (fun c2 => ?_)
  · replace h := h.1 c2
    exact am_return hz dX12_beside_133 h
  · replace h := h.2 c2
    refine am_aload_n hz1 dX12_beside_104 0 rfl rfl ?_
    refine am_getR hz1 fl_X12_29 (ln_64 hG) (lk_64 hG) (lr_64_13 hG) rfl dX12_beside_105 ?_
    refine am_iload_n hz1 dX12_beside_108 2 rfl rfl ?_
    refine am_iload hz1 dX12_beside_109 3 rfl ?_
    refine am_iadd hz1 dX12_beside_111 ?_
    refine am_aload_n hz1 dX12_beside_112 0 rfl rfl ?_
    refine am_getR hz1 fl_X12_22 (ln_64 hG) (lk_64 hG) (lr_64_4 hG) rfl dX12_beside_113 ?_
    refine am_bipush (v := 16) hz1 dX12_beside_116 (by decide) ?_
    refine am_iload_n hz1 dX12_beside_118 1 rfl rfl ?_
    refine am_imul hz1 dX12_beside_119 ?_
    refine am_iload hz1 dX12_beside_120 3 rfl ?_
    refine am_iadd hz1 dX12_beside_122 ?_
    obtain ⟨g3, h⟩ := h
    refine am_iald hz1 (ln_68 hG) (lk_68 hG) (by rw [(ll_68 hG)]; exact g3) dX12_beside_123 ?_
    refine am_iload_n hz1 dX12_beside_124 2 rfl rfl ?_
    refine am_ishl hz1 dX12_beside_125 ?_
    obtain ⟨g4, h⟩ := h
    refine am_iast hz1 (ln_70 hG) (lk_70 hG) (by rw [(ll_70 hG)]; exact g4) dX12_beside_126 ?_
    refine am_iinc (v := v4 + 1) (lv' := [(4, .int (v4 + 1)), (0, .ref ((zB z).size + 64)), (1, .int v1), (3, .int v3)]) hz1 dX12_beside_127 3 rfl rfl rfl rfl ?_
    refine am_goto (tgt := 93) hz1 dX12_beside_130 (by decide) ?_
    exact am_sub (lv' := [(0, .ref ((zB z).size + 64)), (1, .int v1), (3, .int v3), (4, .int (v4 + 1))]) [1, 2, 3, 0] rfl h
set_option maxRecDepth 100000 in
set_option maxHeartbeats 4000000 in
theorem c_X12_beside {l : Launch} {D : va_G} {B : Heap} {G : amG} {I : amI} {L : amL}  (hG : Lay G)  (v1 : Int32) (v2 : Int32) (hM : mOk L) (hb : besOk I L v1) : Fx l D B yX12_beside cX12_beside 5 none 1 [.ref (B.size + 64), .int v1, .int v2] G I L none (wi I (m_many L + I 67 v1.toNatClampNeg) (m_bes I L v1 v2)) L := by
  refine Mx.of (by decide) rfl rfl (fun z e1 e2 e3 hz => ?_)
  subst e1; subst e2; subst e3
  refine b_X12_beside_0 hz hG ?_
  obtain ⟨n, A, hM⟩ := hM
  obtain ⟨t, k, ht, rfl, hk, hnk⟩ := hb
  have h16 := hM.2.1
  rw [hM.N] at hnk
  have et : (nI t).toNatClampNeg = t := cl_nI (by omega)
  have ek : I 67 (nI t).toNatClampNeg = nI k := by rw [et, hk]
  refine ⟨in_nI ht (by decide), ?_⟩
  rw [wi_i, hM.many, ek]
  have hmm : m_many L = nI n := hM.many
  have fin : wr (wr (wr (I 70) 0 16 (fun _ => 0)) 0 n (m_besV I L (nI t) v2)) n k (fun a => I 68 (16 * t + a) <<< (nI n &&& 31)) = m_bes I L (nI t) v2 := by
    rw [m_bes, hM.N, ek, cl_nI (by omega), et, hmm]
  have main3 := for_up (P := fun i => Wx z 0 0 93 [(0, .ref ((zB z).size + 64)), (1, .int (nI t)), (3, .int (nI n)), (4, .int (nI i))] [] G (wi I (nI n + nI k) (wr (wr (wr (I 70) 0 16 (fun _ => 0)) 0 n (m_besV I L (nI t) v2)) n i (fun a => I 68 (16 * t + a) <<< (nI n &&& 31)))) L) (n := k) ?_ ?_ (Nat.zero_le _)
  · rw [wr_0] at main3
    have main2 := for_up (P := fun i => Wx z 0 0 44 [(0, .ref ((zB z).size + 64)), (1, .int (nI t)), (2, .int v2), (3, .int (nI n)), (4, .int (nI i))] [] G (wi I (nI n + nI k) (wr (wr (I 70) 0 16 (fun _ => 0)) 0 i (m_besV I L (nI t) v2))) L) (n := n) ?_ ?_ (Nat.zero_le _)
    · rw [wr_0] at main2
      have main := for_up (P := fun i => Wx z 0 0 20 [(0, .ref ((zB z).size + 64)), (1, .int (nI t)), (2, .int v2), (3, .int (nI n)), (4, .int (nI i))] [] G (wi I (nI n + nI k) (wr (I 70) 0 i (fun _ => 0))) L) (n := 16) ?_ ?_ (Nat.zero_le _)
      · rw [wr_0] at main
        exact main
      · exact b_X12_beside_20 hz hG ⟨fun _ => main2, fun h => absurd (nI_le (a := 16) (b := 16) (Nat.le_refl _) (by decide)) h⟩
      · intro i hi ih
        refine b_X12_beside_20 hz hG ⟨fun h => absurd h (nI_ge (b := 16) hi (by decide)), fun _ => ⟨in_nI hi (by decide), ?_⟩⟩
        rw [wi_s, wi_70, cl_nI (n := i) (by omega), wr_I0 rfl, nI_1]
        exact ih
    · exact b_X12_beside_44 hz hG ⟨fun _ => main3, fun h => absurd (nI_le (Nat.le_refl _) (by omega)) h⟩
    · intro i hi ih
      refine b_X12_beside_44 hz hG ⟨fun h => absurd h (nI_ge hi (by omega)), fun _ => ⟨in16 h16 hi, fun h => ⟨in16 h16 hi, ?_⟩, fun h => ⟨in_nI ht (by decide), in16 h16 hi, ?_⟩⟩⟩
      · rw [wi_s, wi_70, cl_nI (n := i) (by omega), wr_I0 (by rw [m_besV, if_pos h]), nI_1]
        exact ih
      · rw [wi_s, wi_70, wi_o (by decide) (by decide), cl_nI (n := i) (by omega), wr_I0 (by rw [m_besV, if_neg h, hmm]), nI_1]
        exact ih
  · refine b_X12_beside_93 hz hG ⟨in_nI ht (by decide), fun _ => ⟨rfl, rfl, by rw [fin, hmm, ek], rfl⟩, fun h => absurd ?_ h⟩
    rw [wi_o (by decide) (by decide), ek]
    exact nI_le (Nat.le_refl _) (by omega)
  · intro i hi ih
    have e1 : (16 : Int32) * nI t + nI i = nI (16 * t + i) := by rw [show (16 : Int32) = nI 16 from rfl, nI_mul, nI_add]
    refine b_X12_beside_93 hz hG ⟨in_nI ht (by decide), fun h => absurd h ?_, fun _ => ⟨by rw [e1]; exact in_nI (by omega) (by decide), inA (by omega) (by decide), ?_⟩⟩
    · rw [wi_o (by decide) (by decide), ek]
      exact nI_ge hi (by omega)
    · rw [e1, wi_s, wi_70, wi_o (by decide) (by decide), clA (by omega), cl_nI (n := 16 * t + i) (by omega), wr_sI rfl, nI_1]
      exact ih
theorem nI_div {a b : Nat} (ha : a < 2 ^ 31) (hb : b < 2 ^ 31) (h0 : b ≠ 0) : nI a / nI b = nI (a / b) := by
  apply Int32.toInt_inj.mp
  rw [Int32.toInt_div, nI_toInt ha, nI_toInt hb, nI_toInt (Nat.lt_of_le_of_lt (Nat.div_le_self _ _) ha)]
  have : Int.tdiv (a : Int) (b : Int) = ((a / b : Nat) : Int) := rfl
  rw [this]
  have h2 : a / b ≤ a := Nat.div_le_self _ _
  generalize a / b = q at h2
  apply Int.bmod_eq_of_le <;> omega
theorem nI_rem {a b : Nat} (ha : a < 2 ^ 31) (hb : b < 2 ^ 31) (h0 : b ≠ 0) : nI a - nI a / nI b * nI b = nI (a % b) := by
  rw [nI_div ha hb h0, nI_mul]
  conv => lhs; arg 1; rw [← Nat.mod_add_div a b, Nat.mul_comm b]
  rw [← nI_add]
  exact Int32.add_sub_cancel _ _
def prsOk (I : amI) (L : amL) (s : Int32) : Prop := ∃ t k : Nat, t < 2 ∧ s = nI t ∧ I 67 t = nI k ∧ 1 ≤ k ∧ mN L * k ≤ 16
def m_prsP (I : amI) (L : amL) (t k a b : Nat) : Bool := m_am L (nI (a / k)) (nI (b / k)) && m_has (I 68 (16 * t + a % k)) (nI (b % k))
def m_prs (I : amI) (L : amL) (s : Int32) : Nat → Int32 := wr (wr (I 70) 0 16 (fun _ => 0)) 0 (mN L * (I 67 s.toNatClampNeg).toNatClampNeg) (fun a => mkset (m_prsP I L s.toNatClampNeg (I 67 s.toNatClampNeg).toNatClampNeg a) (mN L * (I 67 s.toNatClampNeg).toNatClampNeg))
set_option maxRecDepth 100000 in
set_option maxHeartbeats 4000000 in
theorem b_X12_pairs_0 {z : amZ} {post : amP} {G : amG} {I : amI} {L : amL} (hz : Go z cX12_pairs RX12 5 none 2 0 0 post) (hG : Lay G) {v1 : Int32} (h : vp_in v1 2 ∧ Wx z 0 0 19 [(0, .ref ((zB z).size + 64)), (1, .int v1), (2, .int (I 67 v1.toNatClampNeg)), (3, .int 0)] [] G (setI I 64 (upd (I 64) 12 ((m_many L) * (I 67 v1.toNatClampNeg)))) L) : Wx z 0 0 0 [(0, .ref ((zB z).size + 64)), (1, .int v1)] [] G I L := by
  have hz1 := hz.1
  refine am_aload_n hz1 dX12_pairs_0 0 rfl rfl ?_
  refine am_getR hz1 fl_X12_18 (ln_64 hG) (lk_64 hG) (lr_64_3 hG) rfl dX12_pairs_1 ?_
  refine am_iload_n hz1 dX12_pairs_4 1 rfl rfl ?_
  obtain ⟨g1, h⟩ := h
  refine am_iald hz1 (ln_67 hG) (lk_67 hG) (by rw [(ll_67 hG)]; exact g1) dX12_pairs_5 ?_
  refine am_istore_n (lv' := [(2, .int (I 67 v1.toNatClampNeg)), (0, .ref ((zB z).size + 64)), (1, .int v1)]) hz1 dX12_pairs_6 rfl rfl rfl ?_
  refine am_aload_n hz1 dX12_pairs_7 1 rfl rfl ?_
  refine am_aload_n hz1 dX12_pairs_8 1 rfl rfl ?_
  refine am_cVf hz cv_X12_78 [] [.ref ((zB z).size + 64)] (c_X12_many hG  ) (ln_64 hG) (lk_64 hG) rfl rfl rfl ⟨Nat.le_refl _, Nat.le_refl _⟩ (Nat.le_of_ble_eq_true rfl) dX12_pairs_9 ?_
  refine am_iload_n hz1 dX12_pairs_12 0 rfl rfl ?_
  refine am_imul hz1 dX12_pairs_13 ?_
  refine am_putI hz1 fl_X12_170 (ln_64 hG) (lk_64 hG) rfl rfl (fun _ => rfl) dX12_pairs_14 ?_
  refine am_iconst (v := 0) hz1 dX12_pairs_17 (by decide) ?_
  refine am_istore_n (lv' := [(3, .int 0), (2, .int (I 67 v1.toNatClampNeg)), (0, .ref ((zB z).size + 64)), (1, .int v1)]) hz1 dX12_pairs_18 rfl rfl rfl ?_
  exact am_sub (lv' := [(0, .ref ((zB z).size + 64)), (1, .int v1), (2, .int (I 67 v1.toNatClampNeg)), (3, .int 0)]) [2, 3, 1, 0] rfl h
set_option maxRecDepth 100000 in
set_option maxHeartbeats 4000000 in
theorem b_X12_pairs_19 {z : amZ} {post : amP} {G : amG} {I : amI} {L : amL} (hz : Go z cX12_pairs RX12 5 none 2 0 0 post) (hG : Lay G) {v1 : Int32} {v2 : Int32} {v3 : Int32} (h : (((16 : Int32) ≤ v3) → Wx z 0 0 40 [(0, .ref ((zB z).size + 64)), (1, .int v1), (2, .int v2), (3, .int 0)] [] G I L) ∧ ((¬ (16 : Int32) ≤ v3) → vp_in v3 16 ∧ Wx z 0 0 19 [(0, .ref ((zB z).size + 64)), (1, .int v1), (2, .int v2), (3, .int (v3 + 1))] [] G (setI I 70 (upd (I 70) v3.toNatClampNeg (0 : Int32))) L)) : Wx z 0 0 19 [(0, .ref ((zB z).size + 64)), (1, .int v1), (2, .int v2), (3, .int v3)] [] G I L := by
  have hz1 := hz.1
  refine am_iload_n hz1 dX12_pairs_19 3 rfl rfl ?_
  refine am_bipush (v := 16) hz1 dX12_pairs_20 (by decide) ?_
  refine am_icmp_ge (tgt := 38) hz1 dX12_pairs_22 (by decide) (fun c1 => ?_) (fun c1 => ?_)
  · replace h := h.1 c1
    refine am_iconst (v := 0) hz1 dX12_pairs_38 (by decide) ?_
    refine am_istore_n (lv' := [(3, .int 0), (0, .ref ((zB z).size + 64)), (1, .int v1), (2, .int v2)]) hz1 dX12_pairs_39 rfl rfl rfl ?_
    exact am_sub (lv' := [(0, .ref ((zB z).size + 64)), (1, .int v1), (2, .int v2), (3, .int 0)]) [1, 2, 3, 0] rfl h
  · replace h := h.2 c1
    refine am_aload_n hz1 dX12_pairs_25 0 rfl rfl ?_
    refine am_getR hz1 fl_X12_29 (ln_64 hG) (lk_64 hG) (lr_64_13 hG) rfl dX12_pairs_26 ?_
    refine am_iload_n hz1 dX12_pairs_29 3 rfl rfl ?_
    refine am_iconst (v := 0) hz1 dX12_pairs_30 (by decide) ?_
    obtain ⟨g2, h⟩ := h
    refine am_iast hz1 (ln_70 hG) (lk_70 hG) (by rw [(ll_70 hG)]; exact g2) dX12_pairs_31 ?_
    refine am_iinc (v := v3 + 1) (lv' := [(3, .int (v3 + 1)), (0, .ref ((zB z).size + 64)), (1, .int v1), (2, .int v2)]) hz1 dX12_pairs_32 3 rfl rfl rfl rfl ?_
    refine am_goto (tgt := 19) hz1 dX12_pairs_35 (by decide) ?_
    exact am_sub (lv' := [(0, .ref ((zB z).size + 64)), (1, .int v1), (2, .int v2), (3, .int (v3 + 1))]) [1, 2, 3, 0] rfl h
set_option maxRecDepth 100000 in
set_option maxHeartbeats 4000000 in
theorem b_X12_pairs_40 {z : amZ} {post : amP} {G : amG} {I : amI} {L : amL} (hz : Go z cX12_pairs RX12 5 none 2 0 0 post) (hG : Lay G) {v1 : Int32} {v2 : Int32} {v3 : Int32} (h : (((I 64 12) ≤ v3) → post none G I L) ∧ ((¬ (I 64 12) ≤ v3) → Wx z 0 0 51 [(0, .ref ((zB z).size + 64)), (1, .int v1), (2, .int v2), (3, .int v3), (4, .int 0)] [] G I L)) : Wx z 0 0 40 [(0, .ref ((zB z).size + 64)), (1, .int v1), (2, .int v2), (3, .int v3)] [] G I L := by
  have hz1 := hz.1
  refine am_iload_n hz1 dX12_pairs_40 3 rfl rfl ?_
  refine am_aload_n hz1 dX12_pairs_41 0 rfl rfl ?_
  refine am_getI hz1 fl_X12_170 (ln_64 hG) (lk_64 hG) rfl dX12_pairs_42 ?_
  refine am_icmp_ge (tgt := 122) hz1 dX12_pairs_45 (by decide) (fun c1 => ?_) (fun c1 => ?_)
  · replace h := h.1 c1
    exact am_return hz dX12_pairs_122 h
  · replace h := h.2 c1
    refine am_iconst (v := 0) hz1 dX12_pairs_48 (by decide) ?_
    refine am_istore (lv' := [(4, .int 0), (0, .ref ((zB z).size + 64)), (1, .int v1), (2, .int v2), (3, .int v3)]) hz1 dX12_pairs_49 rfl rfl ?_
    exact am_sub (lv' := [(0, .ref ((zB z).size + 64)), (1, .int v1), (2, .int v2), (3, .int v3), (4, .int 0)]) [1, 2, 3, 4, 0] rfl h
set_option maxRecDepth 100000 in
set_option maxHeartbeats 4000000 in
theorem b_X12_pairs_51 {z : amZ} {post : amP} {G : amG} {I : amI} {L : amL} (hz : Go z cX12_pairs RX12 5 none 2 0 0 post) (hG : Lay G) {v1 : Int32} {v2 : Int32} {v3 : Int32} {v4 : Int32} (h : (((I 64 12) ≤ v4) → Wx z 0 0 40 [(0, .ref ((zB z).size + 64)), (1, .int v1), (2, .int v2), (3, .int (v3 + 1))] [] G I L) ∧ ((¬ (I 64 12) ≤ v4) → ¬ v2 = 0 ∧ ¬ v2 = 0 ∧ (vp_in (v3 / v2) 16) ∧ ((m_am L (v3 / v2) (v4 / v2) = false) → Wx z 0 0 51 [(0, .ref ((zB z).size + 64)), (1, .int v1), (2, .int v2), (3, .int v3), (4, .int (v4 + 1))] [] G I L) ∧ ((m_am L (v3 / v2) (v4 / v2) = true) → ¬ v2 = 0 ∧ vp_in (((16 : Int32) * v1) + (v3 - v3 / v2 * v2)) 32 ∧ ¬ v2 = 0 ∧ ((m_has (I 68 (((16 : Int32) * v1) + (v3 - v3 / v2 * v2)).toNatClampNeg) (v4 - v4 / v2 * v2) = false) → Wx z 0 0 51 [(0, .ref ((zB z).size + 64)), (1, .int v1), (2, .int v2), (3, .int v3), (4, .int (v4 + 1))] [] G I L) ∧ ((m_has (I 68 (((16 : Int32) * v1) + (v3 - v3 / v2 * v2)).toNatClampNeg) (v4 - v4 / v2 * v2) = true) → vp_in v3 16 ∧ vp_in v3 16 ∧ Wx z 0 0 51 [(0, .ref ((zB z).size + 64)), (1, .int v1), (2, .int v2), (3, .int v3), (4, .int (v4 + 1))] [] G (setI I 70 (upd (I 70) v3.toNatClampNeg ((I 70 v3.toNatClampNeg) ||| ((1 : Int32) <<< (v4 &&& 31))))) L)))) : Wx z 0 0 51 [(0, .ref ((zB z).size + 64)), (1, .int v1), (2, .int v2), (3, .int v3), (4, .int v4)] [] G I L := by
  have hz1 := hz.1
  refine am_iload hz1 dX12_pairs_51 4 rfl ?_
  refine am_aload_n hz1 dX12_pairs_53 0 rfl rfl ?_
  refine am_getI hz1 fl_X12_170 (ln_64 hG) (lk_64 hG) rfl dX12_pairs_54 ?_
  refine am_icmp_ge (tgt := 116) hz1 dX12_pairs_57 (by decide) (fun c1 => ?_) (fun c1 => ?_)
  · replace h := h.1 c1
    refine am_iinc (v := v3 + 1) (lv' := [(3, .int (v3 + 1)), (0, .ref ((zB z).size + 64)), (1, .int v1), (2, .int v2), (4, .int v4)]) hz1 dX12_pairs_116 3 rfl rfl rfl rfl ?_
    refine am_goto (tgt := 40) hz1 dX12_pairs_119 (by decide) ?_
    exact am_sub (lv' := [(0, .ref ((zB z).size + 64)), (1, .int v1), (2, .int v2), (3, .int (v3 + 1))]) [1, 2, 3, 0] rfl h
  · replace h := h.2 c1
    refine am_aload_n hz1 dX12_pairs_60 0 rfl rfl ?_
    refine am_iload_n hz1 dX12_pairs_61 3 rfl rfl ?_
    refine am_iload_n hz1 dX12_pairs_62 2 rfl rfl ?_
    obtain ⟨g2, h⟩ := h
    refine am_idiv hz1 dX12_pairs_63 g2 ?_
    refine am_iload hz1 dX12_pairs_64 4 rfl ?_
    refine am_iload_n hz1 dX12_pairs_66 2 rfl rfl ?_
    obtain ⟨g3, h⟩ := h
    refine am_idiv hz1 dX12_pairs_67 g3 ?_
    obtain ⟨g4, h⟩ := h
    refine am_cVf hz cv_X12_94 [.int (v3 / v2), .int (v4 / v2)] [] (c_X12_isAtMost hG (v3 / v2) (v4 / v2) g4) (ln_64 hG) (lk_64 hG) rfl rfl rfl ⟨Nat.le_refl _, Nat.le_refl _⟩ (Nat.le_of_ble_eq_true rfl) dX12_pairs_68 ?_
    refine am_ifb_eq (tgt := 110) hz1 dX12_pairs_71 (by decide) (fun c5 => ?_) (fun c5 => ?_)
    · replace h := h.1 c5
      refine am_iinc (v := v4 + 1) (lv' := [(4, .int (v4 + 1)), (0, .ref ((zB z).size + 64)), (1, .int v1), (2, .int v2), (3, .int v3)]) hz1 dX12_pairs_110 4 rfl rfl rfl rfl ?_
      refine am_goto (tgt := 51) hz1 dX12_pairs_113 (by decide) ?_
      exact am_sub (lv' := [(0, .ref ((zB z).size + 64)), (1, .int v1), (2, .int v2), (3, .int v3), (4, .int (v4 + 1))]) [1, 2, 3, 4, 0] rfl h
    · replace h := h.2 c5
      refine am_aload_n hz1 dX12_pairs_74 0 rfl rfl ?_
      refine am_getR hz1 fl_X12_22 (ln_64 hG) (lk_64 hG) (lr_64_4 hG) rfl dX12_pairs_75 ?_
      refine am_bipush (v := 16) hz1 dX12_pairs_78 (by decide) ?_
      refine am_iload_n hz1 dX12_pairs_80 1 rfl rfl ?_
      refine am_imul hz1 dX12_pairs_81 ?_
      refine am_iload_n hz1 dX12_pairs_82 3 rfl rfl ?_
      refine am_iload_n hz1 dX12_pairs_83 2 rfl rfl ?_
      obtain ⟨g6, h⟩ := h
      refine am_irem hz1 dX12_pairs_84 g6 ?_
      refine am_iadd hz1 dX12_pairs_85 ?_
      obtain ⟨g7, h⟩ := h
      refine am_iald hz1 (ln_68 hG) (lk_68 hG) (by rw [(ll_68 hG)]; exact g7) dX12_pairs_86 ?_
      refine am_iload hz1 dX12_pairs_87 4 rfl ?_
      refine am_iload_n hz1 dX12_pairs_89 2 rfl rfl ?_
      obtain ⟨g8, h⟩ := h
      refine am_irem hz1 dX12_pairs_90 g8 ?_
      refine am_cSf hz ct_X12_90 [.int (I 68 (((16 : Int32) * v1) + (v3 - v3 / v2 * v2)).toNatClampNeg), .int (v4 - v4 / v2 * v2)] [] (c_X12_has hG (I 68 (((16 : Int32) * v1) + (v3 - v3 / v2 * v2)).toNatClampNeg) (v4 - v4 / v2 * v2) ) rfl rfl rfl ⟨Nat.le_refl _, Nat.le_refl _⟩ (Nat.le_of_ble_eq_true rfl) dX12_pairs_91 ?_
      refine am_ifb_eq (tgt := 110) hz1 dX12_pairs_94 (by decide) (fun c9 => ?_) (fun c9 => ?_)
      · replace h := h.1 c9
        refine am_iinc (v := v4 + 1) (lv' := [(4, .int (v4 + 1)), (0, .ref ((zB z).size + 64)), (1, .int v1), (2, .int v2), (3, .int v3)]) hz1 dX12_pairs_110 4 rfl rfl rfl rfl ?_
        refine am_goto (tgt := 51) hz1 dX12_pairs_113 (by decide) ?_
        exact am_sub (lv' := [(0, .ref ((zB z).size + 64)), (1, .int v1), (2, .int v2), (3, .int v3), (4, .int (v4 + 1))]) [1, 2, 3, 4, 0] rfl h
      · replace h := h.2 c9
        refine am_aload_n hz1 dX12_pairs_97 0 rfl rfl ?_
        refine am_getR hz1 fl_X12_29 (ln_64 hG) (lk_64 hG) (lr_64_13 hG) rfl dX12_pairs_98 ?_
        refine am_iload_n hz1 dX12_pairs_101 3 rfl rfl ?_
        refine am_dup2 hz1 dX12_pairs_102 rfl rfl ?_
        obtain ⟨g10, h⟩ := h
        refine am_iald hz1 (ln_70 hG) (lk_70 hG) (by rw [(ll_70 hG)]; exact g10) dX12_pairs_103 ?_
        refine am_iconst (v := 1) hz1 dX12_pairs_104 (by decide) ?_
        refine am_iload hz1 dX12_pairs_105 4 rfl ?_
        refine am_ishl hz1 dX12_pairs_107 ?_
        refine am_ior hz1 dX12_pairs_108 ?_
        obtain ⟨g11, h⟩ := h
        refine am_iast hz1 (ln_70 hG) (lk_70 hG) (by rw [(ll_70 hG)]; exact g11) dX12_pairs_109 ?_
        refine am_iinc (v := v4 + 1) (lv' := [(4, .int (v4 + 1)), (0, .ref ((zB z).size + 64)), (1, .int v1), (2, .int v2), (3, .int v3)]) hz1 dX12_pairs_110 4 rfl rfl rfl rfl ?_
        refine am_goto (tgt := 51) hz1 dX12_pairs_113 (by decide) ?_
        exact am_sub (lv' := [(0, .ref ((zB z).size + 64)), (1, .int v1), (2, .int v2), (3, .int v3), (4, .int (v4 + 1))]) [1, 2, 3, 4, 0] rfl h
set_option maxRecDepth 100000 in
set_option maxHeartbeats 4000000 in
theorem c_X12_pairs {l : Launch} {D : va_G} {B : Heap} {G : amG} {I : amI} {L : amL}  (hG : Lay G)  (v1 : Int32) (hM : mOk L) (hb : prsOk I L v1) : Fx l D B yX12_pairs cX12_pairs 5 none 2 [.ref (B.size + 64), .int v1] G I L none (wi I (m_many L * I 67 v1.toNatClampNeg) (m_prs I L v1)) L := by
  refine Mx.of (by decide) rfl rfl (fun z e1 e2 e3 hz => ?_)
  subst e1; subst e2; subst e3
  refine b_X12_pairs_0 hz hG ?_
  obtain ⟨n, A, hM⟩ := hM
  obtain ⟨t, k, ht, rfl, hk, hk1, hnk⟩ := hb
  have h16 := hM.2.1
  have h1 := hM.1
  rw [hM.N] at hnk
  have hk16 : k ≤ n * k := Nat.le_mul_of_pos_left k h1
  have et : (nI t).toNatClampNeg = t := cl_nI (by omega)
  have ek : I 67 (nI t).toNatClampNeg = nI k := by rw [et, hk]
  have hmm : m_many L = nI n := hM.many
  refine ⟨in_nI ht (by decide), ?_⟩
  have fin : wr (wr (I 70) 0 16 (fun _ => 0)) 0 (n * k) (fun a => mkset (m_prsP I L t k a) (n * k)) = m_prs I L (nI t) := by
    rw [m_prs, hM.N, ek, cl_nI (by omega), et]
  have cc : m_many L * I 67 (nI t).toNatClampNeg = nI (n * k) := by rw [ek, hmm, nI_mul]
  rw [wi_i, cc, ek]
  have main2 := for_up (P := fun i => Wx z 0 0 40 [(0, .ref ((zB z).size + 64)), (1, .int (nI t)), (2, .int (nI k)), (3, .int (nI i))] [] G (wi I (nI (n * k)) (wr (wr (I 70) 0 16 (fun _ => 0)) 0 i (fun a => mkset (m_prsP I L t k a) (n * k)))) L) (n := n * k) ?_ ?_ (Nat.zero_le _)
  · rw [wr_0] at main2
    have main := for_up (P := fun i => Wx z 0 0 19 [(0, .ref ((zB z).size + 64)), (1, .int (nI t)), (2, .int (nI k)), (3, .int (nI i))] [] G (wi I (nI (n * k)) (wr (I 70) 0 i (fun _ => 0))) L) (n := 16) ?_ ?_ (Nat.zero_le _)
    · rw [wr_0] at main
      exact main
    · exact b_X12_pairs_19 hz hG ⟨fun _ => main2, fun h => absurd (nI_le (a := 16) (b := 16) (Nat.le_refl _) (by decide)) h⟩
    · intro i hi ih
      refine b_X12_pairs_19 hz hG ⟨fun h => absurd h (nI_ge (b := 16) hi (by decide)), fun _ => ⟨in_nI hi (by decide), ?_⟩⟩
      rw [wi_s, wi_70, cl_nI (n := i) (by omega), wr_I0 rfl, nI_1]
      exact ih
  · refine b_X12_pairs_40 hz hG ⟨fun _ => ⟨rfl, rfl, by rw [fin, cc], rfl⟩, fun h => absurd ?_ h⟩
    rw [wi_12]
    exact nI_le (Nat.le_refl _) (by omega)
  · intro i hi ih
    refine b_X12_pairs_40 hz hG ⟨fun h => absurd h ?_, fun _ => ?_⟩
    · rw [wi_12]
      exact nI_ge hi (by omega)
    have hz0 : wr (wr (I 70) 0 16 (fun _ => 0)) 0 i (fun a => mkset (m_prsP I L t k a) (n * k)) i = 0 := by
      rw [wr_out (by omega), wr_in (by omega)]
    have inner := for_up (P := fun j => Wx z 0 0 51 [(0, .ref ((zB z).size + 64)), (1, .int (nI t)), (2, .int (nI k)), (3, .int (nI i)), (4, .int (nI j))] [] G (wi I (nI (n * k)) (upd (wr (wr (I 70) 0 16 (fun _ => 0)) 0 i (fun a => mkset (m_prsP I L t k a) (n * k))) i (mkset (m_prsP I L t k i) j))) L) (n := n * k) ?_ ?_ (Nat.zero_le _)
    · have e0 := upd_id (f := wr (wr (I 70) 0 16 (fun _ => 0)) 0 i (fun a => mkset (m_prsP I L t k a) (n * k))) (k := i)
      rw [hz0] at e0
      rw [show mkset (m_prsP I L t k i) 0 = 0 from rfl, e0] at inner
      exact inner
    · refine b_X12_pairs_51 hz hG ⟨fun _ => ?_, fun h => absurd ?_ h⟩
      · rw [wr_I0 rfl, nI_1]
        exact ih
      · rw [wi_12]
        exact nI_le (Nat.le_refl _) (by omega)
    · intro j hj jh
      have hk0 : ¬ nI k = 0 := nI_ne0 (by omega) (by omega)
      have d1 : nI i / nI k = nI (i / k) := nI_div (by omega) (by omega) (by omega)
      have d2 : nI j / nI k = nI (j / k) := nI_div (by omega) (by omega) (by omega)
      have r1 : nI i - nI i / nI k * nI k = nI (i % k) := nI_rem (by omega) (by omega) (by omega)
      have r2 : nI j - nI j / nI k * nI k = nI (j % k) := nI_rem (by omega) (by omega) (by omega)
      have l1 : i / k ≤ i := Nat.div_le_self _ _
      have l2 : i % k < k := Nat.mod_lt _ (by omega)
      have e1 : (16 : Int32) * nI t + nI (i % k) = nI (16 * t + i % k) := by rw [show (16 : Int32) = nI 16 from rfl, nI_mul, nI_add]
      refine b_X12_pairs_51 hz hG ⟨fun h => absurd h ?_, fun _ => ⟨hk0, hk0, by rw [d1]; exact in_nI (by omega) (by decide), fun h => ?_, fun h => ⟨hk0, by rw [r1, e1]; exact in_nI (by omega) (by decide), hk0, fun h2 => ?_, fun h2 => ⟨in_nI (by omega) (by decide), in_nI (by omega) (by decide), ?_⟩⟩⟩⟩
      · rw [wi_12]
        exact nI_ge hj (by omega)
      · rw [d1, d2] at h
        rw [mkset, if_neg (by rw [m_prsP, h, Bool.false_and]; decide), Int32.or_zero] at jh
        rw [nI_1]
        exact jh
      · rw [d1, d2] at h
        rw [r1, r2, e1, wi_o (by decide) (by decide), cl_nI (n := 16 * t + i % k) (by omega)] at h2
        rw [mkset, if_neg (by rw [m_prsP, h, h2]; decide), Int32.or_zero] at jh
        rw [nI_1]
        exact jh
      · rw [d1, d2] at h
        rw [r1, r2, e1, wi_o (by decide) (by decide), cl_nI (n := 16 * t + i % k) (by omega)] at h2
        rw [mkset, if_pos (by rw [m_prsP, h, h2]; rfl)] at jh
        rw [wi_s, wi_70, cl_nI (n := i) (by omega), upd_s, upd_upd, nI_1]
        exact jh
