/-! LINEAR EXTENSIONS OF THE CLASS: what is reached, what is needed -/
theorem ac_long : Cond.arrayClass .long ∈ TT := tt_of 316 (by decide +kernel) rfl
theorem refs_lt : ∀ q ∈ refs0, q.1 < 85 ∧ ¬ (q.1 = 56 ∧ q.2.1 = 4) := by decide +kernel
theorem Lay_new {G : amG} {k len : Nat} (h : Lay G) : Lay (gNew G k len) :=
  ⟨Nat.le_succ_of_le h.1, fun p hp => by rw [gNew_ok (Nat.lt_of_lt_of_le hp h.1)]; exact h.2.1 p hp, fun p hp => by rw [gNew_ol (Nat.lt_of_lt_of_le hp h.1)]; exact h.2.2.1 p hp, fun q hq => by rw [gNew_or (Nat.lt_of_lt_of_le (refs_lt q hq).1 h.1)]; exact h.2.2.2 q hq⟩
theorem Lay_ways {G : amG} {x : Option Nat} (h : Lay G) : Lay (setR G 56 (va_up (gR G 56) 4 x)) :=
  ⟨h.1, h.2.1, h.2.2.1, fun q hq => by
    by_cases e : q.1 = 56
    · have hne : q.2.1 ≠ 4 := fun w => (refs_lt q hq).2 ⟨e, w⟩
      have := h.2.2.2 q hq
      rw [e] at this ⊢
      rw [setR_s]
      simp only [va_up, hne, if_false]
      exact this
    · rw [setR_g e]; exact h.2.2.2 q hq⟩
def ndG (I : amI) (s : Int32) : Nat → (Nat → Int32)
  | 0 => I 59
  | k + 1 => if bt s k = true then upd (ndG I s k) (ct (bt s) k) (q_packed (I 5 k) s (I 3 0)) else ndG I s k
set_option maxRecDepth 100000 in
set_option maxHeartbeats 4000000 in
theorem b_X7_fillNeeds_0 {z : amZ} {post : amP} {G : amG} {I : amI} {L : amL} (hz : Go z cX7_fillNeeds RX7 4 (some .int) 1 0 0 post) (hG : Lay G) {v1 : Int32} (h : Wx z 0 0 4 [(0, .ref ((zB z).size + 56)), (1, .int v1), (2, .int 0), (3, .int 0)] [] G I L) : Wx z 0 0 0 [(0, .ref ((zB z).size + 56)), (1, .int v1)] [] G I L := by
  have hz1 := hz.1
  refine am_iconst (v := 0) hz1 dX7_fillNeeds_0 (by decide) ?_
  refine am_istore_n (lv' := [(2, .int 0), (0, .ref ((zB z).size + 56)), (1, .int v1)]) hz1 dX7_fillNeeds_1 rfl rfl rfl ?_
  refine am_iconst (v := 0) hz1 dX7_fillNeeds_2 (by decide) ?_
  refine am_istore_n (lv' := [(3, .int 0), (2, .int 0), (0, .ref ((zB z).size + 56)), (1, .int v1)]) hz1 dX7_fillNeeds_3 rfl rfl rfl ?_
  exact am_sub (lv' := [(0, .ref ((zB z).size + 56)), (1, .int v1), (2, .int 0), (3, .int 0)]) [2, 3, 1, 0] rfl h
set_option maxRecDepth 100000 in
set_option maxHeartbeats 4000000 in
theorem b_X7_fillNeeds_4 {z : amZ} {post : amP} {G : amG} {I : amI} {L : amL} (hz : Go z cX7_fillNeeds RX7 4 (some .int) 1 0 0 post) (hG : Lay G) {v1 : Int32} {v2 : Int32} {v3 : Int32} (h : (((I 3 0) ≤ v3) → post (some (.int v2)) G I L) ∧ ((¬ (I 3 0) ≤ v3) → ((¬ ((v1 >>> (v3 &&& 31)) &&& (1 : Int32)) = (1 : Int32)) → Wx z 0 0 4 [(0, .ref ((zB z).size + 56)), (1, .int v1), (2, .int v2), (3, .int (v3 + 1))] [] G I L) ∧ ((((v1 >>> (v3 &&& 31)) &&& (1 : Int32)) = (1 : Int32)) → vp_in v3 16 ∧ (w16 (I 3 0)) ∧ vp_in v2 16 ∧ Wx z 0 0 4 [(0, .ref ((zB z).size + 56)), (1, .int v1), (2, .int (v2 + 1)), (3, .int (v3 + 1))] [] G (setI I 59 (upd (I 59) v2.toNatClampNeg (q_packed (I 5 v3.toNatClampNeg) v1 (I 3 0)))) L))) : Wx z 0 0 4 [(0, .ref ((zB z).size + 56)), (1, .int v1), (2, .int v2), (3, .int v3)] [] G I L := by
  have hz1 := hz.1
  refine am_iload_n hz1 dX7_fillNeeds_4 3 rfl rfl ?_
  refine am_aload_n hz1 dX7_fillNeeds_5 0 rfl rfl ?_
  refine am_getR hz1 fl_X7_25 (ln_56 hG) (lk_56 hG) (lr_56_0 hG) rfl dX7_fillNeeds_6 ?_
  refine am_getI hz1 fl_X7_36 (ln_3 hG) (lk_3 hG) rfl dX7_fillNeeds_9 ?_
  refine am_icmp_ge (tgt := 59) hz1 dX7_fillNeeds_12 (by decide) (fun c1 => ?_) (fun c1 => ?_)
  · replace h := h.1 c1
    refine am_iload_n hz1 dX7_fillNeeds_59 2 rfl rfl ?_
    exact am_ireturn hz dX7_fillNeeds_60 h
  · replace h := h.2 c1
    refine am_iload_n hz1 dX7_fillNeeds_15 1 rfl rfl ?_
    refine am_iload_n hz1 dX7_fillNeeds_16 3 rfl rfl ?_
    refine am_ishr hz1 dX7_fillNeeds_17 ?_
    refine am_iconst (v := 1) hz1 dX7_fillNeeds_18 (by decide) ?_
    refine am_iand hz1 dX7_fillNeeds_19 ?_
    refine am_iconst (v := 1) hz1 dX7_fillNeeds_20 (by decide) ?_
    refine am_icmp_ne (tgt := 53) hz1 dX7_fillNeeds_21 (by decide) (fun c2 => ?_) (fun c2 => ?_)
    · replace h := h.1 c2
      refine am_iinc (v := v3 + 1) (lv' := [(3, .int (v3 + 1)), (0, .ref ((zB z).size + 56)), (1, .int v1), (2, .int v2)]) hz1 dX7_fillNeeds_53 3 rfl rfl rfl rfl ?_
      refine am_goto (tgt := 4) hz1 dX7_fillNeeds_56 (by decide) ?_
      exact am_sub (lv' := [(0, .ref ((zB z).size + 56)), (1, .int v1), (2, .int v2), (3, .int (v3 + 1))]) [1, 2, 3, 0] rfl h
    · replace h := h.2 c2
      refine am_aload_n hz1 dX7_fillNeeds_24 0 rfl rfl ?_
      refine am_getR hz1 fl_X7_18 (ln_56 hG) (lk_56 hG) (lr_56_3 hG) rfl dX7_fillNeeds_25 ?_
      refine am_iload_n hz1 dX7_fillNeeds_28 2 rfl rfl ?_
      refine am_aload_n hz1 dX7_fillNeeds_29 0 rfl rfl ?_
      refine am_getR hz1 fl_X7_25 (ln_56 hG) (lk_56 hG) (lr_56_0 hG) rfl dX7_fillNeeds_30 ?_
      refine am_getR hz1 fl_X7_82 (ln_3 hG) (lk_3 hG) (lr_3_2 hG) rfl dX7_fillNeeds_33 ?_
      refine am_iload_n hz1 dX7_fillNeeds_36 3 rfl rfl ?_
      obtain ⟨g3, h⟩ := h
      refine am_iald hz1 (ln_5 hG) (lk_5 hG) (by rw [(ll_5 hG)]; exact g3) dX7_fillNeeds_37 ?_
      refine am_iload_n hz1 dX7_fillNeeds_38 1 rfl rfl ?_
      refine am_aload_n hz1 dX7_fillNeeds_39 0 rfl rfl ?_
      refine am_getR hz1 fl_X7_25 (ln_56 hG) (lk_56 hG) (lr_56_0 hG) rfl dX7_fillNeeds_40 ?_
      refine am_getI hz1 fl_X7_36 (ln_3 hG) (lk_3 hG) rfl dX7_fillNeeds_43 ?_
      obtain ⟨g4, h⟩ := h
      refine am_cSf hz ct_X7_115 [.int (I 5 v3.toNatClampNeg), .int v1, .int (I 3 0)] [.int v2, .ref ((zB z).size + 59)] (c_X4_packed hG (I 5 v3.toNatClampNeg) v1 (I 3 0) g4) rfl rfl rfl ⟨Nat.le_refl _, Nat.le_refl _⟩ (Nat.le_of_ble_eq_true rfl) dX7_fillNeeds_46 ?_
      obtain ⟨g5, h⟩ := h
      refine am_iast hz1 (ln_59 hG) (lk_59 hG) (by rw [(ll_59 hG)]; exact g5) dX7_fillNeeds_49 ?_
      refine am_iinc (v := v2 + 1) (lv' := [(2, .int (v2 + 1)), (0, .ref ((zB z).size + 56)), (1, .int v1), (3, .int v3)]) hz1 dX7_fillNeeds_50 2 rfl rfl rfl rfl ?_
      refine am_iinc (v := v3 + 1) (lv' := [(3, .int (v3 + 1)), (2, .int (v2 + 1)), (0, .ref ((zB z).size + 56)), (1, .int v1)]) hz1 dX7_fillNeeds_53 3 rfl rfl rfl rfl ?_
      refine am_goto (tgt := 4) hz1 dX7_fillNeeds_56 (by decide) ?_
      exact am_sub (lv' := [(0, .ref ((zB z).size + 56)), (1, .int v1), (2, .int (v2 + 1)), (3, .int (v3 + 1))]) [2, 3, 1, 0] rfl h
set_option maxRecDepth 100000 in
set_option maxHeartbeats 4000000 in
theorem c_X7_fillNeeds {l : Launch} {D : va_G} {B : Heap} {G : amG} {I : amI} {L : amL}  (hG : Lay G)  (v1 : Int32) (hs : szOk I 3) : Fx l D B yX7_fillNeeds cX7_fillNeeds 4 (some .int) 1 [.ref (B.size + 56), .int v1] G I L (some (.int (nI (ct (bt v1) (sz I 3))))) (setI I 59 (ndG I v1 (sz I 3))) L := by
  refine Mx.of (by decide) rfl rfl (fun z e1 e2 e3 hz => ?_)
  subst e1; subst e2; subst e3
  refine b_X7_fillNeeds_0 hz hG ?_
  obtain ⟨n, h1, h16, hn⟩ := hs
  have main : Wx z 0 0 4 [(0, .ref ((zB z).size + 56)), (1, .int v1), (2, .int (nI (ct (bt v1) 0))), (3, .int (nI 0))] [] G (setI I 59 (ndG I v1 0)) L := by
    refine for_up (P := fun k => Wx z 0 0 4 [(0, .ref ((zB z).size + 56)), (1, .int v1), (2, .int (nI (ct (bt v1) k))), (3, .int (nI k))] [] G (setI I 59 (ndG I v1 k)) L) (n := n) ?_ ?_ (Nat.zero_le _)
    · have hn2 : setI I 59 (ndG I v1 n) 3 0 = nI n := by rw [setI_n (by decide)]; exact hn
      refine b_X7_fillNeeds_4 hz hG ⟨fun _ => ?_, fun h => absurd (sz_le hn2 h16) h⟩
      rw [sz_eq hn h16]; exact ⟨rfl, rfl, rfl, rfl⟩
    · intro k hk ih
      have hn2 : setI I 59 (ndG I v1 k) 3 0 = nI n := by rw [setI_n (by decide)]; exact hn
      have hck := ct_le (bt v1) k
      refine b_X7_fillNeeds_4 hz hG ⟨fun h => absurd h (sz_ge hn2 h16 hk), fun _ => ?_⟩
      rw [b_bit _ _ (show k < 32 by omega), cl_nI (n := k) (by omega), cl_nI (n := ct (bt v1) k) (by omega), nI_1, nI_1, setI_ss, setI_s, setI_n (q := 5) (by decide), setI_n (q := 3) (by decide)]
      refine ⟨fun q => ?_, fun q => ⟨in16 h16 hk, ⟨n, h16, hn⟩, in_nI (by omega) (by decide), ?_⟩⟩
      · have e : ct (bt v1) (k + 1) = ct (bt v1) k := by rw [ct, if_neg q, Nat.add_zero]
        have e2 : ndG I v1 (k + 1) = ndG I v1 k := by rw [ndG, if_neg q]
        rw [e, e2] at ih; exact ih
      · have e : ct (bt v1) (k + 1) = ct (bt v1) k + 1 := by rw [ct, if_pos q]
        have e2 : ndG I v1 (k + 1) = upd (ndG I v1 k) (ct (bt v1) k) (q_packed (I 5 k) v1 (I 3 0)) := by rw [ndG, if_pos q]
        rw [e, e2] at ih; exact ih
  have e : setI I 59 (ndG I v1 0) = I := setI_id
  rw [e] at main
  exact main
theorem ndG_at {I : amI} {s : Int32} : ∀ {k x : Nat}, x < k → bt s x = true → ndG I s k (ct (bt s) x) = q_packed (I 5 x) s (I 3 0)
  | 0, x, hx, _ => absurd hx (Nat.not_lt_zero _)
  | k + 1, x, hx, hb => by
    rw [ndG]
    by_cases e : x = k
    · subst e
      rw [if_pos hb, upd_s]
    · have hlt := ct_lt (f := bt s) (show x < k by omega) hb
      split
      · rw [upd_n (by omega)]; exact ndG_at (by omega) hb
      · exact ndG_at (by omega) hb
def cnR (I : amI) (s b : Int32) : Nat → Int32 → Int32
  | 0, p => p
  | k + 1, p => if bt (cnR I s b k p) k = true then cnR I s b k p ||| (s &&& (if b = 0 then q_cmp I (nI k) ^^^ (-1) else q_cmp I (nI k))) else cnR I s b k p
def cnT (I : amI) (s b : Int32) : Nat → Int32
  | 0 => s &&& (-s)
  | t + 1 => cnR I s b (sz I 3) (cnT I s b t)
set_option maxRecDepth 100000 in
set_option maxHeartbeats 4000000 in
theorem b_X7_connected_0 {z : amZ} {post : amP} {G : amG} {I : amI} {L : amL} (hz : Go z cX7_connected RX7 6 (some .int) 1 0 0 post) (hG : Lay G) {v1 : Int32} {v2 : Int32} (h : Wx z 0 0 8 [(0, .ref ((zB z).size + 56)), (1, .int v1), (2, .int v2), (3, .int (v1 &&& (-v1))), (4, .int 0)] [] G I L) : Wx z 0 0 0 [(0, .ref ((zB z).size + 56)), (1, .int v1), (2, .int v2)] [] G I L := by
  have hz1 := hz.1
  refine am_iload_n hz1 dX7_connected_0 1 rfl rfl ?_
  refine am_iload_n hz1 dX7_connected_1 1 rfl rfl ?_
  refine am_ineg hz1 dX7_connected_2 ?_
  refine am_iand hz1 dX7_connected_3 ?_
  refine am_istore_n (lv' := [(3, .int (v1 &&& (-v1))), (0, .ref ((zB z).size + 56)), (1, .int v1), (2, .int v2)]) hz1 dX7_connected_4 rfl rfl rfl ?_
  refine am_iconst (v := 0) hz1 dX7_connected_5 (by decide) ?_
  refine am_istore (lv' := [(4, .int 0), (3, .int (v1 &&& (-v1))), (0, .ref ((zB z).size + 56)), (1, .int v1), (2, .int v2)]) hz1 dX7_connected_6 rfl rfl ?_
  exact am_sub (lv' := [(0, .ref ((zB z).size + 56)), (1, .int v1), (2, .int v2), (3, .int (v1 &&& (-v1))), (4, .int 0)]) [2, 3, 4, 1, 0] rfl h
set_option maxRecDepth 100000 in
set_option maxHeartbeats 4000000 in
theorem b_X7_connected_8 {z : amZ} {post : amP} {G : amG} {I : amI} {L : amL} (hz : Go z cX7_connected RX7 6 (some .int) 1 0 0 post) (hG : Lay G) {v1 : Int32} {v2 : Int32} {v3 : Int32} {v4 : Int32} (h : (((16 : Int32) ≤ v4) → post (some (.int v3)) G I L) ∧ ((¬ (16 : Int32) ≤ v4) → Wx z 0 0 18 [(0, .ref ((zB z).size + 56)), (1, .int v1), (2, .int v2), (3, .int v3), (4, .int v4), (5, .int 0)] [] G I L)) : Wx z 0 0 8 [(0, .ref ((zB z).size + 56)), (1, .int v1), (2, .int v2), (3, .int v3), (4, .int v4)] [] G I L := by
  have hz1 := hz.1
  refine am_iload hz1 dX7_connected_8 4 rfl ?_
  refine am_bipush (v := 16) hz1 dX7_connected_10 (by decide) ?_
  refine am_icmp_ge (tgt := 78) hz1 dX7_connected_12 (by decide) (fun c1 => ?_) (fun c1 => ?_)
  · replace h := h.1 c1
    refine am_iload_n hz1 dX7_connected_78 3 rfl rfl ?_
    exact am_ireturn hz dX7_connected_79 h
  · replace h := h.2 c1
    refine am_iconst (v := 0) hz1 dX7_connected_15 (by decide) ?_
    refine am_istore (lv' := [(5, .int 0), (0, .ref ((zB z).size + 56)), (1, .int v1), (2, .int v2), (3, .int v3), (4, .int v4)]) hz1 dX7_connected_16 rfl rfl ?_
    exact am_sub (lv' := [(0, .ref ((zB z).size + 56)), (1, .int v1), (2, .int v2), (3, .int v3), (4, .int v4), (5, .int 0)]) [1, 2, 3, 4, 5, 0] rfl h
set_option maxRecDepth 100000 in
set_option maxHeartbeats 4000000 in
theorem b_X7_connected_18 {z : amZ} {post : amP} {G : amG} {I : amI} {L : amL} (hz : Go z cX7_connected RX7 6 (some .int) 1 0 0 post) (hG : Lay G) {v1 : Int32} {v2 : Int32} {v3 : Int32} {v4 : Int32} {v5 : Int32} (h : (((I 3 0) ≤ v5) → Wx z 0 0 8 [(0, .ref ((zB z).size + 56)), (1, .int v1), (2, .int v2), (3, .int v3), (4, .int (v4 + 1))] [] G I L) ∧ ((¬ (I 3 0) ≤ v5) → ((¬ ((v3 >>> (v5 &&& 31)) &&& (1 : Int32)) = (1 : Int32)) → Wx z 0 0 18 [(0, .ref ((zB z).size + 56)), (1, .int v1), (2, .int v2), (3, .int v3), (4, .int v4), (5, .int (v5 + 1))] [] G I L) ∧ ((((v3 >>> (v5 &&& 31)) &&& (1 : Int32)) = (1 : Int32)) → ((v2 = 0) → (vp_in v5 16) ∧ Wx z 0 0 18 [(0, .ref ((zB z).size + 56)), (1, .int v1), (2, .int v2), (3, .int (v3 ||| (v1 &&& ((q_cmp I v5) ^^^ (-1 : Int32))))), (4, .int v4), (5, .int (v5 + 1))] [] G I L) ∧ ((¬ v2 = 0) → (vp_in v5 16) ∧ Wx z 0 0 18 [(0, .ref ((zB z).size + 56)), (1, .int v1), (2, .int v2), (3, .int (v3 ||| (v1 &&& (q_cmp I v5)))), (4, .int v4), (5, .int (v5 + 1))] [] G I L)))) : Wx z 0 0 18 [(0, .ref ((zB z).size + 56)), (1, .int v1), (2, .int v2), (3, .int v3), (4, .int v4), (5, .int v5)] [] G I L := by
  have hz1 := hz.1
  refine am_iload hz1 dX7_connected_18 5 rfl ?_
  refine am_aload_n hz1 dX7_connected_20 0 rfl rfl ?_
  refine am_getR hz1 fl_X7_25 (ln_56 hG) (lk_56 hG) (lr_56_0 hG) rfl dX7_connected_21 ?_
  refine am_getI hz1 fl_X7_36 (ln_3 hG) (lk_3 hG) rfl dX7_connected_24 ?_
  refine am_icmp_ge (tgt := 72) hz1 dX7_connected_27 (by decide) (fun c1 => ?_) (fun c1 => ?_)
  · replace h := h.1 c1
    refine am_iinc (v := v4 + 1) (lv' := [(4, .int (v4 + 1)), (0, .ref ((zB z).size + 56)), (1, .int v1), (2, .int v2), (3, .int v3), (5, .int v5)]) hz1 dX7_connected_72 4 rfl rfl rfl rfl ?_
    refine am_goto (tgt := 8) hz1 dX7_connected_75 (by decide) ?_
    exact am_sub (lv' := [(0, .ref ((zB z).size + 56)), (1, .int v1), (2, .int v2), (3, .int v3), (4, .int (v4 + 1))]) [1, 2, 3, 4, 0] rfl h
  · replace h := h.2 c1
    refine am_iload_n hz1 dX7_connected_30 3 rfl rfl ?_
    refine am_iload hz1 dX7_connected_31 5 rfl ?_
    refine am_ishr hz1 dX7_connected_33 ?_
    refine am_iconst (v := 1) hz1 dX7_connected_34 (by decide) ?_
    refine am_iand hz1 dX7_connected_35 ?_
    refine am_iconst (v := 1) hz1 dX7_connected_36 (by decide) ?_
    refine am_icmp_ne (tgt := 66) hz1 dX7_connected_37 (by decide) (fun c2 => ?_) (fun c2 => ?_)
    · replace h := h.1 c2
      refine am_iinc (v := v5 + 1) (lv' := [(5, .int (v5 + 1)), (0, .ref ((zB z).size + 56)), (1, .int v1), (2, .int v2), (3, .int v3), (4, .int v4)]) hz1 dX7_connected_66 5 rfl rfl rfl rfl ?_
      refine am_goto (tgt := 18) hz1 dX7_connected_69 (by decide) ?_
      exact am_sub (lv' := [(0, .ref ((zB z).size + 56)), (1, .int v1), (2, .int v2), (3, .int v3), (4, .int v4), (5, .int (v5 + 1))]) [1, 2, 3, 4, 5, 0] rfl h
    · replace h := h.2 c2
      refine am_iload_n hz1 dX7_connected_40 3 rfl rfl ?_
      refine am_iload_n hz1 dX7_connected_41 1 rfl rfl ?_
      refine am_iload_n hz1 dX7_connected_42 2 rfl rfl ?_
      refine am_if_eq (tgt := 55) hz1 dX7_connected_43 (by decide) (fun c3 => ?_) (fun c3 => ?_)
      · replace h := h.1 c3
        refine am_aload_n hz1 dX7_connected_55 0 rfl rfl ?_
        refine am_iload hz1 dX7_connected_56 5 rfl ?_
        obtain ⟨g4, h⟩ := h
        refine am_cVf hz cv_X7_85 [.int v5] [.int v1, .int v3] (c_X7_comparable hG v5 g4) (ln_56 hG) (lk_56 hG) rfl rfl rfl ⟨Nat.le_refl _, Nat.le_refl _⟩ (Nat.le_of_ble_eq_true rfl) dX7_connected_58 ?_
        refine am_iconst (v := (-1)) hz1 dX7_connected_61 (by decide) ?_
        refine am_ixor hz1 dX7_connected_62 ?_
        refine am_iand hz1 dX7_connected_63 ?_
        refine am_ior hz1 dX7_connected_64 ?_
        refine am_istore_n (lv' := [(3, .int (v3 ||| (v1 &&& ((q_cmp I v5) ^^^ (-1 : Int32))))), (0, .ref ((zB z).size + 56)), (1, .int v1), (2, .int v2), (4, .int v4), (5, .int v5)]) hz1 dX7_connected_65 rfl rfl rfl ?_
        refine am_iinc (v := v5 + 1) (lv' := [(5, .int (v5 + 1)), (3, .int (v3 ||| (v1 &&& ((q_cmp I v5) ^^^ (-1 : Int32))))), (0, .ref ((zB z).size + 56)), (1, .int v1), (2, .int v2), (4, .int v4)]) hz1 dX7_connected_66 5 rfl rfl rfl rfl ?_
        refine am_goto (tgt := 18) hz1 dX7_connected_69 (by decide) ?_
        exact am_sub (lv' := [(0, .ref ((zB z).size + 56)), (1, .int v1), (2, .int v2), (3, .int (v3 ||| (v1 &&& ((q_cmp I v5) ^^^ (-1 : Int32))))), (4, .int v4), (5, .int (v5 + 1))]) [2, 3, 4, 1, 5, 0] rfl h
      · replace h := h.2 c3
        refine am_aload_n hz1 dX7_connected_46 0 rfl rfl ?_
        refine am_iload hz1 dX7_connected_47 5 rfl ?_
        obtain ⟨g5, h⟩ := h
        refine am_cVf hz cv_X7_85 [.int v5] [.int v1, .int v3] (c_X7_comparable hG v5 g5) (ln_56 hG) (lk_56 hG) rfl rfl rfl ⟨Nat.le_refl _, Nat.le_refl _⟩ (Nat.le_of_ble_eq_true rfl) dX7_connected_49 ?_
        refine am_goto (tgt := 63) hz1 dX7_connected_52 (by decide) ?_
        refine am_iand hz1 dX7_connected_63 ?_
        refine am_ior hz1 dX7_connected_64 ?_
        refine am_istore_n (lv' := [(3, .int (v3 ||| (v1 &&& (q_cmp I v5)))), (0, .ref ((zB z).size + 56)), (1, .int v1), (2, .int v2), (4, .int v4), (5, .int v5)]) hz1 dX7_connected_65 rfl rfl rfl ?_
        refine am_iinc (v := v5 + 1) (lv' := [(5, .int (v5 + 1)), (3, .int (v3 ||| (v1 &&& (q_cmp I v5)))), (0, .ref ((zB z).size + 56)), (1, .int v1), (2, .int v2), (4, .int v4)]) hz1 dX7_connected_66 5 rfl rfl rfl rfl ?_
        refine am_goto (tgt := 18) hz1 dX7_connected_69 (by decide) ?_
        exact am_sub (lv' := [(0, .ref ((zB z).size + 56)), (1, .int v1), (2, .int v2), (3, .int (v3 ||| (v1 &&& (q_cmp I v5)))), (4, .int v4), (5, .int (v5 + 1))]) [2, 3, 4, 1, 5, 0] rfl h
set_option maxRecDepth 100000 in
set_option maxHeartbeats 4000000 in
theorem c_X7_connected {l : Launch} {D : va_G} {B : Heap} {G : amG} {I : amI} {L : amL}  (hG : Lay G)  (v1 : Int32) (v2 : Int32) (hs : szOk I 3) : Fx l D B yX7_connected cX7_connected 6 (some .int) 1 [.ref (B.size + 56), .int v1, .int v2] G I L (some (.int (cnT I v1 v2 16))) I L := by
  refine Mx.of (by decide) rfl rfl (fun z e1 e2 e3 hz => ?_)
  subst e1; subst e2; subst e3
  refine b_X7_connected_0 hz hG ?_
  obtain ⟨n, h1, h16, hn⟩ := hs
  have outer : Wx z 0 0 8 [(0, .ref ((zB z).size + 56)), (1, .int v1), (2, .int v2), (3, .int (cnT I v1 v2 0)), (4, .int (nI 0))] [] G I L := by
    refine for_up (P := fun t => Wx z 0 0 8 [(0, .ref ((zB z).size + 56)), (1, .int v1), (2, .int v2), (3, .int (cnT I v1 v2 t)), (4, .int (nI t))] [] G I L) (n := 16) ?_ ?_ (Nat.zero_le _)
    · exact b_X7_connected_8 hz hG ⟨fun _ => ⟨rfl, rfl, rfl, rfl⟩, fun h => absurd (nI_le (a := 16) (b := 16) (Nat.le_refl _) (by decide)) h⟩
    · intro t ht ih
      refine b_X7_connected_8 hz hG ⟨fun h => absurd h (nI_ge (b := 16) ht (by decide)), fun _ => ?_⟩
      have inner : Wx z 0 0 18 [(0, .ref ((zB z).size + 56)), (1, .int v1), (2, .int v2), (3, .int (cnR I v1 v2 0 (cnT I v1 v2 t))), (4, .int (nI t)), (5, .int (nI 0))] [] G I L := by
        refine for_up (P := fun k => Wx z 0 0 18 [(0, .ref ((zB z).size + 56)), (1, .int v1), (2, .int v2), (3, .int (cnR I v1 v2 k (cnT I v1 v2 t))), (4, .int (nI t)), (5, .int (nI k))] [] G I L) (n := n) ?_ ?_ (Nat.zero_le _)
        · refine b_X7_connected_18 hz hG ⟨fun _ => ?_, fun h => absurd (sz_le hn h16) h⟩
          rw [nI_1]
          have e : cnT I v1 v2 (t + 1) = cnR I v1 v2 n (cnT I v1 v2 t) := by rw [cnT, sz_eq hn h16]
          rw [e] at ih
          exact ih
        · intro k hk kh
          refine b_X7_connected_18 hz hG ⟨fun h => absurd h (sz_ge hn h16 hk), fun _ => ?_⟩
          rw [b_bit _ _ (show k < 32 by omega), nI_1]
          refine ⟨fun q => ?_, fun q => ⟨fun w => ⟨in16 h16 hk, ?_⟩, fun w => ⟨in16 h16 hk, ?_⟩⟩⟩
          · have e : cnR I v1 v2 (k + 1) (cnT I v1 v2 t) = cnR I v1 v2 k (cnT I v1 v2 t) := by rw [cnR, if_neg q]
            rw [e] at kh; exact kh
          · have e : cnR I v1 v2 (k + 1) (cnT I v1 v2 t) = cnR I v1 v2 k (cnT I v1 v2 t) ||| (v1 &&& (q_cmp I (nI k) ^^^ (-1))) := by rw [cnR, if_pos q, if_pos w]
            rw [e] at kh; exact kh
          · have e : cnR I v1 v2 (k + 1) (cnT I v1 v2 t) = cnR I v1 v2 k (cnT I v1 v2 t) ||| (v1 &&& q_cmp I (nI k)) := by rw [cnR, if_pos q, if_neg w]
            rw [e] at kh; exact kh
      exact inner
  exact outer
/-! what is reached is closed, and least -/
def nbB (n : Nat) (A : Nat → Int32) (b : Int32) (x y : Nat) : Bool := if b = 0 then !(bt (A x) y || bt (A y) x) else (bt (A x) y || bt (A y) x)
theorem nb_b {I : amI} {n : Nat} {A : Nat → Int32} (hO : OI I 3 n A) {b : Int32} {x y : Nat} (hx : x < n) (hy : y < n) : bt (if b = 0 then q_cmp I (nI x) ^^^ (-1) else q_cmp I (nI x)) y = nbB n A b x y := by
  have h16 := hO.2.2.1
  rw [nbB, hO.cmq hx]
  by_cases e : b = 0
  · rw [if_pos e, if_pos e, b_not _ (by omega), cmp_b (by omega) hy]
  · rw [if_neg e, if_neg e, cmp_b (by omega) hy]
section CN
variable {I : amI} {n : Nat} {A : Nat → Int32} {s b : Int32}
theorem cnR_up {p : Int32} : ∀ k, ∀ i, i < 32 → bt p i = true → bt (cnR I s b k p) i = true
  | 0, _, _, h => h
  | k + 1, i, hi, h => by
    rw [cnR]
    split
    · rw [b_or, cnR_up k i hi h]; rfl
    · exact cnR_up k i hi h
theorem cnR_in (hs : ∀ i, i < 32 → bt s i = true → i < n) {p : Int32} (hp : ∀ i, i < 32 → bt p i = true → bt s i = true) : ∀ k, ∀ i, i < 32 → bt (cnR I s b k p) i = true → bt s i = true
  | 0, i, hi, h => hp i hi h
  | k + 1, i, hi, h => by
    rw [cnR] at h
    split at h
    · rw [b_or, Bool.or_eq_true, b_and, Bool.and_eq_true] at h
      rcases h with h | h
      · exact cnR_in hs hp k i hi h
      · exact h.1
    · exact cnR_in hs hp k i hi h
theorem cnR_cl (hO : OI I 3 n A) {p : Int32} {X : Nat → Bool} (hX : ∀ x y, x < n → y < n → X x = true → bt s y = true → nbB n A b x y = true → X y = true) (hs : ∀ i, i < 32 → bt s i = true → i < n) (hp : ∀ i, i < n → bt p i = true → X i = true) : ∀ k, k ≤ n → ∀ i, i < n → bt (cnR I s b k p) i = true → X i = true
  | 0, _, i, hi, h => hp i hi h
  | k + 1, hk, i, hi, h => by
    have h16 := hO.2.2.1
    rw [cnR] at h
    by_cases e : bt (cnR I s b k p) k = true
    · rw [if_pos e, b_or, Bool.or_eq_true, b_and, Bool.and_eq_true, nb_b hO (by omega) hi] at h
      rcases h with h | h
      · exact cnR_cl hO hX hs hp k (by omega) i hi h
      · exact hX k i (by omega) hi (cnR_cl hO hX hs hp k (by omega) k (by omega) e) h.1 h.2
    · rw [if_neg e] at h
      exact cnR_cl hO hX hs hp k (by omega) i hi h
/-- a round that adds nothing: closed -/
theorem cnR_fix (hO : OI I 3 n A) {p : Int32} : ∀ k, k ≤ n → cnR I s b k p = p → ∀ x y, x < k → y < n → bt p x = true → bt s y = true → nbB n A b x y = true → bt p y = true
  | 0, _, _, x, _, hx, _ => absurd hx (Nat.not_lt_zero _)
  | k + 1, hk, e, x, y, hx, hy => by
    have h16 := hO.2.2.1
    intro h1 h2 h3
    have hk0 : cnR I s b k p = p := b_ext fun i hi => by
      cases hb : bt p i
      · cases hc : bt (cnR I s b k p) i
        · rfl
        · have : bt (cnR I s b (k + 1) p) i = true := by
            rw [cnR]
            split
            · rw [b_or, hc]; rfl
            · exact hc
          rw [e, hb] at this; cases this
      · exact cnR_up k i hi hb
    by_cases ex : x = k
    · subst ex
      have : bt (cnR I s b (x + 1) p) y = true := by
        rw [cnR, hk0, if_pos h1, b_or, b_and, h2, nb_b hO (by omega) hy, h3]
        simp
      rw [e] at this; exact this
    · exact cnR_fix hO k (by omega) hk0 x y (by omega) hy h1 h2 h3
end CN
