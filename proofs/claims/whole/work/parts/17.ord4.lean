/-! WHAT IS DERIVED OF AN ORDER -/
def maxS (f : Nat → Int32) (s : Int32) : Nat → Int32
  | 0 => 0
  | n + 1 => if bt s n = true then (if maxS f s n < f n + 1 then f n + 1 else maxS f s n) else maxS f s n
theorem maxS_c {f g : Nat → Int32} {s : Int32} : ∀ {n : Nat}, (∀ i, i < n → bt s i = true → f i = g i) → maxS f s n = maxS g s n
  | 0, _ => rfl
  | n + 1, h => by
    rw [maxS, maxS, maxS_c (fun i hi => h i (by omega))]
    by_cases e : bt s n = true
    · rw [if_pos e, if_pos e, h n (by omega) e]
    · rw [if_neg e, if_neg e]
theorem sumS_c {f g : Nat → Int64} {s : Int32} : ∀ {n : Nat}, (∀ i, i < n → bt s i = true → f i = g i) → sumS f s n = sumS g s n
  | 0, _ => rfl
  | n + 1, h => by
    rw [sumS, sumS, sumS_c (fun i hi => h i (by omega))]
    by_cases e : bt s n = true
    · rw [if_pos e, if_pos e, h n (by omega) e]
    · rw [if_neg e, if_neg e]
def q_ht (I : amI) (o : Nat) (f : Nat → Int32) : Nat → (Nat → Int32)
  | 0 => f
  | i + 1 => upd (q_ht I o f i) (I (o + 6) i).toNatClampNeg (maxS (q_ht I o f i) (I (o + 2) (I (o + 6) i).toNatClampNeg) (sz I o))
/-- what stands in an order's derived rows -/
def Der (I : amI) (o n : Nat) (A : Nat → Int32) : Prop :=
  (∀ x, x < n → I (o + 2) x = bn n A x) ∧ (∀ x, x < n → I (o + 3) x = mkset (cv n A x) n) ∧ (∀ y, y < n → I (o + 4) y = mkset (fun x => cv n A x y) n) ∧ (∀ y, y < n → I (o + 6) (pos n A y) = nI y) ∧ (∀ x, x < n → I (o + 5) x = maxS (I (o + 5)) (bn n A x) n) ∧ ∀ y, n ≤ y → y < 16 → I (o + 2) y = 0
set_option maxRecDepth 100000 in
set_option maxHeartbeats 4000000 in
theorem b_X4_deriveRow_0 {z : amZ} {post : amP} {G : amG} {I : amI} {L : amL} (hz : Go z cX4_deriveRow RX4 4 none 1 0 0 post) (hG : Lay G) {o : Nat} (ho : isO o)  (h : Wx z 0 0 4 [(0, .ref ((zB z).size + o)), (1, .int 0), (2, .int 0)] [] G I L) : Wx z 0 0 0 [(0, .ref ((zB z).size + o))] [] G I L := by
  have hz1 := hz.1
  refine am_iconst (v := 0) hz1 dX4_deriveRow_0 (by decide) ?_
  refine am_istore_n (lv' := [(1, .int 0), (0, .ref ((zB z).size + o))]) hz1 dX4_deriveRow_1 rfl rfl rfl ?_
  refine am_iconst (v := 0) hz1 dX4_deriveRow_2 (by decide) ?_
  refine am_istore_n (lv' := [(2, .int 0), (1, .int 0), (0, .ref ((zB z).size + o))]) hz1 dX4_deriveRow_3 rfl rfl rfl ?_
  exact am_sub (lv' := [(0, .ref ((zB z).size + o)), (1, .int 0), (2, .int 0)]) [2, 1, 0] rfl h
set_option maxRecDepth 100000 in
set_option maxHeartbeats 4000000 in
theorem b_X4_deriveRow_4 {z : amZ} {post : amP} {G : amG} {I : amI} {L : amL} (hz : Go z cX4_deriveRow RX4 4 none 1 0 0 post) (hG : Lay G) {o : Nat} (ho : isO o) {v1 : Int32} {v2 : Int32} (h : (((I o 0) ≤ v2) → post none G I L) ∧ ((¬ (I o 0) ≤ v2) → Wx z 0 0 14 [(0, .ref ((zB z).size + o)), (1, .int v1), (2, .int v2), (3, .int 0)] [] G I L)) : Wx z 0 0 4 [(0, .ref ((zB z).size + o)), (1, .int v1), (2, .int v2)] [] G I L := by
  have hz1 := hz.1
  refine am_iload_n hz1 dX4_deriveRow_4 2 rfl rfl ?_
  refine am_aload_n hz1 dX4_deriveRow_5 0 rfl rfl ?_
  refine am_getI hz1 fl_X4_9 (oN hG ho) (oK hG ho) rfl dX4_deriveRow_6 ?_
  refine am_icmp_ge (tgt := 63) hz1 dX4_deriveRow_9 (by decide) (fun c1 => ?_) (fun c1 => ?_)
  · replace h := h.1 c1
    exact am_return hz dX4_deriveRow_63 h
  · replace h := h.2 c1
    refine am_iconst (v := 0) hz1 dX4_deriveRow_12 (by decide) ?_
    refine am_istore_n (lv' := [(3, .int 0), (0, .ref ((zB z).size + o)), (1, .int v1), (2, .int v2)]) hz1 dX4_deriveRow_13 rfl rfl rfl ?_
    exact am_sub (lv' := [(0, .ref ((zB z).size + o)), (1, .int v1), (2, .int v2), (3, .int 0)]) [1, 2, 3, 0] rfl h
set_option maxRecDepth 100000 in
set_option maxHeartbeats 4000000 in
theorem b_X4_deriveRow_14 {z : amZ} {post : amP} {G : amG} {I : amI} {L : amL} (hz : Go z cX4_deriveRow RX4 4 none 1 0 0 post) (hG : Lay G) {o : Nat} (ho : isO o) {v1 : Int32} {v2 : Int32} {v3 : Int32} (h : (((I o 0) ≤ v3) → Wx z 0 0 4 [(0, .ref ((zB z).size + o)), (1, .int v1), (2, .int (v2 + 1))] [] G I L) ∧ ((¬ (I o 0) ≤ v3) → vp_in v3 16 ∧ ((¬ (q_bc (I (o + 2) v3.toNatClampNeg)) = v2) → Wx z 0 0 14 [(0, .ref ((zB z).size + o)), (1, .int v1), (2, .int v2), (3, .int (v3 + 1))] [] G I L) ∧ (((q_bc (I (o + 2) v3.toNatClampNeg)) = v2) → (((16 : Int32) ≤ v1) → Wx z 0 0 14 [(0, .ref ((zB z).size + o)), (1, .int v1), (2, .int v2), (3, .int (v3 + 1))] [] G I L) ∧ ((¬ (16 : Int32) ≤ v1) → vp_in v1 16 ∧ Wx z 0 0 14 [(0, .ref ((zB z).size + o)), (1, .int (v1 + 1)), (2, .int v2), (3, .int (v3 + 1))] [] G (setI I (o + 6) (upd (I (o + 6)) v1.toNatClampNeg v3)) L)))) : Wx z 0 0 14 [(0, .ref ((zB z).size + o)), (1, .int v1), (2, .int v2), (3, .int v3)] [] G I L := by
  have hz1 := hz.1
  refine am_iload_n hz1 dX4_deriveRow_14 3 rfl rfl ?_
  refine am_aload_n hz1 dX4_deriveRow_15 0 rfl rfl ?_
  refine am_getI hz1 fl_X4_9 (oN hG ho) (oK hG ho) rfl dX4_deriveRow_16 ?_
  refine am_icmp_ge (tgt := 57) hz1 dX4_deriveRow_19 (by decide) (fun c1 => ?_) (fun c1 => ?_)
  · replace h := h.1 c1
    refine am_iinc (v := v2 + 1) (lv' := [(2, .int (v2 + 1)), (0, .ref ((zB z).size + o)), (1, .int v1), (3, .int v3)]) hz1 dX4_deriveRow_57 2 rfl rfl rfl rfl ?_
    refine am_goto (tgt := 4) hz1 dX4_deriveRow_60 (by decide) ?_
    exact am_sub (lv' := [(0, .ref ((zB z).size + o)), (1, .int v1), (2, .int (v2 + 1))]) [1, 2, 0] rfl h
  · replace h := h.2 c1
    refine am_aload_n hz1 dX4_deriveRow_22 0 rfl rfl ?_
    refine am_getR hz1 fl_X4_19 (oN hG ho) (oK hG ho) (oR2 hG ho) rfl dX4_deriveRow_23 ?_
    refine am_iload_n hz1 dX4_deriveRow_26 3 rfl rfl ?_
    obtain ⟨g2, h⟩ := h
    refine am_iald hz1 (oN2 hG ho) (oK2 hG ho) (by rw [(oL2 hG ho)]; exact g2) dX4_deriveRow_27 ?_
    refine am_cSf hz ct_X4_71 [.int (I (o + 2) v3.toNatClampNeg)] [] (c_J6_bitCount_0f7a4 hG (I (o + 2) v3.toNatClampNeg) ) rfl rfl rfl ⟨Nat.le_refl _, Nat.le_refl _⟩ (Nat.le_of_ble_eq_true rfl) dX4_deriveRow_28 ?_
    refine am_iload_n hz1 dX4_deriveRow_31 2 rfl rfl ?_
    refine am_icmp_ne (tgt := 51) hz1 dX4_deriveRow_32 (by decide) (fun c3 => ?_) (fun c3 => ?_)
    · replace h := h.1 c3
      refine am_iinc (v := v3 + 1) (lv' := [(3, .int (v3 + 1)), (0, .ref ((zB z).size + o)), (1, .int v1), (2, .int v2)]) hz1 dX4_deriveRow_51 3 rfl rfl rfl rfl ?_
      refine am_goto (tgt := 14) hz1 dX4_deriveRow_54 (by decide) ?_
      exact am_sub (lv' := [(0, .ref ((zB z).size + o)), (1, .int v1), (2, .int v2), (3, .int (v3 + 1))]) [1, 2, 3, 0] rfl h
    · replace h := h.2 c3
      refine am_iload_n hz1 dX4_deriveRow_35 1 rfl rfl ?_
      refine am_bipush (v := 16) hz1 dX4_deriveRow_36 (by decide) ?_
      refine am_icmp_ge (tgt := 51) hz1 dX4_deriveRow_38 (by decide) (fun c4 => ?_) (fun c4 => ?_)
      · replace h := h.1 c4
        refine am_iinc (v := v3 + 1) (lv' := [(3, .int (v3 + 1)), (0, .ref ((zB z).size + o)), (1, .int v1), (2, .int v2)]) hz1 dX4_deriveRow_51 3 rfl rfl rfl rfl ?_
        refine am_goto (tgt := 14) hz1 dX4_deriveRow_54 (by decide) ?_
        exact am_sub (lv' := [(0, .ref ((zB z).size + o)), (1, .int v1), (2, .int v2), (3, .int (v3 + 1))]) [1, 2, 3, 0] rfl h
      · replace h := h.2 c4
        refine am_aload_n hz1 dX4_deriveRow_41 0 rfl rfl ?_
        refine am_getR hz1 fl_X4_31 (oN hG ho) (oK hG ho) (oR6 hG ho) rfl dX4_deriveRow_42 ?_
        refine am_iload_n hz1 dX4_deriveRow_45 1 rfl rfl ?_
        refine am_iload_n hz1 dX4_deriveRow_46 3 rfl rfl ?_
        obtain ⟨g5, h⟩ := h
        refine am_iast hz1 (oN6 hG ho) (oK6 hG ho) (by rw [(oL6 hG ho)]; exact g5) dX4_deriveRow_47 ?_
        refine am_iinc (v := v1 + 1) (lv' := [(1, .int (v1 + 1)), (0, .ref ((zB z).size + o)), (2, .int v2), (3, .int v3)]) hz1 dX4_deriveRow_48 1 rfl rfl rfl rfl ?_
        refine am_iinc (v := v3 + 1) (lv' := [(3, .int (v3 + 1)), (1, .int (v1 + 1)), (0, .ref ((zB z).size + o)), (2, .int v2)]) hz1 dX4_deriveRow_51 3 rfl rfl rfl rfl ?_
        refine am_goto (tgt := 14) hz1 dX4_deriveRow_54 (by decide) ?_
        exact am_sub (lv' := [(0, .ref ((zB z).size + o)), (1, .int (v1 + 1)), (2, .int v2), (3, .int (v3 + 1))]) [2, 1, 3, 0] rfl h
set_option maxRecDepth 100000 in
set_option maxHeartbeats 4000000 in
theorem c_X4_deriveRow {l : Launch} {D : va_G} {B : Heap} {G : amG} {I : amI} {L : amL} {o : Nat} (hG : Lay G) (ho : isO o)  {n : Nat} {A : Nat → Int32} (hn : I o 0 = nI n) (h16 : n ≤ 16) (hB : ∀ x, x < n → I (o + 2) x = bn n A x) (hP : PO n A) : Mx l D B yX4_deriveRow cX4_deriveRow 4 none 1 0 0 [.ref (B.size + o)] G I L (fun r G1 I1 L1 => r = none ∧ G1 = G ∧ L1 = L ∧ ∃ R : Nat → Int32, I1 = setI I (o + 6) R ∧ ∀ y, y < n → R (pos n A y) = nI y) := by
  refine Mx.of (by decide) rfl rfl (fun z e1 e2 e3 hz => ?_)
  subst e1; subst e2; subst e3
  refine b_X4_deriveRow_0 hz hG ho ?_
  have hK : ∀ R : Nat → Int32, setI I (o + 6) R o 0 = nI n := fun R => by rw [setI_n (by omega), hn]
  have h2 : ∀ R : Nat → Int32, setI I (o + 6) R (o + 2) = I (o + 2) := fun R => by rw [setI_n (by omega)]
  have main : ∀ R : Nat → Int32, (∀ y, y < n → key n A y < 0 → R (pos n A y) = nI y) → Wx z 0 0 4 [(0, .ref ((zB z).size + o)), (1, .int (nI (Fc n A 0 0))), (2, .int (nI 0))] [] G (setI I (o + 6) R) L := by
    refine for_up (P := fun m => ∀ R : Nat → Int32, (∀ y, y < n → key n A y < m → R (pos n A y) = nI y) → Wx z 0 0 4 [(0, .ref ((zB z).size + o)), (1, .int (nI (Fc n A m 0))), (2, .int (nI m))] [] G (setI I (o + 6) R) L) (n := n) ?_ ?_ (Nat.zero_le n)
    · intro R hR
      exact b_X4_deriveRow_4 hz hG ho ⟨fun _ => ⟨rfl, rfl, rfl, R, rfl, fun y hy => hR y hy (key_lt hP hy)⟩, fun h => absurd (sz_le (hK R) h16) h⟩
    · intro m hm ih R hR
      refine b_X4_deriveRow_4 hz hG ho ⟨fun h => absurd h (sz_ge (hK R) h16 hm), fun _ => ?_⟩
      have inner : ∀ R : Nat → Int32, (∀ y, y < n → (key n A y < m ∨ key n A y = m ∧ y < 0) → R (pos n A y) = nI y) → Wx z 0 0 14 [(0, .ref ((zB z).size + o)), (1, .int (nI (Fc n A m 0))), (2, .int (nI m)), (3, .int (nI 0))] [] G (setI I (o + 6) R) L := by
        refine for_up (P := fun x => ∀ R : Nat → Int32, (∀ y, y < n → (key n A y < m ∨ key n A y = m ∧ y < x) → R (pos n A y) = nI y) → Wx z 0 0 14 [(0, .ref ((zB z).size + o)), (1, .int (nI (Fc n A m x))), (2, .int (nI m)), (3, .int (nI x))] [] G (setI I (o + 6) R) L) (n := n) ?_ ?_ (Nat.zero_le n)
        · intro R hR
          refine b_X4_deriveRow_14 hz hG ho ⟨fun _ => ?_, fun h => absurd (sz_le (hK R) h16) h⟩
          rw [nI_1, Fc_s]
          exact ih R (fun y hy hk => hR y hy (by omega))
        · intro x hx xh R hR
          have hc : q_bc (setI I (o + 6) R (o + 2) (nI x).toNatClampNeg) = nI (key n A x) := by
            rw [h2, cl_nI (by omega), hB x hx, bn, bc_mk h16]
            rfl
          have hkx := key_lt hP hx
          refine b_X4_deriveRow_14 hz hG ho ⟨fun h => absurd h (sz_ge (hK R) h16 hx), fun _ => ⟨in16 h16 hx, fun h => ?_, fun h => ⟨fun h3 => ?_, fun _ => ⟨?_, ?_⟩⟩⟩⟩
          · rw [hc, nI_eq (by omega) (by omega)] at h
            rw [nI_1]
            have := xh R (fun y hy hk => hR y hy (by
              rcases hk with g | ⟨g1, g2⟩
              · exact Or.inl g
              · exact Or.inr ⟨g1, by
                  have : y ≠ x := fun e => h (by rw [← e]; exact g1)
                  omega⟩))
            rw [Fc_no m h] at this
            exact this
          · rw [hc, nI_eq (by omega) (by omega)] at h
            have hp : Fc n A m x < n := by rw [← h]; exact pos_lt hx
            exact absurd h3 (no16 h16 hp)
          · rw [hc, nI_eq (by omega) (by omega)] at h
            have hp : Fc n A m x < n := by rw [← h]; exact pos_lt hx
            exact in16 h16 hp
          · rw [hc, nI_eq (by omega) (by omega)] at h
            have hp : Fc n A m x < n := by rw [← h]; exact pos_lt hx
            have hpx : Fc n A m x = pos n A x := by rw [← h]; rfl
            rw [nI_1, nI_1, setI_ss, setI_s, cl_nI (show Fc n A m x < 2 ^ 31 by omega)]
            have := xh (upd R (Fc n A m x) (nI x)) (fun y hy hk => by
              by_cases e : y = x
              · subst e; rw [← hpx, upd_s]
              · have hne : pos n A y ≠ Fc n A m x := fun q => e (pos_inj hy hx (q.trans hpx))
                rw [upd_n hne]
                exact hR y hy (by
                  rcases hk with g | ⟨g1, g2⟩
                  · exact Or.inl g
                  · exact Or.inr ⟨g1, by omega⟩))
            rw [Fc_y m h] at this
            exact this
      exact inner R (fun y hy hk => hR y hy (by omega))
  have h0 := main (I (o + 6)) (fun y _ hk => absurd hk (Nat.not_lt_zero _))
  rw [setI_id, show Fc n A 0 0 = 0 by
    unfold Fc
    have : ∀ k, ct (fun y => decide (key n A y < 0)) k = 0 := by intro k; induction k with
      | zero => rfl
      | succ k ih => rw [ct, ih]; simp
    rw [this]
    rfl] at h0
  exact h0
set_option maxRecDepth 100000 in
set_option maxHeartbeats 4000000 in
theorem b_X4_deriveHeights_0 {z : amZ} {post : amP} {G : amG} {I : amI} {L : amL} (hz : Go z cX4_deriveHeights RX4 5 none 1 0 0 post) (hG : Lay G) {o : Nat} (ho : isO o)  (h : Wx z 0 0 2 [(0, .ref ((zB z).size + o)), (1, .int 0)] [] G I L) : Wx z 0 0 0 [(0, .ref ((zB z).size + o))] [] G I L := by
  have hz1 := hz.1
  refine am_iconst (v := 0) hz1 dX4_deriveHeights_0 (by decide) ?_
  refine am_istore_n (lv' := [(1, .int 0), (0, .ref ((zB z).size + o))]) hz1 dX4_deriveHeights_1 rfl rfl rfl ?_
  exact am_sub (lv' := [(0, .ref ((zB z).size + o)), (1, .int 0)]) [1, 0] rfl h
set_option maxRecDepth 100000 in
set_option maxHeartbeats 4000000 in
theorem b_X4_deriveHeights_2 {z : amZ} {post : amP} {G : amG} {I : amI} {L : amL} (hz : Go z cX4_deriveHeights RX4 5 none 1 0 0 post) (hG : Lay G) {o : Nat} (ho : isO o) {v1 : Int32} (h : (((I o 0) ≤ v1) → post none G I L) ∧ ((¬ (I o 0) ≤ v1) → vp_in v1 16 ∧ Wx z 0 0 22 [(0, .ref ((zB z).size + o)), (1, .int v1), (2, .int (I (o + 6) v1.toNatClampNeg)), (3, .int 0), (4, .int 0)] [] G I L)) : Wx z 0 0 2 [(0, .ref ((zB z).size + o)), (1, .int v1)] [] G I L := by
  have hz1 := hz.1
  refine am_iload_n hz1 dX4_deriveHeights_2 1 rfl rfl ?_
  refine am_aload_n hz1 dX4_deriveHeights_3 0 rfl rfl ?_
  refine am_getI hz1 fl_X4_9 (oN hG ho) (oK hG ho) rfl dX4_deriveHeights_4 ?_
  refine am_icmp_ge (tgt := 79) hz1 dX4_deriveHeights_7 (by decide) (fun c1 => ?_) (fun c1 => ?_)
  · replace h := h.1 c1
    exact am_return hz dX4_deriveHeights_79 h
  · replace h := h.2 c1
    refine am_aload_n hz1 dX4_deriveHeights_10 0 rfl rfl ?_
    refine am_getR hz1 fl_X4_31 (oN hG ho) (oK hG ho) (oR6 hG ho) rfl dX4_deriveHeights_11 ?_
    refine am_iload_n hz1 dX4_deriveHeights_14 1 rfl rfl ?_
    obtain ⟨g2, h⟩ := h
    refine am_iald hz1 (oN6 hG ho) (oK6 hG ho) (by rw [(oL6 hG ho)]; exact g2) dX4_deriveHeights_15 ?_
    refine am_istore_n (lv' := [(2, .int (I (o + 6) v1.toNatClampNeg)), (0, .ref ((zB z).size + o)), (1, .int v1)]) hz1 dX4_deriveHeights_16 rfl rfl rfl ?_
    refine am_iconst (v := 0) hz1 dX4_deriveHeights_17 (by decide) ?_
    refine am_istore_n (lv' := [(3, .int 0), (2, .int (I (o + 6) v1.toNatClampNeg)), (0, .ref ((zB z).size + o)), (1, .int v1)]) hz1 dX4_deriveHeights_18 rfl rfl rfl ?_
    refine am_iconst (v := 0) hz1 dX4_deriveHeights_19 (by decide) ?_
    refine am_istore (lv' := [(4, .int 0), (3, .int 0), (2, .int (I (o + 6) v1.toNatClampNeg)), (0, .ref ((zB z).size + o)), (1, .int v1)]) hz1 dX4_deriveHeights_20 rfl rfl ?_
    exact am_sub (lv' := [(0, .ref ((zB z).size + o)), (1, .int v1), (2, .int (I (o + 6) v1.toNatClampNeg)), (3, .int 0), (4, .int 0)]) [3, 4, 2, 1, 0] rfl h
set_option maxRecDepth 100000 in
set_option maxHeartbeats 4000000 in
theorem b_X4_deriveHeights_22 {z : amZ} {post : amP} {G : amG} {I : amI} {L : amL} (hz : Go z cX4_deriveHeights RX4 5 none 1 0 0 post) (hG : Lay G) {o : Nat} (ho : isO o) {v1 : Int32} {v2 : Int32} {v3 : Int32} {v4 : Int32} (h : (((I o 0) ≤ v4) → vp_in v2 16 ∧ Wx z 0 0 2 [(0, .ref ((zB z).size + o)), (1, .int (v1 + 1))] [] G (setI I (o + 5) (upd (I (o + 5)) v2.toNatClampNeg v3)) L) ∧ ((¬ (I o 0) ≤ v4) → vp_in v2 16 ∧ ((¬ (((I (o + 2) v2.toNatClampNeg) >>> (v4 &&& 31)) &&& (1 : Int32)) = (1 : Int32)) → Wx z 0 0 22 [(0, .ref ((zB z).size + o)), (1, .int v1), (2, .int v2), (3, .int v3), (4, .int (v4 + 1))] [] G I L) ∧ (((((I (o + 2) v2.toNatClampNeg) >>> (v4 &&& 31)) &&& (1 : Int32)) = (1 : Int32)) → vp_in v4 16 ∧ Wx z 0 0 22 [(0, .ref ((zB z).size + o)), (1, .int v1), (2, .int v2), (3, .int (if v3 < ((I (o + 5) v4.toNatClampNeg) + (1 : Int32)) then ((I (o + 5) v4.toNatClampNeg) + (1 : Int32)) else v3)), (4, .int (v4 + 1))] [] G I L))) : Wx z 0 0 22 [(0, .ref ((zB z).size + o)), (1, .int v1), (2, .int v2), (3, .int v3), (4, .int v4)] [] G I L := by
  have hz1 := hz.1
  refine am_iload hz1 dX4_deriveHeights_22 4 rfl ?_
  refine am_aload_n hz1 dX4_deriveHeights_24 0 rfl rfl ?_
  refine am_getI hz1 fl_X4_9 (oN hG ho) (oK hG ho) rfl dX4_deriveHeights_25 ?_
  refine am_icmp_ge (tgt := 66) hz1 dX4_deriveHeights_28 (by decide) (fun c1 => ?_) (fun c1 => ?_)
  · replace h := h.1 c1
    refine am_aload_n hz1 dX4_deriveHeights_66 0 rfl rfl ?_
    refine am_getR hz1 fl_X4_28 (oN hG ho) (oK hG ho) (oR5 hG ho) rfl dX4_deriveHeights_67 ?_
    refine am_iload_n hz1 dX4_deriveHeights_70 2 rfl rfl ?_
    refine am_iload_n hz1 dX4_deriveHeights_71 3 rfl rfl ?_
    obtain ⟨g2, h⟩ := h
    refine am_iast hz1 (oN5 hG ho) (oK5 hG ho) (by rw [(oL5 hG ho)]; exact g2) dX4_deriveHeights_72 ?_
    refine am_iinc (v := v1 + 1) (lv' := [(1, .int (v1 + 1)), (0, .ref ((zB z).size + o)), (2, .int v2), (3, .int v3), (4, .int v4)]) hz1 dX4_deriveHeights_73 1 rfl rfl rfl rfl ?_
    refine am_goto (tgt := 2) hz1 dX4_deriveHeights_76 (by decide) ?_
    exact am_sub (lv' := [(0, .ref ((zB z).size + o)), (1, .int (v1 + 1))]) [1, 0] rfl h
  · replace h := h.2 c1
    refine am_aload_n hz1 dX4_deriveHeights_31 0 rfl rfl ?_
    refine am_getR hz1 fl_X4_19 (oN hG ho) (oK hG ho) (oR2 hG ho) rfl dX4_deriveHeights_32 ?_
    refine am_iload_n hz1 dX4_deriveHeights_35 2 rfl rfl ?_
    obtain ⟨g3, h⟩ := h
    refine am_iald hz1 (oN2 hG ho) (oK2 hG ho) (by rw [(oL2 hG ho)]; exact g3) dX4_deriveHeights_36 ?_
    refine am_iload hz1 dX4_deriveHeights_37 4 rfl ?_
    refine am_ishr hz1 dX4_deriveHeights_39 ?_
    refine am_iconst (v := 1) hz1 dX4_deriveHeights_40 (by decide) ?_
    refine am_iand hz1 dX4_deriveHeights_41 ?_
    refine am_iconst (v := 1) hz1 dX4_deriveHeights_42 (by decide) ?_
    refine am_icmp_ne (tgt := 60) hz1 dX4_deriveHeights_43 (by decide) (fun c4 => ?_) (fun c4 => ?_)
    · replace h := h.1 c4
      refine am_iinc (v := v4 + 1) (lv' := [(4, .int (v4 + 1)), (0, .ref ((zB z).size + o)), (1, .int v1), (2, .int v2), (3, .int v3)]) hz1 dX4_deriveHeights_60 4 rfl rfl rfl rfl ?_
      refine am_goto (tgt := 22) hz1 dX4_deriveHeights_63 (by decide) ?_
      exact am_sub (lv' := [(0, .ref ((zB z).size + o)), (1, .int v1), (2, .int v2), (3, .int v3), (4, .int (v4 + 1))]) [1, 2, 3, 4, 0] rfl h
    · replace h := h.2 c4
      refine am_iload_n hz1 dX4_deriveHeights_46 3 rfl rfl ?_
      refine am_aload_n hz1 dX4_deriveHeights_47 0 rfl rfl ?_
      refine am_getR hz1 fl_X4_28 (oN hG ho) (oK hG ho) (oR5 hG ho) rfl dX4_deriveHeights_48 ?_
      refine am_iload hz1 dX4_deriveHeights_51 4 rfl ?_
      obtain ⟨g5, h⟩ := h
      refine am_iald hz1 (oN5 hG ho) (oK5 hG ho) (by rw [(oL5 hG ho)]; exact g5) dX4_deriveHeights_53 ?_
      refine am_iconst (v := 1) hz1 dX4_deriveHeights_54 (by decide) ?_
      refine am_iadd hz1 dX4_deriveHeights_55 ?_
      refine am_mmax hz ct_X4_40 rfl ⟨Nat.le_refl _, Nat.le_refl _⟩ (Nat.le_of_ble_eq_true rfl) dX4_deriveHeights_56 ?_
      refine am_istore_n (lv' := [(3, .int (if v3 < ((I (o + 5) v4.toNatClampNeg) + (1 : Int32)) then ((I (o + 5) v4.toNatClampNeg) + (1 : Int32)) else v3)), (0, .ref ((zB z).size + o)), (1, .int v1), (2, .int v2), (4, .int v4)]) hz1 dX4_deriveHeights_59 rfl rfl rfl ?_
      refine am_iinc (v := v4 + 1) (lv' := [(4, .int (v4 + 1)), (3, .int (if v3 < ((I (o + 5) v4.toNatClampNeg) + (1 : Int32)) then ((I (o + 5) v4.toNatClampNeg) + (1 : Int32)) else v3)), (0, .ref ((zB z).size + o)), (1, .int v1), (2, .int v2)]) hz1 dX4_deriveHeights_60 4 rfl rfl rfl rfl ?_
      refine am_goto (tgt := 22) hz1 dX4_deriveHeights_63 (by decide) ?_
      exact am_sub (lv' := [(0, .ref ((zB z).size + o)), (1, .int v1), (2, .int v2), (3, .int (if v3 < ((I (o + 5) v4.toNatClampNeg) + (1 : Int32)) then ((I (o + 5) v4.toNatClampNeg) + (1 : Int32)) else v3)), (4, .int (v4 + 1))]) [2, 3, 4, 1, 0] rfl h
set_option maxRecDepth 100000 in
set_option maxHeartbeats 4000000 in
theorem c_X4_deriveHeights {l : Launch} {D : va_G} {B : Heap} {G : amG} {I : amI} {L : amL} {o : Nat} (hG : Lay G) (ho : isO o)  (hs : szOk I o) (hr : rowOk I o) : Fx l D B yX4_deriveHeights cX4_deriveHeights 5 none 1 [.ref (B.size + o)] G I L none (setI I (o + 5) (q_ht I o (I (o + 5)) (sz I o))) L := by
  refine Mx.of (by decide) rfl rfl (fun z e1 e2 e3 hz => ?_)
  subst e1; subst e2; subst e3
  refine b_X4_deriveHeights_0 hz hG ho ?_
  obtain ⟨n, hn1, h16, hn⟩ := id hs
  have hz0 : sz I o = n := sz_eq hn h16
  have hK : ∀ f : Nat → Int32, setI I (o + 5) f o 0 = nI n := fun f => by rw [setI_n (by omega), hn]
  have h2 : ∀ f : Nat → Int32, setI I (o + 5) f (o + 2) = I (o + 2) := fun f => by rw [setI_n (by omega)]
  have h6 : ∀ f : Nat → Int32, setI I (o + 5) f (o + 6) = I (o + 6) := fun f => by rw [setI_n (by omega)]
  have main : Wx z 0 0 2 [(0, .ref ((zB z).size + o)), (1, .int (nI 0))] [] G (setI I (o + 5) (q_ht I o (I (o + 5)) 0)) L := by
    refine for_up (P := fun i => Wx z 0 0 2 [(0, .ref ((zB z).size + o)), (1, .int (nI i))] [] G (setI I (o + 5) (q_ht I o (I (o + 5)) i)) L) (n := n) ?_ ?_ (Nat.zero_le n)
    · exact b_X4_deriveHeights_2 hz hG ho ⟨fun _ => ⟨rfl, rfl, by rw [hz0], rfl⟩, fun h => absurd (sz_le (hK _) h16) h⟩
    · intro i hi ih
      obtain ⟨x, hx, ex⟩ := hr i (by rw [hz0]; exact hi)
      rw [hz0] at hx
      refine b_X4_deriveHeights_2 hz hG ho ⟨fun h => absurd h (sz_ge (hK _) h16 hi), fun _ => ⟨in16 h16 hi, ?_⟩⟩
      rw [h6, cl_nI (by omega), ex]
      rw [q_ht, ex, cl_nI (by omega), hz0] at ih
      refine for_up (P := fun j => Wx z 0 0 22 [(0, .ref ((zB z).size + o)), (1, .int (nI i)), (2, .int (nI x)), (3, .int (maxS (q_ht I o (I (o + 5)) i) (I (o + 2) x) j)), (4, .int (nI j))] [] G (setI I (o + 5) (q_ht I o (I (o + 5)) i)) L) (n := n) ?_ ?_ (Nat.zero_le n)
      · refine b_X4_deriveHeights_22 hz hG ho ⟨fun _ => ⟨in16 h16 hx, ?_⟩, fun h => absurd (sz_le (hK _) h16) h⟩
        rw [nI_1, setI_ss, setI_s, cl_nI (by omega)]
        exact ih
      · intro j hj jh
        refine b_X4_deriveHeights_22 hz hG ho ⟨fun h => absurd h (sz_ge (hK _) h16 hj), fun _ => ⟨in16 h16 hx, fun h => ?_, fun h => ⟨in16 h16 hj, ?_⟩⟩⟩
        · rw [h2, cl_nI (by omega)] at h
          rw [maxS, if_neg (by rw [(b_bit0 _ j (by omega)).mp h]; decide)] at jh
          rw [nI_1]
          exact jh
        · rw [h2, cl_nI (by omega)] at h
          rw [maxS, if_pos ((b_bit _ j (by omega)).mp h)] at jh
          rw [nI_1, cl_nI (by omega), setI_s]
          exact jh
  rw [q_ht, setI_id] at main
  exact main
/-- the row of an order, by its positions -/
theorem row_of {n : Nat} {A : Nat → Int32} {R : Nat → Int32} (h16 : n ≤ 16) (h : ∀ y, y < n → R (pos n A y) = nI y) : ∀ i, i < n → ∃ x, x < n ∧ R i = nI x ∧ pos n A x = i := by
  intro i hi
  obtain ⟨x, hx, e⟩ := onto (f := pos n A) (fun j hj => pos_lt hj) (fun a b ha hb => pos_inj ha hb) hi
  exact ⟨x, hx, by rw [← e, h x hx], e⟩
theorem bn_bt {n : Nat} {A : Nat → Int32} (h16 : n ≤ 32) {x y : Nat} (hy : y < 32) : bt (bn n A x) y = (decide (y < n) && bt (A y) x) := b_mk _ n h16 y hy
/-- values set along the row: each by those of the elements beneath -/
theorem row_fix {α : Type} {n : Nat} {A : Nat → Int32} {R : Nat → Int32} (h16 : n ≤ 16) (hP : PO n A) (h : ∀ y, y < n → R (pos n A y) = nI y) {F : (Nat → α) → Nat → α} {f : Nat → α} (hF : ∀ (g g' : Nat → α) (x : Nat), x < n → (∀ y, y < n → bt (A y) x = true → g y = g' y) → F g x = F g' x) : ∀ x, x < n → sq (fun i => (R i).toNatClampNeg) F f n x = F (sq (fun i => (R i).toNatClampNeg) F f n) x := by
  intro x hx
  have hr : ∀ y, y < n → (R (pos n A y)).toNatClampNeg = y := fun y hy => by rw [h y hy]; exact cl_nI (by omega)
  have hrow : ∀ i, i < n → (R i).toNatClampNeg < n ∧ pos n A (R i).toNatClampNeg = i := by
    intro i hi
    obtain ⟨y, hy, e, ep⟩ := row_of h16 h i hi
    rw [e, cl_nI (by omega)]
    exact ⟨hy, ep⟩
  have k := sq_fix (row := fun i => (R i).toNatClampNeg) (F := F) (f := f) (n := n) (fun i j hi hj e => by
      have h1 := (hrow i hi).2
      have h2 := (hrow j hj).2
      rw [e] at h1
      omega) (fun g g' i hi hh => by
      have h1 := hrow i hi
      refine hF g g' _ h1.1 (fun y hy hb => ?_)
      have h2 := pos_up hy (key_up hP hy h1.1 hb)
      have h3 := hh (pos n A y) (by rw [h1.2] at h2; exact h2)
      rwa [hr y hy] at h3) (i := pos n A x) (pos_lt hx)
  rwa [hr x hx] at k
theorem ht_sq {I : amI} {o : Nat} {f : Nat → Int32} : ∀ i, q_ht I o f i = sq (fun i => (I (o + 6) i).toNatClampNeg) (fun g x => maxS g (I (o + 2) x) (sz I o)) f i
  | 0 => rfl
  | i + 1 => by
    rw [q_ht, sq, ht_sq i]
    rfl
set_option maxRecDepth 100000 in
set_option maxHeartbeats 4000000 in
theorem b_X4_derive_0 {z : amZ} {post : amP} {G : amG} {I : amI} {L : amL} (hz : Go z cX4_derive RX4 1 none 2 0 0 post) (hG : Lay G) {o : Nat} (ho : isO o)  (h : (szOk I o) ∧ (szOk (q_dB I o (sz I o) 0) o) ∧ ∃ (dq3 : Nat) (postq3 : amP), Nat.ble (dq3 + 1) 2 = true ∧ Mx (zL z) (zD z) (zB z) yX4_deriveRow cX4_deriveRow 4 none dq3 0 0 [.ref ((zB z).size + o)] G (q_dC (q_dB I o (sz I o) 0) o (sz (q_dB I o (sz I o) 0) o) 0) L postq3 ∧ ∀ (roq3 : Option Value) (Gq3 : amG) (Iq3 : amI) (Lq3 : amL), postq3 roq3 Gq3 Iq3 Lq3 → roq3 = none ∧ Lay Gq3 ∧ (szOk Iq3 o) ∧ (rowOk Iq3 o) ∧ post none Gq3 (setI Iq3 (o + 5) (q_ht Iq3 o (Iq3 (o + 5)) (sz Iq3 o))) Lq3) : Wx z 0 0 0 [(0, .ref ((zB z).size + o))] [] G I L := by
  have hz1 := hz.1
  refine am_aload_n hz1 dX4_derive_0 0 rfl rfl ?_
  obtain ⟨g1, h⟩ := h
  refine am_cVf hz cv_X4_84 [] [] (c_X4_deriveBeneath hG ho  g1) (oN hG ho) (oK hG ho) rfl rfl rfl ⟨Nat.le_refl _, Nat.le_refl _⟩ (Nat.le_of_ble_eq_true rfl) dX4_derive_1 ?_
  refine am_aload_n hz1 dX4_derive_4 0 rfl rfl ?_
  obtain ⟨g2, h⟩ := h
  refine am_cVf hz cv_X4_87 [] [] (c_X4_deriveCovers hG ho  g2) (oN hG ho) (oK hG ho) rfl rfl rfl ⟨Nat.le_refl _, Nat.le_refl _⟩ (Nat.le_of_ble_eq_true rfl) dX4_derive_5 ?_
  refine am_aload_n hz1 dX4_derive_8 0 rfl rfl ?_
  obtain ⟨dq3, postq3, hdq3, hMq3, h⟩ := h
  refine am_callV hz1 cv_X4_90 [] [] hMq3 (oN hG ho) (oK hG ho) rfl rfl (hz.fr hdq3) (hz.lo hdq3) (by rw [hz.2.1]; exact ⟨Nat.le_refl _, Nat.le_refl _⟩) (Nat.le_of_ble_eq_true rfl) dX4_derive_9 (fun roq3 Gq3 Iq3 Lq3 hpq3 => ?_)
  obtain ⟨rfl, hGq3, h⟩ := h roq3 Gq3 Iq3 Lq3 hpq3
  refine am_aload_n hz1 dX4_derive_12 0 rfl rfl ?_
  obtain ⟨g4, h⟩ := h
  obtain ⟨g5, h⟩ := h
  refine am_cVf hz cv_X4_93 [] [] (c_X4_deriveHeights hGq3 ho  g4 g5) (oN hGq3 ho) (oK hGq3 ho) rfl rfl rfl ⟨Nat.le_refl _, Nat.le_refl _⟩ (Nat.le_of_ble_eq_true rfl) dX4_derive_13 ?_
  exact am_return hz dX4_derive_16 h
set_option maxRecDepth 100000 in
set_option maxHeartbeats 4000000 in
theorem c_X4_derive {l : Launch} {D : va_G} {B : Heap} {G : amG} {I : amI} {L : amL} {o : Nat} (hG : Lay G) (ho : isO o)  {n : Nat} (hn : I o 0 = nI n) (h1 : 1 ≤ n) (h16 : n ≤ 16) (hP : PO n (I (o + 1))) : Mx l D B yX4_derive cX4_derive 1 none 2 0 0 [.ref (B.size + o)] G I L (fun r G1 I1 L1 => r = none ∧ G1 = G ∧ L1 = L ∧ (∀ q, (∀ j, 2 ≤ j → j ≤ 6 → q ≠ o + j) → I1 q = I q) ∧ Der I1 o n (I (o + 1))) := by
  refine Mx.of (by decide) rfl rfl (fun z e1 e2 e3 hz => ?_)
  subst e1; subst e2; subst e3
  refine b_X4_derive_0 hz hG ho ?_
  have hs : szOk I o := ⟨n, h1, h16, hn⟩
  have hz0 : sz I o = n := sz_eq hn h16
  have eB : ∀ q, q ≠ o + 2 → q_dB I o n 0 q = I q := fun q hq => by rw [q_dB, setI_n hq]
  have vB : ∀ x, x < n → q_dB I o n 0 (o + 2) x = bn n (I (o + 1)) x := fun x hx => by rw [q_dB, setI_s]; simp [hz0, hx, bn]
  rw [hz0]
  have hsB : szOk (q_dB I o n 0) o := szOk_c (by rw [eB o (by omega)]) hs
  have hzB : sz (q_dB I o n 0) o = n := by rw [sz_c (by rw [eB o (by omega)]), hz0]
  refine ⟨hs, hsB, ?_⟩
  rw [hzB]
  have eC : ∀ q, q ≠ o + 3 → q ≠ o + 4 → q_dC (q_dB I o n 0) o n 0 q = q_dB I o n 0 q := fun q h3 h4 => by rw [q_dC, setI_n h4, setI_n h3]
  have cvE : ∀ x y, y < n → q_cov (q_dB I o n 0) o x y = cv n (I (o + 1)) x y := fun x y hy => by rw [q_cov, cv, vB y hy, eB (o + 1) (by omega)]
  have v3 : ∀ x, x < n → q_dC (q_dB I o n 0) o n 0 (o + 3) x = mkset (cv n (I (o + 1)) x) n := fun x hx => by
    rw [q_dC, setI_n (by omega), setI_s]
    simp only [show x < 16 by omega, hx, if_true, hzB]
    exact mkset_cong (fun i hi => cvE x i hi)
  have v4 : ∀ y, y < n → q_dC (q_dB I o n 0) o n 0 (o + 4) y = mkset (fun x => cv n (I (o + 1)) x y) n := fun y hy => by
    rw [q_dC, setI_s]
    simp only [hzB, hy, if_true, Nat.not_lt_zero, if_false]
    exact mkset_cong (fun i hi => cvE i y hy)
  have hnC : q_dC (q_dB I o n 0) o n 0 o 0 = nI n := by rw [eC o (by omega) (by omega), eB o (by omega), hn]
  refine ⟨1, _, rfl, c_X4_deriveRow hG ho hnC h16 (A := I (o + 1)) (fun x hx => by rw [eC (o + 2) (by omega) (by omega), vB x hx]) hP, ?_⟩
  rintro ro G1 I1 L1 ⟨rfl, rfl, rfl, R, rfl, hR⟩
  generalize hI2 : q_dC (q_dB I o n 0) o n 0 = I2 at *
  have hrow := row_of h16 hR
  have hs2 : szOk (setI I2 (o + 6) R) o := ⟨n, h1, h16, by rw [setI_n (by omega)]; exact hnC⟩
  have hz2 : sz (setI I2 (o + 6) R) o = n := sz_eq (by rw [setI_n (by omega)]; exact hnC) h16
  refine ⟨rfl, hG, hs2, fun i hi => ?_, rfl, rfl, rfl, fun q hq => ?_, ?_, ?_, ?_, ?_, ?_, ?_⟩
  · rw [hz2] at hi ⊢
    obtain ⟨x, hx, e, -⟩ := hrow i hi
    exact ⟨x, hx, by rw [setI_s]; exact e⟩
  · rw [setI_n (hq 5 (by omega) (by omega)), setI_n (hq 6 (by omega) (by omega)), eC q (hq 3 (by omega) (by omega)) (hq 4 (by omega) (by omega)), eB q (hq 2 (by omega) (by omega))]
  · intro x hx
    rw [setI_n (by omega), setI_n (by omega), eC (o + 2) (by omega) (by omega)]
    exact vB x hx
  · intro x hx
    rw [setI_n (by omega), setI_n (by omega)]
    exact v3 x hx
  · intro y hy
    rw [setI_n (by omega), setI_n (by omega)]
    exact v4 y hy
  · intro y hy
    rw [setI_n (by omega), setI_s]
    exact hR y hy
  · intro x hx
    rw [setI_s, ht_sq, hz2]
    have e6 : (fun i => (setI I2 (o + 6) R (o + 6) i).toNatClampNeg) = (fun i => (R i).toNatClampNeg) := by funext i; rw [setI_s]
    rw [e6]
    have hb : ∀ x, x < n → setI I2 (o + 6) R (o + 2) x = bn n (I (o + 1)) x := fun x hx => by rw [setI_n (by omega), eC (o + 2) (by omega) (by omega), vB x hx]
    have k := row_fix h16 hP hR (F := fun g x => maxS g (setI I2 (o + 6) R (o + 2) x) n) (f := setI I2 (o + 6) R (o + 5)) (fun g g' x hx hh => by
      rw [hb x hx]
      exact maxS_c (fun y hy hby => hh y hy (by
        rw [bn_bt (by omega) (by omega)] at hby
        simpa [hy] using hby))) x hx
    rw [k]
    rw [hb x hx]
  · intro y h1y h2y
    rw [setI_n (by omega), setI_n (by omega), eC (o + 2) (by omega) (by omega), q_dB, setI_s]
    simp [hz0, show ¬ y < n by omega, h2y]
