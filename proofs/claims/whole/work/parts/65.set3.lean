/-! SETS COUNTED: the widest -/
theorem ct_subX {p q : Nat → Bool} {n : Nat} (h : ∀ i, i < n → p i = true → q i = true) : ct p n ≤ ct q n := ct_inj (f := id) (fun i hi hp => ⟨hi, h i hi hp⟩) (fun i j _ _ _ _ e => e)
theorem wd_c {n m : Nat} {A : Nat → Int32} {S T : Nat → Bool} (h : ∀ i, i < n → S i = T i) (hw : isWd n A S m) : isWd n A T m := by
  obtain ⟨⟨t, t1, t2, t3, t4⟩, b⟩ := hw
  have inn : ∀ {t i : Nat}, t < 2 ^ n → t.testBit i = true → i < n := fun ht q => tbn ht q
  exact ⟨⟨t, t1, fun i q => by rw [← h i (inn t1 q)]; exact t2 i q, t3, t4⟩, fun t ht hs ha => b t ht (fun i q => by rw [h i (inn ht q)]; exact hs i q) ha⟩
theorem wd_a {n : Nat} {A : Nat → Int32} {S : Nat → Bool} (h16 : n ≤ 16) (hA : ∀ x y, x < n → y < n → S x = true → S y = true → bt (A x) y = false) : isWd n A S (ct S n) := by
  obtain ⟨m1, m2⟩ := mkN_is (p := S) h16
  have hb : ∀ i, i < n → (mkN S n).testBit i = S i := fun i hi => by rw [m2 i, decide_eq_true hi, Bool.true_and]
  refine ⟨⟨mkN S n, m1, fun i q => ?_, apM_t.mpr (fun a x ha hx q1 q2 => hA x a hx ha (by rw [← hb x hx]; exact q2) (by rw [← hb a ha]; exact q1)), ct_cong hb⟩, fun t ht hs _ => ct_subX (fun i hi q => hs i q)⟩
  rw [m2 i, Bool.and_eq_true] at q
  exact q.2
theorem wd_s {n x w1 w2 : Nat} {A : Nat → Int32} {S : Nat → Bool} (h16 : n ≤ 16) (hP : PO n A) (hx : x < n) (hS : S x = true) (h1 : isWd n A (fun i => (S i && !decide (i = x)) && !(bt (A x) i || bt (A i) x)) w1) (h2 : isWd n A (fun i => S i && !decide (i = x)) w2) : isWd n A S (if 1 + w1 < w2 then w2 else 1 + w1) := by
  obtain ⟨⟨t1, a1, a2, a3, a4⟩, b1⟩ := h1
  obtain ⟨⟨t2, c1, c2, c3, c4⟩, b2⟩ := h2
  refine ⟨?_, fun t ht hs ha => ?_⟩
  · by_cases hw : 1 + w1 < w2
    · rw [if_pos hw]
      exact ⟨t2, c1, fun i q => by have := c2 i q; rw [Bool.and_eq_true] at this; exact this.1, c3, c4⟩
    · rw [if_neg hw]
      obtain ⟨m1, m2⟩ := mkN_is (p := fun i => t1.testBit i || decide (i = x)) h16
      have hb : ∀ i, i < n → (mkN (fun i => t1.testBit i || decide (i = x)) n).testBit i = (t1.testBit i || decide (i = x)) := fun i hi => by rw [m2 i, decide_eq_true hi, Bool.true_and]
      have hx1 : ∀ i, t1.testBit i = true → S i = true ∧ ¬ i = x ∧ bt (A x) i = false ∧ bt (A i) x = false := fun i q => by
        have := a2 i q
        rw [Bool.and_eq_true, Bool.and_eq_true, Bool.not_eq_true', Bool.not_eq_true', decide_eq_false_iff_not, Bool.or_eq_false_iff] at this
        exact ⟨this.1.1, this.1.2, this.2.1, this.2.2⟩
      refine ⟨_, m1, fun i q => ?_, apM_t.mpr (fun a y ha hy q1 q2 => ?_), ?_⟩
      · rw [m2 i, Bool.and_eq_true, Bool.or_eq_true] at q
        rcases q.2 with q | q
        · exact (hx1 i q).1
        · rw [of_decide_eq_true q]; exact hS
      · rw [hb a ha, Bool.or_eq_true, decide_eq_true_eq] at q1
        rw [hb y hy, Bool.or_eq_true, decide_eq_true_eq] at q2
        rcases q1 with q1 | q1
        · rcases q2 with q2 | q2
          · exact apM_t.mp a3 a y ha hy q1 q2
          · rw [q2]; exact (hx1 a q1).2.2.1
        · rcases q2 with q2 | q2
          · rw [q1]; exact (hx1 y q2).2.2.2
          · rw [q1, q2]; exact hP.2.1 x hx
      · rw [ct_cong hb, ct_or (fun i hi q => decide_eq_false (hx1 i q).2.1), a4, ct_one hx]; omega
  · cases hb : t.testBit x with
    | true =>
      obtain ⟨m1, m2⟩ := mkN_is (p := fun i => t.testBit i && !decide (i = x)) h16
      have hbb : ∀ i, i < n → (mkN (fun i => t.testBit i && !decide (i = x)) n).testBit i = (t.testBit i && !decide (i = x)) := fun i hi => by rw [m2 i, decide_eq_true hi, Bool.true_and]
      have := b1 _ m1 (fun i q => ?_) (apM_t.mpr (fun a y ha hy q1 q2 => ?_))
      · rw [ct_cong hbb] at this
        have h3 := ct_rm (f := fun i => t.testBit i) hx hb
        split <;> omega
      · rw [m2 i, Bool.and_eq_true, Bool.and_eq_true, decide_eq_true_eq] at q
        have ap := apM_t.mp ha
        show (S i && !decide (i = x) && !(bt (A x) i || bt (A i) x)) = true
        rw [hs i q.2.1, q.2.2, ap i x q.1 hx q.2.1 hb, ap x i hx q.1 hb q.2.1]; rfl
      · rw [hbb a ha, Bool.and_eq_true] at q1
        rw [hbb y hy, Bool.and_eq_true] at q2
        exact apM_t.mp ‹apM n A t = true› a y ha hy q1.1 q2.1
    | false =>
      have := b2 t ht (fun i q => by
        show (S i && !decide (i = x)) = true
        rw [hs i q, decide_eq_false (show ¬ i = x from fun e => by rw [e, hb] at q; cases q)]; rfl) ha
      split <;> omega
set_option maxRecDepth 100000 in
set_option maxHeartbeats 4000000 in
theorem b_X7_widestOf_0 {z : amZ} {d : Nat} {post : amP} {G : amG} {I : amI} {L : amL} (hz : Go z cX7_widestOf RX7 6 (some .int) d 0 0 post) (hG : Lay G) (hd : 6 ≤ d) {v1 : Int32} {v2 : Int32} (h : ∃ (dq1 : Nat) (postq1 : amP), Nat.ble (dq1 + 1) d = true ∧ Mx (zL z) (zD z) (zB z) yX7_busiestOf cX7_busiestOf 6 (some .int) dq1 0 0 [.ref ((zB z).size + 56), .int v1] G I L postq1 ∧ ∀ (roq1 : Option Value) (Gq1 : amG) (Iq1 : amI) (Lq1 : amL), postq1 roq1 Gq1 Iq1 Lq1 → ∃ (rq1 : Int32), roq1 = some (.int rq1) ∧ Lay Gq1 ∧ ((rq1 < 0) → post (some (.int (q_bc v1))) Gq1 Iq1 Lq1) ∧ ((¬ rq1 < 0) → ((v2 ≤ (16 : Int32)) → (vp_in rq1 16) ∧ ∃ (dq5 : Nat) (postq5 : amP), Nat.ble (dq5 + 1) d = true ∧ Mx (zL z) (zD z) (zB z) yX7_widestOf cX7_widestOf 6 (some .int) dq5 0 0 [.ref ((zB z).size + 56), .int ((v1 &&& (((1 : Int32) <<< (rq1 &&& 31)) ^^^ (-1 : Int32))) &&& ((q_cmp Iq1 rq1) ^^^ (-1 : Int32))), .int (v2 + (1 : Int32))] Gq1 Iq1 Lq1 postq5 ∧ ∀ (roq5 : Option Value) (Gq5 : amG) (Iq5 : amI) (Lq5 : amL), postq5 roq5 Gq5 Iq5 Lq5 → ∃ (rq5 : Int32), roq5 = some (.int rq5) ∧ Lay Gq5 ∧ ∃ (dq6 : Nat) (postq6 : amP), Nat.ble (dq6 + 1) d = true ∧ Mx (zL z) (zD z) (zB z) yX7_widestOf cX7_widestOf 6 (some .int) dq6 0 0 [.ref ((zB z).size + 56), .int (v1 &&& (((1 : Int32) <<< (rq1 &&& 31)) ^^^ (-1 : Int32))), .int (v2 + (1 : Int32))] Gq5 Iq5 Lq5 postq6 ∧ ∀ (roq6 : Option Value) (Gq6 : amG) (Iq6 : amI) (Lq6 : amL), postq6 roq6 Gq6 Iq6 Lq6 → ∃ (rq6 : Int32), roq6 = some (.int rq6) ∧ Lay Gq6 ∧ post (some (.int (if ((1 : Int32) + rq5) < rq6 then rq6 else ((1 : Int32) + rq5)))) Gq6 Iq6 Lq6) ∧ ((¬ v2 ≤ (16 : Int32)) → post (some (.int (q_bc v1))) Gq1 Iq1 Lq1))) : Wx z 0 0 0 [(0, .ref ((zB z).size + 56)), (1, .int v1), (2, .int v2)] [] G I L := by
  have hz1 := hz.1
  refine am_aload_n hz1 dX7_widestOf_0 0 rfl rfl ?_
  refine am_iload_n hz1 dX7_widestOf_1 1 rfl rfl ?_
  obtain ⟨dq1, postq1, hdq1, hMq1, h⟩ := h
  refine am_callV hz1 cv_X7_60 [.int v1] [] hMq1 (ln_56 hG) (lk_56 hG) rfl rfl (hz.fr hdq1) (hz.lo hdq1) (by rw [hz.2.1]; exact ⟨Nat.le_refl _, Nat.le_refl _⟩) (Nat.le_of_ble_eq_true rfl) dX7_widestOf_2 (fun roq1 Gq1 Iq1 Lq1 hpq1 => ?_)
  obtain ⟨rq1, rfl, hGq1, h⟩ := h roq1 Gq1 Iq1 Lq1 hpq1
  refine am_istore_n (lv' := [(3, .int rq1), (0, .ref ((zB z).size + 56)), (1, .int v1), (2, .int v2)]) hz1 dX7_widestOf_5 rfl rfl rfl ?_
  refine am_iload_n hz1 dX7_widestOf_6 0 rfl rfl ?_
  refine am_if_lt (tgt := 16) hz1 dX7_widestOf_7 (by decide) (fun c2 => ?_) (fun c2 => ?_)
  · replace h := h.1 c2
    refine am_iload_n hz1 dX7_widestOf_16 2 rfl rfl ?_
    refine am_cSf hz ct_X7_64 [.int v1] [] (c_J6_bitCount_0f7a4 hGq1 v1 ) rfl rfl (ble_d hd rfl) ⟨Nat.le_refl _, Nat.le_refl _⟩ (Nat.le_of_ble_eq_true rfl) dX7_widestOf_17 ?_
    exact am_ireturn hz dX7_widestOf_20 h
  · replace h := h.2 c2
    refine am_iload_n hz1 dX7_widestOf_10 3 rfl rfl ?_
    refine am_bipush (v := 16) hz1 dX7_widestOf_11 (by decide) ?_
    refine am_icmp_le (tgt := 21) hz1 dX7_widestOf_13 (by decide) (fun c3 => ?_) (fun c3 => ?_)
    · replace h := h.1 c3
      refine am_iload_n hz1 dX7_widestOf_21 2 rfl rfl ?_
      refine am_iconst (v := 1) hz1 dX7_widestOf_22 (by decide) ?_
      refine am_iload_n hz1 dX7_widestOf_23 0 rfl rfl ?_
      refine am_ishl hz1 dX7_widestOf_24 ?_
      refine am_iconst (v := (-1)) hz1 dX7_widestOf_25 (by decide) ?_
      refine am_ixor hz1 dX7_widestOf_26 ?_
      refine am_iand hz1 dX7_widestOf_27 ?_
      refine am_istore (lv' := [(4, .int (v1 &&& (((1 : Int32) <<< (rq1 &&& 31)) ^^^ (-1 : Int32)))), (3, .int rq1), (0, .ref ((zB z).size + 56)), (1, .int v1), (2, .int v2)]) hz1 dX7_widestOf_28 rfl rfl ?_
      refine am_iconst (v := 1) hz1 dX7_widestOf_30 (by decide) ?_
      refine am_aload_n hz1 dX7_widestOf_31 2 rfl rfl ?_
      refine am_iload hz1 dX7_widestOf_32 0 rfl ?_
      refine am_aload_n hz1 dX7_widestOf_34 2 rfl rfl ?_
      refine am_iload_n hz1 dX7_widestOf_35 1 rfl rfl ?_
      obtain ⟨g4, h⟩ := h
      refine am_cVf hz cv_X7_85 [.int rq1] [.int (v1 &&& (((1 : Int32) <<< (rq1 &&& 31)) ^^^ (-1 : Int32))), .ref ((zB z).size + 56), .int 1] (c_X7_comparable hGq1 rq1 g4) (ln_56 hGq1) (lk_56 hGq1) rfl rfl (ble_d hd rfl) ⟨Nat.le_refl _, Nat.le_refl _⟩ (Nat.le_of_ble_eq_true rfl) dX7_widestOf_36 ?_
      refine am_iconst (v := (-1)) hz1 dX7_widestOf_39 (by decide) ?_
      refine am_ixor hz1 dX7_widestOf_40 ?_
      refine am_iand hz1 dX7_widestOf_41 ?_
      refine am_iload_n hz1 dX7_widestOf_42 4 rfl rfl ?_
      refine am_iconst (v := 1) hz1 dX7_widestOf_43 (by decide) ?_
      refine am_iadd hz1 dX7_widestOf_44 ?_
      obtain ⟨dq5, postq5, hdq5, hMq5, h⟩ := h
      refine am_callV hz1 cv_X7_88 [.int ((v1 &&& (((1 : Int32) <<< (rq1 &&& 31)) ^^^ (-1 : Int32))) &&& ((q_cmp Iq1 rq1) ^^^ (-1 : Int32))), .int (v2 + (1 : Int32))] [.int 1] hMq5 (ln_56 hGq1) (lk_56 hGq1) rfl rfl (hz.fr hdq5) (hz.lo hdq5) (by rw [hz.2.1]; exact ⟨Nat.le_refl _, Nat.le_refl _⟩) (Nat.le_of_ble_eq_true rfl) dX7_widestOf_45 (fun roq5 Gq5 Iq5 Lq5 hpq5 => ?_)
      obtain ⟨rq5, rfl, hGq5, h⟩ := h roq5 Gq5 Iq5 Lq5 hpq5
      refine am_iadd hz1 dX7_widestOf_48 ?_
      refine am_istore (lv' := [(5, .int ((1 : Int32) + rq5)), (4, .int (v1 &&& (((1 : Int32) <<< (rq1 &&& 31)) ^^^ (-1 : Int32)))), (3, .int rq1), (0, .ref ((zB z).size + 56)), (1, .int v1), (2, .int v2)]) hz1 dX7_widestOf_49 rfl rfl ?_
      refine am_iload hz1 dX7_widestOf_51 0 rfl ?_
      refine am_aload_n hz1 dX7_widestOf_53 3 rfl rfl ?_
      refine am_iload hz1 dX7_widestOf_54 1 rfl ?_
      refine am_iload_n hz1 dX7_widestOf_56 5 rfl rfl ?_
      refine am_iconst (v := 1) hz1 dX7_widestOf_57 (by decide) ?_
      refine am_iadd hz1 dX7_widestOf_58 ?_
      obtain ⟨dq6, postq6, hdq6, hMq6, h⟩ := h
      refine am_callV hz1 cv_X7_88 [.int (v1 &&& (((1 : Int32) <<< (rq1 &&& 31)) ^^^ (-1 : Int32))), .int (v2 + (1 : Int32))] [.int ((1 : Int32) + rq5)] hMq6 (ln_56 hGq5) (lk_56 hGq5) rfl rfl (hz.fr hdq6) (hz.lo hdq6) (by rw [hz.2.1]; exact ⟨Nat.le_refl _, Nat.le_refl _⟩) (Nat.le_of_ble_eq_true rfl) dX7_widestOf_59 (fun roq6 Gq6 Iq6 Lq6 hpq6 => ?_)
      obtain ⟨rq6, rfl, hGq6, h⟩ := h roq6 Gq6 Iq6 Lq6 hpq6
      refine am_mmax hz ct_X7_92 (ble_d hd rfl) ⟨Nat.le_refl _, Nat.le_refl _⟩ (Nat.le_of_ble_eq_true rfl) dX7_widestOf_62 ?_
      exact am_ireturn hz dX7_widestOf_65 h
    · replace h := h.2 c3
      refine am_iload_n hz1 dX7_widestOf_16 2 rfl rfl ?_
      refine am_cSf hz ct_X7_64 [.int v1] [] (c_J6_bitCount_0f7a4 hGq1 v1 ) rfl rfl (ble_d hd rfl) ⟨Nat.le_refl _, Nat.le_refl _⟩ (Nat.le_of_ble_eq_true rfl) dX7_widestOf_17 ?_
      exact am_ireturn hz dX7_widestOf_20 h
set_option maxRecDepth 100000 in
set_option maxHeartbeats 4000000 in
theorem c_X7_widestOf {l : Launch} {D : va_G} {B : Heap} {G : amG} {I : amI} {L : amL} {n : Nat} {A : Nat → Int32} (hG : Lay G) (hO : OI I 3 n A) : ∀ (m : Nat) (s : Int32) (dp d : Nat), (∀ i, i < 32 → bt s i = true → i < n) → ct (bt s) n ≤ m → dp + m ≤ 16 → 6 + m ≤ d →
    Mx l D B yX7_widestOf cX7_widestOf 6 (some .int) d 0 0 [.ref (B.size + 56), .int s, .int (nI dp)] G I L (fun r G1 I1 L1 => G1 = G ∧ I1 = I ∧ L1 = L ∧ ∃ w, r = some (.int (nI w)) ∧ w ≤ 16 ∧ isWd n A (bt s) w) := by
  have h16 := hO.2.2.1
  have hP := hO.2.2.2.2.2.1
  have base : ∀ s : Int32, (∀ i, i < 32 → bt s i = true → i < n) → (∀ x y, x < n → y < n → bt s x = true → bt s y = true → bt (A x) y = false) → (G = G ∧ I = I ∧ L = L ∧ ∃ w, some (Value.int (q_bc s)) = some (.int (nI w)) ∧ w ≤ 16 ∧ isWd n A (bt s) w) := fun s hs hA => ⟨rfl, rfl, rfl, _, by rw [bc_ct h16 hs], Nat.le_trans (ct_le _ _) h16, wd_a h16 hA⟩
  intro m
  induction m with
  | zero =>
    intro s dp d hs hm hdp hd
    refine Mx.of (by decide) rfl rfl (fun z e1 e2 e3 hz => ?_)
    subst e1; subst e2; subst e3
    have hno : ∀ x, x < n → bt s x = false := ct_0.mp (by omega)
    refine b_X7_widestOf_0 hz hG (by omega) ⟨1, _, ble_d (show 2 ≤ d by omega) rfl, c_X7_busiestOf hG s hO hs, fun ro G2 I2 L2 ⟨e1, e2, e3, e4⟩ => ?_⟩
    rcases e4 with ⟨e4, e5⟩ | ⟨x, _, hx, hb⟩
    · refine ⟨_, e4, by rw [e1]; exact hG, fun _ => ?_, fun w => absurd (by decide) w⟩
      rw [e1, e2, e3]
      exact base s hs e5
    · rw [hno x hx] at hb; cases hb
  | succ m ih =>
    intro s dp d hs hm hdp hd
    refine Mx.of (by decide) rfl rfl (fun z e1 e2 e3 hz => ?_)
    subst e1; subst e2; subst e3
    refine b_X7_widestOf_0 hz hG (by omega) ⟨1, _, ble_d (show 2 ≤ d by omega) rfl, c_X7_busiestOf hG s hO hs, fun ro G2 I2 L2 ⟨e1, e2, e3, e4⟩ => ?_⟩
    rcases e4 with ⟨e4, e5⟩ | ⟨x, e4, hx, hb⟩
    · refine ⟨_, e4, by rw [e1]; exact hG, fun _ => ?_, fun w => absurd (by decide) w⟩
      rw [e1, e2, e3]
      exact base s hs e5
    · refine ⟨_, e4, by rw [e1]; exact hG, fun w => absurd w (nI_pos (by omega)), fun _ => ⟨fun _ => ?_, fun w => absurd (nI_le (a := dp) (b := 16) (by omega) (by decide)) w⟩⟩
      rw [e1, e2, e3, hO.cmq hx, nI_1]
      have hb0 : ∀ i, i < n → bt (s &&& (((1 : Int32) <<< (nI x &&& 31)) ^^^ (-1))) i = (bt s i && !decide (i = x)) := fun i hi => by rw [b_and, b_not _ (by omega), b_one x (by omega) (by omega)]
      have hb1 : ∀ i, i < n → bt ((s &&& (((1 : Int32) <<< (nI x &&& 31)) ^^^ (-1))) &&& (cmp n A x ^^^ (-1))) i = ((bt s i && !decide (i = x)) && !(bt (A x) i || bt (A i) x)) := fun i hi => by rw [b_and, hb0 i hi, b_not _ (by omega), cmp_b (by omega) hi]
      have hc := ct_rm (f := bt s) hx hb
      have hc0 : ct (bt (s &&& (((1 : Int32) <<< (nI x &&& 31)) ^^^ (-1)))) n ≤ m := by rw [ct_cong hb0]; omega
      have hc1 : ct (bt ((s &&& (((1 : Int32) <<< (nI x &&& 31)) ^^^ (-1))) &&& (cmp n A x ^^^ (-1)))) n ≤ m := Nat.le_trans (ct_subX (fun i hi q => by rw [b_and, Bool.and_eq_true] at q; exact q.1)) hc0
      refine ⟨in16 h16 hx, d - 1, _, by rw [show d - 1 + 1 = d by omega]; exact Nat.ble_self_eq_true d, ih _ (dp + 1) (d - 1) (sub_in (sub_in hs)) hc1 (by omega) (by omega), fun ro3 G3 I3 L3 ⟨d1, d2, d3, w1, d4, d5, d6⟩ => ⟨_, d4, by rw [d1]; exact hG, ?_⟩⟩
      rw [d1, d2, d3]
      refine ⟨d - 1, _, by rw [show d - 1 + 1 = d by omega]; exact Nat.ble_self_eq_true d, ih _ (dp + 1) (d - 1) (sub_in hs) hc0 (by omega) (by omega), fun ro4 G4 I4 L4 ⟨c1, c2, c3, w2, c4, c5, c6⟩ => ⟨_, c4, by rw [c1]; exact hG, ?_⟩⟩
      have hw := wd_s h16 hP hx hb (wd_c hb1 d6) (wd_c hb0 c6)
      have hle : (if 1 + w1 < w2 then w2 else 1 + w1) ≤ 16 := by
        obtain ⟨⟨t, _, _, _, ht⟩, _⟩ := hw
        rw [← ht]
        exact Nat.le_trans (ct_le _ _) h16
      refine ⟨c1, c2, c3, _, ?_, hle, hw⟩
      rw [show (1 : Int32) = nI 1 from rfl, nI_add]
      by_cases g : 1 + w1 < w2
      · rw [if_pos g, if_pos (nI_lt g (by omega))]
      · rw [if_neg g, if_neg (fun q => g ((nI_ltI (by omega) (by omega)).mp q))]
set_option maxRecDepth 100000 in
set_option maxHeartbeats 4000000 in
theorem b_X7_widest_0 {z : amZ} {post : amP} {G : amG} {I : amI} {L : amL} (hz : Go z cX7_widest RX7 1 (some .int) 41 0 0 post) (hG : Lay G)  (h : ∃ (dq1 : Nat) (postq1 : amP), Nat.ble (dq1 + 1) 41 = true ∧ Mx (zL z) (zD z) (zB z) yX7_widestOf cX7_widestOf 6 (some .int) dq1 0 0 [.ref ((zB z).size + 56), .int (q_all I 3), .int 0] G I L postq1 ∧ ∀ (roq1 : Option Value) (Gq1 : amG) (Iq1 : amI) (Lq1 : amL), postq1 roq1 Gq1 Iq1 Lq1 → ∃ (rq1 : Int32), roq1 = some (.int rq1) ∧ Lay Gq1 ∧ post (some (.int rq1)) Gq1 Iq1 Lq1) : Wx z 0 0 0 [(0, .ref ((zB z).size + 56))] [] G I L := by
  have hz1 := hz.1
  refine am_aload_n hz1 dX7_widest_0 0 rfl rfl ?_
  refine am_aload_n hz1 dX7_widest_1 0 rfl rfl ?_
  refine am_getR hz1 fl_X7_25 (ln_56 hG) (lk_56 hG) (lr_56_0 hG) rfl dX7_widest_2 ?_
  refine am_cVf hz cv_X7_52 [] [.ref ((zB z).size + 56)] (c_X4_all hG isO_3  ) (ln_3 hG) (lk_3 hG) rfl rfl rfl ⟨Nat.le_refl _, Nat.le_refl _⟩ (Nat.le_of_ble_eq_true rfl) dX7_widest_5 ?_
  refine am_iconst (v := 0) hz1 dX7_widest_8 (by decide) ?_
  obtain ⟨dq1, postq1, hdq1, hMq1, h⟩ := h
  refine am_callV hz1 cv_X7_88 [.int (q_all I 3), .int 0] [] hMq1 (ln_56 hG) (lk_56 hG) rfl rfl (hz.fr hdq1) (hz.lo hdq1) (by rw [hz.2.1]; exact ⟨Nat.le_refl _, Nat.le_refl _⟩) (Nat.le_of_ble_eq_true rfl) dX7_widest_9 (fun roq1 Gq1 Iq1 Lq1 hpq1 => ?_)
  obtain ⟨rq1, rfl, hGq1, h⟩ := h roq1 Gq1 Iq1 Lq1 hpq1
  exact am_ireturn hz dX7_widest_12 h
set_option maxRecDepth 100000 in
set_option maxHeartbeats 4000000 in
theorem c_X7_widest {l : Launch} {D : va_G} {B : Heap} {G : amG} {I : amI} {L : amL}  (hG : Lay G)   {n : Nat} {A : Nat → Int32} (hO : OI I 3 n A) : Mx l D B yX7_widest cX7_widest 1 (some .int) 41 0 0 [.ref (B.size + 56)] G I L (fun r G1 I1 L1 => r = some (.int (nI (wdN n A))) ∧ G1 = G ∧ I1 = I ∧ L1 = L) := by
  refine Mx.of (by decide) rfl rfl (fun z e1 e2 e3 hz => ?_)
  subst e1; subst e2; subst e3
  refine b_X7_widest_0 hz hG ?_
  have h16 := hO.2.2.1
  rw [hO.all]
  have hca : ct (bt (allS n)) n = n := by rw [ct_cong (all_bt h16), ct_all (n := n)]
  refine ⟨40, _, rfl, c_X7_widestOf hG hO 16 (allS n) 0 40 (all_in h16) (by omega) (by omega) (by omega), fun ro G2 I2 L2 ⟨e1, e2, e3, w, e4, e5, e6⟩ => ⟨_, e4, by rw [e1]; exact hG, ?_⟩⟩
  rw [wdN_is (wd_c (all_bt h16) e6)]
  exact ⟨rfl, e1, e2, e3⟩
