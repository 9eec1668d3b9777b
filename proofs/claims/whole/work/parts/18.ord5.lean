/-! DRAFTS MADE FROM OTHER ORDERS -/
def dm (I : amI) (m : Nat) (f : Nat → Int32) : amI := setI (setI I 10 (upd (I 10) 0 (nI m))) 11 f
theorem dm_10 {I : amI} {m : Nat} {f : Nat → Int32} : dm I m f 10 0 = nI m := by rw [dm, setI_n (by decide), setI_s, upd_s]
theorem dm_11 {I : amI} {m : Nat} {f : Nat → Int32} : dm I m f 11 = f := by rw [dm, setI_s]
theorem dm_o {I : amI} {m q : Nat} {f : Nat → Int32} (h0 : q ≠ 10) (h1 : q ≠ 11) : dm I m f q = I q := by rw [dm, setI_n h1, setI_n h0]
theorem dm_s {I : amI} {m : Nat} {f g : Nat → Int32} : setI (dm I m f) 11 g = dm I m g := by rw [dm, setI_ss, dm]
theorem dm_b {I : amI} {m : Nat} (h1 : 1 ≤ m) (h2 : m ≤ 16) : q_begin I 10 (nI m) = dm I m (q_fill (I 11) 16 0) := by rw [q_begin, q_sz_n h1 h2, dm]
theorem fill16 {f : Nat → Int32} {j : Nat} (h : j < 16) : q_fill f 16 0 j = 0 := by simp [q_fill, h]
theorem pkc_ct (s : Int32) : ∀ n, pkc s n = ct (bt s) n
  | 0 => rfl
  | n + 1 => by
    rw [pkc, ct, pkc_ct s n]
    by_cases h : bt s n = true
    · rw [if_pos h, if_pos h]
    · rw [if_neg h, if_neg h]; rfl
set_option maxRecDepth 100000 in
set_option maxHeartbeats 4000000 in
theorem b_X4_becomeTurned_0 {z : amZ} {post : amP} {G : amG} {I : amI} {L : amL} (hz : Go z cX4_becomeTurned RX4 2 none 2 0 0 post) (hG : Lay G)  (h : post none G (setI (q_begin I 10 (I 3 0)) 11 (va_cpy ((q_begin I 10 (I 3 0)) 5) ((q_begin I 10 (I 3 0)) 11) (0 : Int32).toNatClampNeg (0 : Int32).toNatClampNeg (16 : Int32).toNatClampNeg)) L) : Wx z 0 0 0 [(0, .ref ((zB z).size + 10)), (1, .ref ((zB z).size + 3))] [] G I L := by
  have hz1 := hz.1
  refine am_aload_n hz1 dX4_becomeTurned_0 0 rfl rfl ?_
  refine am_aload_n hz1 dX4_becomeTurned_1 1 rfl rfl ?_
  refine am_getI hz1 fl_X4_9 (ln_3 hG) (lk_3 hG) rfl dX4_becomeTurned_2 ?_
  refine am_cVf hz cv_X4_49 [.int (I 3 0)] [] (c_X4_begin hG isO_10 (I 3 0) ) (ln_10 hG) (lk_10 hG) rfl rfl rfl ⟨Nat.le_refl _, Nat.le_refl _⟩ (Nat.le_of_ble_eq_true rfl) dX4_becomeTurned_5 ?_
  refine am_aload_n hz1 dX4_becomeTurned_8 1 rfl rfl ?_
  refine am_getR hz1 fl_X4_19 (ln_3 hG) (lk_3 hG) (lr_3_2 hG) rfl dX4_becomeTurned_9 ?_
  refine am_iconst (v := 0) hz1 dX4_becomeTurned_12 (by decide) ?_
  refine am_aload_n hz1 dX4_becomeTurned_13 0 rfl rfl ?_
  refine am_getR hz1 fl_X4_15 (ln_10 hG) (lk_10 hG) (lr_10_1 hG) rfl dX4_becomeTurned_14 ?_
  refine am_iconst (v := 0) hz1 dX4_becomeTurned_17 (by decide) ?_
  refine am_bipush (v := 16) hz1 dX4_becomeTurned_18 (by decide) ?_
  refine am_copyI hz ml_X4_61 (ln_5 hG) (lk_5 hG) (ln_11 hG) (lk_11 hG) (by decide) (by decide) (by decide) (by rw [(ll_5 hG)]; decide) (by rw [(ll_11 hG)]; decide) rfl (Nat.le_of_ble_eq_true rfl) dX4_becomeTurned_20 ?_
  exact am_return hz dX4_becomeTurned_23 h
set_option maxRecDepth 100000 in
set_option maxHeartbeats 4000000 in
theorem c_X4_becomeTurned {l : Launch} {D : va_G} {B : Heap} {G : amG} {I : amI} {L : amL}  (hG : Lay G)   {n : Nat} (hn : I 3 0 = nI n) (h1 : 1 ≤ n) (h16 : n ≤ 16) : Mx l D B yX4_becomeTurned cX4_becomeTurned 2 none 2 0 0 [.ref (B.size + 10), .ref (B.size + 3)] G I L (fun r G1 I1 L1 => r = none ∧ G1 = G ∧ L1 = L ∧ ∃ f : Nat → Int32, I1 = dm I n f ∧ ∀ j, j < 16 → f j = I 5 j) := by
  refine Mx.of (by decide) rfl rfl (fun z e1 e2 e3 hz => ?_)
  subst e1; subst e2; subst e3
  refine b_X4_becomeTurned_0 hz hG ?_
  rw [hn, dm_b h1 h16, dm_s]
  refine ⟨rfl, rfl, rfl, _, rfl, fun j hj => ?_⟩
  rw [dm_o (by decide) (by decide)]
  rw [pk_cpy_in (by show (0 : Int32).toNatClampNeg ≤ j; exact Nat.zero_le j) (by show j < (0 : Int32).toNatClampNeg + (16 : Int32).toNatClampNeg; exact hj)]
  show I 5 (0 + (j - 0)) = I 5 j
  rw [Nat.zero_add, Nat.sub_zero]
theorem all_and {I : amI} {o n : Nat} {s : Int32} (hn : I o 0 = nI n) (h16 : n ≤ 16) (hs : ∀ i, i < 32 → bt s i = true → i < n) : s &&& q_all I o = s := by
  apply b_ext
  intro i hi
  rw [b_and, q_all, hn, b_all n h16 i hi]
  by_cases h : bt s i = true
  · simp [h, hs i hi h]
  · simp [h]
theorem mk_self {s : Int32} {n : Nat} (h16 : n ≤ 16) (hs : ∀ i, i < 32 → bt s i = true → i < n) : s = mkset (bt s) n :=
  mk_of (by omega) (fun i hi => by
    by_cases h : bt s i = true
    · simp [h, hs i hi h]
    · simp [h])
set_option maxRecDepth 100000 in
set_option maxHeartbeats 4000000 in
theorem b_X4_becomePart_0 {z : amZ} {post : amP} {G : amG} {I : amI} {L : amL} (hz : Go z cX4_becomePart RX4 5 none 2 0 0 post) (hG : Lay G) {v2 : Int32} (h : Wx z 0 0 18 [(0, .ref ((zB z).size + 10)), (1, .ref ((zB z).size + 3)), (2, .int v2), (3, .int 0), (4, .int 0)] [] G (q_begin I 10 (q_bc (v2 &&& (q_all I 3)))) L) : Wx z 0 0 0 [(0, .ref ((zB z).size + 10)), (1, .ref ((zB z).size + 3)), (2, .int v2)] [] G I L := by
  have hz1 := hz.1
  refine am_aload_n hz1 dX4_becomePart_0 0 rfl rfl ?_
  refine am_iload_n hz1 dX4_becomePart_1 2 rfl rfl ?_
  refine am_aload_n hz1 dX4_becomePart_2 1 rfl rfl ?_
  refine am_cVf hz cv_X4_67 [] [.int v2, .ref ((zB z).size + 10)] (c_X4_all hG isO_3  ) (ln_3 hG) (lk_3 hG) rfl rfl rfl ⟨Nat.le_refl _, Nat.le_refl _⟩ (Nat.le_of_ble_eq_true rfl) dX4_becomePart_3 ?_
  refine am_iand hz1 dX4_becomePart_6 ?_
  refine am_cSf hz ct_X4_71 [.int (v2 &&& (q_all I 3))] [.ref ((zB z).size + 10)] (c_J6_bitCount_0f7a4 hG (v2 &&& (q_all I 3)) ) rfl rfl rfl ⟨Nat.le_refl _, Nat.le_refl _⟩ (Nat.le_of_ble_eq_true rfl) dX4_becomePart_7 ?_
  refine am_cVf hz cv_X4_49 [.int (q_bc (v2 &&& (q_all I 3)))] [] (c_X4_begin hG isO_10 (q_bc (v2 &&& (q_all I 3))) ) (ln_10 hG) (lk_10 hG) rfl rfl rfl ⟨Nat.le_refl _, Nat.le_refl _⟩ (Nat.le_of_ble_eq_true rfl) dX4_becomePart_10 ?_
  refine am_iconst (v := 0) hz1 dX4_becomePart_13 (by decide) ?_
  refine am_istore_n (lv' := [(3, .int 0), (0, .ref ((zB z).size + 10)), (1, .ref ((zB z).size + 3)), (2, .int v2)]) hz1 dX4_becomePart_14 rfl rfl rfl ?_
  refine am_iconst (v := 0) hz1 dX4_becomePart_15 (by decide) ?_
  refine am_istore (lv' := [(4, .int 0), (3, .int 0), (0, .ref ((zB z).size + 10)), (1, .ref ((zB z).size + 3)), (2, .int v2)]) hz1 dX4_becomePart_16 rfl rfl ?_
  exact am_sub (lv' := [(0, .ref ((zB z).size + 10)), (1, .ref ((zB z).size + 3)), (2, .int v2), (3, .int 0), (4, .int 0)]) [2, 3, 4, 1, 0] rfl h
set_option maxRecDepth 100000 in
set_option maxHeartbeats 4000000 in
theorem b_X4_becomePart_18 {z : amZ} {post : amP} {G : amG} {I : amI} {L : amL} (hz : Go z cX4_becomePart RX4 5 none 2 0 0 post) (hG : Lay G) {v2 : Int32} {v3 : Int32} {v4 : Int32} (h : (((I 3 0) ≤ v4) → post none G I L) ∧ ((¬ (I 3 0) ≤ v4) → ((¬ ((v2 >>> (v4 &&& 31)) &&& (1 : Int32)) = (1 : Int32)) → Wx z 0 0 18 [(0, .ref ((zB z).size + 10)), (1, .ref ((zB z).size + 3)), (2, .int v2), (3, .int v3), (4, .int (v4 + 1))] [] G I L) ∧ ((((v2 >>> (v4 &&& 31)) &&& (1 : Int32)) = (1 : Int32)) → vp_in v4 16 ∧ (w16 (I 3 0)) ∧ vp_in v3 16 ∧ Wx z 0 0 18 [(0, .ref ((zB z).size + 10)), (1, .ref ((zB z).size + 3)), (2, .int v2), (3, .int (v3 + 1)), (4, .int (v4 + 1))] [] G (setI I 11 (upd (I 11) v3.toNatClampNeg (q_packed (I 4 v4.toNatClampNeg) v2 (I 3 0)))) L))) : Wx z 0 0 18 [(0, .ref ((zB z).size + 10)), (1, .ref ((zB z).size + 3)), (2, .int v2), (3, .int v3), (4, .int v4)] [] G I L := by
  have hz1 := hz.1
  refine am_iload hz1 dX4_becomePart_18 4 rfl ?_
  refine am_aload_n hz1 dX4_becomePart_20 1 rfl rfl ?_
  refine am_getI hz1 fl_X4_9 (ln_3 hG) (lk_3 hG) rfl dX4_becomePart_21 ?_
  refine am_icmp_ge (tgt := 67) hz1 dX4_becomePart_24 (by decide) (fun c1 => ?_) (fun c1 => ?_)
  · replace h := h.1 c1
    exact am_return hz dX4_becomePart_67 h
  · replace h := h.2 c1
    refine am_iload_n hz1 dX4_becomePart_27 2 rfl rfl ?_
    refine am_iload hz1 dX4_becomePart_28 4 rfl ?_
    refine am_ishr hz1 dX4_becomePart_30 ?_
    refine am_iconst (v := 1) hz1 dX4_becomePart_31 (by decide) ?_
    refine am_iand hz1 dX4_becomePart_32 ?_
    refine am_iconst (v := 1) hz1 dX4_becomePart_33 (by decide) ?_
    refine am_icmp_ne (tgt := 61) hz1 dX4_becomePart_34 (by decide) (fun c2 => ?_) (fun c2 => ?_)
    · replace h := h.1 c2
      refine am_iinc (v := v4 + 1) (lv' := [(4, .int (v4 + 1)), (0, .ref ((zB z).size + 10)), (1, .ref ((zB z).size + 3)), (2, .int v2), (3, .int v3)]) hz1 dX4_becomePart_61 4 rfl rfl rfl rfl ?_
      refine am_goto (tgt := 18) hz1 dX4_becomePart_64 (by decide) ?_
      exact am_sub (lv' := [(0, .ref ((zB z).size + 10)), (1, .ref ((zB z).size + 3)), (2, .int v2), (3, .int v3), (4, .int (v4 + 1))]) [1, 2, 3, 4, 0] rfl h
    · replace h := h.2 c2
      refine am_aload_n hz1 dX4_becomePart_37 0 rfl rfl ?_
      refine am_getR hz1 fl_X4_15 (ln_10 hG) (lk_10 hG) (lr_10_1 hG) rfl dX4_becomePart_38 ?_
      refine am_iload_n hz1 dX4_becomePart_41 3 rfl rfl ?_
      refine am_aload_n hz1 dX4_becomePart_42 1 rfl rfl ?_
      refine am_getR hz1 fl_X4_15 (ln_3 hG) (lk_3 hG) (lr_3_1 hG) rfl dX4_becomePart_43 ?_
      refine am_iload hz1 dX4_becomePart_46 4 rfl ?_
      obtain ⟨g3, h⟩ := h
      refine am_iald hz1 (ln_4 hG) (lk_4 hG) (by rw [(ll_4 hG)]; exact g3) dX4_becomePart_48 ?_
      refine am_iload_n hz1 dX4_becomePart_49 2 rfl rfl ?_
      refine am_aload_n hz1 dX4_becomePart_50 1 rfl rfl ?_
      refine am_getI hz1 fl_X4_9 (ln_3 hG) (lk_3 hG) rfl dX4_becomePart_51 ?_
      obtain ⟨g4, h⟩ := h
      refine am_cSf hz ct_X4_76 [.int (I 4 v4.toNatClampNeg), .int v2, .int (I 3 0)] [.int v3, .ref ((zB z).size + 11)] (c_X4_packed hG (I 4 v4.toNatClampNeg) v2 (I 3 0) g4) rfl rfl rfl ⟨Nat.le_refl _, Nat.le_refl _⟩ (Nat.le_of_ble_eq_true rfl) dX4_becomePart_54 ?_
      obtain ⟨g5, h⟩ := h
      refine am_iast hz1 (ln_11 hG) (lk_11 hG) (by rw [(ll_11 hG)]; exact g5) dX4_becomePart_57 ?_
      refine am_iinc (v := v3 + 1) (lv' := [(3, .int (v3 + 1)), (0, .ref ((zB z).size + 10)), (1, .ref ((zB z).size + 3)), (2, .int v2), (4, .int v4)]) hz1 dX4_becomePart_58 3 rfl rfl rfl rfl ?_
      refine am_iinc (v := v4 + 1) (lv' := [(4, .int (v4 + 1)), (3, .int (v3 + 1)), (0, .ref ((zB z).size + 10)), (1, .ref ((zB z).size + 3)), (2, .int v2)]) hz1 dX4_becomePart_61 4 rfl rfl rfl rfl ?_
      refine am_goto (tgt := 18) hz1 dX4_becomePart_64 (by decide) ?_
      exact am_sub (lv' := [(0, .ref ((zB z).size + 10)), (1, .ref ((zB z).size + 3)), (2, .int v2), (3, .int (v3 + 1)), (4, .int (v4 + 1))]) [2, 3, 4, 1, 0] rfl h
set_option maxRecDepth 100000 in
set_option maxHeartbeats 4000000 in
theorem c_X4_becomePart {l : Launch} {D : va_G} {B : Heap} {G : amG} {I : amI} {L : amL}  (hG : Lay G)  (v2 : Int32) {n : Nat} (hn : I 3 0 = nI n) (h16 : n ≤ 16) (hs : ∀ i, i < 32 → bt v2 i = true → i < n) (hm : 1 ≤ ct (bt v2) n) : Mx l D B yX4_becomePart cX4_becomePart 5 none 2 0 0 [.ref (B.size + 10), .ref (B.size + 3), .int v2] G I L (fun r G1 I1 L1 => r = none ∧ G1 = G ∧ L1 = L ∧ ∃ f : Nat → Int32, I1 = dm I (ct (bt v2) n) f ∧ (∀ x, x < n → bt v2 x = true → f (ct (bt v2) x) = pkv (I 4 x) v2 n) ∧ ∀ j, ct (bt v2) n ≤ j → j < 16 → f j = 0) := by
  refine Mx.of (by decide) rfl rfl (fun z e1 e2 e3 hz => ?_)
  subst e1; subst e2; subst e3
  refine b_X4_becomePart_0 hz hG ?_
  have hcn : ct (bt v2) n ≤ n := ct_le _ _
  have hbc : q_bc (v2 &&& q_all I 3) = nI (ct (bt v2) n) := by
    rw [all_and hn h16 hs]
    conv => lhs; rw [mk_self h16 hs]
    exact bc_mk h16
  rw [hbc, dm_b hm (by omega)]
  have main : ∀ f : Nat → Int32, ((∀ x, x < 0 → bt v2 x = true → f (ct (bt v2) x) = pkv (I 4 x) v2 n) ∧ ∀ j, ct (bt v2) 0 ≤ j → j < 16 → f j = 0) → Wx z 0 0 18 [(0, .ref ((zB z).size + 10)), (1, .ref ((zB z).size + 3)), (2, .int v2), (3, .int (nI (ct (bt v2) 0))), (4, .int (nI 0))] [] G (dm I (ct (bt v2) n) f) L := by
    refine for_up (P := fun i => ∀ f : Nat → Int32, ((∀ x, x < i → bt v2 x = true → f (ct (bt v2) x) = pkv (I 4 x) v2 n) ∧ ∀ j, ct (bt v2) i ≤ j → j < 16 → f j = 0) → Wx z 0 0 18 [(0, .ref ((zB z).size + 10)), (1, .ref ((zB z).size + 3)), (2, .int v2), (3, .int (nI (ct (bt v2) i))), (4, .int (nI i))] [] G (dm I (ct (bt v2) n) f) L) (n := n) ?_ ?_ (Nat.zero_le n)
    · intro f hf
      have h3 : dm I (ct (bt v2) n) f 3 0 = nI n := by rw [dm_o (by decide) (by decide), hn]
      exact b_X4_becomePart_18 hz hG ⟨fun _ => ⟨rfl, rfl, rfl, f, rfl, hf.1, hf.2⟩, fun h => absurd (sz_le h3 h16) h⟩
    · intro i hi ih f hf
      have h3 : dm I (ct (bt v2) n) f 3 0 = nI n := by rw [dm_o (by decide) (by decide), hn]
      refine b_X4_becomePart_18 hz hG ⟨fun h => absurd h (sz_ge h3 h16 hi), fun _ => ⟨fun h => ?_, fun h => ⟨in16 h16 hi, ⟨n, h16, h3⟩, ?_, ?_⟩⟩⟩
      · have hb := (b_bit0 v2 i (by omega)).mp h
        have := ih f (by
          rw [ct, if_neg (by rw [hb]; decide), Nat.add_zero]
          exact ⟨fun x hx hbx => hf.1 x (by
            have : x ≠ i := fun e => by rw [e, hb] at hbx; cases hbx
            omega) hbx, hf.2⟩)
        rw [ct, if_neg (by rw [hb]; decide), Nat.add_zero] at this
        rw [nI_1]
        exact this
      · have hb := (b_bit v2 i (by omega)).mp h
        have := ct_lt hi hb
        exact in_nI (by omega) (by decide)
      · have hb := (b_bit v2 i (by omega)).mp h
        have hlt := ct_lt hi hb
        rw [dm_o (q := 4) (by decide) (by decide), h3, dm_11, dm_s, q_packed, cl_nI (n := i) (by omega), cl_nI (n := n) (by omega), cl_nI (n := ct (bt v2) i) (by omega), nI_1, nI_1]
        have := ih (upd f (ct (bt v2) i) (pkv (I 4 i) v2 n)) (by
          rw [ct, if_pos hb]
          refine ⟨fun x hx hbx => ?_, fun j h1 h2 => ?_⟩
          · by_cases e : x = i
            · subst e; rw [upd_s]
            · have := ct_lt (show x < i by omega) hbx
              rw [upd_n (by omega)]
              exact hf.1 x (by omega) hbx
          · rw [upd_n (by omega)]
            exact hf.2 j (by omega) h2)
        rw [ct, if_pos hb] at this
        exact this
  exact main _ ⟨fun x hx => absurd hx (Nat.not_lt_zero _), fun j _ hj => fill16 hj⟩
set_option maxRecDepth 100000 in
set_option maxHeartbeats 4000000 in
theorem b_X4_becomeBoth_0 {z : amZ} {post : amP} {G : amG} {I : amI} {L : amL} (hz : Go z cX4_becomeBoth RX4 6 none 2 0 0 post) (hG : Lay G) {r : Nat} (hr : isO r) {v3 : Int32} (h : ((v3 = 0) → Wx z 0 0 35 [(0, .ref ((zB z).size + 10)), (1, .ref ((zB z).size + 3)), (2, .ref ((zB z).size + r)), (4, .int 0), (5, .int 0)] [] G (q_begin I 10 ((I 3 0) + (I r 0))) L) ∧ ((¬ v3 = 0) → Wx z 0 0 35 [(0, .ref ((zB z).size + 10)), (1, .ref ((zB z).size + 3)), (2, .ref ((zB z).size + r)), (4, .int ((q_all (q_begin I 10 ((I 3 0) + (I r 0))) r) <<< (((q_begin I 10 ((I 3 0) + (I r 0))) 3 0) &&& 31))), (5, .int 0)] [] G (q_begin I 10 ((I 3 0) + (I r 0))) L)) : Wx z 0 0 0 [(0, .ref ((zB z).size + 10)), (1, .ref ((zB z).size + 3)), (2, .ref ((zB z).size + r)), (3, .int v3)] [] G I L := by
  have hz1 := hz.1
  refine am_aload_n hz1 dX4_becomeBoth_0 0 rfl rfl ?_
  refine am_aload_n hz1 dX4_becomeBoth_1 1 rfl rfl ?_
  refine am_getI hz1 fl_X4_9 (ln_3 hG) (lk_3 hG) rfl dX4_becomeBoth_2 ?_
  refine am_aload_n hz1 dX4_becomeBoth_5 2 rfl rfl ?_
  refine am_getI hz1 fl_X4_9 (oN hG hr) (oK hG hr) rfl dX4_becomeBoth_6 ?_
  refine am_iadd hz1 dX4_becomeBoth_9 ?_
  refine am_cVf hz cv_X4_49 [.int ((I 3 0) + (I r 0))] [] (c_X4_begin hG isO_10 ((I 3 0) + (I r 0)) ) (ln_10 hG) (lk_10 hG) rfl rfl rfl ⟨Nat.le_refl _, Nat.le_refl _⟩ (Nat.le_of_ble_eq_true rfl) dX4_becomeBoth_10 ?_
  refine am_iload_n hz1 dX4_becomeBoth_13 3 rfl rfl ?_
  refine am_if_eq (tgt := 29) hz1 dX4_becomeBoth_14 (by decide) (fun c1 => ?_) (fun c1 => ?_)
  · replace h := h.1 c1
    refine am_iconst (v := 0) hz1 dX4_becomeBoth_29 (by decide) ?_
    refine am_istore (lv' := [(4, .int 0), (0, .ref ((zB z).size + 10)), (1, .ref ((zB z).size + 3)), (2, .ref ((zB z).size + r)), (3, .int v3)]) hz1 dX4_becomeBoth_30 rfl rfl ?_
    refine am_iconst (v := 0) hz1 dX4_becomeBoth_32 (by decide) ?_
    refine am_istore (lv' := [(5, .int 0), (4, .int 0), (0, .ref ((zB z).size + 10)), (1, .ref ((zB z).size + 3)), (2, .ref ((zB z).size + r)), (3, .int v3)]) hz1 dX4_becomeBoth_33 rfl rfl ?_
    exact am_sub (lv' := [(0, .ref ((zB z).size + 10)), (1, .ref ((zB z).size + 3)), (2, .ref ((zB z).size + r)), (4, .int 0), (5, .int 0)]) [2, 3, 4, 1, 0] rfl h
  · replace h := h.2 c1
    refine am_aload_n hz1 dX4_becomeBoth_17 2 rfl rfl ?_
    refine am_cVf hz cv_X4_67 [] [] (c_X4_all hG hr  ) (oN hG hr) (oK hG hr) rfl rfl rfl ⟨Nat.le_refl _, Nat.le_refl _⟩ (Nat.le_of_ble_eq_true rfl) dX4_becomeBoth_18 ?_
    refine am_aload_n hz1 dX4_becomeBoth_21 1 rfl rfl ?_
    refine am_getI hz1 fl_X4_9 (ln_3 hG) (lk_3 hG) rfl dX4_becomeBoth_22 ?_
    refine am_ishl hz1 dX4_becomeBoth_25 ?_
    refine am_goto (tgt := 30) hz1 dX4_becomeBoth_26 (by decide) ?_
    refine am_istore (lv' := [(4, .int ((q_all (q_begin I 10 ((I 3 0) + (I r 0))) r) <<< (((q_begin I 10 ((I 3 0) + (I r 0))) 3 0) &&& 31))), (0, .ref ((zB z).size + 10)), (1, .ref ((zB z).size + 3)), (2, .ref ((zB z).size + r)), (3, .int v3)]) hz1 dX4_becomeBoth_30 rfl rfl ?_
    refine am_iconst (v := 0) hz1 dX4_becomeBoth_32 (by decide) ?_
    refine am_istore (lv' := [(5, .int 0), (4, .int ((q_all (q_begin I 10 ((I 3 0) + (I r 0))) r) <<< (((q_begin I 10 ((I 3 0) + (I r 0))) 3 0) &&& 31))), (0, .ref ((zB z).size + 10)), (1, .ref ((zB z).size + 3)), (2, .ref ((zB z).size + r)), (3, .int v3)]) hz1 dX4_becomeBoth_33 rfl rfl ?_
    exact am_sub (lv' := [(0, .ref ((zB z).size + 10)), (1, .ref ((zB z).size + 3)), (2, .ref ((zB z).size + r)), (4, .int ((q_all (q_begin I 10 ((I 3 0) + (I r 0))) r) <<< (((q_begin I 10 ((I 3 0) + (I r 0))) 3 0) &&& 31))), (5, .int 0)]) [2, 3, 4, 1, 0] rfl h
set_option maxRecDepth 100000 in
set_option maxHeartbeats 4000000 in
theorem b_X4_becomeBoth_35 {z : amZ} {post : amP} {G : amG} {I : amI} {L : amL} (hz : Go z cX4_becomeBoth RX4 6 none 2 0 0 post) (hG : Lay G) {r : Nat} (hr : isO r) {v4 : Int32} {v5 : Int32} (h : (((I 3 0) ≤ v5) → Wx z 0 0 70 [(0, .ref ((zB z).size + 10)), (1, .ref ((zB z).size + 3)), (2, .ref ((zB z).size + r)), (5, .int 0)] [] G I L) ∧ ((¬ (I 3 0) ≤ v5) → vp_in v5 16 ∧ vp_in v5 16 ∧ Wx z 0 0 35 [(0, .ref ((zB z).size + 10)), (1, .ref ((zB z).size + 3)), (2, .ref ((zB z).size + r)), (4, .int v4), (5, .int (v5 + 1))] [] G (setI I 11 (upd (I 11) v5.toNatClampNeg ((I 4 v5.toNatClampNeg) ||| v4))) L)) : Wx z 0 0 35 [(0, .ref ((zB z).size + 10)), (1, .ref ((zB z).size + 3)), (2, .ref ((zB z).size + r)), (4, .int v4), (5, .int v5)] [] G I L := by
  have hz1 := hz.1
  refine am_iload hz1 dX4_becomeBoth_35 4 rfl ?_
  refine am_aload_n hz1 dX4_becomeBoth_37 1 rfl rfl ?_
  refine am_getI hz1 fl_X4_9 (ln_3 hG) (lk_3 hG) rfl dX4_becomeBoth_38 ?_
  refine am_icmp_ge (tgt := 67) hz1 dX4_becomeBoth_41 (by decide) (fun c1 => ?_) (fun c1 => ?_)
  · replace h := h.1 c1
    refine am_iconst (v := 0) hz1 dX4_becomeBoth_67 (by decide) ?_
    refine am_istore (lv' := [(5, .int 0), (0, .ref ((zB z).size + 10)), (1, .ref ((zB z).size + 3)), (2, .ref ((zB z).size + r)), (4, .int v4)]) hz1 dX4_becomeBoth_68 rfl rfl ?_
    exact am_sub (lv' := [(0, .ref ((zB z).size + 10)), (1, .ref ((zB z).size + 3)), (2, .ref ((zB z).size + r)), (5, .int 0)]) [1, 2, 3, 0] rfl h
  · replace h := h.2 c1
    refine am_aload_n hz1 dX4_becomeBoth_44 0 rfl rfl ?_
    refine am_getR hz1 fl_X4_15 (ln_10 hG) (lk_10 hG) (lr_10_1 hG) rfl dX4_becomeBoth_45 ?_
    refine am_iload hz1 dX4_becomeBoth_48 4 rfl ?_
    refine am_aload_n hz1 dX4_becomeBoth_50 1 rfl rfl ?_
    refine am_getR hz1 fl_X4_15 (ln_3 hG) (lk_3 hG) (lr_3_1 hG) rfl dX4_becomeBoth_51 ?_
    refine am_iload hz1 dX4_becomeBoth_54 4 rfl ?_
    obtain ⟨g2, h⟩ := h
    refine am_iald hz1 (ln_4 hG) (lk_4 hG) (by rw [(ll_4 hG)]; exact g2) dX4_becomeBoth_56 ?_
    refine am_iload hz1 dX4_becomeBoth_57 3 rfl ?_
    refine am_ior hz1 dX4_becomeBoth_59 ?_
    obtain ⟨g3, h⟩ := h
    refine am_iast hz1 (ln_11 hG) (lk_11 hG) (by rw [(ll_11 hG)]; exact g3) dX4_becomeBoth_60 ?_
    refine am_iinc (v := v5 + 1) (lv' := [(5, .int (v5 + 1)), (0, .ref ((zB z).size + 10)), (1, .ref ((zB z).size + 3)), (2, .ref ((zB z).size + r)), (4, .int v4)]) hz1 dX4_becomeBoth_61 4 rfl rfl rfl rfl ?_
    refine am_goto (tgt := 35) hz1 dX4_becomeBoth_64 (by decide) ?_
    exact am_sub (lv' := [(0, .ref ((zB z).size + 10)), (1, .ref ((zB z).size + 3)), (2, .ref ((zB z).size + r)), (4, .int v4), (5, .int (v5 + 1))]) [1, 2, 3, 4, 0] rfl h
set_option maxRecDepth 100000 in
set_option maxHeartbeats 4000000 in
theorem b_X4_becomeBoth_70 {z : amZ} {post : amP} {G : amG} {I : amI} {L : amL} (hz : Go z cX4_becomeBoth RX4 6 none 2 0 0 post) (hG : Lay G) {r : Nat} (hr : isO r) {v5 : Int32} (h : (((I r 0) ≤ v5) → post none G I L) ∧ ((¬ (I r 0) ≤ v5) → (((16 : Int32) ≤ ((I 3 0) + v5)) → post none G I L) ∧ ((¬ (16 : Int32) ≤ ((I 3 0) + v5)) → vp_in v5 16 ∧ vp_in ((I 3 0) + v5) 16 ∧ Wx z 0 0 70 [(0, .ref ((zB z).size + 10)), (1, .ref ((zB z).size + 3)), (2, .ref ((zB z).size + r)), (5, .int (v5 + 1))] [] G (setI I 11 (upd (I 11) ((I 3 0) + v5).toNatClampNeg ((I (r + 1) v5.toNatClampNeg) <<< ((I 3 0) &&& 31)))) L))) : Wx z 0 0 70 [(0, .ref ((zB z).size + 10)), (1, .ref ((zB z).size + 3)), (2, .ref ((zB z).size + r)), (5, .int v5)] [] G I L := by
  have hz1 := hz.1
  refine am_iload hz1 dX4_becomeBoth_70 3 rfl ?_
  refine am_aload_n hz1 dX4_becomeBoth_72 2 rfl rfl ?_
  refine am_getI hz1 fl_X4_9 (oN hG hr) (oK hG hr) rfl dX4_becomeBoth_73 ?_
  refine am_icmp_ge (tgt := 121) hz1 dX4_becomeBoth_76 (by decide) (fun c1 => ?_) (fun c1 => ?_)
  · replace h := h.1 c1
    exact am_return hz dX4_becomeBoth_121 h
  · replace h := h.2 c1
    refine am_aload_n hz1 dX4_becomeBoth_79 1 rfl rfl ?_
    refine am_getI hz1 fl_X4_9 (ln_3 hG) (lk_3 hG) rfl dX4_becomeBoth_80 ?_
    refine am_iload hz1 dX4_becomeBoth_83 3 rfl ?_
    refine am_iadd hz1 dX4_becomeBoth_85 ?_
    refine am_bipush (v := 16) hz1 dX4_becomeBoth_86 (by decide) ?_
    refine am_icmp_ge (tgt := 121) hz1 dX4_becomeBoth_88 (by decide) (fun c2 => ?_) (fun c2 => ?_)
    · replace h := h.1 c2
      exact am_return hz dX4_becomeBoth_121 h
    · replace h := h.2 c2
      refine am_aload_n hz1 dX4_becomeBoth_91 0 rfl rfl ?_
      refine am_getR hz1 fl_X4_15 (ln_10 hG) (lk_10 hG) (lr_10_1 hG) rfl dX4_becomeBoth_92 ?_
      refine am_aload_n hz1 dX4_becomeBoth_95 1 rfl rfl ?_
      refine am_getI hz1 fl_X4_9 (ln_3 hG) (lk_3 hG) rfl dX4_becomeBoth_96 ?_
      refine am_iload hz1 dX4_becomeBoth_99 3 rfl ?_
      refine am_iadd hz1 dX4_becomeBoth_101 ?_
      refine am_aload_n hz1 dX4_becomeBoth_102 2 rfl rfl ?_
      refine am_getR hz1 fl_X4_15 (oN hG hr) (oK hG hr) (oR1 hG hr) rfl dX4_becomeBoth_103 ?_
      refine am_iload hz1 dX4_becomeBoth_106 3 rfl ?_
      obtain ⟨g3, h⟩ := h
      refine am_iald hz1 (oN1 hG hr) (oK1 hG hr) (by rw [(oL1 hG hr)]; exact g3) dX4_becomeBoth_108 ?_
      refine am_aload_n hz1 dX4_becomeBoth_109 1 rfl rfl ?_
      refine am_getI hz1 fl_X4_9 (ln_3 hG) (lk_3 hG) rfl dX4_becomeBoth_110 ?_
      refine am_ishl hz1 dX4_becomeBoth_113 ?_
      obtain ⟨g4, h⟩ := h
      refine am_iast hz1 (ln_11 hG) (lk_11 hG) (by rw [(ll_11 hG)]; exact g4) dX4_becomeBoth_114 ?_
      refine am_iinc (v := v5 + 1) (lv' := [(5, .int (v5 + 1)), (0, .ref ((zB z).size + 10)), (1, .ref ((zB z).size + 3)), (2, .ref ((zB z).size + r))]) hz1 dX4_becomeBoth_115 3 rfl rfl rfl rfl ?_
      refine am_goto (tgt := 70) hz1 dX4_becomeBoth_118 (by decide) ?_
      exact am_sub (lv' := [(0, .ref ((zB z).size + 10)), (1, .ref ((zB z).size + 3)), (2, .ref ((zB z).size + r)), (5, .int (v5 + 1))]) [1, 2, 3, 0] rfl h
set_option maxRecDepth 100000 in
set_option maxHeartbeats 4000000 in
theorem c_X4_becomeBoth {l : Launch} {D : va_G} {B : Heap} {G : amG} {I : amI} {L : amL} {r : Nat} (hG : Lay G) (hr : isO r) (v3 : Int32) {n k : Nat} (hr2 : r = 20 ∨ r = 27) (hn : I 3 0 = nI n) (hk : I r 0 = nI k) (h1 : 1 ≤ n) (h16 : n + k ≤ 16) : Mx l D B yX4_becomeBoth cX4_becomeBoth 6 none 2 0 0 [.ref (B.size + 10), .ref (B.size + 3), .ref (B.size + r), .int v3] G I L (fun r' G1 I1 L1 => r' = none ∧ G1 = G ∧ L1 = L ∧ ∃ f : Nat → Int32, I1 = dm I (n + k) f ∧ (∀ j, j < n → f j = I 4 j ||| (if v3 = 0 then 0 else q_all I r <<< (nI n &&& 31))) ∧ (∀ j, j < k → f (n + j) = I (r + 1) j <<< (nI n &&& 31)) ∧ ∀ j, n + k ≤ j → j < 16 → f j = 0) := by
  refine Mx.of (by decide) rfl rfl (fun z e1 e2 e3 hz => ?_)
  subst e1; subst e2; subst e3
  refine b_X4_becomeBoth_0 hz hG hr ?_
  have r10 : r ≠ 10 ∧ r ≠ 11 ∧ r + 1 ≠ 10 ∧ r + 1 ≠ 11 := by rcases hr2 with e | e <;> omega
  rw [hn, hk, nI_add, dm_b (by omega) h16]
  have h3 : ∀ f : Nat → Int32, dm I (n + k) f 3 0 = nI n := fun f => by rw [dm_o (by decide) (by decide), hn]
  have hrr : ∀ f : Nat → Int32, dm I (n + k) f r 0 = nI k := fun f => by rw [dm_o r10.1 r10.2.1, hk]
  have hall : ∀ f : Nat → Int32, q_all (dm I (n + k) f) r = q_all I r := fun f => by rw [q_all, q_all, hrr, hk]
  have second : ∀ w : Int32, ∀ f : Nat → Int32, ((∀ j, j < n → f j = I 4 j ||| w) ∧ (∀ j, j < 0 → f (n + j) = I (r + 1) j <<< (nI n &&& 31)) ∧ ∀ j, n + 0 ≤ j → j < 16 → f j = 0) → (w = if v3 = 0 then 0 else q_all I r <<< (nI n &&& 31)) → Wx z 0 0 70 [(0, .ref ((zB z).size + 10)), (1, .ref ((zB z).size + 3)), (2, .ref ((zB z).size + r)), (5, .int (nI 0))] [] G (dm I (n + k) f) L := by
    intro w
    refine for_up (P := fun i => ∀ f : Nat → Int32, ((∀ j, j < n → f j = I 4 j ||| w) ∧ (∀ j, j < i → f (n + j) = I (r + 1) j <<< (nI n &&& 31)) ∧ ∀ j, n + i ≤ j → j < 16 → f j = 0) → (w = if v3 = 0 then 0 else q_all I r <<< (nI n &&& 31)) → Wx z 0 0 70 [(0, .ref ((zB z).size + 10)), (1, .ref ((zB z).size + 3)), (2, .ref ((zB z).size + r)), (5, .int (nI i))] [] G (dm I (n + k) f) L) (n := k) ?_ ?_ (Nat.zero_le k)
    · intro f hf hw
      exact b_X4_becomeBoth_70 hz hG hr ⟨fun _ => ⟨rfl, rfl, rfl, f, rfl, by rw [← hw]; exact hf.1, hf.2.1, hf.2.2⟩, fun h => absurd (sz_le (hrr f) (by omega)) h⟩
    · intro i hi ih f hf hw
      refine b_X4_becomeBoth_70 hz hG hr ⟨fun h => absurd h (sz_ge (hrr f) (by omega) hi), fun _ => ?_⟩
      rw [h3, nI_add, dm_11, dm_s, dm_o r10.2.2.1 r10.2.2.2, cl_nI (n := i) (by omega), cl_nI (n := n + i) (by omega), nI_1]
      refine ⟨fun h => absurd h (no16 h16 (show n + i < n + k by omega)), fun _ => ⟨in_nI (by omega) (by decide), in_nI (by omega) (by decide), ?_⟩⟩
      refine ih _ ⟨fun j hj => ?_, fun j hj => ?_, fun j g1 g2 => ?_⟩ hw
      · rw [upd_n (by omega)]; exact hf.1 j hj
      · by_cases e : j = i
        · subst e; rw [upd_s]
        · rw [upd_n (by omega)]; exact hf.2.1 j (by omega)
      · rw [upd_n (by omega)]; exact hf.2.2 j (by omega) g2
  have first : ∀ w : Int32, (w = if v3 = 0 then 0 else q_all I r <<< (nI n &&& 31)) → ∀ f : Nat → Int32, ((∀ j, j < 0 → f j = I 4 j ||| w) ∧ ∀ j, 0 ≤ j → j < 16 → f j = 0) → Wx z 0 0 35 [(0, .ref ((zB z).size + 10)), (1, .ref ((zB z).size + 3)), (2, .ref ((zB z).size + r)), (4, .int w), (5, .int (nI 0))] [] G (dm I (n + k) f) L := by
    intro w hw
    refine for_up (P := fun i => ∀ f : Nat → Int32, ((∀ j, j < i → f j = I 4 j ||| w) ∧ ∀ j, i ≤ j → j < 16 → f j = 0) → Wx z 0 0 35 [(0, .ref ((zB z).size + 10)), (1, .ref ((zB z).size + 3)), (2, .ref ((zB z).size + r)), (4, .int w), (5, .int (nI i))] [] G (dm I (n + k) f) L) (n := n) ?_ ?_ (Nat.zero_le n)
    · intro f hf
      exact b_X4_becomeBoth_35 hz hG hr ⟨fun _ => second w f ⟨hf.1, fun j hj => absurd hj (Nat.not_lt_zero _), hf.2⟩ hw, fun h => absurd (sz_le (h3 f) (by omega)) h⟩
    · intro i hi ih f hf
      refine b_X4_becomeBoth_35 hz hG hr ⟨fun h => absurd h (sz_ge (h3 f) (by omega) hi), fun _ => ⟨in_nI (by omega) (by decide), in_nI (by omega) (by decide), ?_⟩⟩
      rw [dm_11, dm_s, dm_o (q := 4) (by decide) (by decide), cl_nI (by omega), nI_1]
      refine ih _ ⟨fun j hj => ?_, fun j g1 g2 => ?_⟩
      · by_cases e : j = i
        · subst e; rw [upd_s]
        · rw [upd_n (by omega)]; exact hf.1 j (by omega)
      · rw [upd_n (by omega)]; exact hf.2 j (by omega) g2
  refine ⟨fun h => ?_, fun h => ?_⟩
  · exact first 0 (by rw [if_pos h]) _ ⟨fun j hj => absurd hj (Nat.not_lt_zero _), fun j _ hj => fill16 hj⟩
  · rw [h3, hall]
    exact first _ (by rw [if_neg h]) _ ⟨fun j hj => absurd hj (Nat.not_lt_zero _), fun j _ hj => fill16 hj⟩
def pfv (I : amI) (r : Nat) (x y : Int32) : Nat → Int32
  | 0 => 0
  | w + 1 => if q_atMost I 3 x (nI w) = true then pfv I r x y w ||| (q_from I r y <<< ((nI w * I r 0) &&& 31)) else pfv I r x y w
def q_pf (I : amI) (r : Nat) (x y : Int32) : Int32 := pfv I r x y (sz I 3)
theorem pfv_c {I1 I2 : amI} {r : Nat} {x y : Int32} (h3 : I2 3 = I1 3) (h4 : I2 4 = I1 4) (hr : I2 r = I1 r) (hr1 : I2 (r + 1) = I1 (r + 1)) : ∀ w, pfv I2 r x y w = pfv I1 r x y w
  | 0 => rfl
  | w + 1 => by
    have e : q_atMost I2 3 x (nI w) = q_atMost I1 3 x (nI w) := by simp only [q_atMost, q_isBelow, q_has, h3, h4]
    have e2 : q_from I2 r y = q_from I1 r y := by unfold q_from q_has; rw [hr, hr1]
    rw [pfv, pfv, pfv_c h3 h4 hr hr1 w, e, e2, hr]
theorem pf_c {I1 I2 : amI} {r : Nat} {x y : Int32} (h3 : I2 3 = I1 3) (h4 : I2 4 = I1 4) (hr : I2 r = I1 r) (hr1 : I2 (r + 1) = I1 (r + 1)) : q_pf I2 r x y = q_pf I1 r x y := by
  rw [q_pf, q_pf, pfv_c h3 h4 hr hr1, sz_c (by rw [h3])]
set_option maxRecDepth 100000 in
set_option maxHeartbeats 4000000 in
theorem b_X4_pairsFrom_0 {z : amZ} {post : amP} {G : amG} {I : amI} {L : amL} (hz : Go z cX4_pairsFrom RX4 6 (some .int) 3 0 0 post) (hG : Lay G) {r : Nat} (hr : isO r) {v2 : Int32} {v3 : Int32} (h : Wx z 0 0 6 [(0, .ref ((zB z).size + 3)), (1, .ref ((zB z).size + r)), (2, .int v2), (3, .int v3), (4, .int 0), (5, .int 0)] [] G I L) : Wx z 0 0 0 [(0, .ref ((zB z).size + 3)), (1, .ref ((zB z).size + r)), (2, .int v2), (3, .int v3)] [] G I L := by
  have hz1 := hz.1
  refine am_iconst (v := 0) hz1 dX4_pairsFrom_0 (by decide) ?_
  refine am_istore (lv' := [(4, .int 0), (0, .ref ((zB z).size + 3)), (1, .ref ((zB z).size + r)), (2, .int v2), (3, .int v3)]) hz1 dX4_pairsFrom_1 rfl rfl ?_
  refine am_iconst (v := 0) hz1 dX4_pairsFrom_3 (by decide) ?_
  refine am_istore (lv' := [(5, .int 0), (4, .int 0), (0, .ref ((zB z).size + 3)), (1, .ref ((zB z).size + r)), (2, .int v2), (3, .int v3)]) hz1 dX4_pairsFrom_4 rfl rfl ?_
  exact am_sub (lv' := [(0, .ref ((zB z).size + 3)), (1, .ref ((zB z).size + r)), (2, .int v2), (3, .int v3), (4, .int 0), (5, .int 0)]) [2, 3, 4, 5, 1, 0] rfl h
set_option maxRecDepth 100000 in
set_option maxHeartbeats 4000000 in
theorem b_X4_pairsFrom_6 {z : amZ} {post : amP} {G : amG} {I : amI} {L : amL} (hz : Go z cX4_pairsFrom RX4 6 (some .int) 3 0 0 post) (hG : Lay G) {r : Nat} (hr : isO r) {v2 : Int32} {v3 : Int32} {v4 : Int32} {v5 : Int32} (h : (((I 3 0) ≤ v5) → post (some (.int v4)) G I L) ∧ ((¬ (I 3 0) ≤ v5) → (szOk I 3) ∧ ((q_atMost I 3 v2 v5 = false) → Wx z 0 0 6 [(0, .ref ((zB z).size + 3)), (1, .ref ((zB z).size + r)), (2, .int v2), (3, .int v3), (4, .int v4), (5, .int (v5 + 1))] [] G I L) ∧ ((q_atMost I 3 v2 v5 = true) → (szOk I r) ∧ Wx z 0 0 6 [(0, .ref ((zB z).size + 3)), (1, .ref ((zB z).size + r)), (2, .int v2), (3, .int v3), (4, .int (v4 ||| ((q_from I r v3) <<< ((v5 * (I r 0)) &&& 31)))), (5, .int (v5 + 1))] [] G I L))) : Wx z 0 0 6 [(0, .ref ((zB z).size + 3)), (1, .ref ((zB z).size + r)), (2, .int v2), (3, .int v3), (4, .int v4), (5, .int v5)] [] G I L := by
  have hz1 := hz.1
  refine am_iload hz1 dX4_pairsFrom_6 5 rfl ?_
  refine am_aload_n hz1 dX4_pairsFrom_8 0 rfl rfl ?_
  refine am_getI hz1 fl_X4_9 (ln_3 hG) (lk_3 hG) rfl dX4_pairsFrom_9 ?_
  refine am_icmp_ge (tgt := 49) hz1 dX4_pairsFrom_12 (by decide) (fun c1 => ?_) (fun c1 => ?_)
  · replace h := h.1 c1
    refine am_iload hz1 dX4_pairsFrom_49 4 rfl ?_
    exact am_ireturn hz dX4_pairsFrom_51 h
  · replace h := h.2 c1
    refine am_aload_n hz1 dX4_pairsFrom_15 0 rfl rfl ?_
    refine am_iload_n hz1 dX4_pairsFrom_16 2 rfl rfl ?_
    refine am_iload hz1 dX4_pairsFrom_17 5 rfl ?_
    obtain ⟨g2, h⟩ := h
    refine am_cVf hz cv_X4_57 [.int v2, .int v5] [] (c_X4_atMost hG isO_3 v2 v5 g2) (ln_3 hG) (lk_3 hG) rfl rfl rfl ⟨Nat.le_refl _, Nat.le_refl _⟩ (Nat.le_of_ble_eq_true rfl) dX4_pairsFrom_19 ?_
    refine am_ifb_eq (tgt := 43) hz1 dX4_pairsFrom_22 (by decide) (fun c3 => ?_) (fun c3 => ?_)
    · replace h := h.1 c3
      refine am_iinc (v := v5 + 1) (lv' := [(5, .int (v5 + 1)), (0, .ref ((zB z).size + 3)), (1, .ref ((zB z).size + r)), (2, .int v2), (3, .int v3), (4, .int v4)]) hz1 dX4_pairsFrom_43 5 rfl rfl rfl rfl ?_
      refine am_goto (tgt := 6) hz1 dX4_pairsFrom_46 (by decide) ?_
      exact am_sub (lv' := [(0, .ref ((zB z).size + 3)), (1, .ref ((zB z).size + r)), (2, .int v2), (3, .int v3), (4, .int v4), (5, .int (v5 + 1))]) [1, 2, 3, 4, 5, 0] rfl h
    · replace h := h.2 c3
      refine am_iload hz1 dX4_pairsFrom_25 4 rfl ?_
      refine am_aload_n hz1 dX4_pairsFrom_27 1 rfl rfl ?_
      refine am_iload_n hz1 dX4_pairsFrom_28 3 rfl rfl ?_
      obtain ⟨g4, h⟩ := h
      refine am_cVf hz cv_X4_53 [.int v3] [.int v4] (c_X4_from hG hr v3 g4) (oN hG hr) (oK hG hr) rfl rfl rfl ⟨Nat.le_refl _, Nat.le_refl _⟩ (Nat.le_of_ble_eq_true rfl) dX4_pairsFrom_29 ?_
      refine am_iload hz1 dX4_pairsFrom_32 5 rfl ?_
      refine am_aload_n hz1 dX4_pairsFrom_34 1 rfl rfl ?_
      refine am_getI hz1 fl_X4_9 (oN hG hr) (oK hG hr) rfl dX4_pairsFrom_35 ?_
      refine am_imul hz1 dX4_pairsFrom_38 ?_
      refine am_ishl hz1 dX4_pairsFrom_39 ?_
      refine am_ior hz1 dX4_pairsFrom_40 ?_
      refine am_istore (lv' := [(4, .int (v4 ||| ((q_from I r v3) <<< ((v5 * (I r 0)) &&& 31)))), (0, .ref ((zB z).size + 3)), (1, .ref ((zB z).size + r)), (2, .int v2), (3, .int v3), (5, .int v5)]) hz1 dX4_pairsFrom_41 rfl rfl ?_
      refine am_iinc (v := v5 + 1) (lv' := [(5, .int (v5 + 1)), (4, .int (v4 ||| ((q_from I r v3) <<< ((v5 * (I r 0)) &&& 31)))), (0, .ref ((zB z).size + 3)), (1, .ref ((zB z).size + r)), (2, .int v2), (3, .int v3)]) hz1 dX4_pairsFrom_43 5 rfl rfl rfl rfl ?_
      refine am_goto (tgt := 6) hz1 dX4_pairsFrom_46 (by decide) ?_
      exact am_sub (lv' := [(0, .ref ((zB z).size + 3)), (1, .ref ((zB z).size + r)), (2, .int v2), (3, .int v3), (4, .int (v4 ||| ((q_from I r v3) <<< ((v5 * (I r 0)) &&& 31)))), (5, .int (v5 + 1))]) [2, 3, 4, 5, 1, 0] rfl h
set_option maxRecDepth 100000 in
set_option maxHeartbeats 4000000 in
theorem c_X4_pairsFrom {l : Launch} {D : va_G} {B : Heap} {G : amG} {I : amI} {L : amL} {r : Nat} (hG : Lay G) (hr : isO r) (v2 : Int32) (v3 : Int32) (hs3 : szOk I 3) (hsr : szOk I r) : Fx l D B yX4_pairsFrom cX4_pairsFrom 6 (some .int) 3 [.ref (B.size + 3), .ref (B.size + r), .int v2, .int v3] G I L (some (.int (q_pf I r v2 v3))) I L := by
  refine Mx.of (by decide) rfl rfl (fun z e1 e2 e3 hz => ?_)
  subst e1; subst e2; subst e3
  refine b_X4_pairsFrom_0 hz hG hr ?_
  obtain ⟨n, hn1, h16, hn⟩ := id hs3
  refine for_up (P := fun i => Wx z 0 0 6 [(0, .ref ((zB z).size + 3)), (1, .ref ((zB z).size + r)), (2, .int v2), (3, .int v3), (4, .int (pfv I r v2 v3 i)), (5, .int (nI i))] [] G I L) (n := n) ?_ ?_ (Nat.zero_le n)
  · exact b_X4_pairsFrom_6 hz hG hr ⟨fun _ => ⟨by rw [q_pf, sz_eq hn h16], rfl, rfl, rfl⟩, fun h => absurd (sz_le hn h16) h⟩
  · intro i hi ih
    refine b_X4_pairsFrom_6 hz hG hr ⟨fun h => absurd h (sz_ge hn h16 hi), fun _ => ⟨hs3, fun h => ?_, fun h => ⟨hsr, ?_⟩⟩⟩
    · rw [pfv, if_neg (by rw [h]; decide)] at ih
      rw [nI_1]
      exact ih
    · rw [pfv, if_pos h] at ih
      rw [nI_1]
      exact ih
def PFv (I : amI) (r k j : Nat) : Int32 := q_pf I r (nI (j / k)) (nI (j % k)) &&& (((1 : Int32) <<< (nI j &&& 31)) ^^^ (-1))
set_option maxRecDepth 100000 in
set_option maxHeartbeats 4000000 in
theorem b_X4_becomePairs_0 {z : amZ} {post : amP} {G : amG} {I : amI} {L : amL} (hz : Go z cX4_becomePairs RX4 6 none 4 0 0 post) (hG : Lay G) {r : Nat} (hr : isO r)  (h : Wx z 0 0 15 [(0, .ref ((zB z).size + 10)), (1, .ref ((zB z).size + 3)), (2, .ref ((zB z).size + r)), (3, .int 0)] [] G (q_begin I 10 ((I 3 0) * (I r 0))) L) : Wx z 0 0 0 [(0, .ref ((zB z).size + 10)), (1, .ref ((zB z).size + 3)), (2, .ref ((zB z).size + r))] [] G I L := by
  have hz1 := hz.1
  refine am_aload_n hz1 dX4_becomePairs_0 0 rfl rfl ?_
  refine am_aload_n hz1 dX4_becomePairs_1 1 rfl rfl ?_
  refine am_getI hz1 fl_X4_9 (ln_3 hG) (lk_3 hG) rfl dX4_becomePairs_2 ?_
  refine am_aload_n hz1 dX4_becomePairs_5 2 rfl rfl ?_
  refine am_getI hz1 fl_X4_9 (oN hG hr) (oK hG hr) rfl dX4_becomePairs_6 ?_
  refine am_imul hz1 dX4_becomePairs_9 ?_
  refine am_cVf hz cv_X4_49 [.int ((I 3 0) * (I r 0))] [] (c_X4_begin hG isO_10 ((I 3 0) * (I r 0)) ) (ln_10 hG) (lk_10 hG) rfl rfl rfl ⟨Nat.le_refl _, Nat.le_refl _⟩ (Nat.le_of_ble_eq_true rfl) dX4_becomePairs_10 ?_
  refine am_iconst (v := 0) hz1 dX4_becomePairs_13 (by decide) ?_
  refine am_istore_n (lv' := [(3, .int 0), (0, .ref ((zB z).size + 10)), (1, .ref ((zB z).size + 3)), (2, .ref ((zB z).size + r))]) hz1 dX4_becomePairs_14 rfl rfl rfl ?_
  exact am_sub (lv' := [(0, .ref ((zB z).size + 10)), (1, .ref ((zB z).size + 3)), (2, .ref ((zB z).size + r)), (3, .int 0)]) [1, 2, 3, 0] rfl h
set_option maxRecDepth 100000 in
set_option maxHeartbeats 4000000 in
theorem b_X4_becomePairs_15 {z : amZ} {post : amP} {G : amG} {I : amI} {L : amL} (hz : Go z cX4_becomePairs RX4 6 none 4 0 0 post) (hG : Lay G) {r : Nat} (hr : isO r) {v3 : Int32} (h : (((I 3 0) ≤ v3) → post none G I L) ∧ ((¬ (I 3 0) ≤ v3) → Wx z 0 0 26 [(0, .ref ((zB z).size + 10)), (1, .ref ((zB z).size + 3)), (2, .ref ((zB z).size + r)), (3, .int v3), (4, .int 0)] [] G I L)) : Wx z 0 0 15 [(0, .ref ((zB z).size + 10)), (1, .ref ((zB z).size + 3)), (2, .ref ((zB z).size + r)), (3, .int v3)] [] G I L := by
  have hz1 := hz.1
  refine am_iload_n hz1 dX4_becomePairs_15 3 rfl rfl ?_
  refine am_aload_n hz1 dX4_becomePairs_16 1 rfl rfl ?_
  refine am_getI hz1 fl_X4_9 (ln_3 hG) (lk_3 hG) rfl dX4_becomePairs_17 ?_
  refine am_icmp_ge (tgt := 87) hz1 dX4_becomePairs_20 (by decide) (fun c1 => ?_) (fun c1 => ?_)
  · replace h := h.1 c1
    exact am_return hz dX4_becomePairs_87 h
  · replace h := h.2 c1
    refine am_iconst (v := 0) hz1 dX4_becomePairs_23 (by decide) ?_
    refine am_istore (lv' := [(4, .int 0), (0, .ref ((zB z).size + 10)), (1, .ref ((zB z).size + 3)), (2, .ref ((zB z).size + r)), (3, .int v3)]) hz1 dX4_becomePairs_24 rfl rfl ?_
    exact am_sub (lv' := [(0, .ref ((zB z).size + 10)), (1, .ref ((zB z).size + 3)), (2, .ref ((zB z).size + r)), (3, .int v3), (4, .int 0)]) [1, 2, 3, 4, 0] rfl h
set_option maxRecDepth 100000 in
set_option maxHeartbeats 4000000 in
theorem b_X4_becomePairs_26 {z : amZ} {post : amP} {G : amG} {I : amI} {L : amL} (hz : Go z cX4_becomePairs RX4 6 none 4 0 0 post) (hG : Lay G) {r : Nat} (hr : isO r) {v3 : Int32} {v4 : Int32} (h : (((I r 0) ≤ v4) → Wx z 0 0 15 [(0, .ref ((zB z).size + 10)), (1, .ref ((zB z).size + 3)), (2, .ref ((zB z).size + r)), (3, .int (v3 + 1))] [] G I L) ∧ ((¬ (I r 0) ≤ v4) → (((16 : Int32) ≤ ((v3 * (I r 0)) + v4)) → Wx z 0 0 26 [(0, .ref ((zB z).size + 10)), (1, .ref ((zB z).size + 3)), (2, .ref ((zB z).size + r)), (3, .int v3), (4, .int (v4 + 1))] [] G I L) ∧ ((¬ (16 : Int32) ≤ ((v3 * (I r 0)) + v4)) → (szOk I 3) ∧ (szOk I r) ∧ vp_in ((v3 * (I r 0)) + v4) 16 ∧ Wx z 0 0 26 [(0, .ref ((zB z).size + 10)), (1, .ref ((zB z).size + 3)), (2, .ref ((zB z).size + r)), (3, .int v3), (4, .int (v4 + 1))] [] G (setI I 11 (upd (I 11) ((v3 * (I r 0)) + v4).toNatClampNeg ((q_pf I r v3 v4) &&& (((1 : Int32) <<< (((v3 * (I r 0)) + v4) &&& 31)) ^^^ (-1 : Int32))))) L))) : Wx z 0 0 26 [(0, .ref ((zB z).size + 10)), (1, .ref ((zB z).size + 3)), (2, .ref ((zB z).size + r)), (3, .int v3), (4, .int v4)] [] G I L := by
  have hz1 := hz.1
  refine am_iload hz1 dX4_becomePairs_26 4 rfl ?_
  refine am_aload_n hz1 dX4_becomePairs_28 2 rfl rfl ?_
  refine am_getI hz1 fl_X4_9 (oN hG hr) (oK hG hr) rfl dX4_becomePairs_29 ?_
  refine am_icmp_ge (tgt := 81) hz1 dX4_becomePairs_32 (by decide) (fun c1 => ?_) (fun c1 => ?_)
  · replace h := h.1 c1
    refine am_iinc (v := v3 + 1) (lv' := [(3, .int (v3 + 1)), (0, .ref ((zB z).size + 10)), (1, .ref ((zB z).size + 3)), (2, .ref ((zB z).size + r)), (4, .int v4)]) hz1 dX4_becomePairs_81 3 rfl rfl rfl rfl ?_
    refine am_goto (tgt := 15) hz1 dX4_becomePairs_84 (by decide) ?_
    exact am_sub (lv' := [(0, .ref ((zB z).size + 10)), (1, .ref ((zB z).size + 3)), (2, .ref ((zB z).size + r)), (3, .int (v3 + 1))]) [1, 2, 3, 0] rfl h
  · replace h := h.2 c1
    refine am_iload_n hz1 dX4_becomePairs_35 3 rfl rfl ?_
    refine am_aload_n hz1 dX4_becomePairs_36 2 rfl rfl ?_
    refine am_getI hz1 fl_X4_9 (oN hG hr) (oK hG hr) rfl dX4_becomePairs_37 ?_
    refine am_imul hz1 dX4_becomePairs_40 ?_
    refine am_iload hz1 dX4_becomePairs_41 4 rfl ?_
    refine am_iadd hz1 dX4_becomePairs_43 ?_
    refine am_istore (lv' := [(5, .int ((v3 * (I r 0)) + v4)), (0, .ref ((zB z).size + 10)), (1, .ref ((zB z).size + 3)), (2, .ref ((zB z).size + r)), (3, .int v3), (4, .int v4)]) hz1 dX4_becomePairs_44 rfl rfl ?_
    refine am_iload hz1 dX4_becomePairs_46 0 rfl ?_
    refine am_bipush (v := 16) hz1 dX4_becomePairs_48 (by decide) ?_
    refine am_icmp_ge (tgt := 75) hz1 dX4_becomePairs_50 (by decide) (fun c2 => ?_) (fun c2 => ?_)
    · replace h := h.1 c2
      refine am_iinc (v := v4 + 1) (lv' := [(4, .int (v4 + 1)), (5, .int ((v3 * (I r 0)) + v4)), (0, .ref ((zB z).size + 10)), (1, .ref ((zB z).size + 3)), (2, .ref ((zB z).size + r)), (3, .int v3)]) hz1 dX4_becomePairs_75 5 rfl rfl rfl rfl ?_
      refine am_goto (tgt := 26) hz1 dX4_becomePairs_78 (by decide) ?_
      exact am_sub (lv' := [(0, .ref ((zB z).size + 10)), (1, .ref ((zB z).size + 3)), (2, .ref ((zB z).size + r)), (3, .int v3), (4, .int (v4 + 1))]) [2, 3, 4, 5, 0] rfl h
    · replace h := h.2 c2
      refine am_aload_n hz1 dX4_becomePairs_53 1 rfl rfl ?_
      refine am_getR hz1 fl_X4_15 (ln_10 hG) (lk_10 hG) (lr_10_1 hG) rfl dX4_becomePairs_54 ?_
      refine am_iload hz1 dX4_becomePairs_57 0 rfl ?_
      refine am_aload_n hz1 dX4_becomePairs_59 2 rfl rfl ?_
      refine am_aload_n hz1 dX4_becomePairs_60 3 rfl rfl ?_
      refine am_iload_n hz1 dX4_becomePairs_61 4 rfl rfl ?_
      refine am_iload hz1 dX4_becomePairs_62 5 rfl ?_
      obtain ⟨g3, h⟩ := h
      obtain ⟨g4, h⟩ := h
      refine am_cSf hz ct_X4_80 [.ref ((zB z).size + 3), .ref ((zB z).size + r), .int v3, .int v4] [.int ((v3 * (I r 0)) + v4), .ref ((zB z).size + 11)] (c_X4_pairsFrom hG hr v3 v4 g3 g4) rfl rfl rfl ⟨Nat.le_refl _, Nat.le_refl _⟩ (Nat.le_of_ble_eq_true rfl) dX4_becomePairs_64 ?_
      refine am_iconst (v := 1) hz1 dX4_becomePairs_67 (by decide) ?_
      refine am_iload hz1 dX4_becomePairs_68 0 rfl ?_
      refine am_ishl hz1 dX4_becomePairs_70 ?_
      refine am_iconst (v := (-1)) hz1 dX4_becomePairs_71 (by decide) ?_
      refine am_ixor hz1 dX4_becomePairs_72 ?_
      refine am_iand hz1 dX4_becomePairs_73 ?_
      obtain ⟨g5, h⟩ := h
      refine am_iast hz1 (ln_11 hG) (lk_11 hG) (by rw [(ll_11 hG)]; exact g5) dX4_becomePairs_74 ?_
      refine am_iinc (v := v4 + 1) (lv' := [(4, .int (v4 + 1)), (5, .int ((v3 * (I r 0)) + v4)), (0, .ref ((zB z).size + 10)), (1, .ref ((zB z).size + 3)), (2, .ref ((zB z).size + r)), (3, .int v3)]) hz1 dX4_becomePairs_75 5 rfl rfl rfl rfl ?_
      refine am_goto (tgt := 26) hz1 dX4_becomePairs_78 (by decide) ?_
      exact am_sub (lv' := [(0, .ref ((zB z).size + 10)), (1, .ref ((zB z).size + 3)), (2, .ref ((zB z).size + r)), (3, .int v3), (4, .int (v4 + 1))]) [2, 3, 4, 5, 0] rfl h
set_option maxRecDepth 100000 in
set_option maxHeartbeats 4000000 in
theorem c_X4_becomePairs {l : Launch} {D : va_G} {B : Heap} {G : amG} {I : amI} {L : amL} {r : Nat} (hG : Lay G) (hr : isO r)  {n k : Nat} (hr2 : r = 20 ∨ r = 27) (hn : I 3 0 = nI n) (hk : I r 0 = nI k) (h1 : 1 ≤ n) (k1 : 1 ≤ k) (n16 : n ≤ 16) (k16 : k ≤ 16) (h16 : n * k ≤ 16) : Mx l D B yX4_becomePairs cX4_becomePairs 6 none 4 0 0 [.ref (B.size + 10), .ref (B.size + 3), .ref (B.size + r)] G I L (fun r' G1 I1 L1 => r' = none ∧ G1 = G ∧ L1 = L ∧ ∃ f : Nat → Int32, I1 = dm I (n * k) f ∧ (∀ j, j < n * k → f j = PFv I r k j) ∧ ∀ j, n * k ≤ j → j < 16 → f j = 0) := by
  refine Mx.of (by decide) rfl rfl (fun z e1 e2 e3 hz => ?_)
  subst e1; subst e2; subst e3
  refine b_X4_becomePairs_0 hz hG hr ?_
  have r10 : r ≠ 10 ∧ r ≠ 11 ∧ r + 1 ≠ 10 ∧ r + 1 ≠ 11 := by rcases hr2 with e | e <;> omega
  have hnk : 1 ≤ n * k := Nat.mul_pos h1 k1
  rw [hn, hk, pk_mul, dm_b hnk h16]
  have h3 : ∀ f : Nat → Int32, dm I (n * k) f 3 0 = nI n := fun f => by rw [dm_o (by decide) (by decide), hn]
  have hrr : ∀ f : Nat → Int32, dm I (n * k) f r 0 = nI k := fun f => by rw [dm_o r10.1 r10.2.1, hk]
  have hpf : ∀ (f : Nat → Int32) x y, q_pf (dm I (n * k) f) r x y = q_pf I r x y := fun f x y => pf_c (dm_o (by decide) (by decide)) (dm_o (by decide) (by decide)) (dm_o r10.1 r10.2.1) (dm_o r10.2.2.1 r10.2.2.2)
  have main : ∀ f : Nat → Int32, ((∀ j, j < 0 * k → f j = PFv I r k j) ∧ ∀ j, 0 * k ≤ j → j < 16 → f j = 0) → Wx z 0 0 15 [(0, .ref ((zB z).size + 10)), (1, .ref ((zB z).size + 3)), (2, .ref ((zB z).size + r)), (3, .int (nI 0))] [] G (dm I (n * k) f) L := by
    refine for_up (P := fun i => ∀ f : Nat → Int32, ((∀ j, j < i * k → f j = PFv I r k j) ∧ ∀ j, i * k ≤ j → j < 16 → f j = 0) → Wx z 0 0 15 [(0, .ref ((zB z).size + 10)), (1, .ref ((zB z).size + 3)), (2, .ref ((zB z).size + r)), (3, .int (nI i))] [] G (dm I (n * k) f) L) (n := n) ?_ ?_ (Nat.zero_le n)
    · intro f hf
      exact b_X4_becomePairs_15 hz hG hr ⟨fun _ => ⟨rfl, rfl, rfl, f, rfl, hf.1, hf.2⟩, fun h => absurd (sz_le (h3 f) n16) h⟩
    · intro i hi ih f hf
      refine b_X4_becomePairs_15 hz hG hr ⟨fun h => absurd h (sz_ge (h3 f) n16 hi), fun _ => ?_⟩
      have hik : i * k + k ≤ n * k := by
        have := Nat.mul_le_mul_right k (show i + 1 ≤ n from hi)
        rw [Nat.succ_mul] at this
        exact this
      have inner : ∀ f : Nat → Int32, ((∀ j, j < i * k + 0 → f j = PFv I r k j) ∧ ∀ j, i * k + 0 ≤ j → j < 16 → f j = 0) → Wx z 0 0 26 [(0, .ref ((zB z).size + 10)), (1, .ref ((zB z).size + 3)), (2, .ref ((zB z).size + r)), (3, .int (nI i)), (4, .int (nI 0))] [] G (dm I (n * k) f) L := by
        refine for_up (P := fun y => ∀ f : Nat → Int32, ((∀ j, j < i * k + y → f j = PFv I r k j) ∧ ∀ j, i * k + y ≤ j → j < 16 → f j = 0) → Wx z 0 0 26 [(0, .ref ((zB z).size + 10)), (1, .ref ((zB z).size + 3)), (2, .ref ((zB z).size + r)), (3, .int (nI i)), (4, .int (nI y))] [] G (dm I (n * k) f) L) (n := k) ?_ ?_ (Nat.zero_le k)
        · intro f hf
          refine b_X4_becomePairs_26 hz hG hr ⟨fun _ => ?_, fun h => absurd (sz_le (hrr f) k16) h⟩
          rw [nI_1]
          refine ih f ?_
          rw [Nat.succ_mul]
          exact hf
        · intro y hy yh f hf
          refine b_X4_becomePairs_26 hz hG hr ⟨fun h => absurd h (sz_ge (hrr f) k16 hy), fun _ => ?_⟩
          rw [hrr, pk_mul, nI_add, nI_1, hpf, dm_11, dm_s, cl_nI (show i * k + y < 2 ^ 31 by omega)]
          refine ⟨fun h => absurd h (no16 h16 (show i * k + y < n * k by omega)), fun _ => ⟨⟨n, h1, n16, h3 f⟩, ⟨k, k1, k16, hrr f⟩, in_nI (by omega) (by decide), ?_⟩⟩
          refine yh _ ⟨fun j hj => ?_, fun j g1 g2 => ?_⟩
          · by_cases e : j = i * k + y
            · subst e
              rw [upd_s, PFv, show (i * k + y) / k = i by rw [Nat.mul_comm, Nat.mul_add_div (by omega), Nat.div_eq_of_lt hy, Nat.add_zero], show (i * k + y) % k = y by rw [Nat.mul_comm, Nat.mul_add_mod, Nat.mod_eq_of_lt hy]]
            · rw [upd_n e]; exact hf.1 j (by omega)
          · rw [upd_n (by omega)]; exact hf.2 j (by omega) g2
      exact inner f hf
  exact main _ ⟨fun j hj => absurd hj (by omega), fun j _ hj => fill16 hj⟩
