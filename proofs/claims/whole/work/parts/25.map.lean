/-! THE MAP, THE TAPE -/
def q_whole (I : amI) : Bool := scan (fun x => decide (¬ 0 ≤ I 42 x)) (fun _ => false) true (sz I 3) 0
def p_mono (I : amI) (a b : Nat) : Bool := q_atMost I 3 (nI a) (nI b) && !q_atMost I 20 (I 42 a) (I 42 b)
def q_mono1 (I : amI) (a : Nat) : Bool := scan (p_mono I a) (fun _ => true) false (sz I 3) 0
def q_mono (I : amI) : Bool := scan (q_mono1 I) (fun _ => false) true (sz I 3) 0
def q_adj (I : amI) (y : Int32) : Int32 := q_greatest I 3 (mkset (fun x => q_atMost I 20 (I 42 x) y) (sz I 3))
def q_joined (I : amI) : Bool := scan (fun y => decide (¬ 0 ≤ q_adj I (nI y))) (fun _ => false) (q_whole I) (sz I 20) 0
def sumC (c : Nat → Bool) (f : Nat → Int64) : Nat → Int64
  | 0 => 0
  | x + 1 => if c x = true then sumC c f x + f x else sumC c f x
theorem sumC_c {c c' : Nat → Bool} {f f' : Nat → Int64} : ∀ {n : Nat}, (∀ i, i < n → c i = c' i ∧ (c i = true → f i = f' i)) → sumC c f n = sumC c' f' n
  | 0, _ => rfl
  | n + 1, h => by
    rw [sumC, sumC, sumC_c (fun i hi => h i (by omega)), ← (h n (by omega)).1]
    by_cases e : c n = true
    · rw [if_pos e, if_pos e, (h n (by omega)).2 e]
    · rw [if_neg e, if_neg e]
def q_sh (I : amI) (L : amL) (p q : Int32) : Int64 := sumC (fun x => decide (I 42 x = q) && q_atMost I 3 p (nI x)) (q_mf I 3 p (L 63) (sz I 3)) (sz I 3)
def q_st (I : amI) (L : amL) (p q : Int32) : Int64 := sumC (fun y => q_atMost I 20 (nI y) q && decide (q_adj I (nI y) = p)) (q_mt I 20 q (L 63) (sz I 20)) (sz I 20)
def tpOk (I : amI) : Prop := ∃ s : Nat, s ≤ 120 ∧ I 1 1 = nI s
def tp4 (I : amI) : Prop := ∃ s : Nat, s + 4 ≤ 120 ∧ I 1 1 = nI s
def byV (v sh : Int32) : Int32 := vp_nar .byte ((v >>> (sh &&& 31)).toInt8.toInt32)
def q_app1 (I : amI) (v sh : Int32) : amI := setI (setI I 2 (upd (I 2) (I 1 1).toNatClampNeg (byV v sh))) 1 (upd (I 1) 1 (I 1 1 + 1))
def q_app (I : amI) (v : Int32) : amI := q_app1 (q_app1 (q_app1 (q_app1 I v 24) v 16) v 8) v 0
def q_tat (I : amI) (v : Int32) : Int32 := if v < 0 then -1 else if I 1 1 ≤ v then -1 else I 2 v.toNatClampNeg &&& 255
def q_dig (I : amI) (v : Int32) : Bool := decide (¬ q_tat I v < 48) && decide (¬ 57 < q_tat I v)
def q_let (I : amI) (v : Int32) : Bool := decide (¬ q_tat I v < 97) && decide (¬ 122 < q_tat I v)
set_option maxRecDepth 100000 in
set_option maxHeartbeats 4000000 in
theorem b_X3_clear_0 {z : amZ} {post : amP} {G : amG} {I : amI} {L : amL} (hz : Go z cX3_clear RX3 1 none 1 0 0 post) (hG : Lay G)  (h : post none G (setI I 42 (q_fill (I 42) 16 (-1 : Int32))) L) : Wx z 0 0 0 [(0, .ref ((zB z).size + 41))] [] G I L := by
  have hz1 := hz.1
  refine am_aload_n hz1 dX3_clear_0 0 rfl rfl ?_
  refine am_getR hz1 fl_X3_9 (ln_41 hG) (lk_41 hG) (lr_41_0 hG) rfl dX3_clear_1 ?_
  refine am_iconst (v := (-1)) hz1 dX3_clear_4 (by decide) ?_
  refine am_cSf hz ct_X3_22 [.ref ((zB z).size + 42), .int (-1)] [] (c_J7_fill_53178 hG (ln_42 hG) (lk_42 hG) (ll_42 hG) (-1 : Int32) (by decide)) rfl rfl rfl ⟨Nat.le_refl _, Nat.le_refl _⟩ (Nat.le_of_ble_eq_true rfl) dX3_clear_5 ?_
  exact am_return hz dX3_clear_8 h
set_option maxRecDepth 100000 in
set_option maxHeartbeats 4000000 in
theorem c_X3_clear {l : Launch} {D : va_G} {B : Heap} {G : amG} {I : amI} {L : amL}  (hG : Lay G)    : Fx l D B yX3_clear cX3_clear 1 none 1 [.ref (B.size + 41)] G I L none (setI I 42 (q_fill (I 42) 16 (-1))) L := by
  refine Mx.of (by decide) rfl rfl (fun z e1 e2 e3 hz => ?_)
  subst e1; subst e2; subst e3
  refine b_X3_clear_0 hz hG ?_
  exact ⟨rfl, rfl, rfl, rfl⟩
set_option maxRecDepth 100000 in
set_option maxHeartbeats 4000000 in
theorem b_X3_isWhole_0 {z : amZ} {post : amP} {G : amG} {I : amI} {L : amL} (hz : Go z cX3_isWhole RX3 2 (some .boolean) 0 0 0 post) (hG : Lay G)  (h : Wx z 0 0 2 [(0, .ref ((zB z).size + 41)), (1, .int 0)] [] G I L) : Wx z 0 0 0 [(0, .ref ((zB z).size + 41))] [] G I L := by
  have hz1 := hz.1
  refine am_iconst (v := 0) hz1 dX3_isWhole_0 (by decide) ?_
  refine am_istore_n (lv' := [(1, .int 0), (0, .ref ((zB z).size + 41))]) hz1 dX3_isWhole_1 rfl rfl rfl ?_
  exact am_sub (lv' := [(0, .ref ((zB z).size + 41)), (1, .int 0)]) [1, 0] rfl h
set_option maxRecDepth 100000 in
set_option maxHeartbeats 4000000 in
theorem b_X3_isWhole_2 {z : amZ} {post : amP} {G : amG} {I : amI} {L : amL} (hz : Go z cX3_isWhole RX3 2 (some .boolean) 0 0 0 post) (hG : Lay G) {v1 : Int32} (h : (((I 3 0) ≤ v1) → post (some (.int 1)) G I L) ∧ ((¬ (I 3 0) ≤ v1) → vp_in v1 16 ∧ ((0 ≤ (I 42 v1.toNatClampNeg)) → Wx z 0 0 2 [(0, .ref ((zB z).size + 41)), (1, .int (v1 + 1))] [] G I L) ∧ ((¬ 0 ≤ (I 42 v1.toNatClampNeg)) → post (some (.int 0)) G I L))) : Wx z 0 0 2 [(0, .ref ((zB z).size + 41)), (1, .int v1)] [] G I L := by
  have hz1 := hz.1
  refine am_iload_n hz1 dX3_isWhole_2 1 rfl rfl ?_
  refine am_aload_n hz1 dX3_isWhole_3 0 rfl rfl ?_
  refine am_getR hz1 fl_X3_15 (ln_41 hG) (lk_41 hG) (lr_41_1 hG) rfl dX3_isWhole_4 ?_
  refine am_getI hz1 fl_X3_28 (ln_3 hG) (lk_3 hG) rfl dX3_isWhole_7 ?_
  refine am_icmp_ge (tgt := 30) hz1 dX3_isWhole_10 (by decide) (fun c1 => ?_) (fun c1 => ?_)
  · replace h := h.1 c1
    refine am_iconst (v := 1) hz1 dX3_isWhole_30 (by decide) ?_
    exact am_zreturn hz (by decide) dX3_isWhole_31 h
  · replace h := h.2 c1
    refine am_aload_n hz1 dX3_isWhole_13 0 rfl rfl ?_
    refine am_getR hz1 fl_X3_9 (ln_41 hG) (lk_41 hG) (lr_41_0 hG) rfl dX3_isWhole_14 ?_
    refine am_iload_n hz1 dX3_isWhole_17 1 rfl rfl ?_
    obtain ⟨g2, h⟩ := h
    refine am_iald hz1 (ln_42 hG) (lk_42 hG) (by rw [(ll_42 hG)]; exact g2) dX3_isWhole_18 ?_
    refine am_if_ge (tgt := 24) hz1 dX3_isWhole_19 (by decide) (fun c3 => ?_) (fun c3 => ?_)
    · replace h := h.1 c3
      refine am_iinc (v := v1 + 1) (lv' := [(1, .int (v1 + 1)), (0, .ref ((zB z).size + 41))]) hz1 dX3_isWhole_24 1 rfl rfl rfl rfl ?_
      refine am_goto (tgt := 2) hz1 dX3_isWhole_27 (by decide) ?_
      exact am_sub (lv' := [(0, .ref ((zB z).size + 41)), (1, .int (v1 + 1))]) [1, 0] rfl h
    · replace h := h.2 c3
      refine am_iconst (v := 0) hz1 dX3_isWhole_22 (by decide) ?_
      exact am_zreturn hz (by decide) dX3_isWhole_23 h
set_option maxRecDepth 100000 in
set_option maxHeartbeats 4000000 in
theorem c_X3_isWhole {l : Launch} {D : va_G} {B : Heap} {G : amG} {I : amI} {L : amL}  (hG : Lay G)   (hs : szOk I 3) : Fx l D B yX3_isWhole cX3_isWhole 2 (some .boolean) 0 [.ref (B.size + 41)] G I L (some (.int (bI (q_whole I)))) I L := by
  refine Mx.of (by decide) rfl rfl (fun z e1 e2 e3 hz => ?_)
  subst e1; subst e2; subst e3
  refine b_X3_isWhole_0 hz hG ?_
  obtain ⟨n, hn1, h16, hn⟩ := id hs
  refine for_up (P := fun i => scan (fun x => decide (¬ 0 ≤ I 42 x)) (fun _ => false) true (n - i) i = q_whole I → Wx z 0 0 2 [(0, .ref ((zB z).size + 41)), (1, .int (nI i))] [] G I L) (n := n) ?_ ?_ (Nat.zero_le n) (by rw [q_whole, sz_eq hn h16, Nat.sub_zero])
  · intro e
    rw [scan_0] at e
    exact b_X3_isWhole_2 hz hG ⟨fun _ => ⟨by rw [← e]; rfl, rfl, rfl, rfl⟩, fun h => absurd (sz_le hn h16) h⟩
  · intro i hi ih e
    rw [scan_s hi] at e
    refine b_X3_isWhole_2 hz hG ⟨fun h => absurd h (sz_ge hn h16 hi), fun _ => ⟨in16 h16 hi, fun h => ?_, fun h => ?_⟩⟩
    · rw [cl_nI (by omega)] at h
      rw [if_neg (by rw [decide_eq_false (not_not_intro h)]; decide)] at e
      rw [nI_1]
      exact ih e
    · rw [cl_nI (by omega)] at h
      rw [if_pos (decide_eq_true h)] at e
      exact ⟨by rw [← e]; rfl, rfl, rfl, rfl⟩
set_option maxRecDepth 100000 in
set_option maxHeartbeats 4000000 in
theorem b_X3_isMonotone_0 {z : amZ} {post : amP} {G : amG} {I : amI} {L : amL} (hz : Go z cX3_isMonotone RX3 3 (some .boolean) 3 0 0 post) (hG : Lay G)  (h : Wx z 0 0 2 [(0, .ref ((zB z).size + 41)), (1, .int 0)] [] G I L) : Wx z 0 0 0 [(0, .ref ((zB z).size + 41))] [] G I L := by
  have hz1 := hz.1
  refine am_iconst (v := 0) hz1 dX3_isMonotone_0 (by decide) ?_
  refine am_istore_n (lv' := [(1, .int 0), (0, .ref ((zB z).size + 41))]) hz1 dX3_isMonotone_1 rfl rfl rfl ?_
  exact am_sub (lv' := [(0, .ref ((zB z).size + 41)), (1, .int 0)]) [1, 0] rfl h
set_option maxRecDepth 100000 in
set_option maxHeartbeats 4000000 in
theorem b_X3_isMonotone_2 {z : amZ} {post : amP} {G : amG} {I : amI} {L : amL} (hz : Go z cX3_isMonotone RX3 3 (some .boolean) 3 0 0 post) (hG : Lay G) {v1 : Int32} (h : (((I 3 0) ≤ v1) → post (some (.int 1)) G I L) ∧ ((¬ (I 3 0) ≤ v1) → Wx z 0 0 15 [(0, .ref ((zB z).size + 41)), (1, .int v1), (2, .int 0)] [] G I L)) : Wx z 0 0 2 [(0, .ref ((zB z).size + 41)), (1, .int v1)] [] G I L := by
  have hz1 := hz.1
  refine am_iload_n hz1 dX3_isMonotone_2 1 rfl rfl ?_
  refine am_aload_n hz1 dX3_isMonotone_3 0 rfl rfl ?_
  refine am_getR hz1 fl_X3_15 (ln_41 hG) (lk_41 hG) (lr_41_1 hG) rfl dX3_isMonotone_4 ?_
  refine am_getI hz1 fl_X3_28 (ln_3 hG) (lk_3 hG) rfl dX3_isMonotone_7 ?_
  refine am_icmp_ge (tgt := 74) hz1 dX3_isMonotone_10 (by decide) (fun c1 => ?_) (fun c1 => ?_)
  · replace h := h.1 c1
    refine am_iconst (v := 1) hz1 dX3_isMonotone_74 (by decide) ?_
    exact am_zreturn hz (by decide) dX3_isMonotone_75 h
  · replace h := h.2 c1
    refine am_iconst (v := 0) hz1 dX3_isMonotone_13 (by decide) ?_
    refine am_istore_n (lv' := [(2, .int 0), (0, .ref ((zB z).size + 41)), (1, .int v1)]) hz1 dX3_isMonotone_14 rfl rfl rfl ?_
    exact am_sub (lv' := [(0, .ref ((zB z).size + 41)), (1, .int v1), (2, .int 0)]) [1, 2, 0] rfl h
set_option maxRecDepth 100000 in
set_option maxHeartbeats 4000000 in
theorem b_X3_isMonotone_15 {z : amZ} {post : amP} {G : amG} {I : amI} {L : amL} (hz : Go z cX3_isMonotone RX3 3 (some .boolean) 3 0 0 post) (hG : Lay G) {v1 : Int32} {v2 : Int32} (h : (((I 3 0) ≤ v2) → Wx z 0 0 2 [(0, .ref ((zB z).size + 41)), (1, .int (v1 + 1))] [] G I L) ∧ ((¬ (I 3 0) ≤ v2) → (szOk I 3) ∧ ((q_atMost I 3 v1 v2 = false) → Wx z 0 0 15 [(0, .ref ((zB z).size + 41)), (1, .int v1), (2, .int (v2 + 1))] [] G I L) ∧ ((q_atMost I 3 v1 v2 = true) → vp_in v1 16 ∧ vp_in v2 16 ∧ (szOk I 20) ∧ ((q_atMost I 20 (I 42 v1.toNatClampNeg) (I 42 v2.toNatClampNeg) = true) → Wx z 0 0 15 [(0, .ref ((zB z).size + 41)), (1, .int v1), (2, .int (v2 + 1))] [] G I L) ∧ ((q_atMost I 20 (I 42 v1.toNatClampNeg) (I 42 v2.toNatClampNeg) = false) → post (some (.int 0)) G I L)))) : Wx z 0 0 15 [(0, .ref ((zB z).size + 41)), (1, .int v1), (2, .int v2)] [] G I L := by
  have hz1 := hz.1
  refine am_iload_n hz1 dX3_isMonotone_15 2 rfl rfl ?_
  refine am_aload_n hz1 dX3_isMonotone_16 0 rfl rfl ?_
  refine am_getR hz1 fl_X3_15 (ln_41 hG) (lk_41 hG) (lr_41_1 hG) rfl dX3_isMonotone_17 ?_
  refine am_getI hz1 fl_X3_28 (ln_3 hG) (lk_3 hG) rfl dX3_isMonotone_20 ?_
  refine am_icmp_ge (tgt := 68) hz1 dX3_isMonotone_23 (by decide) (fun c1 => ?_) (fun c1 => ?_)
  · replace h := h.1 c1
    refine am_iinc (v := v1 + 1) (lv' := [(1, .int (v1 + 1)), (0, .ref ((zB z).size + 41)), (2, .int v2)]) hz1 dX3_isMonotone_68 1 rfl rfl rfl rfl ?_
    refine am_goto (tgt := 2) hz1 dX3_isMonotone_71 (by decide) ?_
    exact am_sub (lv' := [(0, .ref ((zB z).size + 41)), (1, .int (v1 + 1))]) [1, 0] rfl h
  · replace h := h.2 c1
    refine am_aload_n hz1 dX3_isMonotone_26 0 rfl rfl ?_
    refine am_getR hz1 fl_X3_15 (ln_41 hG) (lk_41 hG) (lr_41_1 hG) rfl dX3_isMonotone_27 ?_
    refine am_iload_n hz1 dX3_isMonotone_30 1 rfl rfl ?_
    refine am_iload_n hz1 dX3_isMonotone_31 2 rfl rfl ?_
    obtain ⟨g2, h⟩ := h
    refine am_cVf hz cv_X3_34 [.int v1, .int v2] [] (c_X4_atMost hG isO_3 v1 v2 g2) (ln_3 hG) (lk_3 hG) rfl rfl rfl ⟨Nat.le_refl _, Nat.le_refl _⟩ (Nat.le_of_ble_eq_true rfl) dX3_isMonotone_32 ?_
    refine am_ifb_eq (tgt := 62) hz1 dX3_isMonotone_35 (by decide) (fun c3 => ?_) (fun c3 => ?_)
    · replace h := h.1 c3
      refine am_iinc (v := v2 + 1) (lv' := [(2, .int (v2 + 1)), (0, .ref ((zB z).size + 41)), (1, .int v1)]) hz1 dX3_isMonotone_62 2 rfl rfl rfl rfl ?_
      refine am_goto (tgt := 15) hz1 dX3_isMonotone_65 (by decide) ?_
      exact am_sub (lv' := [(0, .ref ((zB z).size + 41)), (1, .int v1), (2, .int (v2 + 1))]) [1, 2, 0] rfl h
    · replace h := h.2 c3
      refine am_aload_n hz1 dX3_isMonotone_38 0 rfl rfl ?_
      refine am_getR hz1 fl_X3_19 (ln_41 hG) (lk_41 hG) (lr_41_2 hG) rfl dX3_isMonotone_39 ?_
      refine am_aload_n hz1 dX3_isMonotone_42 0 rfl rfl ?_
      refine am_getR hz1 fl_X3_9 (ln_41 hG) (lk_41 hG) (lr_41_0 hG) rfl dX3_isMonotone_43 ?_
      refine am_iload_n hz1 dX3_isMonotone_46 1 rfl rfl ?_
      obtain ⟨g4, h⟩ := h
      refine am_iald hz1 (ln_42 hG) (lk_42 hG) (by rw [(ll_42 hG)]; exact g4) dX3_isMonotone_47 ?_
      refine am_aload_n hz1 dX3_isMonotone_48 0 rfl rfl ?_
      refine am_getR hz1 fl_X3_9 (ln_41 hG) (lk_41 hG) (lr_41_0 hG) rfl dX3_isMonotone_49 ?_
      refine am_iload_n hz1 dX3_isMonotone_52 2 rfl rfl ?_
      obtain ⟨g5, h⟩ := h
      refine am_iald hz1 (ln_42 hG) (lk_42 hG) (by rw [(ll_42 hG)]; exact g5) dX3_isMonotone_53 ?_
      obtain ⟨g6, h⟩ := h
      refine am_cVf hz cv_X3_34 [.int (I 42 v1.toNatClampNeg), .int (I 42 v2.toNatClampNeg)] [] (c_X4_atMost hG isO_20 (I 42 v1.toNatClampNeg) (I 42 v2.toNatClampNeg) g6) (ln_20 hG) (lk_20 hG) rfl rfl rfl ⟨Nat.le_refl _, Nat.le_refl _⟩ (Nat.le_of_ble_eq_true rfl) dX3_isMonotone_54 ?_
      refine am_ifb_ne (tgt := 62) hz1 dX3_isMonotone_57 (by decide) (fun c7 => ?_) (fun c7 => ?_)
      · replace h := h.1 c7
        refine am_iinc (v := v2 + 1) (lv' := [(2, .int (v2 + 1)), (0, .ref ((zB z).size + 41)), (1, .int v1)]) hz1 dX3_isMonotone_62 2 rfl rfl rfl rfl ?_
        refine am_goto (tgt := 15) hz1 dX3_isMonotone_65 (by decide) ?_
        exact am_sub (lv' := [(0, .ref ((zB z).size + 41)), (1, .int v1), (2, .int (v2 + 1))]) [1, 2, 0] rfl h
      · replace h := h.2 c7
        refine am_iconst (v := 0) hz1 dX3_isMonotone_60 (by decide) ?_
        exact am_zreturn hz (by decide) dX3_isMonotone_61 h
set_option maxRecDepth 100000 in
set_option maxHeartbeats 4000000 in
theorem c_X3_isMonotone {l : Launch} {D : va_G} {B : Heap} {G : amG} {I : amI} {L : amL}  (hG : Lay G)   (hs : szOk I 3) (hs2 : szOk I 20) : Fx l D B yX3_isMonotone cX3_isMonotone 3 (some .boolean) 3 [.ref (B.size + 41)] G I L (some (.int (bI (q_mono I)))) I L := by
  refine Mx.of (by decide) rfl rfl (fun z e1 e2 e3 hz => ?_)
  subst e1; subst e2; subst e3
  refine b_X3_isMonotone_0 hz hG ?_
  obtain ⟨n, hn1, h16, hn⟩ := id hs
  refine for_up (P := fun i => scan (q_mono1 I) (fun _ => false) true (n - i) i = q_mono I → Wx z 0 0 2 [(0, .ref ((zB z).size + 41)), (1, .int (nI i))] [] G I L) (n := n) ?_ ?_ (Nat.zero_le n) (by rw [q_mono, sz_eq hn h16, Nat.sub_zero])
  · intro e
    rw [scan_0] at e
    exact b_X3_isMonotone_2 hz hG ⟨fun _ => ⟨by rw [← e]; rfl, rfl, rfl, rfl⟩, fun h => absurd (sz_le hn h16) h⟩
  · intro i hi ih e
    rw [scan_s hi] at e
    refine b_X3_isMonotone_2 hz hG ⟨fun h => absurd h (sz_ge hn h16 hi), fun _ => ?_⟩
    refine for_up (P := fun j => scan (p_mono I i) (fun _ => true) false (n - j) j = q_mono1 I i → Wx z 0 0 15 [(0, .ref ((zB z).size + 41)), (1, .int (nI i)), (2, .int (nI j))] [] G I L) (n := n) ?_ ?_ (Nat.zero_le n) (by rw [q_mono1, sz_eq hn h16, Nat.sub_zero])
    · intro e2
      rw [scan_0] at e2
      rw [if_neg (by simp [← e2])] at e
      refine b_X3_isMonotone_15 hz hG ⟨fun _ => ?_, fun h => absurd (sz_le hn h16) h⟩
      rw [nI_1]
      exact ih e
    · intro j hj jh e2
      rw [scan_s hj] at e2
      refine b_X3_isMonotone_15 hz hG ⟨fun h => absurd h (sz_ge hn h16 hj), fun _ => ⟨hs, fun h => ?_, fun h => ⟨in16 h16 hi, in16 h16 hj, hs2, fun h3 => ?_, fun h3 => ?_⟩⟩⟩
      · rw [if_neg (by rw [p_mono, h]; simp)] at e2
        rw [nI_1]
        exact jh e2
      · rw [cl_nI (n := i) (by omega), cl_nI (n := j) (by omega)] at h3
        rw [if_neg (by rw [p_mono, h3]; simp)] at e2
        rw [nI_1]
        exact jh e2
      · rw [cl_nI (n := i) (by omega), cl_nI (n := j) (by omega)] at h3
        rw [if_pos (by rw [p_mono, h, h3]; rfl)] at e2
        rw [if_pos e2.symm] at e
        exact ⟨by rw [← e]; rfl, rfl, rfl, rfl⟩
set_option maxRecDepth 100000 in
set_option maxHeartbeats 4000000 in
theorem b_X3_adjointOf_0 {z : amZ} {post : amP} {G : amG} {I : amI} {L : amL} (hz : Go z cX3_adjointOf RX3 4 (some .int) 3 0 0 post) (hG : Lay G) {v1 : Int32} (h : Wx z 0 0 4 [(0, .ref ((zB z).size + 41)), (1, .int v1), (2, .int 0), (3, .int 0)] [] G I L) : Wx z 0 0 0 [(0, .ref ((zB z).size + 41)), (1, .int v1)] [] G I L := by
  have hz1 := hz.1
  refine am_iconst (v := 0) hz1 dX3_adjointOf_0 (by decide) ?_
  refine am_istore_n (lv' := [(2, .int 0), (0, .ref ((zB z).size + 41)), (1, .int v1)]) hz1 dX3_adjointOf_1 rfl rfl rfl ?_
  refine am_iconst (v := 0) hz1 dX3_adjointOf_2 (by decide) ?_
  refine am_istore_n (lv' := [(3, .int 0), (2, .int 0), (0, .ref ((zB z).size + 41)), (1, .int v1)]) hz1 dX3_adjointOf_3 rfl rfl rfl ?_
  exact am_sub (lv' := [(0, .ref ((zB z).size + 41)), (1, .int v1), (2, .int 0), (3, .int 0)]) [2, 3, 1, 0] rfl h
set_option maxRecDepth 100000 in
set_option maxHeartbeats 4000000 in
theorem b_X3_adjointOf_4 {z : amZ} {post : amP} {G : amG} {I : amI} {L : amL} (hz : Go z cX3_adjointOf RX3 4 (some .int) 3 0 0 post) (hG : Lay G) {v1 : Int32} {v2 : Int32} {v3 : Int32} (h : (((I 3 0) ≤ v3) → (szOk I 3) ∧ post (some (.int (q_greatest I 3 v2))) G I L) ∧ ((¬ (I 3 0) ≤ v3) → vp_in v3 16 ∧ (szOk I 20) ∧ ((q_atMost I 20 (I 42 v3.toNatClampNeg) v1 = false) → Wx z 0 0 4 [(0, .ref ((zB z).size + 41)), (1, .int v1), (2, .int v2), (3, .int (v3 + 1))] [] G I L) ∧ ((q_atMost I 20 (I 42 v3.toNatClampNeg) v1 = true) → Wx z 0 0 4 [(0, .ref ((zB z).size + 41)), (1, .int v1), (2, .int (v2 ||| ((1 : Int32) <<< (v3 &&& 31)))), (3, .int (v3 + 1))] [] G I L))) : Wx z 0 0 4 [(0, .ref ((zB z).size + 41)), (1, .int v1), (2, .int v2), (3, .int v3)] [] G I L := by
  have hz1 := hz.1
  refine am_iload_n hz1 dX3_adjointOf_4 3 rfl rfl ?_
  refine am_aload_n hz1 dX3_adjointOf_5 0 rfl rfl ?_
  refine am_getR hz1 fl_X3_15 (ln_41 hG) (lk_41 hG) (lr_41_1 hG) rfl dX3_adjointOf_6 ?_
  refine am_getI hz1 fl_X3_28 (ln_3 hG) (lk_3 hG) rfl dX3_adjointOf_9 ?_
  refine am_icmp_ge (tgt := 44) hz1 dX3_adjointOf_12 (by decide) (fun c1 => ?_) (fun c1 => ?_)
  · replace h := h.1 c1
    refine am_aload_n hz1 dX3_adjointOf_44 0 rfl rfl ?_
    refine am_getR hz1 fl_X3_15 (ln_41 hG) (lk_41 hG) (lr_41_1 hG) rfl dX3_adjointOf_45 ?_
    refine am_iload_n hz1 dX3_adjointOf_48 2 rfl rfl ?_
    obtain ⟨g2, h⟩ := h
    refine am_cVf hz cv_X3_38 [.int v2] [] (c_X4_greatest hG isO_3 v2 g2) (ln_3 hG) (lk_3 hG) rfl rfl rfl ⟨Nat.le_refl _, Nat.le_refl _⟩ (Nat.le_of_ble_eq_true rfl) dX3_adjointOf_49 ?_
    exact am_ireturn hz dX3_adjointOf_52 h
  · replace h := h.2 c1
    refine am_aload_n hz1 dX3_adjointOf_15 0 rfl rfl ?_
    refine am_getR hz1 fl_X3_19 (ln_41 hG) (lk_41 hG) (lr_41_2 hG) rfl dX3_adjointOf_16 ?_
    refine am_aload_n hz1 dX3_adjointOf_19 0 rfl rfl ?_
    refine am_getR hz1 fl_X3_9 (ln_41 hG) (lk_41 hG) (lr_41_0 hG) rfl dX3_adjointOf_20 ?_
    refine am_iload_n hz1 dX3_adjointOf_23 3 rfl rfl ?_
    obtain ⟨g3, h⟩ := h
    refine am_iald hz1 (ln_42 hG) (lk_42 hG) (by rw [(ll_42 hG)]; exact g3) dX3_adjointOf_24 ?_
    refine am_iload_n hz1 dX3_adjointOf_25 1 rfl rfl ?_
    obtain ⟨g4, h⟩ := h
    refine am_cVf hz cv_X3_34 [.int (I 42 v3.toNatClampNeg), .int v1] [] (c_X4_atMost hG isO_20 (I 42 v3.toNatClampNeg) v1 g4) (ln_20 hG) (lk_20 hG) rfl rfl rfl ⟨Nat.le_refl _, Nat.le_refl _⟩ (Nat.le_of_ble_eq_true rfl) dX3_adjointOf_26 ?_
    refine am_ifb_eq (tgt := 38) hz1 dX3_adjointOf_29 (by decide) (fun c5 => ?_) (fun c5 => ?_)
    · replace h := h.1 c5
      refine am_iinc (v := v3 + 1) (lv' := [(3, .int (v3 + 1)), (0, .ref ((zB z).size + 41)), (1, .int v1), (2, .int v2)]) hz1 dX3_adjointOf_38 3 rfl rfl rfl rfl ?_
      refine am_goto (tgt := 4) hz1 dX3_adjointOf_41 (by decide) ?_
      exact am_sub (lv' := [(0, .ref ((zB z).size + 41)), (1, .int v1), (2, .int v2), (3, .int (v3 + 1))]) [1, 2, 3, 0] rfl h
    · replace h := h.2 c5
      refine am_iload_n hz1 dX3_adjointOf_32 2 rfl rfl ?_
      refine am_iconst (v := 1) hz1 dX3_adjointOf_33 (by decide) ?_
      refine am_iload_n hz1 dX3_adjointOf_34 3 rfl rfl ?_
      refine am_ishl hz1 dX3_adjointOf_35 ?_
      refine am_ior hz1 dX3_adjointOf_36 ?_
      refine am_istore_n (lv' := [(2, .int (v2 ||| ((1 : Int32) <<< (v3 &&& 31)))), (0, .ref ((zB z).size + 41)), (1, .int v1), (3, .int v3)]) hz1 dX3_adjointOf_37 rfl rfl rfl ?_
      refine am_iinc (v := v3 + 1) (lv' := [(3, .int (v3 + 1)), (2, .int (v2 ||| ((1 : Int32) <<< (v3 &&& 31)))), (0, .ref ((zB z).size + 41)), (1, .int v1)]) hz1 dX3_adjointOf_38 3 rfl rfl rfl rfl ?_
      refine am_goto (tgt := 4) hz1 dX3_adjointOf_41 (by decide) ?_
      exact am_sub (lv' := [(0, .ref ((zB z).size + 41)), (1, .int v1), (2, .int (v2 ||| ((1 : Int32) <<< (v3 &&& 31)))), (3, .int (v3 + 1))]) [2, 3, 1, 0] rfl h
set_option maxRecDepth 100000 in
set_option maxHeartbeats 4000000 in
theorem c_X3_adjointOf {l : Launch} {D : va_G} {B : Heap} {G : amG} {I : amI} {L : amL}  (hG : Lay G)  (v1 : Int32) (hs : szOk I 3) (hs2 : szOk I 20) : Fx l D B yX3_adjointOf cX3_adjointOf 4 (some .int) 3 [.ref (B.size + 41), .int v1] G I L (some (.int (q_adj I v1))) I L := by
  refine Mx.of (by decide) rfl rfl (fun z e1 e2 e3 hz => ?_)
  subst e1; subst e2; subst e3
  refine b_X3_adjointOf_0 hz hG ?_
  obtain ⟨n, hn1, h16, hn⟩ := id hs
  refine for_up (P := fun i => Wx z 0 0 4 [(0, .ref ((zB z).size + 41)), (1, .int v1), (2, .int (mkset (fun x => q_atMost I 20 (I 42 x) v1) i)), (3, .int (nI i))] [] G I L) (n := n) ?_ ?_ (Nat.zero_le n)
  · exact b_X3_adjointOf_4 hz hG ⟨fun _ => ⟨hs, by rw [q_adj, sz_eq hn h16], rfl, rfl, rfl⟩, fun h => absurd (sz_le hn h16) h⟩
  · intro i hi ih
    refine b_X3_adjointOf_4 hz hG ⟨fun h => absurd h (sz_ge hn h16 hi), fun _ => ⟨in16 h16 hi, hs2, fun h => ?_, fun h => ?_⟩⟩
    · rw [cl_nI (by omega)] at h
      rw [mkset, if_neg (by rw [h]; decide), Int32.or_zero] at ih
      rw [nI_1]
      exact ih
    · rw [cl_nI (by omega)] at h
      rw [mkset, if_pos h] at ih
      rw [nI_1]
      exact ih
set_option maxRecDepth 100000 in
set_option maxHeartbeats 4000000 in
theorem b_X3_isJoined_0 {z : amZ} {post : amP} {G : amG} {I : amI} {L : amL} (hz : Go z cX3_isJoined RX3 2 (some .boolean) 4 0 0 post) (hG : Lay G)  (h : Wx z 0 0 2 [(0, .ref ((zB z).size + 41)), (1, .int 0)] [] G I L) : Wx z 0 0 0 [(0, .ref ((zB z).size + 41))] [] G I L := by
  have hz1 := hz.1
  refine am_iconst (v := 0) hz1 dX3_isJoined_0 (by decide) ?_
  refine am_istore_n (lv' := [(1, .int 0), (0, .ref ((zB z).size + 41))]) hz1 dX3_isJoined_1 rfl rfl rfl ?_
  exact am_sub (lv' := [(0, .ref ((zB z).size + 41)), (1, .int 0)]) [1, 0] rfl h
set_option maxRecDepth 100000 in
set_option maxHeartbeats 4000000 in
theorem b_X3_isJoined_2 {z : amZ} {post : amP} {G : amG} {I : amI} {L : amL} (hz : Go z cX3_isJoined RX3 2 (some .boolean) 4 0 0 post) (hG : Lay G) {v1 : Int32} (h : (((I 20 0) ≤ v1) → (szOk I 3) ∧ post (some (.int (bI (q_whole I)))) G I L) ∧ ((¬ (I 20 0) ≤ v1) → (szOk I 3) ∧ (szOk I 20) ∧ ((0 ≤ (q_adj I v1)) → Wx z 0 0 2 [(0, .ref ((zB z).size + 41)), (1, .int (v1 + 1))] [] G I L) ∧ ((¬ 0 ≤ (q_adj I v1)) → post (some (.int 0)) G I L))) : Wx z 0 0 2 [(0, .ref ((zB z).size + 41)), (1, .int v1)] [] G I L := by
  have hz1 := hz.1
  refine am_iload_n hz1 dX3_isJoined_2 1 rfl rfl ?_
  refine am_aload_n hz1 dX3_isJoined_3 0 rfl rfl ?_
  refine am_getR hz1 fl_X3_19 (ln_41 hG) (lk_41 hG) (lr_41_2 hG) rfl dX3_isJoined_4 ?_
  refine am_getI hz1 fl_X3_28 (ln_20 hG) (lk_20 hG) rfl dX3_isJoined_7 ?_
  refine am_icmp_ge (tgt := 29) hz1 dX3_isJoined_10 (by decide) (fun c1 => ?_) (fun c1 => ?_)
  · replace h := h.1 c1
    refine am_aload_n hz1 dX3_isJoined_29 0 rfl rfl ?_
    obtain ⟨g2, h⟩ := h
    refine am_cVf hz cv_X3_45 [] [] (c_X3_isWhole hG  g2) (ln_41 hG) (lk_41 hG) rfl rfl rfl ⟨Nat.le_refl _, Nat.le_refl _⟩ (Nat.le_of_ble_eq_true rfl) dX3_isJoined_30 ?_
    exact am_zreturn hz (bI_01 _) dX3_isJoined_33 h
  · replace h := h.2 c1
    refine am_aload_n hz1 dX3_isJoined_13 0 rfl rfl ?_
    refine am_iload_n hz1 dX3_isJoined_14 1 rfl rfl ?_
    obtain ⟨g3, h⟩ := h
    obtain ⟨g4, h⟩ := h
    refine am_cVf hz cv_X3_42 [.int v1] [] (c_X3_adjointOf hG v1 g3 g4) (ln_41 hG) (lk_41 hG) rfl rfl rfl ⟨Nat.le_refl _, Nat.le_refl _⟩ (Nat.le_of_ble_eq_true rfl) dX3_isJoined_15 ?_
    refine am_if_ge (tgt := 23) hz1 dX3_isJoined_18 (by decide) (fun c5 => ?_) (fun c5 => ?_)
    · replace h := h.1 c5
      refine am_iinc (v := v1 + 1) (lv' := [(1, .int (v1 + 1)), (0, .ref ((zB z).size + 41))]) hz1 dX3_isJoined_23 1 rfl rfl rfl rfl ?_
      refine am_goto (tgt := 2) hz1 dX3_isJoined_26 (by decide) ?_
      exact am_sub (lv' := [(0, .ref ((zB z).size + 41)), (1, .int (v1 + 1))]) [1, 0] rfl h
    · replace h := h.2 c5
      refine am_iconst (v := 0) hz1 dX3_isJoined_21 (by decide) ?_
      exact am_zreturn hz (by decide) dX3_isJoined_22 h
set_option maxRecDepth 100000 in
set_option maxHeartbeats 4000000 in
theorem c_X3_isJoined {l : Launch} {D : va_G} {B : Heap} {G : amG} {I : amI} {L : amL}  (hG : Lay G)   (hs : szOk I 3) (hs2 : szOk I 20) : Fx l D B yX3_isJoined cX3_isJoined 2 (some .boolean) 4 [.ref (B.size + 41)] G I L (some (.int (bI (q_joined I)))) I L := by
  refine Mx.of (by decide) rfl rfl (fun z e1 e2 e3 hz => ?_)
  subst e1; subst e2; subst e3
  refine b_X3_isJoined_0 hz hG ?_
  obtain ⟨n, hn1, h16, hn⟩ := id hs2
  refine for_up (P := fun i => scan (fun y => decide (¬ 0 ≤ q_adj I (nI y))) (fun _ => false) (q_whole I) (n - i) i = q_joined I → Wx z 0 0 2 [(0, .ref ((zB z).size + 41)), (1, .int (nI i))] [] G I L) (n := n) ?_ ?_ (Nat.zero_le n) (by rw [q_joined, sz_eq hn h16, Nat.sub_zero])
  · intro e
    rw [scan_0] at e
    exact b_X3_isJoined_2 hz hG ⟨fun _ => ⟨hs, by rw [← e], rfl, rfl, rfl⟩, fun h => absurd (sz_le hn h16) h⟩
  · intro i hi ih e
    rw [scan_s hi] at e
    refine b_X3_isJoined_2 hz hG ⟨fun h => absurd h (sz_ge hn h16 hi), fun _ => ⟨hs, hs2, fun h => ?_, fun h => ?_⟩⟩
    · rw [if_neg (by rw [decide_eq_false (not_not_intro h)]; decide)] at e
      rw [nI_1]
      exact ih e
    · rw [if_pos (decide_eq_true h)] at e
      exact ⟨by rw [← e]; rfl, rfl, rfl, rfl⟩
set_option maxRecDepth 100000 in
set_option maxHeartbeats 4000000 in
theorem b_X3_sideHere_0 {z : amZ} {post : amP} {G : amG} {I : amI} {L : amL} (hz : Go z cX3_sideHere RX3 7 (some .long) 3 0 0 post) (hG : Lay G) {v1 : Int32} {v2 : Int32} (h : (szOk I 3) ∧ (rowOk I 3) ∧ Wx z 0 0 15 [(0, .ref ((zB z).size + 41)), (1, .int v1), (2, .int v2), (3, .ref ((zB z).size + 63)), (4, .long (0 : Int64)), (6, .int 0)] [] G I (setL L 63 (q_mf I 3 v1 (L 63) (sz I 3)))) : Wx z 0 0 0 [(0, .ref ((zB z).size + 41)), (1, .int v1), (2, .int v2), (3, .ref ((zB z).size + 63))] [] G I L := by
  have hz1 := hz.1
  refine am_aload_n hz1 dX3_sideHere_0 0 rfl rfl ?_
  refine am_getR hz1 fl_X3_15 (ln_41 hG) (lk_41 hG) (lr_41_1 hG) rfl dX3_sideHere_1 ?_
  refine am_iload_n hz1 dX3_sideHere_4 1 rfl rfl ?_
  refine am_aload_n hz1 dX3_sideHere_5 3 rfl rfl ?_
  obtain ⟨g1, h⟩ := h
  obtain ⟨g2, h⟩ := h
  refine am_cVf hz cv_X3_49 [.int v1, .ref ((zB z).size + 63)] [] (c_X4_moebiusFrom hG isO_3 (ln_63 hG) (lk_63 hG) (ll_63 hG) v1 g1 g2) (ln_3 hG) (lk_3 hG) rfl rfl rfl ⟨Nat.le_refl _, Nat.le_refl _⟩ (Nat.le_of_ble_eq_true rfl) dX3_sideHere_6 ?_
  refine am_lconst (v := 0) hz1 dX3_sideHere_9 (by decide) ?_
  refine am_lstore (lv' := [(4, .long (0 : Int64)), (0, .ref ((zB z).size + 41)), (1, .int v1), (2, .int v2), (3, .ref ((zB z).size + 63))]) hz1 dX3_sideHere_10 rfl rfl ?_
  refine am_iconst (v := 0) hz1 dX3_sideHere_12 (by decide) ?_
  refine am_istore (lv' := [(6, .int 0), (4, .long (0 : Int64)), (0, .ref ((zB z).size + 41)), (1, .int v1), (2, .int v2), (3, .ref ((zB z).size + 63))]) hz1 dX3_sideHere_13 rfl rfl ?_
  exact am_sub (lv' := [(0, .ref ((zB z).size + 41)), (1, .int v1), (2, .int v2), (3, .ref ((zB z).size + 63)), (4, .long (0 : Int64)), (6, .int 0)]) [2, 3, 4, 5, 1, 0] rfl h
set_option maxRecDepth 100000 in
set_option maxHeartbeats 4000000 in
theorem b_X3_sideHere_15 {z : amZ} {post : amP} {G : amG} {I : amI} {L : amL} (hz : Go z cX3_sideHere RX3 7 (some .long) 3 0 0 post) (hG : Lay G) {v1 : Int32} {v2 : Int32} {v4 : Int64} {v6 : Int32} (h : (((I 3 0) ≤ v6) → post (some (.long v4)) G I L) ∧ ((¬ (I 3 0) ≤ v6) → vp_in v6 16 ∧ ((¬ (I 42 v6.toNatClampNeg) = v2) → Wx z 0 0 15 [(0, .ref ((zB z).size + 41)), (1, .int v1), (2, .int v2), (3, .ref ((zB z).size + 63)), (4, .long v4), (6, .int (v6 + 1))] [] G I L) ∧ (((I 42 v6.toNatClampNeg) = v2) → (szOk I 3) ∧ ((q_atMost I 3 v1 v6 = false) → Wx z 0 0 15 [(0, .ref ((zB z).size + 41)), (1, .int v1), (2, .int v2), (3, .ref ((zB z).size + 63)), (4, .long v4), (6, .int (v6 + 1))] [] G I L) ∧ ((q_atMost I 3 v1 v6 = true) → vp_in v6 16 ∧ Wx z 0 0 15 [(0, .ref ((zB z).size + 41)), (1, .int v1), (2, .int v2), (3, .ref ((zB z).size + 63)), (4, .long (v4 + (L 63 v6.toNatClampNeg))), (6, .int (v6 + 1))] [] G I L)))) : Wx z 0 0 15 [(0, .ref ((zB z).size + 41)), (1, .int v1), (2, .int v2), (3, .ref ((zB z).size + 63)), (4, .long v4), (6, .int v6)] [] G I L := by
  have hz1 := hz.1
  refine am_iload hz1 dX3_sideHere_15 5 rfl ?_
  refine am_aload_n hz1 dX3_sideHere_17 0 rfl rfl ?_
  refine am_getR hz1 fl_X3_15 (ln_41 hG) (lk_41 hG) (lr_41_1 hG) rfl dX3_sideHere_18 ?_
  refine am_getI hz1 fl_X3_28 (ln_3 hG) (lk_3 hG) rfl dX3_sideHere_21 ?_
  refine am_icmp_ge (tgt := 66) hz1 dX3_sideHere_24 (by decide) (fun c1 => ?_) (fun c1 => ?_)
  · replace h := h.1 c1
    refine am_lload hz1 dX3_sideHere_66 4 rfl ?_
    exact am_lreturn hz dX3_sideHere_68 h
  · replace h := h.2 c1
    refine am_aload_n hz1 dX3_sideHere_27 0 rfl rfl ?_
    refine am_getR hz1 fl_X3_9 (ln_41 hG) (lk_41 hG) (lr_41_0 hG) rfl dX3_sideHere_28 ?_
    refine am_iload hz1 dX3_sideHere_31 5 rfl ?_
    obtain ⟨g2, h⟩ := h
    refine am_iald hz1 (ln_42 hG) (lk_42 hG) (by rw [(ll_42 hG)]; exact g2) dX3_sideHere_33 ?_
    refine am_iload_n hz1 dX3_sideHere_34 2 rfl rfl ?_
    refine am_icmp_ne (tgt := 60) hz1 dX3_sideHere_35 (by decide) (fun c3 => ?_) (fun c3 => ?_)
    · replace h := h.1 c3
      refine am_iinc (v := v6 + 1) (lv' := [(6, .int (v6 + 1)), (0, .ref ((zB z).size + 41)), (1, .int v1), (2, .int v2), (3, .ref ((zB z).size + 63)), (4, .long v4)]) hz1 dX3_sideHere_60 5 rfl rfl rfl rfl ?_
      refine am_goto (tgt := 15) hz1 dX3_sideHere_63 (by decide) ?_
      exact am_sub (lv' := [(0, .ref ((zB z).size + 41)), (1, .int v1), (2, .int v2), (3, .ref ((zB z).size + 63)), (4, .long v4), (6, .int (v6 + 1))]) [1, 2, 3, 4, 5, 0] rfl h
    · replace h := h.2 c3
      refine am_aload_n hz1 dX3_sideHere_38 0 rfl rfl ?_
      refine am_getR hz1 fl_X3_15 (ln_41 hG) (lk_41 hG) (lr_41_1 hG) rfl dX3_sideHere_39 ?_
      refine am_iload_n hz1 dX3_sideHere_42 1 rfl rfl ?_
      refine am_iload hz1 dX3_sideHere_43 5 rfl ?_
      obtain ⟨g4, h⟩ := h
      refine am_cVf hz cv_X3_34 [.int v1, .int v6] [] (c_X4_atMost hG isO_3 v1 v6 g4) (ln_3 hG) (lk_3 hG) rfl rfl rfl ⟨Nat.le_refl _, Nat.le_refl _⟩ (Nat.le_of_ble_eq_true rfl) dX3_sideHere_45 ?_
      refine am_ifb_eq (tgt := 60) hz1 dX3_sideHere_48 (by decide) (fun c5 => ?_) (fun c5 => ?_)
      · replace h := h.1 c5
        refine am_iinc (v := v6 + 1) (lv' := [(6, .int (v6 + 1)), (0, .ref ((zB z).size + 41)), (1, .int v1), (2, .int v2), (3, .ref ((zB z).size + 63)), (4, .long v4)]) hz1 dX3_sideHere_60 5 rfl rfl rfl rfl ?_
        refine am_goto (tgt := 15) hz1 dX3_sideHere_63 (by decide) ?_
        exact am_sub (lv' := [(0, .ref ((zB z).size + 41)), (1, .int v1), (2, .int v2), (3, .ref ((zB z).size + 63)), (4, .long v4), (6, .int (v6 + 1))]) [1, 2, 3, 4, 5, 0] rfl h
      · replace h := h.2 c5
        refine am_lload hz1 dX3_sideHere_51 4 rfl ?_
        refine am_aload_n hz1 dX3_sideHere_53 3 rfl rfl ?_
        refine am_iload hz1 dX3_sideHere_54 5 rfl ?_
        obtain ⟨g6, h⟩ := h
        refine am_lald hz1 (ln_63 hG) (lk_63 hG) (by rw [(ll_63 hG)]; exact g6) dX3_sideHere_56 ?_
        refine am_ladd hz1 dX3_sideHere_57 ?_
        refine am_lstore (lv' := [(4, .long (v4 + (L 63 v6.toNatClampNeg))), (0, .ref ((zB z).size + 41)), (1, .int v1), (2, .int v2), (3, .ref ((zB z).size + 63)), (6, .int v6)]) hz1 dX3_sideHere_58 rfl rfl ?_
        refine am_iinc (v := v6 + 1) (lv' := [(6, .int (v6 + 1)), (4, .long (v4 + (L 63 v6.toNatClampNeg))), (0, .ref ((zB z).size + 41)), (1, .int v1), (2, .int v2), (3, .ref ((zB z).size + 63))]) hz1 dX3_sideHere_60 5 rfl rfl rfl rfl ?_
        refine am_goto (tgt := 15) hz1 dX3_sideHere_63 (by decide) ?_
        exact am_sub (lv' := [(0, .ref ((zB z).size + 41)), (1, .int v1), (2, .int v2), (3, .ref ((zB z).size + 63)), (4, .long (v4 + (L 63 v6.toNatClampNeg))), (6, .int (v6 + 1))]) [2, 3, 4, 5, 1, 0] rfl h
set_option maxRecDepth 100000 in
set_option maxHeartbeats 4000000 in
theorem c_X3_sideHere {l : Launch} {D : va_G} {B : Heap} {G : amG} {I : amI} {L : amL}  (hG : Lay G)  (v1 : Int32) (v2 : Int32) (hs : szOk I 3) (hr : rowOk I 3) : Fx l D B yX3_sideHere cX3_sideHere 7 (some .long) 3 [.ref (B.size + 41), .int v1, .int v2, .ref (B.size + 63)] G I L (some (.long (q_sh I L v1 v2))) I (setL L 63 (q_mf I 3 v1 (L 63) (sz I 3))) := by
  refine Mx.of (by decide) rfl rfl (fun z e1 e2 e3 hz => ?_)
  subst e1; subst e2; subst e3
  refine b_X3_sideHere_0 hz hG ?_
  obtain ⟨n, hn1, h16, hn⟩ := id hs
  refine ⟨hs, hr, ?_⟩
  refine for_up (P := fun i => Wx z 0 0 15 [(0, .ref ((zB z).size + 41)), (1, .int v1), (2, .int v2), (3, .ref ((zB z).size + 63)), (4, .long (sumC (fun x => decide (I 42 x = v2) && q_atMost I 3 v1 (nI x)) (q_mf I 3 v1 (L 63) (sz I 3)) i)), (6, .int (nI i))] [] G I (setL L 63 (q_mf I 3 v1 (L 63) (sz I 3)))) (n := n) ?_ ?_ (Nat.zero_le n)
  · exact b_X3_sideHere_15 hz hG ⟨fun _ => ⟨by rw [q_sh, sz_eq hn h16], rfl, rfl, rfl⟩, fun h => absurd (sz_le hn h16) h⟩
  · intro i hi ih
    refine b_X3_sideHere_15 hz hG ⟨fun h => absurd h (sz_ge hn h16 hi), fun _ => ⟨in16 h16 hi, fun h => ?_, fun h => ⟨hs, fun h2 => ?_, fun h2 => ⟨in16 h16 hi, ?_⟩⟩⟩⟩
    · rw [cl_nI (by omega)] at h
      rw [sumC, if_neg (by rw [decide_eq_false h, Bool.false_and]; decide)] at ih
      rw [nI_1]
      exact ih
    · rw [sumC, if_neg (by rw [h2, Bool.and_false]; decide)] at ih
      rw [nI_1]
      exact ih
    · rw [cl_nI (by omega)] at h
      rw [sumC, if_pos (by rw [h2, decide_eq_true h]; rfl)] at ih
      rw [nI_1, cl_nI (by omega), setL_s]
      exact ih
set_option maxRecDepth 100000 in
set_option maxHeartbeats 4000000 in
theorem b_X3_sideThere_0 {z : amZ} {post : amP} {G : amG} {I : amI} {L : amL} (hz : Go z cX3_sideThere RX3 7 (some .long) 4 0 0 post) (hG : Lay G) {v1 : Int32} {v2 : Int32} (h : (szOk I 20) ∧ (rowOk I 20) ∧ Wx z 0 0 15 [(0, .ref ((zB z).size + 41)), (1, .int v1), (2, .int v2), (3, .ref ((zB z).size + 63)), (4, .long (0 : Int64)), (6, .int 0)] [] G I (setL L 63 (q_mt I 20 v2 (L 63) (sz I 20)))) : Wx z 0 0 0 [(0, .ref ((zB z).size + 41)), (1, .int v1), (2, .int v2), (3, .ref ((zB z).size + 63))] [] G I L := by
  have hz1 := hz.1
  refine am_aload_n hz1 dX3_sideThere_0 0 rfl rfl ?_
  refine am_getR hz1 fl_X3_19 (ln_41 hG) (lk_41 hG) (lr_41_2 hG) rfl dX3_sideThere_1 ?_
  refine am_iload_n hz1 dX3_sideThere_4 2 rfl rfl ?_
  refine am_aload_n hz1 dX3_sideThere_5 3 rfl rfl ?_
  obtain ⟨g1, h⟩ := h
  obtain ⟨g2, h⟩ := h
  refine am_cVf hz cv_X3_53 [.int v2, .ref ((zB z).size + 63)] [] (c_X4_moebiusTo hG isO_20 (ln_63 hG) (lk_63 hG) (ll_63 hG) v2 g1 g2) (ln_20 hG) (lk_20 hG) rfl rfl rfl ⟨Nat.le_refl _, Nat.le_refl _⟩ (Nat.le_of_ble_eq_true rfl) dX3_sideThere_6 ?_
  refine am_lconst (v := 0) hz1 dX3_sideThere_9 (by decide) ?_
  refine am_lstore (lv' := [(4, .long (0 : Int64)), (0, .ref ((zB z).size + 41)), (1, .int v1), (2, .int v2), (3, .ref ((zB z).size + 63))]) hz1 dX3_sideThere_10 rfl rfl ?_
  refine am_iconst (v := 0) hz1 dX3_sideThere_12 (by decide) ?_
  refine am_istore (lv' := [(6, .int 0), (4, .long (0 : Int64)), (0, .ref ((zB z).size + 41)), (1, .int v1), (2, .int v2), (3, .ref ((zB z).size + 63))]) hz1 dX3_sideThere_13 rfl rfl ?_
  exact am_sub (lv' := [(0, .ref ((zB z).size + 41)), (1, .int v1), (2, .int v2), (3, .ref ((zB z).size + 63)), (4, .long (0 : Int64)), (6, .int 0)]) [2, 3, 4, 5, 1, 0] rfl h
set_option maxRecDepth 100000 in
set_option maxHeartbeats 4000000 in
theorem b_X3_sideThere_15 {z : amZ} {post : amP} {G : amG} {I : amI} {L : amL} (hz : Go z cX3_sideThere RX3 7 (some .long) 4 0 0 post) (hG : Lay G) {v1 : Int32} {v2 : Int32} {v4 : Int64} {v6 : Int32} (h : (((I 20 0) ≤ v6) → post (some (.long v4)) G I L) ∧ ((¬ (I 20 0) ≤ v6) → (szOk I 20) ∧ ((q_atMost I 20 v6 v2 = false) → Wx z 0 0 15 [(0, .ref ((zB z).size + 41)), (1, .int v1), (2, .int v2), (3, .ref ((zB z).size + 63)), (4, .long v4), (6, .int (v6 + 1))] [] G I L) ∧ ((q_atMost I 20 v6 v2 = true) → (szOk I 3) ∧ (szOk I 20) ∧ ((¬ (q_adj I v6) = v1) → Wx z 0 0 15 [(0, .ref ((zB z).size + 41)), (1, .int v1), (2, .int v2), (3, .ref ((zB z).size + 63)), (4, .long v4), (6, .int (v6 + 1))] [] G I L) ∧ (((q_adj I v6) = v1) → vp_in v6 16 ∧ Wx z 0 0 15 [(0, .ref ((zB z).size + 41)), (1, .int v1), (2, .int v2), (3, .ref ((zB z).size + 63)), (4, .long (v4 + (L 63 v6.toNatClampNeg))), (6, .int (v6 + 1))] [] G I L)))) : Wx z 0 0 15 [(0, .ref ((zB z).size + 41)), (1, .int v1), (2, .int v2), (3, .ref ((zB z).size + 63)), (4, .long v4), (6, .int v6)] [] G I L := by
  have hz1 := hz.1
  refine am_iload hz1 dX3_sideThere_15 5 rfl ?_
  refine am_aload_n hz1 dX3_sideThere_17 0 rfl rfl ?_
  refine am_getR hz1 fl_X3_19 (ln_41 hG) (lk_41 hG) (lr_41_2 hG) rfl dX3_sideThere_18 ?_
  refine am_getI hz1 fl_X3_28 (ln_20 hG) (lk_20 hG) rfl dX3_sideThere_21 ?_
  refine am_icmp_ge (tgt := 65) hz1 dX3_sideThere_24 (by decide) (fun c1 => ?_) (fun c1 => ?_)
  · replace h := h.1 c1
    refine am_lload hz1 dX3_sideThere_65 4 rfl ?_
    exact am_lreturn hz dX3_sideThere_67 h
  · replace h := h.2 c1
    refine am_aload_n hz1 dX3_sideThere_27 0 rfl rfl ?_
    refine am_getR hz1 fl_X3_19 (ln_41 hG) (lk_41 hG) (lr_41_2 hG) rfl dX3_sideThere_28 ?_
    refine am_iload hz1 dX3_sideThere_31 5 rfl ?_
    refine am_iload_n hz1 dX3_sideThere_33 2 rfl rfl ?_
    obtain ⟨g2, h⟩ := h
    refine am_cVf hz cv_X3_34 [.int v6, .int v2] [] (c_X4_atMost hG isO_20 v6 v2 g2) (ln_20 hG) (lk_20 hG) rfl rfl rfl ⟨Nat.le_refl _, Nat.le_refl _⟩ (Nat.le_of_ble_eq_true rfl) dX3_sideThere_34 ?_
    refine am_ifb_eq (tgt := 59) hz1 dX3_sideThere_37 (by decide) (fun c3 => ?_) (fun c3 => ?_)
    · replace h := h.1 c3
      refine am_iinc (v := v6 + 1) (lv' := [(6, .int (v6 + 1)), (0, .ref ((zB z).size + 41)), (1, .int v1), (2, .int v2), (3, .ref ((zB z).size + 63)), (4, .long v4)]) hz1 dX3_sideThere_59 5 rfl rfl rfl rfl ?_
      refine am_goto (tgt := 15) hz1 dX3_sideThere_62 (by decide) ?_
      exact am_sub (lv' := [(0, .ref ((zB z).size + 41)), (1, .int v1), (2, .int v2), (3, .ref ((zB z).size + 63)), (4, .long v4), (6, .int (v6 + 1))]) [1, 2, 3, 4, 5, 0] rfl h
    · replace h := h.2 c3
      refine am_aload_n hz1 dX3_sideThere_40 0 rfl rfl ?_
      refine am_iload hz1 dX3_sideThere_41 5 rfl ?_
      obtain ⟨g4, h⟩ := h
      obtain ⟨g5, h⟩ := h
      refine am_cVf hz cv_X3_42 [.int v6] [] (c_X3_adjointOf hG v6 g4 g5) (ln_41 hG) (lk_41 hG) rfl rfl rfl ⟨Nat.le_refl _, Nat.le_refl _⟩ (Nat.le_of_ble_eq_true rfl) dX3_sideThere_43 ?_
      refine am_iload_n hz1 dX3_sideThere_46 1 rfl rfl ?_
      refine am_icmp_ne (tgt := 59) hz1 dX3_sideThere_47 (by decide) (fun c6 => ?_) (fun c6 => ?_)
      · replace h := h.1 c6
        refine am_iinc (v := v6 + 1) (lv' := [(6, .int (v6 + 1)), (0, .ref ((zB z).size + 41)), (1, .int v1), (2, .int v2), (3, .ref ((zB z).size + 63)), (4, .long v4)]) hz1 dX3_sideThere_59 5 rfl rfl rfl rfl ?_
        refine am_goto (tgt := 15) hz1 dX3_sideThere_62 (by decide) ?_
        exact am_sub (lv' := [(0, .ref ((zB z).size + 41)), (1, .int v1), (2, .int v2), (3, .ref ((zB z).size + 63)), (4, .long v4), (6, .int (v6 + 1))]) [1, 2, 3, 4, 5, 0] rfl h
      · replace h := h.2 c6
        refine am_lload hz1 dX3_sideThere_50 4 rfl ?_
        refine am_aload_n hz1 dX3_sideThere_52 3 rfl rfl ?_
        refine am_iload hz1 dX3_sideThere_53 5 rfl ?_
        obtain ⟨g7, h⟩ := h
        refine am_lald hz1 (ln_63 hG) (lk_63 hG) (by rw [(ll_63 hG)]; exact g7) dX3_sideThere_55 ?_
        refine am_ladd hz1 dX3_sideThere_56 ?_
        refine am_lstore (lv' := [(4, .long (v4 + (L 63 v6.toNatClampNeg))), (0, .ref ((zB z).size + 41)), (1, .int v1), (2, .int v2), (3, .ref ((zB z).size + 63)), (6, .int v6)]) hz1 dX3_sideThere_57 rfl rfl ?_
        refine am_iinc (v := v6 + 1) (lv' := [(6, .int (v6 + 1)), (4, .long (v4 + (L 63 v6.toNatClampNeg))), (0, .ref ((zB z).size + 41)), (1, .int v1), (2, .int v2), (3, .ref ((zB z).size + 63))]) hz1 dX3_sideThere_59 5 rfl rfl rfl rfl ?_
        refine am_goto (tgt := 15) hz1 dX3_sideThere_62 (by decide) ?_
        exact am_sub (lv' := [(0, .ref ((zB z).size + 41)), (1, .int v1), (2, .int v2), (3, .ref ((zB z).size + 63)), (4, .long (v4 + (L 63 v6.toNatClampNeg))), (6, .int (v6 + 1))]) [2, 3, 4, 5, 1, 0] rfl h
set_option maxRecDepth 100000 in
set_option maxHeartbeats 4000000 in
theorem c_X3_sideThere {l : Launch} {D : va_G} {B : Heap} {G : amG} {I : amI} {L : amL}  (hG : Lay G)  (v1 : Int32) (v2 : Int32) (hs : szOk I 3) (hs2 : szOk I 20) (hr : rowOk I 20) : Fx l D B yX3_sideThere cX3_sideThere 7 (some .long) 4 [.ref (B.size + 41), .int v1, .int v2, .ref (B.size + 63)] G I L (some (.long (q_st I L v1 v2))) I (setL L 63 (q_mt I 20 v2 (L 63) (sz I 20))) := by
  refine Mx.of (by decide) rfl rfl (fun z e1 e2 e3 hz => ?_)
  subst e1; subst e2; subst e3
  refine b_X3_sideThere_0 hz hG ?_
  obtain ⟨n, hn1, h16, hn⟩ := id hs2
  refine ⟨hs2, hr, ?_⟩
  refine for_up (P := fun i => Wx z 0 0 15 [(0, .ref ((zB z).size + 41)), (1, .int v1), (2, .int v2), (3, .ref ((zB z).size + 63)), (4, .long (sumC (fun y => q_atMost I 20 (nI y) v2 && decide (q_adj I (nI y) = v1)) (q_mt I 20 v2 (L 63) (sz I 20)) i)), (6, .int (nI i))] [] G I (setL L 63 (q_mt I 20 v2 (L 63) (sz I 20)))) (n := n) ?_ ?_ (Nat.zero_le n)
  · exact b_X3_sideThere_15 hz hG ⟨fun _ => ⟨by rw [q_st, sz_eq hn h16], rfl, rfl, rfl⟩, fun h => absurd (sz_le hn h16) h⟩
  · intro i hi ih
    refine b_X3_sideThere_15 hz hG ⟨fun h => absurd h (sz_ge hn h16 hi), fun _ => ⟨hs2, fun h => ?_, fun h => ⟨hs, hs2, fun h2 => ?_, fun h2 => ⟨in16 h16 hi, ?_⟩⟩⟩⟩
    · rw [sumC, if_neg (by rw [h, Bool.false_and]; decide)] at ih
      rw [nI_1]
      exact ih
    · rw [sumC, if_neg (by rw [decide_eq_false h2, Bool.and_false]; decide)] at ih
      rw [nI_1]
      exact ih
    · rw [sumC, if_pos (by rw [h, decide_eq_true h2]; rfl)] at ih
      rw [nI_1, cl_nI (by omega), setL_s]
      exact ih
set_option maxRecDepth 100000 in
set_option maxHeartbeats 4000000 in
theorem b_X10_append_0 {z : amZ} {post : amP} {G : amG} {I : amI} {L : amL} (hz : Go z cX10_append RX10 3 none 0 0 0 post) (hG : Lay G) {v1 : Int32} (h : Wx z 0 0 3 [(0, .ref ((zB z).size + 1)), (1, .int v1), (2, .int 24)] [] G I L) : Wx z 0 0 0 [(0, .ref ((zB z).size + 1)), (1, .int v1)] [] G I L := by
  have hz1 := hz.1
  refine am_bipush (v := 24) hz1 dX10_append_0 (by decide) ?_
  refine am_istore_n (lv' := [(2, .int 24), (0, .ref ((zB z).size + 1)), (1, .int v1)]) hz1 dX10_append_2 rfl rfl rfl ?_
  exact am_sub (lv' := [(0, .ref ((zB z).size + 1)), (1, .int v1), (2, .int 24)]) [1, 2, 0] rfl h
set_option maxRecDepth 100000 in
set_option maxHeartbeats 4000000 in
theorem b_X10_append_3 {z : amZ} {post : amP} {G : amG} {I : amI} {L : amL} (hz : Go z cX10_append RX10 3 none 0 0 0 post) (hG : Lay G) {v1 : Int32} {v2 : Int32} (h : ((v2 < 0) → post none G I L) ∧ ((¬ v2 < 0) → (((120 : Int32) ≤ (I 1 1)) → Wx z 0 0 3 [(0, .ref ((zB z).size + 1)), (1, .int v1), (2, .int (v2 + (-8)))] [] G I L) ∧ ((¬ (120 : Int32) ≤ (I 1 1)) → vp_in (I 1 1) 120 ∧ Wx z 0 0 3 [(0, .ref ((zB z).size + 1)), (1, .int v1), (2, .int (v2 + (-8)))] [] G (setI (setI I 2 (upd (I 2) (I 1 1).toNatClampNeg (vp_nar .byte ((v1 >>> (v2 &&& 31)).toInt8.toInt32)))) 1 (upd ((setI I 2 (upd (I 2) (I 1 1).toNatClampNeg (vp_nar .byte ((v1 >>> (v2 &&& 31)).toInt8.toInt32)))) 1) 1 (((setI I 2 (upd (I 2) (I 1 1).toNatClampNeg (vp_nar .byte ((v1 >>> (v2 &&& 31)).toInt8.toInt32)))) 1 1) + (1 : Int32)))) L))) : Wx z 0 0 3 [(0, .ref ((zB z).size + 1)), (1, .int v1), (2, .int v2)] [] G I L := by
  have hz1 := hz.1
  refine am_iload_n hz1 dX10_append_3 2 rfl rfl ?_
  refine am_if_lt (tgt := 45) hz1 dX10_append_4 (by decide) (fun c1 => ?_) (fun c1 => ?_)
  · replace h := h.1 c1
    exact am_return hz dX10_append_45 h
  · replace h := h.2 c1
    refine am_aload_n hz1 dX10_append_7 0 rfl rfl ?_
    refine am_getI hz1 fl_X10_15 (ln_1 hG) (lk_1 hG) rfl dX10_append_8 ?_
    refine am_bipush (v := 120) hz1 dX10_append_11 (by decide) ?_
    refine am_icmp_ge (tgt := 39) hz1 dX10_append_13 (by decide) (fun c2 => ?_) (fun c2 => ?_)
    · replace h := h.1 c2
      refine am_iinc (v := v2 + (-8)) (lv' := [(2, .int (v2 + (-8))), (0, .ref ((zB z).size + 1)), (1, .int v1)]) hz1 dX10_append_39 2 rfl rfl rfl rfl ?_
      refine am_goto (tgt := 3) hz1 dX10_append_42 (by decide) ?_
      exact am_sub (lv' := [(0, .ref ((zB z).size + 1)), (1, .int v1), (2, .int (v2 + (-8)))]) [1, 2, 0] rfl h
    · replace h := h.2 c2
      refine am_aload_n hz1 dX10_append_16 0 rfl rfl ?_
      refine am_getR hz1 fl_X10_9 (ln_1 hG) (lk_1 hG) (lr_1_0 hG) rfl dX10_append_17 ?_
      refine am_aload_n hz1 dX10_append_20 0 rfl rfl ?_
      refine am_getI hz1 fl_X10_15 (ln_1 hG) (lk_1 hG) rfl dX10_append_21 ?_
      refine am_iload_n hz1 dX10_append_24 1 rfl rfl ?_
      refine am_iload_n hz1 dX10_append_25 2 rfl rfl ?_
      refine am_ishr hz1 dX10_append_26 ?_
      refine am_i2b hz1 dX10_append_27 ?_
      obtain ⟨g3, h⟩ := h
      refine am_bast hz1 (ln_2 hG) (lk_2 hG) (by rw [(ll_2 hG)]; exact g3) dX10_append_28 ?_
      refine am_aload_n hz1 dX10_append_29 0 rfl rfl ?_
      refine am_dup hz1 dX10_append_30 rfl ?_
      refine am_getI hz1 fl_X10_15 (ln_1 hG) (lk_1 hG) rfl dX10_append_31 ?_
      refine am_iconst (v := 1) hz1 dX10_append_34 (by decide) ?_
      refine am_iadd hz1 dX10_append_35 ?_
      refine am_putI hz1 fl_X10_15 (ln_1 hG) (lk_1 hG) rfl rfl (fun _ => rfl) dX10_append_36 ?_
      refine am_iinc (v := v2 + (-8)) (lv' := [(2, .int (v2 + (-8))), (0, .ref ((zB z).size + 1)), (1, .int v1)]) hz1 dX10_append_39 2 rfl rfl rfl rfl ?_
      refine am_goto (tgt := 3) hz1 dX10_append_42 (by decide) ?_
      exact am_sub (lv' := [(0, .ref ((zB z).size + 1)), (1, .int v1), (2, .int (v2 + (-8)))]) [1, 2, 0] rfl h
set_option maxRecDepth 100000 in
set_option maxHeartbeats 4000000 in
theorem c_X10_append {l : Launch} {D : va_G} {B : Heap} {G : amG} {I : amI} {L : amL}  (hG : Lay G)  (v1 : Int32) (ht : tp4 I) : Fx l D B yX10_append cX10_append 3 none 0 [.ref (B.size + 1), .int v1] G I L none (q_app I v1) L := by
  refine Mx.of (by decide) rfl rfl (fun z e1 e2 e3 hz => ?_)
  subst e1; subst e2; subst e3
  refine b_X10_append_0 hz hG ?_
  obtain ⟨s, hs, e0⟩ := ht
  have e1 : q_app1 I v1 24 1 1 = nI (s + 1) := by rw [q_app1, setI_s, upd_s, e0, nI_1]
  have e2 : q_app1 (q_app1 I v1 24) v1 16 1 1 = nI (s + 2) := by rw [q_app1, setI_s, upd_s, e1, nI_1]
  have e3 : q_app1 (q_app1 (q_app1 I v1 24) v1 16) v1 8 1 1 = nI (s + 3) := by rw [q_app1, setI_s, upd_s, e2, nI_1]
  have step : ∀ (J : amI) (sh : Int32) (k : Nat), k < 120 → J 1 1 = nI k → ¬ sh < 0 → Wx z 0 0 3 [(0, .ref ((zB z).size + 1)), (1, .int v1), (2, .int (sh + (-8)))] [] G (q_app1 J v1 sh) L → Wx z 0 0 3 [(0, .ref ((zB z).size + 1)), (1, .int v1), (2, .int sh)] [] G J L := by
    intro J sh k hk ek h0 hw
    refine b_X10_append_3 hz hG ⟨fun h => absurd h h0, fun _ => ⟨fun h => absurd h (by rw [ek]; exact nI_ge (a := k) (b := 120) hk (by decide)), fun _ => ⟨by rw [ek]; exact in_nI hk (by decide), ?_⟩⟩⟩
    rw [setI_n (show 1 ≠ 2 by decide)]
    exact hw
  refine step I 24 s (by omega) e0 (by decide) ?_
  refine step _ 16 (s + 1) (by omega) e1 (by decide) ?_
  refine step _ 8 (s + 2) (by omega) e2 (by decide) ?_
  refine step _ 0 (s + 3) (by omega) e3 (by decide) ?_
  exact b_X10_append_3 hz hG ⟨fun _ => ⟨rfl, rfl, rfl, rfl⟩, fun h => absurd (by decide) h⟩
set_option maxRecDepth 100000 in
set_option maxHeartbeats 4000000 in
theorem b_X10_at_0 {z : amZ} {post : amP} {G : amG} {I : amI} {L : amL} (hz : Go z cX10_at RX10 2 (some .int) 0 0 0 post) (hG : Lay G) {v1 : Int32} (h : ((v1 < 0) → post (some (.int (-1))) G I L) ∧ ((¬ v1 < 0) → (((I 1 1) ≤ v1) → post (some (.int (-1))) G I L) ∧ ((¬ (I 1 1) ≤ v1) → vp_in v1 120 ∧ post (some (.int ((I 2 v1.toNatClampNeg) &&& (255 : Int32)))) G I L))) : Wx z 0 0 0 [(0, .ref ((zB z).size + 1)), (1, .int v1)] [] G I L := by
  have hz1 := hz.1
  refine am_iload_n hz1 dX10_at_0 1 rfl rfl ?_
  refine am_if_lt (tgt := 25) hz1 dX10_at_1 (by decide) (fun c1 => ?_) (fun c1 => ?_)
  · replace h := h.1 c1
    refine am_iconst (v := (-1)) hz1 dX10_at_25 (by decide) ?_
    exact am_ireturn hz dX10_at_26 h
  · replace h := h.2 c1
    refine am_iload_n hz1 dX10_at_4 1 rfl rfl ?_
    refine am_aload_n hz1 dX10_at_5 0 rfl rfl ?_
    refine am_getI hz1 fl_X10_15 (ln_1 hG) (lk_1 hG) rfl dX10_at_6 ?_
    refine am_icmp_ge (tgt := 25) hz1 dX10_at_9 (by decide) (fun c2 => ?_) (fun c2 => ?_)
    · replace h := h.1 c2
      refine am_iconst (v := (-1)) hz1 dX10_at_25 (by decide) ?_
      exact am_ireturn hz dX10_at_26 h
    · replace h := h.2 c2
      refine am_aload_n hz1 dX10_at_12 0 rfl rfl ?_
      refine am_getR hz1 fl_X10_9 (ln_1 hG) (lk_1 hG) (lr_1_0 hG) rfl dX10_at_13 ?_
      refine am_iload_n hz1 dX10_at_16 1 rfl rfl ?_
      obtain ⟨g3, h⟩ := h
      refine am_bald hz1 (ln_2 hG) (lk_2 hG) (by rw [(ll_2 hG)]; exact g3) dX10_at_17 ?_
      refine am_sipush (v := 255) hz1 dX10_at_18 (by decide) ?_
      refine am_iand hz1 dX10_at_21 ?_
      refine am_goto (tgt := 26) hz1 dX10_at_22 (by decide) ?_
      exact am_ireturn hz dX10_at_26 h
set_option maxRecDepth 100000 in
set_option maxHeartbeats 4000000 in
theorem c_X10_at {l : Launch} {D : va_G} {B : Heap} {G : amG} {I : amI} {L : amL}  (hG : Lay G)  (v1 : Int32) (ht : tpOk I) : Fx l D B yX10_at cX10_at 2 (some .int) 0 [.ref (B.size + 1), .int v1] G I L (some (.int (q_tat I v1))) I L := by
  refine Mx.of (by decide) rfl rfl (fun z e1 e2 e3 hz => ?_)
  subst e1; subst e2; subst e3
  refine b_X10_at_0 hz hG ?_
  obtain ⟨s, hs, e⟩ := ht
  refine ⟨fun h => ⟨by rw [q_tat, if_pos h], rfl, rfl, rfl⟩, fun h => ⟨fun h2 => ⟨by rw [q_tat, if_neg h, if_pos h2], rfl, rfl, rfl⟩, fun h2 => ⟨?_, by rw [q_tat, if_neg h, if_neg h2], rfl, rfl, rfl⟩⟩⟩
  rw [e] at h2
  obtain ⟨j, hj, rfl⟩ := nI_of h
  rw [nI_leI (by omega) hj] at h2
  exact in_nI (by omega) (by decide)
set_option maxRecDepth 100000 in
set_option maxHeartbeats 4000000 in
theorem b_X10_isDigitAt_0 {z : amZ} {post : amP} {G : amG} {I : amI} {L : amL} (hz : Go z cX10_isDigitAt RX10 3 (some .boolean) 1 0 0 post) (hG : Lay G) {v1 : Int32} (h : (tpOk I) ∧ (((q_tat I v1) < (48 : Int32)) → post (some (.int 0)) G I L) ∧ ((¬ (q_tat I v1) < (48 : Int32)) → (((57 : Int32) < (q_tat I v1)) → post (some (.int 0)) G I L) ∧ ((¬ (57 : Int32) < (q_tat I v1)) → post (some (.int 1)) G I L))) : Wx z 0 0 0 [(0, .ref ((zB z).size + 1)), (1, .int v1)] [] G I L := by
  have hz1 := hz.1
  refine am_aload_n hz1 dX10_isDigitAt_0 0 rfl rfl ?_
  refine am_iload_n hz1 dX10_isDigitAt_1 1 rfl rfl ?_
  obtain ⟨g1, h⟩ := h
  refine am_cVf hz cv_X10_19 [.int v1] [] (c_X10_at hG v1 g1) (ln_1 hG) (lk_1 hG) rfl rfl rfl ⟨Nat.le_refl _, Nat.le_refl _⟩ (Nat.le_of_ble_eq_true rfl) dX10_isDigitAt_2 ?_
  refine am_istore_n (lv' := [(2, .int (q_tat I v1)), (0, .ref ((zB z).size + 1)), (1, .int v1)]) hz1 dX10_isDigitAt_5 rfl rfl rfl ?_
  refine am_iload_n hz1 dX10_isDigitAt_6 0 rfl rfl ?_
  refine am_bipush (v := 48) hz1 dX10_isDigitAt_7 (by decide) ?_
  refine am_icmp_lt (tgt := 22) hz1 dX10_isDigitAt_9 (by decide) (fun c2 => ?_) (fun c2 => ?_)
  · replace h := h.1 c2
    refine am_iconst (v := 0) hz1 dX10_isDigitAt_22 (by decide) ?_
    exact am_zreturn hz (by decide) dX10_isDigitAt_23 h
  · replace h := h.2 c2
    refine am_iload_n hz1 dX10_isDigitAt_12 0 rfl rfl ?_
    refine am_bipush (v := 57) hz1 dX10_isDigitAt_13 (by decide) ?_
    refine am_icmp_gt (tgt := 22) hz1 dX10_isDigitAt_15 (by decide) (fun c3 => ?_) (fun c3 => ?_)
    · replace h := h.1 c3
      refine am_iconst (v := 0) hz1 dX10_isDigitAt_22 (by decide) ?_
      exact am_zreturn hz (by decide) dX10_isDigitAt_23 h
    · replace h := h.2 c3
      refine am_iconst (v := 1) hz1 dX10_isDigitAt_18 (by decide) ?_
      refine am_goto (tgt := 23) hz1 dX10_isDigitAt_19 (by decide) ?_
      exact am_zreturn hz (by decide) dX10_isDigitAt_23 h
set_option maxRecDepth 100000 in
set_option maxHeartbeats 4000000 in
theorem c_X10_isDigitAt {l : Launch} {D : va_G} {B : Heap} {G : amG} {I : amI} {L : amL}  (hG : Lay G)  (v1 : Int32) (ht : tpOk I) : Fx l D B yX10_isDigitAt cX10_isDigitAt 3 (some .boolean) 1 [.ref (B.size + 1), .int v1] G I L (some (.int (bI (q_dig I v1)))) I L := by
  refine Mx.of (by decide) rfl rfl (fun z e1 e2 e3 hz => ?_)
  subst e1; subst e2; subst e3
  refine b_X10_isDigitAt_0 hz hG ?_
  refine ⟨ht, fun h => ⟨?_, rfl, rfl, rfl⟩, fun h => ⟨fun h2 => ⟨?_, rfl, rfl, rfl⟩, fun h2 => ⟨?_, rfl, rfl, rfl⟩⟩⟩
  · rw [q_dig, decide_eq_false (not_not_intro h)]; rfl
  · rw [q_dig, decide_eq_false (not_not_intro h2), Bool.and_false]; rfl
  · rw [q_dig, decide_eq_true h, decide_eq_true h2]; rfl
set_option maxRecDepth 100000 in
set_option maxHeartbeats 4000000 in
theorem b_X10_isLetterAt_0 {z : amZ} {post : amP} {G : amG} {I : amI} {L : amL} (hz : Go z cX10_isLetterAt RX10 3 (some .boolean) 1 0 0 post) (hG : Lay G) {v1 : Int32} (h : (tpOk I) ∧ (((q_tat I v1) < (97 : Int32)) → post (some (.int 0)) G I L) ∧ ((¬ (q_tat I v1) < (97 : Int32)) → (((122 : Int32) < (q_tat I v1)) → post (some (.int 0)) G I L) ∧ ((¬ (122 : Int32) < (q_tat I v1)) → post (some (.int 1)) G I L))) : Wx z 0 0 0 [(0, .ref ((zB z).size + 1)), (1, .int v1)] [] G I L := by
  have hz1 := hz.1
  refine am_aload_n hz1 dX10_isLetterAt_0 0 rfl rfl ?_
  refine am_iload_n hz1 dX10_isLetterAt_1 1 rfl rfl ?_
  obtain ⟨g1, h⟩ := h
  refine am_cVf hz cv_X10_19 [.int v1] [] (c_X10_at hG v1 g1) (ln_1 hG) (lk_1 hG) rfl rfl rfl ⟨Nat.le_refl _, Nat.le_refl _⟩ (Nat.le_of_ble_eq_true rfl) dX10_isLetterAt_2 ?_
  refine am_istore_n (lv' := [(2, .int (q_tat I v1)), (0, .ref ((zB z).size + 1)), (1, .int v1)]) hz1 dX10_isLetterAt_5 rfl rfl rfl ?_
  refine am_iload_n hz1 dX10_isLetterAt_6 0 rfl rfl ?_
  refine am_bipush (v := 97) hz1 dX10_isLetterAt_7 (by decide) ?_
  refine am_icmp_lt (tgt := 22) hz1 dX10_isLetterAt_9 (by decide) (fun c2 => ?_) (fun c2 => ?_)
  · replace h := h.1 c2
    refine am_iconst (v := 0) hz1 dX10_isLetterAt_22 (by decide) ?_
    exact am_zreturn hz (by decide) dX10_isLetterAt_23 h
  · replace h := h.2 c2
    refine am_iload_n hz1 dX10_isLetterAt_12 0 rfl rfl ?_
    refine am_bipush (v := 122) hz1 dX10_isLetterAt_13 (by decide) ?_
    refine am_icmp_gt (tgt := 22) hz1 dX10_isLetterAt_15 (by decide) (fun c3 => ?_) (fun c3 => ?_)
    · replace h := h.1 c3
      refine am_iconst (v := 0) hz1 dX10_isLetterAt_22 (by decide) ?_
      exact am_zreturn hz (by decide) dX10_isLetterAt_23 h
    · replace h := h.2 c3
      refine am_iconst (v := 1) hz1 dX10_isLetterAt_18 (by decide) ?_
      refine am_goto (tgt := 23) hz1 dX10_isLetterAt_19 (by decide) ?_
      exact am_zreturn hz (by decide) dX10_isLetterAt_23 h
set_option maxRecDepth 100000 in
set_option maxHeartbeats 4000000 in
theorem c_X10_isLetterAt {l : Launch} {D : va_G} {B : Heap} {G : amG} {I : amI} {L : amL}  (hG : Lay G)  (v1 : Int32) (ht : tpOk I) : Fx l D B yX10_isLetterAt cX10_isLetterAt 3 (some .boolean) 1 [.ref (B.size + 1), .int v1] G I L (some (.int (bI (q_let I v1)))) I L := by
  refine Mx.of (by decide) rfl rfl (fun z e1 e2 e3 hz => ?_)
  subst e1; subst e2; subst e3
  refine b_X10_isLetterAt_0 hz hG ?_
  refine ⟨ht, fun h => ⟨?_, rfl, rfl, rfl⟩, fun h => ⟨fun h2 => ⟨?_, rfl, rfl, rfl⟩, fun h2 => ⟨?_, rfl, rfl, rfl⟩⟩⟩
  · rw [q_let, decide_eq_false (not_not_intro h)]; rfl
  · rw [q_let, decide_eq_false (not_not_intro h2), Bool.and_false]; rfl
  · rw [q_let, decide_eq_true h, decide_eq_true h2]; rfl
